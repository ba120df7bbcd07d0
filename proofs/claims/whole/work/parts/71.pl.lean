/-! counting -/
theorem dec_iff (Q : Prop) : @decide Q (Classical.propDecidable Q) = true ↔ Q := @decide_eq_true_iff Q (Classical.propDecidable Q)
def EC (P : Nat → Bool) (k : Nat) : Nat := (List.range k).countP P
theorem EC_zero (P : Nat → Bool) : EC P 0 = 0 := rfl
theorem EC_yes {P : Nat → Bool} {k : Nat} (h : P k = true) : EC P (k + 1) = EC P k + 1 := by
  unfold EC
  rw [List.range_succ, List.countP_append]
  simp [h]
theorem EC_no {P : Nat → Bool} {k : Nat} (h : P k = false) : EC P (k + 1) = EC P k := by
  unfold EC
  rw [List.range_succ, List.countP_append]
  simp [h]
theorem EC_le (P : Nat → Bool) (k : Nat) : EC P k ≤ k := by
  have := List.countP_le_length (p := P) (l := List.range k)
  rwa [List.length_range] at this
theorem EC_congr {P P' : Nat → Bool} {k : Nat} (h : ∀ j, j < k → P j = P' j) : EC P k = EC P' k := by
  unfold EC
  refine List.countP_congr (fun x hx => ?_)
  rw [h x (List.mem_range.mp hx)]
theorem EC_perm {P : Nat → Bool} {ne : Nat} {p : Nat → Nat} (h1 : ∀ i, i < ne → 1 ≤ p i ∧ p i ≤ ne) (h2 : ∀ i j, i < j → j < ne → p i ≠ p j) (h3 : ∀ e, 1 ≤ e → e ≤ ne → ∃ i, i < ne ∧ p i = e) : EC (fun j => P (p j)) ne = EC (fun j => P (j + 1)) ne := by
  unfold EC
  have e1 : (List.range ne).countP (fun j => P (p j)) = ((List.range ne).map p).countP P := by rw [List.countP_map]; rfl
  have e2 : (List.range ne).countP (fun j => P (j + 1)) = ((List.range ne).map (fun j => j + 1)).countP P := by rw [List.countP_map]; rfl
  rw [e1, e2]
  refine List.Perm.countP_eq _ ((List.perm_ext_iff_of_nodup ?_ ?_).mpr ?_)
  · show List.Pairwise _ _
    rw [List.pairwise_map]
    refine List.Pairwise.imp_of_mem ?_ List.pairwise_lt_range
    intro a b ha hb hab
    exact h2 a b hab (List.mem_range.mp hb)
  · show List.Pairwise _ _
    rw [List.pairwise_map]
    refine List.Pairwise.imp_of_mem ?_ List.pairwise_lt_range
    intro a b ha hb hab
    omega
  · intro a
    rw [List.mem_map, List.mem_map]
    constructor
    · rintro ⟨i, hi, rfl⟩
      have := h1 i (List.mem_range.mp hi)
      exact ⟨p i - 1, List.mem_range.mpr (by omega), by omega⟩
    · rintro ⟨i, hi, rfl⟩
      obtain ⟨j, j1, j2⟩ := h3 (i + 1) (by omega) (by have := List.mem_range.mp hi; omega)
      exact ⟨j, List.mem_range.mpr j1, j2⟩
theorem EC_cut {P : Nat → Bool} {ne k : Nat} (h : k ≤ ne) : EC (fun j => P j && decide (j < k)) ne = EC P k := by
  induction ne with
  | zero => rw [show k = 0 by omega]; rfl
  | succ m ih =>
    by_cases q : k = m + 1
    · subst q
      exact EC_congr (fun j hj => by simp [hj])
    · rw [EC_no (by simp; omega)]
      exact ih (by omega)
theorem EC_mono {P : Nat → Bool} {k m : Nat} (h : k ≤ m) : EC P k ≤ EC P m := by
  induction m with
  | zero => rw [show k = 0 by omega]; exact Nat.le_refl _
  | succ m ih =>
    by_cases q : k = m + 1
    · rw [q]; exact Nat.le_refl _
    · have := ih (by omega)
      cases hP : P m
      · rw [EC_no hP]; exact this
      · rw [EC_yes hP]; omega

section OR
variable {src itm plc : Nat → Int32} {clk moff tm : Nat → Int64} {n ne : Nat}
def ETm (n ne : Nat) (src : Nat → Int32) (clk moff tm : Nat → Int64) : Prop := n ≤ 16 ∧ ne ≤ 300 ∧ ∀ e, 1 ≤ e → e ≤ ne → (0 ≤ (src e).toInt ∧ (src e).toInt < n) ∧ tm e = clk e + moff (src e).toNatClampNeg
theorem timeOf_of {Qr : Int64 → Unit → Prop} {e : Nat} (hT : ETm n ne src clk moff tm) (h1 : 1 ≤ e) (h2 : e ≤ ne) (hq : Qr (tm e) ()) : M_timeOf_wp src clk moff (Int32.ofNat e) Qr := by
  obtain ⟨t1, t2, t3⟩ := hT
  obtain ⟨s1, s2⟩ := t3 e h1 h2
  unfold M_timeOf_wp
  rw [i3_nat (by omega)]
  refine ⟨i3_in (by omega) (by omega), i3_in (by omega) (by omega), in_iff.mpr (by omega), ?_⟩
  rw [← s2]; exact hq
theorem before_of {Qr : Int32 → Unit → Prop} {a b : Nat} (hT : ETm n ne src clk moff tm) (a1 : 1 ≤ a) (a2 : a ≤ ne) (b1 : 1 ≤ b) (b2 : b ≤ ne) (h1 : ELt plc tm a b → Qr 1 ()) (h0 : ¬ ELt plc tm a b → Qr 0 ()) : M_isBefore_wp src plc clk moff (Int32.ofNat a) (Int32.ofNat b) Qr := by
  have hne := hT.2.1
  have va : vp_in (Int32.ofNat a) 301 := i3_in (by omega) (by omega)
  have vb : vp_in (Int32.ofNat b) 301 := i3_in (by omega) (by omega)
  unfold M_isBefore_wp
  refine timeOf_of hT a1 a2 (timeOf_of hT b1 b2 ⟨fun q => ?_, fun q => timeOf_of hT a1 a2 (timeOf_of hT b1 b2 ⟨fun r => h0 ?_, fun r => h1 ?_⟩)⟩)
  · rw [i3_nat (by omega), i3_nat (by omega), i3_le (by omega) (by omega)]
    refine ⟨va, vb, fun r => ⟨fun z => h0 ?_, fun z => h1 ?_⟩, fun r => ⟨va, vb, fun z => h0 ?_, fun z => h1 ?_⟩⟩
    · unfold ELt; rw [eq64] at q; rw [eq32] at r; rw [lt64, eq64, lt32, eq32]; omega
    · unfold ELt; rw [eq64] at q; rw [eq32] at r; rw [lt64, eq64, lt32, eq32]; omega
    · unfold ELt; rw [eq64] at q; rw [eq32] at r; rw [le32] at z; rw [lt64, eq64, lt32, eq32]; omega
    · unfold ELt; rw [eq64] at q; rw [eq32] at r; rw [le32] at z; rw [lt64, eq64, lt32, eq32]; omega
  · unfold ELt; rw [eq64] at q; rw [le64] at r; rw [lt64, eq64, lt32, eq32]; omega
  · unfold ELt; rw [eq64] at q; rw [le64] at r; rw [lt64, eq64, lt32, eq32]; omega
theorem ev6 {it a2 : Int32} {ord : Nat → Int32} {p : Nat → Nat} {P : Nat → Bool} {Qr : Int32 → Unit → Prop} {Qx : Prop} (hne : ne ≤ 300) (ho : ∀ i, i < ne → ord i = Int32.ofNat (p i) ∧ 1 ≤ p i ∧ p i ≤ ne) (hP : ∀ j, P j = true ↔ itm (p j) = it) (h1 : ∀ k, k < ne → P k = true → Int32.ofNat (EC P k) = a2 → Qr (Int32.ofNat (p k)) ()) (h0 : (∀ k, k < ne → P k = true → ¬ Int32.ofNat (EC P k) = a2) → Qx) : ∀ (m k : Nat), ne + 1 ≤ k + m → k ≤ ne → (∀ j, j < k → P j = true → ¬ Int32.ofNat (EC P j) = a2) → Timeline_eventOf_1_L6 it a2 itm ord (Int32.ofNat ne) Qr Qx m (Int32.ofNat (EC P k)) (Int32.ofNat k) := by
  intro m
  induction m with
  | zero => intro k g1 g2; omega
  | succ m ih =>
    intro k g1 g2 g3
    unfold Timeline_eventOf_1_L6
    rw [i3_le (by omega) (by omega), i3_nat (by omega), i3_succ, i3_succ]
    refine ⟨fun h => h0 (fun j j1 => g3 j (by omega)), fun h => ?_⟩
    have hk : k < ne := by omega
    obtain ⟨o1, o2, o3⟩ := ho k hk
    rw [o1, i3_nat (by omega)]
    have nx : (P k = true → ¬ Int32.ofNat (EC P k) = a2) → ∀ j, j < k + 1 → P j = true → ¬ Int32.ofNat (EC P j) = a2 := fun q j j1 j2 => by
      by_cases r : j = k
      · subst r; exact q j2
      · exact g3 j (by omega) j2
    refine ⟨i3_in (by omega) (by omega), i3_in (by omega) (by omega), fun c => ?_, fun c => ⟨fun d => ?_, fun d => ⟨i3_in (by omega) (by omega), h1 k hk ((hP k).mpr c) d⟩⟩⟩
    · have hf : P k = false := by cases hb : P k; rfl; exact absurd ((hP k).mp hb) c
      rw [← EC_no hf]
      exact ih (k + 1) (by omega) (by omega) (nx (fun q => absurd ((hP k).mp q) c))
    · rw [← EC_yes ((hP k).mpr c)]
      exact ih (k + 1) (by omega) (by omega) (nx (fun _ => d))
theorem or55 {it a2 : Int32} {e : Nat} {C : Nat → Bool} {Qx : Int32 → Prop} (hT : ETm n ne src clk moff tm) (e1 : 1 ≤ e) (e2 : e ≤ ne) (hi : itm e = it) (hC : ∀ j, C j = true ↔ itm (j + 1) = it ∧ ELt plc tm (j + 1) e) (hq : Qx (Int32.ofNat (EC C ne))) : ∀ (m k : Nat), ne + 1 ≤ k + m → k ≤ ne → M_ordered_L55 it a2 (Int32.ofNat e) (Int32.ofNat ne) src itm plc clk moff Qx m (Int32.ofNat (EC C k)) (Int32.ofNat (k + 1)) := by
  have hne := hT.2.1
  intro m
  induction m with
  | zero => intro k g1 g2; omega
  | succ m ih =>
    intro k g1 g2
    unfold M_ordered_L55
    rw [i3_lt (by omega) (by omega), i3_nat (by omega), i3_nat (by omega), i3_succ, i3_succ]
    refine ⟨fun h => ?_, fun h => ?_⟩
    · rw [show k = ne by omega]; exact hq
    have no : ¬ (itm (k + 1) = it ∧ ELt plc tm (k + 1) e) → M_ordered_L55 it a2 (Int32.ofNat e) (Int32.ofNat ne) src itm plc clk moff Qx m (Int32.ofNat (EC C k)) (Int32.ofNat (k + 1 + 1)) := fun c => by
      have hf : C k = false := by cases hb : C k; rfl; exact absurd ((hC k).mp hb) c
      rw [← EC_no hf]; exact ih (k + 1) (by omega) (by omega)
    refine ⟨i3_in (by omega) (by omega), fun c => absurd hi c, fun _ => ⟨i3_in (by omega) (by omega), fun c => no (fun q => c q.1), fun c => before_of (plc := plc) hT (by omega) (by omega) e1 e2 (fun b => ⟨fun q => absurd q (by decide), fun _ => ?_⟩) (fun b => ⟨fun _ => no (fun q => b q.2), fun q => absurd rfl q⟩)⟩⟩
    rw [← EC_yes ((hC k).mpr ⟨c, b⟩)]
    exact ih (k + 1) (by omega) (by omega)
theorem rank_of {it : Int32} {e : Nat} {C P : Nat → Bool} {p : Nat → Nat} (hp1 : ∀ i, i < ne → 1 ≤ p i ∧ p i ≤ ne) (hp2 : ∀ i j, i < j → j < ne → ELt plc tm (p i) (p j)) (hp3 : ∀ e, 1 ≤ e → e ≤ ne → ∃ i, i < ne ∧ p i = e) (hP : ∀ j, P j = true ↔ itm (p j) = it) (hC : ∀ j, C j = true ↔ itm (j + 1) = it ∧ ELt plc tm (j + 1) e) (k : Nat) (hk : k < ne) (hpk : p k = e) : EC C ne = EC P k := by
  have ne' : ∀ i j, i < j → j < ne → p i ≠ p j := fun i j h1 h2 q => by
    have := hp2 i j h1 h2
    rw [q] at this
    exact this.irr
  have e1 := EC_perm (P := fun f => C (f - 1)) hp1 ne' hp3
  have e2 : EC (fun j => C (j + 1 - 1)) ne = EC C ne := rfl
  have e3 : EC (fun j => C (p j - 1)) ne = EC (fun j => P j && decide (j < k)) ne := EC_congr (fun j hj => by
    have hb := hp1 j hj
    have c1 := hC (p j - 1)
    rw [show p j - 1 + 1 = p j by omega, ← hP j] at c1
    have c2 : ELt plc tm (p j) e ↔ j < k := by
      rw [← hpk]
      constructor
      · intro q
        rcases Nat.lt_trichotomy j k with r | r | r
        · exact r
        · rw [r] at q; exact absurd q (fun z => z.irr)
        · exact absurd (q.trans (hp2 k j r hj)) (fun z => z.irr)
      · intro q; exact hp2 j k q hk
    rw [c2] at c1
    rw [Bool.eq_iff_iff, c1, Bool.and_eq_true, decide_eq_true_iff])
  rw [← e2, ← e1, e3, EC_cut (by omega)]
theorem or41 {it a2 mth : Int32} {p : Nat → Nat} {P : Nat → Bool} {Qr : Int32 → Int32 → Prop} {Qx : Prop} (hT : ETm n ne src clk moff tm) (hp1 : ∀ i, i < ne → 1 ≤ p i ∧ p i ≤ ne) (hp2 : ∀ i j, i < j → j < ne → ELt plc tm (p i) (p j)) (hp3 : ∀ e, 1 ≤ e → e ≤ ne → ∃ i, i < ne ∧ p i = e) (hP : ∀ j, P j = true ↔ itm (p j) = it) (h1 : ∀ k, k < ne → P k = true → Int32.ofNat (EC P k) = a2 → Qr (Int32.ofNat (p k)) mth) (h0 : (∀ k, k < ne → P k = true → ¬ Int32.ofNat (EC P k) = a2) → Qx) : ∀ (m e : Nat), ne + 2 ≤ e + m → 1 ≤ e → e ≤ ne + 1 → (∀ k, k < ne → p k < e → P k = true → ¬ Int32.ofNat (EC P k) = a2) → M_ordered_L41 it a2 mth (Int32.ofNat ne) src itm plc clk moff Qr Qx m (Int32.ofNat e) := by
  have hne := hT.2.1
  intro m
  induction m with
  | zero => intro k g1 g2; omega
  | succ m ih =>
    intro e g1 g2 g3 g4
    unfold M_ordered_L41
    rw [i3_lt (by omega) (by omega), i3_nat (by omega), i3_succ]
    refine ⟨fun h => h0 (fun k k1 => g4 k k1 (by have := hp1 k k1; omega)), fun h => ?_⟩
    have ve : vp_in (Int32.ofNat e) 301 := i3_in (by omega) (by omega)
    obtain ⟨k, k1, k2⟩ := hp3 e g2 (by omega)
    have nx : (P k = true → ¬ Int32.ofNat (EC P k) = a2) → M_ordered_L41 it a2 mth (Int32.ofNat ne) src itm plc clk moff Qr Qx m (Int32.ofNat (e + 1)) := fun q => ih (e + 1) (by omega) (by omega) (by omega) (fun j j1 j2 j3 => by
      by_cases r : j = k
      · subst r; exact q j3
      · refine g4 j j1 ?_ j3
        have : p j ≠ e := fun z => by
          rcases Nat.lt_or_gt_of_ne r with s | s
          · have := hp2 j k s k1; rw [z, k2] at this; exact this.irr
          · have := hp2 k j s j1; rw [z, k2] at this; exact this.irr
        omega)
    by_cases hi : itm e = it
    · refine ⟨ne + 1, or55 (plc := plc) (C := fun j => @decide (itm (j + 1) = it ∧ ELt plc tm (j + 1) e) (Classical.propDecidable _)) hT g2 (by omega) hi (fun j => dec_iff _) ?_ (ne + 1) 0 (by omega) (by omega)⟩
      refine ⟨ve, fun c => absurd hi c, fun _ => ?_⟩
      rw [rank_of hp1 hp2 hp3 hP (fun j => dec_iff _) k k1 k2]
      have hPk : P k = true := (hP k).mpr (by rw [k2]; exact hi)
      refine ⟨fun d => nx (fun _ => d), fun d => ?_⟩
      rw [← k2]
      exact h1 k k1 hPk d
    · refine ⟨1, ?_⟩
      unfold M_ordered_L55
      rw [i3_nat (by omega)]
      have go : vp_in (Int32.ofNat e) 301 ∧ ((¬ itm e = it → M_ordered_L41 it a2 mth (Int32.ofNat ne) src itm plc clk moff Qr Qx m (Int32.ofNat (e + 1))) ∧ (itm e = it → ((¬ (0 : Int32) = a2 → M_ordered_L41 it a2 mth (Int32.ofNat ne) src itm plc clk moff Qr Qx m (Int32.ofNat (e + 1))) ∧ ((0 : Int32) = a2 → Qr (Int32.ofNat e) mth)))) := ⟨ve, fun _ => nx (fun q => absurd ((hP k).mp q) (by rw [k2]; exact hi)), fun c => absurd c hi⟩
      exact ⟨fun _ => go, fun _ => ⟨ve, fun _ => go, fun c => absurd c hi⟩⟩
theorem rank_inj {P : Nat → Bool} {j k : Nat} (hne : ne ≤ 300) (hj : j < ne) (hk : k < ne) (pj : P j = true) (pk : P k = true) (h : Int32.ofNat (EC P j) = Int32.ofNat (EC P k)) : j = k := by
  have l1 := EC_le P j
  have l2 := EC_le P k
  rw [i3_inj (by omega) (by omega)] at h
  rcases Nat.lt_trichotomy j k with q | q | q
  · have := EC_mono (P := P) (show j + 1 ≤ k by omega); rw [EC_yes pj] at this; omega
  · exact q
  · have := EC_mono (P := P) (show k + 1 ≤ j by omega); rw [EC_yes pk] at this; omega
end OR
set_option maxHeartbeats 1000000 in
theorem LC_8_pure (L : Nat) (xs : Nat → Int32) : ∀ (i : Int32) (sc : Int32) (sd : Int32) (src : (Nat → Int32)) (itm : (Nat → Int32)) (knd : (Nat → Int32)) (plc : (Nat → Int32)) (clk : (Nat → Int64)) (ec : Int32) (nf : (Nat → Int32)) (ns : (Nat → Int32)) (nc : Int32) (wt : (Nat → Nat → Int64)) (bd : (Nat → Nat → Int64)) (off : (Nat → Int64)) (row : (Nat → Int32)) (hw : (Nat → Nat → Int64)) (rl : Int32) (tm : (Nat → Int64)) (ord : (Nat → Int32)) (tc : Int32) (mth : Int32) (msc : Int32) (mec : Int32) (msrc : (Nat → Int32)) (mitm : (Nat → Int32)) (mknd : (Nat → Int32)) (mplc : (Nat → Int32)) (mclk : (Nat → Int64)) (mnc : Int32) (mnf : (Nat → Int32)) (mns : (Nat → Int32)) (msd : Int32) (mrl : Int32) (mrow : (Nat → Int32)) (mw : (Nat → Int64)) (mb : (Nat → Int64)) (mway : (Nat → Int64)) (moff : (Nat → Int64)) (out : Nat → Int64), LRange L i → EInv sc sd src itm knd plc clk ec nf ns nc wt bd off row hw rl tm ord tc mth msc mec msrc mitm mknd mplc mclk mnc mnf mns msd mrl mrow mw mb mway moff out → LC_8 L xs i EInv sc sd src itm knd plc clk ec nf ns nc wt bd off row hw rl tm ord tc mth msc mec msrc mitm mknd mplc mclk mnc mnf mns msd mrl mrow mw mb mway moff out := by
  intro i sc sd src itm knd plc clk ec nf ns nc wt bd off row hw rl tm ord tc mth msc mec msrc mitm mknd mplc mclk mnc mnf mns msd mrl mrow mw mb mway moff out hrg hinv
  obtain ⟨⟨rfl, rfl, rfl, rfl, rfl, rfl, rfl, rfl, rfl, rfl, rfl, rfl⟩, hsd, hring, n, ne, nn, ⟨hn, hne, hnn, rfl, rfl, rfl, hev, hnd⟩, hset⟩ := hinv
  unfold LC_8
  unfold L_ordered_wp X_ordered_wp M_thrown_wp M_ordered_wp
  refine ⟨hrg.2.1, hrg.2.2.1, ?_⟩
  generalize (xs (i + 1).toNatClampNeg) = a1
  generalize (xs (i + 2).toNatClampNeg) = a2
  have c0 : (0 : Int64).toInt = 0 := rfl
  have c1 : (199 : Int64).toInt = 199 := rfl
  refine X_checkItem_of (fun s1 s2 => ?_) (fun hb => ⟨fun _ => ⟨hrg.2.1, hrg.2.2.1, M_within_of (fun q1 q2 => absurd (by rw [w64, c0] at q1; rw [w64, c1] at q2; omega) hb) (fun _ => ⟨fun g => absurd rfl g, fun _ => ?_⟩)⟩, fun k => absurd rfl k⟩)
  · have hin : (0 : Int64).toInt ≤ a1.toInt64.toInt ∧ a1.toInt64.toInt ≤ (199 : Int64).toInt := by rw [w64, c0, c1]; omega
    unfold X_checkSettled_wp
    refine ⟨fun g => ?_, fun g => ⟨fun k => absurd k (by decide), fun _ => ⟨fun _ => ⟨hrg.2.1, hrg.2.2.1, M_within_of (fun _ _ => ⟨fun _ => ?_, fun g => absurd g (by decide)⟩) (fun q => absurd hin q)⟩, fun k => absurd rfl k⟩⟩⟩
    · obtain ⟨htc, -, hoff, htm, p, hp1, hp2, hp3⟩ := hset g
      subst htc
      have hT : ETm n ne src clk moff tm := ⟨hn, hne, fun e e1 e2 => ⟨(hev e e1 e2).1, by
        have hs := (hev e e1 e2).1
        rw [htm e e1 e2, hoff _ (by rw [nat32]; omega)]⟩⟩
      have hpb : ∀ i, i < ne → 1 ≤ p i ∧ p i ≤ ne := fun i hi => (hp1 i hi).2
      refine ⟨ne + 1, ev6 (P := fun j => decide (itm (p j) = a1)) hne hp1 (fun j => decide_eq_true_iff) (fun k k1 k2 k3 => ⟨hrg.2.1, hrg.2.2.1, M_within_of (fun _ _ => ⟨fun _ => ?_, fun g => absurd g (by decide)⟩) (fun q => absurd hin q)⟩) (fun hno => ⟨hrg.2.1, hrg.2.2.1, M_within_of (fun _ _ => ⟨fun _ => ?_, fun g => absurd g (by decide)⟩) (fun q => absurd hin q)⟩) (ne + 1) 0 (by omega) (by omega) (fun j hj => by omega)⟩
      · unfold M_ordered_B18 M_ordered_B30
        refine ⟨fun _ => M_refused_0 ⟨fun _ => ⟨ne + 2, or41 hT hpb hp2 hp3 (P := fun j => decide (itm (p j) = a1)) (fun j => decide_eq_true_iff) (fun j j1 j2 j3 => ?_) (fun q => absurd k3 (q k k1 k2)) (ne + 2) 1 (by omega) (by omega) (by omega) (fun j j1 j2 => by have := hpb j j1; omega)⟩, fun g => absurd rfl g⟩, fun q => absurd q g⟩
        have : j = k := rank_inj hne j1 k1 j2 k2 (j3.trans k3.symm)
        subst this
        exact LFin rfl (fun _ => updL0 out _) ⟨⟨rfl, rfl, rfl, rfl, rfl, rfl, rfl, rfl, rfl, rfl, rfl, rfl⟩, hsd, hring, n, ne, nn, ⟨hn, hne, hnn, rfl, rfl, rfl, hev, hnd⟩, hset⟩
      · unfold M_ordered_B18 M_ordered_B30
        exact ⟨fun _ => M_refused_0 ⟨fun _ => ⟨ne + 2, or41 hT hpb hp2 hp3 (P := fun j => decide (itm (p j) = a1)) (fun j => decide_eq_true_iff) (fun j j1 j2 j3 => absurd j3 (hno j j1 j2)) (fun _ => LFin rfl (fun _ => updL0 out _) ⟨⟨rfl, rfl, rfl, rfl, rfl, rfl, rfl, rfl, rfl, rfl, rfl, rfl⟩, hsd, hring, n, ne, nn, ⟨hn, hne, hnn, rfl, rfl, rfl, hev, hnd⟩, hset⟩) (ne + 2) 1 (by omega) (by omega) (by omega) (fun j j1 j2 => by have := hpb j j1; omega)⟩, fun g => absurd rfl g⟩, fun q => absurd q g⟩
    · unfold M_ordered_B18 M_ordered_B30
      exact ⟨fun q => absurd g q, fun _ => M_refused_2 ⟨fun g => absurd g (by decide), fun _ => (LFin rfl (fun h9 => absurd h9 (by decide)) ⟨⟨rfl, rfl, rfl, rfl, rfl, rfl, rfl, rfl, rfl, rfl, rfl, rfl⟩, hsd, hring, n, ne, nn, ⟨hn, hne, hnn, rfl, rfl, rfl, hev, hnd⟩, hset⟩)⟩⟩
  · unfold M_ordered_B18 M_ordered_B30
    exact ⟨fun _ => M_refused_1 ⟨fun g => absurd g (by decide), fun _ => (LFin rfl (fun h9 => absurd h9 (by decide)) ⟨⟨rfl, rfl, rfl, rfl, rfl, rfl, rfl, rfl, rfl, rfl, rfl, rfl⟩, hsd, hring, n, ne, nn, ⟨hn, hne, hnn, rfl, rfl, rfl, hev, hnd⟩, hset⟩)⟩, fun _ => M_refused_1 ⟨fun g => absurd g (by decide), fun _ => (LFin rfl (fun h9 => absurd h9 (by decide)) ⟨⟨rfl, rfl, rfl, rfl, rfl, rfl, rfl, rfl, rfl, rfl, rfl, rfl⟩, hsd, hring, n, ne, nn, ⟨hn, hne, hnn, rfl, rfl, rfl, hev, hnd⟩, hset⟩)⟩⟩
