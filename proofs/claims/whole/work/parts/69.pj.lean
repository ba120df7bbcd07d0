/-! the order of the events -/
theorem ELt.trans {plc : Nat → Int32} {tm : Nat → Int64} {a b c : Nat} (h1 : ELt plc tm a b) (h2 : ELt plc tm b c) : ELt plc tm a c := by
  unfold ELt at *
  rw [lt64, eq64, lt32, eq32] at *
  omega
theorem ELt.irr {plc : Nat → Int32} {tm : Nat → Int64} {a : Nat} (h : ELt plc tm a a) : False := by
  unfold ELt at h
  rw [lt64, eq64, lt32, eq32] at h
  omega
theorem ELt.tot {plc : Nat → Int32} {tm : Nat → Int64} {a b : Nat} (h : a ≠ b) : ELt plc tm a b ∨ ELt plc tm b a := by
  unfold ELt
  rw [lt64, eq64, lt32, eq32, lt64, eq64, lt32, eq32]
  omega
theorem ELt.congr {plc : Nat → Int32} {tm tm' : Nat → Int64} {a b : Nat} (ha : tm' a = tm a) (hb : tm' b = tm b) (h : ELt plc tm a b) : ELt plc tm' a b := by
  unfold ELt at *
  rw [ha, hb]; exact h
def POk (plc : Nat → Int32) (T : Nat → Int64) (k : Nat) (p : Nat → Nat) : Prop := (∀ i, i < k → 1 ≤ p i ∧ p i ≤ k) ∧ (∀ i j, i < j → j < k → ELt plc T (p i) (p j)) ∧ ∀ e, 1 ≤ e → e ≤ k → ∃ i, i < k ∧ p i = e
section LAY
variable {plc src : Nat → Int32} {clk off T : Nat → Int64}
theorem later_of {tm : Nat → Int64} {f e : Nat} {Qr : Int32 → Unit → Prop} (hf : f < 301) (he : e < 301) (hfe : f < e) (tf : tm f = T f) (te : tm e = T e) (h1 : ELt plc T e f → Qr 1 ()) (h0 : ELt plc T f e → Qr 0 ()) : Timeline_isLater_5_wp plc tm (Int32.ofNat f) (Int32.ofNat e) Qr := by
  unfold Timeline_isLater_5_wp
  rw [i3_nat (by omega), i3_nat (by omega), tf, te]
  have vf : vp_in (Int32.ofNat f) 301 := i3_in hf (by omega)
  have ve : vp_in (Int32.ofNat e) 301 := i3_in he (by omega)
  refine ⟨vf, ve, fun q => ⟨vf, ve, fun r => h0 ?_, fun r => h1 ?_⟩, fun q => ⟨vf, ve, fun r => h0 ?_, fun r => h1 ?_⟩⟩
  · unfold ELt; rw [eq64] at q; rw [le32] at r; rw [lt64, eq64, lt32, eq32]; omega
  · unfold ELt; rw [eq64] at q; rw [le32] at r; rw [lt64, eq64, lt32, eq32]; omega
  · unfold ELt; rw [eq64] at q; rw [le64] at r; rw [lt64, eq64, lt32, eq32]; omega
  · unfold ELt; rw [eq64] at q; rw [le64] at r; rw [lt64, eq64, lt32, eq32]; omega
/-- the hole at 'at', all behind it later than e -/
def Hole (plc : Nat → Int32) (T : Nat → Int64) (p : Nat → Nat) (e k : Nat) (ord : Nat → Int32) : Prop := k ≤ e - 1 ∧ (∀ i, i < k → ord i = Int32.ofNat (p i)) ∧ ∀ i, k ≤ i → i < e - 1 → ord (i + 1) = Int32.ofNat (p i) ∧ ELt plc T e (p i)
theorem la44 {tm : Nat → Int64} {p : Nat → Nat} {e : Nat} {Qx : Int32 → (Nat → Int32) → Prop} (he1 : 1 ≤ e) (he : e ≤ 300) (ht : ∀ f, 1 ≤ f → f ≤ e → tm f = T f) (hp : POk plc T (e - 1) p) (hq : ∀ k ord, Hole plc T p e k ord → (k = 0 ∨ ELt plc T (p (k - 1)) e) → Qx (Int32.ofNat k) ord) : ∀ (m k : Nat) (ord : Nat → Int32), k + 1 ≤ m → Hole plc T p e k ord → Timeline_lay_1_13_L44 (Int32.ofNat e) plc tm Qx m (Int32.ofNat k) ord := by
  intro m
  induction m with
  | zero => intro k ord g1; omega
  | succ m ih =>
    intro k ord g1 g2
    unfold Timeline_lay_1_13_L44
    obtain ⟨h1, h2, h3⟩ := id g2
    rw [show Int32.ofNat k ≤ 0 ↔ k ≤ 0 from i3_le (b := 0) (by omega) (by omega), i3_nat (by omega)]
    refine ⟨fun h => hq k ord g2 (Or.inl (by omega)), fun h => ?_⟩
    have e1 : (Int32.ofNat k - 1).toInt = ((k - 1 : Nat) : Int) := pred32 (by omega) (by omega)
    have e2 : (Int32.ofNat k - 1).toNatClampNeg = k - 1 := by rw [nat32, e1]; omega
    have e3 : Int32.ofNat k + -1 = Int32.ofNat (k - 1) := by
      have c : (-1 : Int32).toInt = -1 := rfl
      rw [eq32, i3_toInt (by omega), add32] <;> rw [i3_toInt (by omega), c] <;> omega
    rw [e2, e3, h2 (k - 1) (by omega)]
    have hb := hp.1 (k - 1) (by omega)
    have v1 : vp_in (Int32.ofNat k - 1) 300 := in_iff.mpr (by omega)
    refine ⟨v1, later_of (by omega) (by omega) (by omega) (ht _ hb.1 (by omega)) (ht e he1 (Nat.le_refl _)) (fun hl => ⟨fun q => absurd q (by decide), fun _ => ⟨v1, i3_in (by omega) (by omega), ih (k - 1) _ (by omega) ⟨by omega, fun i hi => ?_, fun i i1 i2 => ?_⟩⟩⟩) (fun hl => ⟨fun _ => hq k ord g2 (Or.inr hl), fun q => absurd rfl q⟩)⟩
    · rw [upd_other _ _ (by omega)]; exact h2 i (by omega)
    · by_cases q : i = k - 1
      · subst q
        rw [show k - 1 + 1 = k by omega, upd_same]
        exact ⟨rfl, hl⟩
      · rw [upd_other _ _ (by omega)]; exact h3 i (by omega) i2
theorem POk.push {p : Nat → Nat} {e k : Nat} {ord : Nat → Int32} (he1 : 1 ≤ e) (hp : POk plc T (e - 1) p) (hH : Hole plc T p e k ord) (hk : k = 0 ∨ ELt plc T (p (k - 1)) e) : POk plc T e (fun i => if i < k then p i else if i = k then e else p (i - 1)) ∧ ∀ i, i < e → upd ord k (Int32.ofNat e) i = Int32.ofNat (if i < k then p i else if i = k then e else p (i - 1)) := by
  obtain ⟨h1, h2, h3⟩ := hH
  obtain ⟨p1, p2, p3⟩ := hp
  have v : ∀ i, (i < k → (if i < k then p i else if i = k then e else p (i - 1)) = p i) ∧ (i = k → (if i < k then p i else if i = k then e else p (i - 1)) = e) ∧ (k < i → (if i < k then p i else if i = k then e else p (i - 1)) = p (i - 1)) := fun i => ⟨fun h => by rw [if_pos h], fun h => by rw [if_neg (by omega), if_pos h], fun h => by rw [if_neg (by omega), if_neg (by omega)]⟩
  have lowk : ∀ i, i < k → ELt plc T (p i) e := fun i hi => by
    rcases hk with q | q
    · omega
    · by_cases r : i = k - 1
      · rw [r]; exact q
      · exact (p2 i (k - 1) (by omega) (by omega)).trans q
  refine ⟨⟨fun i hi => ?_, fun i j hij hj => ?_, fun f f1 f2 => ?_⟩, fun i hi => ?_⟩
  · show 1 ≤ (if i < k then p i else if i = k then e else p (i - 1)) ∧ (if i < k then p i else if i = k then e else p (i - 1)) ≤ e
    rcases Nat.lt_trichotomy i k with q | q | q
    · rw [(v i).1 q]; have := p1 i (by omega); omega
    · rw [(v i).2.1 q]; omega
    · rw [(v i).2.2 q]; have := p1 (i - 1) (by omega); omega
  · show ELt plc T (if i < k then p i else if i = k then e else p (i - 1)) (if j < k then p j else if j = k then e else p (j - 1))
    rcases Nat.lt_trichotomy i k with q | q | q <;> rcases Nat.lt_trichotomy j k with r | r | r
    · rw [(v i).1 q, (v j).1 r]; exact p2 i j hij (by omega)
    · rw [(v i).1 q, (v j).2.1 r]; exact lowk i q
    · rw [(v i).1 q, (v j).2.2 r]; exact p2 i (j - 1) (by omega) (by omega)
    · omega
    · omega
    · rw [(v i).2.1 q, (v j).2.2 r]; exact (h3 (j - 1) (by omega) (by omega)).2
    · omega
    · omega
    · rw [(v i).2.2 q, (v j).2.2 r]; exact p2 (i - 1) (j - 1) (by omega) (by omega)
  · by_cases q : f = e
    · exact ⟨k, by omega, by rw [q]; exact (v k).2.1 rfl⟩
    · obtain ⟨i, i1, i2⟩ := p3 f f1 (by omega)
      by_cases r : i < k
      · exact ⟨i, by omega, by rw [← i2]; exact (v i).1 r⟩
      · refine ⟨i + 1, by omega, ?_⟩
        rw [← i2]
        exact (v (i + 1)).2.2 (by omega)
  · rcases Nat.lt_trichotomy i k with q | q | q
    · rw [(v i).1 q, upd_other _ _ (by omega)]; exact h2 i q
    · rw [(v i).2.1 q, q, upd_same]
    · rw [(v i).2.2 q, upd_other _ _ (by omega)]
      have := (h3 (i - 1) (by omega) (by omega)).1
      rw [show i - 1 + 1 = i by omega] at this
      exact this
theorem la10 {ne n : Nat} {Qx : (Nat → Int64) → (Nat → Int32) → Prop} (hne : ne ≤ 300) (hn : n ≤ 16) (hT : ∀ e, T e = clk e + off (src e).toNatClampNeg) (hev : ∀ e, 1 ≤ e → e ≤ ne → 0 ≤ (src e).toInt ∧ (src e).toInt < n) (hq : ∀ tm ord p, (∀ f, 1 ≤ f → f ≤ ne → tm f = T f) → (∀ i, i < ne → ord i = Int32.ofNat (p i)) → POk plc T ne p → Qx tm ord) : ∀ (m e : Nat) (tm : Nat → Int64) (ord : Nat → Int32) (p : Nat → Nat), ne + 2 ≤ e + m → 1 ≤ e → e ≤ ne + 1 → (∀ f, 1 ≤ f → f < e → tm f = T f) → (∀ i, i < e - 1 → ord i = Int32.ofNat (p i)) → POk plc T (e - 1) p → Timeline_lay_1_13_L10 src plc clk off (Int32.ofNat ne) Qx m (Int32.ofNat e) tm ord := by
  intro m
  induction m with
  | zero => intro e tm ord p g1 g2 g3; omega
  | succ m ih =>
    intro e tm ord p g1 g2 g3 g4 g5 g6
    unfold Timeline_lay_1_13_L10
    rw [i3_lt (by omega) (by omega), i3_nat (by omega), i3_succ]
    refine ⟨fun h => ?_, fun h => ?_⟩
    · have q : e - 1 = ne := by omega
      rw [q] at g5 g6
      exact hq tm ord p (fun f f1 f2 => g4 f f1 (by omega)) g5 g6
    have ve : vp_in (Int32.ofNat e) 301 := i3_in (by omega) (by omega)
    have hs := hev e g2 (by omega)
    refine ⟨ve, ve, in_iff.mpr (by omega), ve, e + 1, ?_⟩
    rw [← hT e]
    have e1 : Int32.ofNat e - 1 = Int32.ofNat (e - 1) := by rw [eq32, pred32 g2 (by omega), i3_toInt (by omega)]
    rw [e1]
    have ht : ∀ f, 1 ≤ f → f ≤ e → vp_updL tm e (T e) f = T f := fun f f1 f2 => by
      by_cases q : f = e
      · subst q; exact updL_same _ _ _
      · rw [updL_other _ _ q]; exact g4 f f1 (by omega)
    refine la44 g2 (by omega) ht g6 (fun k ord' k1 k2 => ?_) (e + 1) (e - 1) ord (by omega) ⟨Nat.le_refl _, g5, fun i i1 i2 => by omega⟩
    obtain ⟨q1, q2⟩ := POk.push g2 g6 k1 k2
    have hk := k1.1
    rw [i3_nat (by omega)]
    refine ⟨i3_in (by omega) (by omega), ih (e + 1) _ _ _ (by omega) (by omega) (by omega) (fun f f1 f2 => ht f f1 (by omega)) (fun i hi => q2 i (by omega)) ?_⟩
    rw [show e + 1 - 1 = e by omega]
    exact q1
theorem lay_of {ne n : Nat} {tm : Nat → Int64} {ord : Nat → Int32} {tc : Int32} {Qr : ((Nat → Int64) × (Nat → Int32) × Int32) → Prop} (hne : ne ≤ 300) (hn : n ≤ 16) (hev : ∀ e, 1 ≤ e → e ≤ ne → 0 ≤ (src e).toInt ∧ (src e).toInt < n) (hq : ∀ tm ord, (∀ f, 1 ≤ f → f ≤ ne → tm f = clk f + off (src f).toNatClampNeg) → EOrd ne plc tm ord → Qr (tm, ord, Int32.ofNat ne)) : Timeline_lay_1_13_wp src plc clk (Int32.ofNat ne) off tm ord tc Qr := by
  refine ⟨ne + 2, la10 (T := fun e => clk e + off (src e).toNatClampNeg) hne hn (fun _ => rfl) hev (fun tm' ord' p h1 h2 h3 => hq tm' ord' h1 ⟨p, fun i hi => ⟨h2 i hi, h3.1 i hi⟩, fun i j hij hj => (h3.2.1 i j hij hj).congr (h1 _ (h3.1 i (by omega)).1 (h3.1 i (by omega)).2) (h1 _ (h3.1 j hj).1 (h3.1 j hj).2), h3.2.2⟩) (ne + 2) 1 tm ord (fun _ => 0) (by omega) (by omega) (by omega) (fun f f1 f2 => by omega) (fun i hi => by omega) ⟨fun i hi => by omega, fun i j _ hj => by omega, fun e e1 e2 => by omega⟩⟩
end LAY
