theorem updL0 (out : Nat → Int64) (v : Int64) : vp_updL out (0 : Int32).toNatClampNeg v (0 : Int32).toNatClampNeg = v := updL_same _ _ _
theorem i3_succ (v : Nat) : Int32.ofNat v + 1 = Int32.ofNat (v + 1) := i3_add v 1
def EMatch (src itm knd plc : Nat → Int32) (clk : Nat → Int64) (a1 a2 a3 a4 : Int32) (a5 : Int64) (e : Nat) : Prop := src e = a1 ∧ itm e = a2 ∧ knd e = a3 ∧ plc e = a4 ∧ clk e = a5
section PB
variable {src itm knd plc : Nat → Int32} {clk : Nat → Int64} {a1 a2 a3 a4 : Int32} {a5 : Int64} {ne : Nat}
theorem has_loop {Qr : Int32 → Unit → Prop} (hne : ne ≤ 300) (h1 : (∃ e, 1 ≤ e ∧ e ≤ ne ∧ EMatch src itm knd plc clk a1 a2 a3 a4 a5 e) → Qr 1 ()) (h0 : ¬ (∃ e, 1 ≤ e ∧ e ≤ ne ∧ EMatch src itm knd plc clk a1 a2 a3 a4 a5 e) → Qr 0 ()) : ∀ (n v : Nat), ne + 2 ≤ v + n → v ≤ ne + 1 → 1 ≤ v → (∀ e, 1 ≤ e → e < v → ¬ EMatch src itm knd plc clk a1 a2 a3 a4 a5 e) → Events_has_L3 a1 a2 a3 a4 a5 src itm knd plc clk (Int32.ofNat ne) Qr (Qr 0 ()) n (Int32.ofNat v) := by
  intro n
  induction n with
  | zero => intro v g1 g2; omega
  | succ n ih =>
    intro v g1 g2 g3 g4
    unfold Events_has_L3
    rw [i3_lt (by omega) (by omega), i3_nat (by omega), i3_succ]
    refine ⟨fun h => h0 (fun ⟨e, e1, e2, e3⟩ => g4 e e1 (by omega) e3), fun h => ?_⟩
    have hv : vp_in (Int32.ofNat v) 301 := i3_in (by omega) (by omega)
    have nx : ¬ EMatch src itm knd plc clk a1 a2 a3 a4 a5 v → Events_has_L3 a1 a2 a3 a4 a5 src itm knd plc clk (Int32.ofNat ne) Qr (Qr 0 ()) n (Int32.ofNat (v + 1)) := fun hm => ih (v + 1) (by omega) (by omega) (by omega) (fun e e1 e2 => by
      by_cases q : e = v
      · rw [q]; exact hm
      · exact g4 e e1 (by omega))
    exact ⟨hv, fun c => nx (fun m => c m.2.2.2.2), fun c5 => ⟨hv, fun c => nx (fun m => c m.1), fun c1 => ⟨hv, fun c => nx (fun m => c m.2.1), fun c2 => ⟨hv, fun c => nx (fun m => c m.2.2.1), fun c3 => ⟨hv, fun c => nx (fun m => c m.2.2.2.1), fun c4 => h1 ⟨v, g3, by omega, c1, c2, c3, c4, c5⟩⟩⟩⟩⟩⟩
theorem has_of {Qr : Int32 → Unit → Prop} (hne : ne ≤ 300) (h1 : (∃ e, 1 ≤ e ∧ e ≤ ne ∧ EMatch src itm knd plc clk a1 a2 a3 a4 a5 e) → Qr 1 ()) (h0 : ¬ (∃ e, 1 ≤ e ∧ e ≤ ne ∧ EMatch src itm knd plc clk a1 a2 a3 a4 a5 e) → Qr 0 ()) : Events_has_wp src itm knd plc clk (Int32.ofNat ne) a1 a2 a3 a4 a5 Qr :=
  ⟨ne + 2, has_loop hne h1 h0 (ne + 2) 1 (by omega) (by omega) (by omega) (fun e e1 e2 => by omega)⟩
theorem find_loop {Qr : Int32 → Unit → Prop} (hne : ne ≤ 300) (h1 : ∀ e, 1 ≤ e → e ≤ ne → EMatch src itm knd plc clk a1 a2 a3 a4 a5 e → Qr (Int32.ofNat e) ()) (h0 : ¬ (∃ e, 1 ≤ e ∧ e ≤ ne ∧ EMatch src itm knd plc clk a1 a2 a3 a4 a5 e) → Qr 0 ()) : ∀ (n v : Nat), ne + 2 ≤ v + n → v ≤ ne + 1 → 1 ≤ v → (∀ e, 1 ≤ e → e < v → ¬ EMatch src itm knd plc clk a1 a2 a3 a4 a5 e) → M_find_L3 a1 a2 a3 a4 a5 (Int32.ofNat ne) src itm knd plc clk Qr (Qr 0 ()) n (Int32.ofNat v) := by
  intro n
  induction n with
  | zero => intro v g1 g2; omega
  | succ n ih =>
    intro v g1 g2 g3 g4
    unfold M_find_L3
    rw [i3_lt (by omega) (by omega), i3_nat (by omega), i3_succ]
    refine ⟨fun h => h0 (fun ⟨e, e1, e2, e3⟩ => g4 e e1 (by omega) e3), fun h => ?_⟩
    have hv : vp_in (Int32.ofNat v) 301 := i3_in (by omega) (by omega)
    have nx : ¬ EMatch src itm knd plc clk a1 a2 a3 a4 a5 v → M_find_L3 a1 a2 a3 a4 a5 (Int32.ofNat ne) src itm knd plc clk Qr (Qr 0 ()) n (Int32.ofNat (v + 1)) := fun hm => ih (v + 1) (by omega) (by omega) (by omega) (fun e e1 e2 => by
      by_cases q : e = v
      · rw [q]; exact hm
      · exact g4 e e1 (by omega))
    exact ⟨hv, fun c => nx (fun m => c m.1), fun c1 => ⟨hv, fun c => nx (fun m => c m.2.1), fun c2 => ⟨hv, fun c => nx (fun m => c m.2.2.1), fun c3 => ⟨hv, fun c => nx (fun m => c m.2.2.2.1), fun c4 => ⟨hv, fun c => nx (fun m => c m.2.2.2.2), fun c5 => h1 v g3 (by omega) ⟨c1, c2, c3, c4, c5⟩⟩⟩⟩⟩⟩
theorem find_of {Qr : Int32 → Unit → Prop} (hne : ne ≤ 300) (h1 : ∀ e, 1 ≤ e → e ≤ ne → EMatch src itm knd plc clk a1 a2 a3 a4 a5 e → Qr (Int32.ofNat e) ()) (h0 : ¬ (∃ e, 1 ≤ e ∧ e ≤ ne ∧ EMatch src itm knd plc clk a1 a2 a3 a4 a5 e) → Qr 0 ()) : M_find_wp (Int32.ofNat ne) src itm knd plc clk a1 a2 a3 a4 a5 Qr :=
  ⟨ne + 2, find_loop hne h1 h0 (ne + 2) 1 (by omega) (by omega) (by omega) (fun e e1 e2 => by omega)⟩
end PB
theorem n16 {n : Nat} : Int32.ofNat n = 16 → n < 2147483648 → n = 16 := fun h g => (i3_inj g (by omega)).mp h
theorem n300 {n : Nat} : Int32.ofNat n = 300 → n < 2147483648 → n = 300 := fun h g => (i3_inj g (by omega)).mp h
section PM
variable {mth msc : Int32} {msrc mitm mknd mplc : Nat → Int32} {mclk : Nat → Int64} {msd : Int32} {v1 v2 v3 v4 : Int32} {v5 : Int64} {ne : Nat}
variable {Qr : Int32 → (Int32 × Int32 × (Nat → Int32) × (Nat → Int32) × (Nat → Int32) × (Nat → Int32) × (Nat → Int64) × Int32) → Prop}
theorem ev_B137_none {bad is : Int32} (h : Qr 0 (1, Int32.ofNat ne, msrc, mitm, mknd, mplc, mclk, msd)) : M_event_B137 v1 v2 v3 v4 v5 1 bad is mth (Int32.ofNat ne) msrc mitm mknd mplc mclk msd Qr := by
  unfold M_event_B137 M_event_B164
  have k : ∀ f : Int32, M_refused_wp mth 1 bad f (fun r u => ((¬ r = 0 → Qr 0 (u, Int32.ofNat ne, msrc, mitm, mknd, mplc, mclk, msd)) ∧ (r = 0 → ((is = 0 → vp_in (Int32.ofNat ne + 1) 301 ∧ vp_in (Int32.ofNat ne + 1) 301 ∧ vp_in (Int32.ofNat ne + 1) 301 ∧ vp_in (Int32.ofNat ne + 1) 301 ∧ vp_in (Int32.ofNat ne + 1) 301 ∧ Qr (Int32.ofNat ne + 1) (u, Int32.ofNat ne + 1, upd msrc (Int32.ofNat ne + 1).toNatClampNeg v1, upd mitm (Int32.ofNat ne + 1).toNatClampNeg v2, upd mknd (Int32.ofNat ne + 1).toNatClampNeg v3, upd mplc (Int32.ofNat ne + 1).toNatClampNeg v4, vp_updL mclk (Int32.ofNat ne + 1).toNatClampNeg v5, 0)) ∧ (¬ is = 0 → Qr 0 (u, Int32.ofNat ne, msrc, mitm, mknd, mplc, mclk, msd)))))) := fun f => M_refused_1 ⟨fun _ => h, fun g => absurd g (by decide)⟩
  exact ⟨fun _ => k 0, fun _ => ⟨fun _ => k 0, fun _ => k 1⟩⟩
theorem ev_B106_none {bad : Int32} (hne : ne ≤ 300) (h : Qr 0 (1, Int32.ofNat ne, msrc, mitm, mknd, mplc, mclk, msd)) : M_event_B106 v1 v2 v3 v4 v5 1 bad mth (Int32.ofNat ne) msrc mitm mknd mplc mclk msd Qr := by
  unfold M_event_B106
  exact ⟨fun _ => ev_B137_none h, fun g => absurd g (by decide)⟩
theorem ev_B71_none {b : Int32} (hne : ne ≤ 300) (h : Qr 0 (1, Int32.ofNat ne, msrc, mitm, mknd, mplc, mclk, msd)) : M_event_B71 v1 v2 v3 v4 v5 1 b mth (Int32.ofNat ne) msrc mitm mknd mplc mclk msd Qr := by
  unfold M_event_B71
  have k : ∀ c, M_event_B106 v1 v2 v3 v4 v5 1 c mth (Int32.ofNat ne) msrc mitm mknd mplc mclk msd Qr := fun c => ev_B106_none hne h
  exact ⟨fun _ => k 1, fun _ => ⟨fun _ => ⟨fun _ => k 1, fun _ => ⟨fun _ => k 0, fun _ => k 1⟩⟩, fun _ => ⟨fun _ => k 0, fun _ => ⟨fun _ => k 1, fun _ => ⟨fun _ => k 0, fun _ => k 1⟩⟩⟩⟩⟩
theorem ev_B25_none (hne : ne ≤ 300) (h : Qr 0 (1, Int32.ofNat ne, msrc, mitm, mknd, mplc, mclk, msd)) : M_event_B25 v1 v2 v3 v4 v5 1 mth (Int32.ofNat ne) msrc mitm mknd mplc mclk msd Qr := by
  unfold M_event_B25
  have k : ∀ c, M_event_B71 v1 v2 v3 v4 v5 1 c mth (Int32.ofNat ne) msrc mitm mknd mplc mclk msd Qr := fun c => ev_B71_none hne h
  refine M_within_of (fun _ _ => ⟨fun _ => k 1, fun _ => ?_⟩) (fun _ => ⟨fun _ => k 1, fun g => absurd rfl g⟩)
  refine M_within_of (fun _ _ => ⟨fun _ => k 1, fun _ => ?_⟩) (fun _ => ⟨fun _ => k 1, fun g => absurd rfl g⟩)
  exact M_within_of (fun _ _ => ⟨fun _ => k 0, fun _ => k 1⟩) (fun _ => ⟨fun _ => k 0, fun _ => k 1⟩)
theorem ev_B106_bad (hne : ne ≤ 300) (h : Qr 0 (2, Int32.ofNat ne, msrc, mitm, mknd, mplc, mclk, msd)) : M_event_B106 v1 v2 v3 v4 v5 0 1 mth (Int32.ofNat ne) msrc mitm mknd mplc mclk msd Qr := by
  unfold M_event_B106 M_event_B137 M_event_B164
  refine ⟨fun g => absurd rfl g, fun _ => ⟨fun _ => ⟨fun g => absurd rfl g, fun _ => ⟨fun _ => ?_, fun _ => ?_⟩⟩, fun g => absurd g (by decide)⟩⟩ <;> exact M_refused_2 ⟨fun _ => h, fun g => absurd g (by decide)⟩
theorem ev_B106_good (hne : ne ≤ 300)
    (e3 : (∃ e, 1 ≤ e ∧ e ≤ ne ∧ EMatch msrc mitm mknd mplc mclk v1 v2 v3 v4 v5 e) → Qr 0 (0, Int32.ofNat ne, msrc, mitm, mknd, mplc, mclk, msd))
    (e4 : ¬ (∃ e, 1 ≤ e ∧ e ≤ ne ∧ EMatch msrc mitm mknd mplc mclk v1 v2 v3 v4 v5 e) → ne = 300 → Qr 0 (3, Int32.ofNat ne, msrc, mitm, mknd, mplc, mclk, msd))
    (e5 : ¬ (∃ e, 1 ≤ e ∧ e ≤ ne ∧ EMatch msrc mitm mknd mplc mclk v1 v2 v3 v4 v5 e) → ne < 300 → Qr (Int32.ofNat (ne + 1)) (0, Int32.ofNat (ne + 1), upd msrc (ne + 1) v1, upd mitm (ne + 1) v2, upd mknd (ne + 1) v3, upd mplc (ne + 1) v4, vp_updL mclk (ne + 1) v5, 0)) : M_event_B106 v1 v2 v3 v4 v5 0 0 mth (Int32.ofNat ne) msrc mitm mknd mplc mclk msd Qr := by
  unfold M_event_B106
  refine ⟨fun g => absurd rfl g, fun _ => ⟨fun g => absurd rfl g, fun _ => ?_⟩⟩
  refine find_of hne (fun e q1 q2 q3 => ⟨fun g => ?_, fun _ => ?_⟩) (fun hno => ⟨fun _ => ?_, fun g => absurd (by decide) g⟩)
  · rw [show (0 : Int32) = Int32.ofNat 0 from rfl, i3_le (by omega) (by omega)] at g
    omega
  · unfold M_event_B137 M_event_B164
    exact ⟨fun _ => M_refused_0 ⟨fun g => absurd rfl g, fun _ => ⟨fun g => absurd g (by decide), fun _ => e3 ⟨e, q1, q2, q3⟩⟩⟩, fun g => absurd g (by decide)⟩
  · unfold M_event_B137 M_event_B164
    refine ⟨fun g => absurd rfl g, fun _ => ⟨fun g => ?_, fun g => ?_⟩⟩
    · have hlt : ne < 300 := by
        have : ne ≠ 300 := fun q => g (by rw [q]; rfl)
        omega
      rw [i3_succ, i3_nat (by omega)]
      have hv : vp_in (Int32.ofNat (ne + 1)) 301 := i3_in (by omega) (by omega)
      exact M_refused_0 ⟨fun g => absurd rfl g, fun _ => ⟨fun _ => ⟨hv, hv, hv, hv, hv, e5 hno hlt⟩, fun g => absurd rfl g⟩⟩
    · exact M_refused_3 ⟨fun _ => e4 hno (n300 g (by omega)), fun g => absurd g (by decide)⟩
theorem ev_B25_of (hne : ne ≤ 300) (hi1 : 0 ≤ v2.toInt) (hi2 : v2.toInt < 200)
    (e2 : ¬ (EKind v2 v3 v4 ∧ -1000000000 ≤ v5.toInt ∧ v5.toInt ≤ 1000000000) → M_event_B106 v1 v2 v3 v4 v5 0 1 mth (Int32.ofNat ne) msrc mitm mknd mplc mclk msd Qr)
    (e0 : EKind v2 v3 v4 → -1000000000 ≤ v5.toInt → v5.toInt ≤ 1000000000 → M_event_B106 v1 v2 v3 v4 v5 0 0 mth (Int32.ofNat ne) msrc mitm mknd mplc mclk msd Qr) : M_event_B25 v1 v2 v3 v4 v5 0 mth (Int32.ofNat ne) msrc mitm mknd mplc mclk msd Qr := by
  have c7 : (7 : Int64).toInt = 7 := rfl
  have c0 : (0 : Int64).toInt = 0 := rfl
  have c199 : (199 : Int64).toInt = 199 := rfl
  have cm : (-1000000000 : Int64).toInt = -1000000000 := rfl
  have cM : (1000000000 : Int64).toInt = 1000000000 := rfl
  have c100 : (100 : Int32).toInt = 100 := rfl
  have bad : ¬ (EKind v2 v3 v4 ∧ -1000000000 ≤ v5.toInt ∧ v5.toInt ≤ 1000000000) → M_event_B71 v1 v2 v3 v4 v5 0 1 mth (Int32.ofNat ne) msrc mitm mknd mplc mclk msd Qr := fun hb => by
    unfold M_event_B71
    exact ⟨fun _ => e2 hb, fun g => absurd g (by decide)⟩
  unfold M_event_B25
  refine M_within_of (fun a1 a2 => ⟨fun g => absurd g (by decide), fun _ => ?_⟩) (fun a => ⟨fun _ => bad (fun q => a ?_), fun g => absurd rfl g⟩)
  · rw [w64] at a1 a2
    refine M_within_of (fun b1 b2 => ⟨fun g => absurd g (by decide), fun _ => ?_⟩) (fun b => ⟨fun _ => bad (fun q => b ?_), fun g => absurd rfl g⟩)
    · rw [w64] at b1 b2
      refine M_within_of (fun d1 d2 => ⟨fun _ => ?_, fun g => absurd g (by decide)⟩) (fun d => ⟨fun g => absurd rfl g, fun _ => bad (fun q => d ?_)⟩)
      · rw [cm] at d1; rw [cM] at d2; rw [c0] at a1 b1; rw [c7] at a2; rw [c199] at b2
        unfold M_event_B71
        rw [le32, le32, c100]
        have two : (v3 = 1 ∨ v3 = 2) → ((100 ≤ v2.toInt → M_event_B106 v1 v2 v3 v4 v5 0 1 mth (Int32.ofNat ne) msrc mitm mknd mplc mclk msd Qr) ∧ (¬ 100 ≤ v2.toInt → ((100 ≤ v4.toInt → M_event_B106 v1 v2 v3 v4 v5 0 0 mth (Int32.ofNat ne) msrc mitm mknd mplc mclk msd Qr) ∧ (¬ 100 ≤ v4.toInt → M_event_B106 v1 v2 v3 v4 v5 0 1 mth (Int32.ofNat ne) msrc mitm mknd mplc mclk msd Qr)))) := fun hk =>
          ⟨fun g => e2 (fun q => (q.1.2.2.2.2 hk).1 ⟨g, hi2⟩), fun g => ⟨fun g2 => e0 ⟨a1, by omega, b1, by omega, fun _ => ⟨fun q => g q.1, g2, by omega⟩⟩ d1 d2, fun g2 => e2 (fun q => g2 (q.1.2.2.2.2 hk).2.1)⟩⟩
        exact ⟨fun g => absurd rfl g, fun _ => ⟨fun g => two (Or.inl g), fun g1 => ⟨fun g2 => e0 ⟨a1, by omega, b1, by omega, fun q => absurd q (by rintro (z | z); exact g1 z; exact g2 z)⟩ d1 d2, fun g => two (Or.inr g)⟩⟩⟩
      · rw [cm, cM]; exact q.2
    · rw [w64, c0, c199]; have := q.1.2.2; omega
  · rw [w64, c0, c7]; have := q.1; unfold EKind at this; omega
theorem M_event_of (hs : 0 ≤ msc.toInt) (hne : ne ≤ 300)
    (e1 : ¬ ((0 ≤ v1.toInt ∧ v1.toInt < msc.toInt) ∧ (0 ≤ v2.toInt ∧ v2.toInt < 200)) → Qr 0 (1, Int32.ofNat ne, msrc, mitm, mknd, mplc, mclk, msd))
    (e0 : (0 ≤ v1.toInt ∧ v1.toInt < msc.toInt) → (0 ≤ v2.toInt ∧ v2.toInt < 200) → M_event_B25 v1 v2 v3 v4 v5 0 mth (Int32.ofNat ne) msrc mitm mknd mplc mclk msd Qr) : M_event_wp mth msc (Int32.ofNat ne) msrc mitm mknd mplc mclk msd v1 v2 v3 v4 v5 Qr := by
  unfold M_event_wp
  have c0 : (0 : Int64).toInt = 0 := rfl
  have c199 : (199 : Int64).toInt = 199 := rfl
  refine M_isSource_of hs (fun a1 a2 => ⟨fun g => absurd g (by decide), fun _ => ?_⟩) (fun a => ⟨fun _ => ev_B25_none hne (e1 (fun q => a q.1)), fun g => absurd rfl g⟩)
  refine M_within_of (fun b1 b2 => ⟨fun _ => e0 ⟨a1, a2⟩ ?_, fun g => absurd g (by decide)⟩) (fun b => ⟨fun g => absurd rfl g, fun _ => ev_B25_none hne (e1 (fun q => b ?_))⟩)
  · rw [w64, c0] at b1; rw [w64, c199] at b2; omega
  · rw [w64, c0, c199]; have := q.2; omega
end PM
set_option maxHeartbeats 1000000 in
theorem LC_0_pure (L : Nat) (xs : Nat → Int32) : ∀ (i : Int32) (sc : Int32) (sd : Int32) (src : (Nat → Int32)) (itm : (Nat → Int32)) (knd : (Nat → Int32)) (plc : (Nat → Int32)) (clk : (Nat → Int64)) (ec : Int32) (nf : (Nat → Int32)) (ns : (Nat → Int32)) (nc : Int32) (wt : (Nat → Nat → Int64)) (bd : (Nat → Nat → Int64)) (off : (Nat → Int64)) (row : (Nat → Int32)) (hw : (Nat → Nat → Int64)) (rl : Int32) (tm : (Nat → Int64)) (ord : (Nat → Int32)) (tc : Int32) (mth : Int32) (msc : Int32) (mec : Int32) (msrc : (Nat → Int32)) (mitm : (Nat → Int32)) (mknd : (Nat → Int32)) (mplc : (Nat → Int32)) (mclk : (Nat → Int64)) (mnc : Int32) (mnf : (Nat → Int32)) (mns : (Nat → Int32)) (msd : Int32) (mrl : Int32) (mrow : (Nat → Int32)) (mw : (Nat → Int64)) (mb : (Nat → Int64)) (mway : (Nat → Int64)) (moff : (Nat → Int64)) (out : Nat → Int64), LRange L i → EInv sc sd src itm knd plc clk ec nf ns nc wt bd off row hw rl tm ord tc mth msc mec msrc mitm mknd mplc mclk mnc mnf mns msd mrl mrow mw mb mway moff out → LC_0 L xs i EInv sc sd src itm knd plc clk ec nf ns nc wt bd off row hw rl tm ord tc mth msc mec msrc mitm mknd mplc mclk mnc mnf mns msd mrl mrow mw mb mway moff out := by
  intro i sc sd src itm knd plc clk ec nf ns nc wt bd off row hw rl tm ord tc mth msc mec msrc mitm mknd mplc mclk mnc mnf mns msd mrl mrow mw mb mway moff out hrg hinv
  obtain ⟨⟨rfl, rfl, rfl, rfl, rfl, rfl, rfl, rfl, rfl, rfl, rfl, rfl⟩, hsd, hring, n, ne, nn, ⟨hn, hne, hnn, rfl, rfl, rfl, hev, hnd⟩, hset⟩ := hinv
  unfold LC_0
  unfold L_source_wp X_source_wp M_source_wp M_source_B15 M_thrown_wp
  rw [show (16 : Int32) = Int32.ofNat 16 from rfl, i3_lt (by omega) (by omega), i3_inj (by omega) (by omega), i3_succ]
  refine ⟨fun h => ⟨fun _ => ?_, fun h2 => by omega⟩, fun h => ⟨fun _ => ?_, fun k => absurd rfl k⟩⟩
  · exact M_refused_0 ⟨fun _ => LFin rfl (fun _ => (updL0 out _).trans (show (Int32.ofNat n).toInt64 = (Int32.ofNat (n + 1) - 1).toInt64 by rw [← i3_succ, Int32.add_sub_cancel])) ⟨⟨rfl, rfl, rfl, rfl, rfl, rfl, rfl, rfl, rfl, rfl, rfl, rfl⟩, Or.inl rfl, hring, n + 1, ne, nn, ⟨by omega, hne, hnn, rfl, rfl, rfl, fun e e1 e2 => ⟨⟨(hev e e1 e2).1.1, by have := (hev e e1 e2).1.2; omega⟩, (hev e e1 e2).2⟩, hnd⟩, fun h9 => absurd rfl h9⟩, fun h9 => absurd rfl h9⟩
  · exact ⟨fun h2 => by omega, fun _ => M_refused_1 ⟨fun h9 => absurd h9 (by decide), fun _ => LFin rfl (fun h9 => absurd h9 (by decide)) ⟨⟨rfl, rfl, rfl, rfl, rfl, rfl, rfl, rfl, rfl, rfl, rfl, rfl⟩, hsd, hring, n, ne, nn, ⟨hn, hne, hnn, rfl, rfl, rfl, hev, hnd⟩, hset⟩⟩⟩
set_option maxHeartbeats 1000000 in
theorem LC_1_pure (L : Nat) (xs : Nat → Int32) : ∀ (i : Int32) (sc : Int32) (sd : Int32) (src : (Nat → Int32)) (itm : (Nat → Int32)) (knd : (Nat → Int32)) (plc : (Nat → Int32)) (clk : (Nat → Int64)) (ec : Int32) (nf : (Nat → Int32)) (ns : (Nat → Int32)) (nc : Int32) (wt : (Nat → Nat → Int64)) (bd : (Nat → Nat → Int64)) (off : (Nat → Int64)) (row : (Nat → Int32)) (hw : (Nat → Nat → Int64)) (rl : Int32) (tm : (Nat → Int64)) (ord : (Nat → Int32)) (tc : Int32) (mth : Int32) (msc : Int32) (mec : Int32) (msrc : (Nat → Int32)) (mitm : (Nat → Int32)) (mknd : (Nat → Int32)) (mplc : (Nat → Int32)) (mclk : (Nat → Int64)) (mnc : Int32) (mnf : (Nat → Int32)) (mns : (Nat → Int32)) (msd : Int32) (mrl : Int32) (mrow : (Nat → Int32)) (mw : (Nat → Int64)) (mb : (Nat → Int64)) (mway : (Nat → Int64)) (moff : (Nat → Int64)) (out : Nat → Int64), LRange L i → EInv sc sd src itm knd plc clk ec nf ns nc wt bd off row hw rl tm ord tc mth msc mec msrc mitm mknd mplc mclk mnc mnf mns msd mrl mrow mw mb mway moff out → LC_1 L xs i EInv sc sd src itm knd plc clk ec nf ns nc wt bd off row hw rl tm ord tc mth msc mec msrc mitm mknd mplc mclk mnc mnf mns msd mrl mrow mw mb mway moff out := by
  intro i sc sd src itm knd plc clk ec nf ns nc wt bd off row hw rl tm ord tc mth msc mec msrc mitm mknd mplc mclk mnc mnf mns msd mrl mrow mw mb mway moff out hrg hinv
  obtain ⟨⟨rfl, rfl, rfl, rfl, rfl, rfl, rfl, rfl, rfl, rfl, rfl, rfl⟩, hsd, hring, n, ne, nn, ⟨hn, hne, hnn, rfl, rfl, rfl, hev, hnd⟩, hset⟩ := hinv
  unfold LC_1
  unfold L_event_wp X_event_wp M_thrown_wp
  refine ⟨hrg.2.1, hrg.2.2.1, hrg.2.2.2.1, hrg.2.2.2.2.1, hrg.2.2.2.2.2.1, hrg.2.2.2.2.2.2, ?_⟩
  generalize (xs (i + 1).toNatClampNeg) = a1
  generalize (xs (i + 2).toNatClampNeg) = a2
  generalize (xs (i + 3).toNatClampNeg) = a3
  generalize (xs (i + 4).toNatClampNeg) = a4
  generalize (((xs (i + 5).toNatClampNeg).toInt64) <<< ((32 : Int32).toInt64 &&& 63)) ||| (((xs (i + 6).toNatClampNeg).toInt64) &&& 4294967295) = a5
  have hsI : (Int32.ofNat n).toInt = n := i3_toInt (by omega)
  have hs0 : 0 ≤ (Int32.ofNat n).toInt := by rw [hsI]; omega
  have f1 : ¬ ((0 ≤ a1.toInt ∧ a1.toInt < (Int32.ofNat n).toInt) ∧ (0 ≤ a2.toInt ∧ a2.toInt < 200)) → ∀ (Qr : Int32 → (Int32 × Int32 × (Nat → Int32) × (Nat → Int32) × (Nat → Int32) × (Nat → Int32) × (Nat → Int64) × Int32) → Prop), Qr 0 (1, Int32.ofNat ne, src, itm, knd, plc, clk, sd) → M_event_wp mth (Int32.ofNat n) (Int32.ofNat ne) src itm knd plc clk sd a1 a2 a3 a4 a5 Qr := fun hb Qr hq => M_event_of hs0 hne (fun _ => hq) (fun q1 q2 => absurd ⟨q1, q2⟩ hb)
  refine X_checkSource_of (fun s1 s2 => ?_) (fun hb => ⟨fun _ => ⟨hrg.2.1, hrg.2.2.1, hrg.2.2.2.1, hrg.2.2.2.2.1, hrg.2.2.2.2.2.1, hrg.2.2.2.2.2.2, f1 (fun q => hb q.1) _ (LFin rfl (fun h9 => absurd h9 (by decide)) ⟨⟨rfl, rfl, rfl, rfl, rfl, rfl, rfl, rfl, rfl, rfl, rfl, rfl⟩, hsd, hring, n, ne, nn, ⟨hn, hne, hnn, rfl, rfl, rfl, hev, hnd⟩, hset⟩)⟩, fun k => absurd rfl k⟩)
  refine X_checkItem_of (fun t1 t2 => ?_) (fun hb => ⟨fun _ => ⟨hrg.2.1, hrg.2.2.1, hrg.2.2.2.1, hrg.2.2.2.2.1, hrg.2.2.2.2.2.1, hrg.2.2.2.2.2.2, f1 (fun q => hb q.2) _ (LFin rfl (fun h9 => absurd h9 (by decide)) ⟨⟨rfl, rfl, rfl, rfl, rfl, rfl, rfl, rfl, rfl, rfl, rfl, rfl⟩, hsd, hring, n, ne, nn, ⟨hn, hne, hnn, rfl, rfl, rfl, hev, hnd⟩, hset⟩)⟩, fun k => absurd rfl k⟩)
  have f2 : ¬ (EKind a2 a3 a4 ∧ -1000000000 ≤ a5.toInt ∧ a5.toInt ≤ 1000000000) → ∀ (Qr : Int32 → (Int32 × Int32 × (Nat → Int32) × (Nat → Int32) × (Nat → Int32) × (Nat → Int32) × (Nat → Int64) × Int32) → Prop), Qr 0 (2, Int32.ofNat ne, src, itm, knd, plc, clk, sd) → M_event_wp mth (Int32.ofNat n) (Int32.ofNat ne) src itm knd plc clk sd a1 a2 a3 a4 a5 Qr := fun hb Qr hq => M_event_of hs0 hne (fun hx => absurd ⟨⟨s1, s2⟩, t1, t2⟩ hx) (fun _ _ => ev_B25_of hne t1 t2 (fun _ => ev_B106_bad hne hq) (fun q1 q2 q3 => absurd ⟨q1, q2, q3⟩ hb))
  refine X_checkKind_of (fun hk => ?_) (fun hb => ⟨fun k => absurd k (by decide), fun _ => ⟨fun _ => ⟨hrg.2.1, hrg.2.2.1, hrg.2.2.2.1, hrg.2.2.2.2.1, hrg.2.2.2.2.2.1, hrg.2.2.2.2.2.2, f2 (fun q => hb q.1) _ (LFin rfl (fun h9 => absurd h9 (by decide)) ⟨⟨rfl, rfl, rfl, rfl, rfl, rfl, rfl, rfl, rfl, rfl, rfl, rfl⟩, hsd, hring, n, ne, nn, ⟨hn, hne, hnn, rfl, rfl, rfl, hev, hnd⟩, hset⟩)⟩, fun k => absurd rfl k⟩⟩)
  refine X_checkClock_of (fun c1 c2 => ?_) (fun hb => ⟨fun k => absurd k (by decide), fun _ => ⟨fun _ => ⟨hrg.2.1, hrg.2.2.1, hrg.2.2.2.1, hrg.2.2.2.2.1, hrg.2.2.2.2.2.1, hrg.2.2.2.2.2.2, f2 (fun q => hb q.2) _ (LFin rfl (fun h9 => absurd h9 (by decide)) ⟨⟨rfl, rfl, rfl, rfl, rfl, rfl, rfl, rfl, rfl, rfl, rfl, rfl⟩, hsd, hring, n, ne, nn, ⟨hn, hne, hnn, rfl, rfl, rfl, hev, hnd⟩, hset⟩)⟩, fun k => absurd rfl k⟩⟩)
  refine has_of hne (fun hm => ⟨fun h9 => absurd h9 (by decide), fun _ => ⟨hrg.2.1, hrg.2.2.1, hrg.2.2.2.1, hrg.2.2.2.2.1, hrg.2.2.2.2.2.1, hrg.2.2.2.2.2.2, ?_⟩⟩) (fun hm => ⟨fun _ => ?_, fun h9 => absurd rfl h9⟩)
  · exact M_event_of hs0 hne (fun hx => absurd ⟨⟨s1, s2⟩, t1, t2⟩ hx) (fun _ _ => ev_B25_of hne t1 t2 (fun q => absurd ⟨hk, c1, c2⟩ q) (fun _ _ _ => ev_B106_good hne (fun _ => LFin rfl (fun _ => updL0 out _) ⟨⟨rfl, rfl, rfl, rfl, rfl, rfl, rfl, rfl, rfl, rfl, rfl, rfl⟩, hsd, hring, n, ne, nn, ⟨hn, hne, hnn, rfl, rfl, rfl, hev, hnd⟩, hset⟩) (fun q => absurd hm q) (fun q => absurd hm q)))
  · rw [show (300 : Int32) = Int32.ofNat 300 from rfl, i3_lt (by omega) (by omega)]
    refine ⟨fun h => ?_, fun h => ⟨fun k => absurd k (by decide), fun _ => ⟨fun k => absurd k (by decide), fun _ => ⟨fun _ => ⟨hrg.2.1, hrg.2.2.1, hrg.2.2.2.1, hrg.2.2.2.2.1, hrg.2.2.2.2.2.1, hrg.2.2.2.2.2.2, ?_⟩, fun k => absurd rfl k⟩⟩⟩⟩
    · unfold Events_add_wp
      rw [i3_succ, i3_nat (by omega)]
      have hv : vp_in (Int32.ofNat (ne + 1)) 301 := i3_in (by omega) (by omega)
      refine ⟨hv, hv, hv, hv, hv, hrg.2.1, hrg.2.2.1, hrg.2.2.2.1, hrg.2.2.2.2.1, hrg.2.2.2.2.2.1, hrg.2.2.2.2.2.2, ?_⟩
      refine M_event_of hs0 hne (fun hx => absurd ⟨⟨s1, s2⟩, t1, t2⟩ hx) (fun _ _ => ev_B25_of hne t1 t2 (fun q => absurd ⟨hk, c1, c2⟩ q) (fun _ _ _ => ev_B106_good hne (fun q => absurd q hm) (fun _ q => by omega) (fun _ _ => LFin rfl (fun _ => updL0 out _) ⟨⟨rfl, rfl, rfl, rfl, rfl, rfl, rfl, rfl, rfl, rfl, rfl, rfl⟩, Or.inl rfl, hring, n, ne + 1, nn, ⟨hn, by omega, hnn, rfl, rfl, rfl, fun e e1 e2 => ?_, fun k hk9 => ⟨⟨(hnd k hk9).1.1, by have := (hnd k hk9).1.2; omega⟩, (hnd k hk9).2.1, by have := (hnd k hk9).2.2; omega⟩⟩, fun h9 => absurd rfl h9⟩)))
      show (0 ≤ (upd src (ne + 1) a1 e).toInt ∧ (upd src (ne + 1) a1 e).toInt < n) ∧ (-1000000000 ≤ (vp_updL clk (ne + 1) a5 e).toInt ∧ (vp_updL clk (ne + 1) a5 e).toInt ≤ 1000000000)
      by_cases he : e = ne + 1
      · subst he
        rw [show (upd src (ne + 1) a1) (ne + 1) = a1 from upd_same _ _ _, show (vp_updL clk (ne + 1) a5) (ne + 1) = a5 from updL_same _ _ _]
        exact ⟨⟨s1, by omega⟩, c1, c2⟩
      · rw [show (upd src (ne + 1) a1) e = src e from upd_other _ _ he, show (vp_updL clk (ne + 1) a5) e = clk e from updL_other _ _ he]
        exact hev e e1 (by omega)
    · exact M_event_of hs0 hne (fun hx => absurd ⟨⟨s1, s2⟩, t1, t2⟩ hx) (fun _ _ => ev_B25_of hne t1 t2 (fun q => absurd ⟨hk, c1, c2⟩ q) (fun _ _ _ => ev_B106_good hne (fun q => absurd q hm) (fun _ _ => LFin rfl (fun h9 => absurd h9 (by decide)) ⟨⟨rfl, rfl, rfl, rfl, rfl, rfl, rfl, rfl, rfl, rfl, rfl, rfl⟩, hsd, hring, n, ne, nn, ⟨hn, hne, hnn, rfl, rfl, rfl, hev, hnd⟩, hset⟩) (fun _ q => by omega)))
section PN
variable {mth msc mec mnc msd : Int32} {mnf mns : Nat → Int32} {v1 v2 : Int32} {nn : Nat}
variable {Qr : Int32 → (Int32 × Int32 × (Nat → Int32) × (Nat → Int32) × Int32) → Prop}
theorem nd_B47_1 {b f : Int32} (h : Qr 0 (1, mnc, mnf, mns, msd)) : M_need_B47 v1 v2 f b 1 mth mnc mnf mns msd Qr := by
  unfold M_need_B47
  exact M_refused_1 ⟨fun g => absurd g (by decide), fun _ => h⟩
theorem M_need_of (hnn : nn ≤ 300)
    (e1 : ¬ ((1 ≤ v1.toInt ∧ v1.toInt ≤ mec.toInt) ∧ (1 ≤ v2.toInt ∧ v2.toInt ≤ mec.toInt)) → Qr 0 (1, Int32.ofNat nn, mnf, mns, msd))
    (e2 : (1 ≤ v1.toInt ∧ v1.toInt ≤ mec.toInt) → (1 ≤ v2.toInt ∧ v2.toInt ≤ mec.toInt) → v1 = v2 → Qr 0 (2, Int32.ofNat nn, mnf, mns, msd))
    (e3 : (1 ≤ v1.toInt ∧ v1.toInt ≤ mec.toInt) → (1 ≤ v2.toInt ∧ v2.toInt ≤ mec.toInt) → ¬ v1 = v2 → nn = 300 → Qr 0 (3, Int32.ofNat nn, mnf, mns, msd))
    (e4 : (1 ≤ v1.toInt ∧ v1.toInt ≤ mec.toInt) → (1 ≤ v2.toInt ∧ v2.toInt ≤ mec.toInt) → ¬ v1 = v2 → nn < 300 → Qr (Int32.ofNat (nn + 1)) (0, Int32.ofNat (nn + 1), upd mnf nn v1, upd mns nn v2, 0)) : M_need_wp mth mec (Int32.ofNat nn) mnf mns msd v1 v2 Qr := by
  unfold M_need_wp
  have none : ¬ ((1 ≤ v1.toInt ∧ v1.toInt ≤ mec.toInt) ∧ (1 ≤ v2.toInt ∧ v2.toInt ≤ mec.toInt)) → M_need_B22 v1 v2 1 mth (Int32.ofNat nn) mnf mns msd Qr := fun hb => by
    unfold M_need_B22 M_need_B32
    exact ⟨fun _ => ⟨fun _ => nd_B47_1 (e1 hb), fun _ => nd_B47_1 (e1 hb)⟩, fun _ => ⟨fun _ => nd_B47_1 (e1 hb), fun _ => nd_B47_1 (e1 hb)⟩⟩
  refine M_isEvent_of (fun a1 a2 => ⟨fun g => absurd g (by decide), fun _ => ?_⟩) (fun a => ⟨fun _ => none (fun q => a q.1), fun g => absurd rfl g⟩)
  refine M_isEvent_of (fun b1 b2 => ⟨fun _ => ?_, fun g => absurd g (by decide)⟩) (fun b => ⟨fun g => absurd rfl g, fun _ => none (fun q => b q.2)⟩)
  unfold M_need_B22 M_need_B32 M_need_B47
  refine ⟨fun hd => ⟨fun g => ?_, fun g => ?_⟩, fun hd => ⟨fun g => ?_, fun g => ?_⟩⟩
  · have hlt : nn < 300 := by
      have : nn ≠ 300 := fun q => g (by rw [q]; rfl)
      omega
    rw [i3_succ, i3_nat (by omega)]
    have hv : vp_in (Int32.ofNat nn) 300 := i3_in (by omega) (by omega)
    exact M_refused_0 ⟨fun _ => ⟨hv, hv, e4 ⟨a1, a2⟩ ⟨b1, b2⟩ hd hlt⟩, fun g => absurd rfl g⟩
  · exact M_refused_3 ⟨fun g => absurd g (by decide), fun _ => e3 ⟨a1, a2⟩ ⟨b1, b2⟩ hd (n300 g (by omega))⟩
  · exact M_refused_2 ⟨fun g => absurd g (by decide), fun _ => e2 ⟨a1, a2⟩ ⟨b1, b2⟩ hd⟩
  · exact M_refused_2 ⟨fun g => absurd g (by decide), fun _ => e2 ⟨a1, a2⟩ ⟨b1, b2⟩ hd⟩
end PN
set_option maxHeartbeats 1000000 in
theorem LC_2_pure (L : Nat) (xs : Nat → Int32) : ∀ (i : Int32) (sc : Int32) (sd : Int32) (src : (Nat → Int32)) (itm : (Nat → Int32)) (knd : (Nat → Int32)) (plc : (Nat → Int32)) (clk : (Nat → Int64)) (ec : Int32) (nf : (Nat → Int32)) (ns : (Nat → Int32)) (nc : Int32) (wt : (Nat → Nat → Int64)) (bd : (Nat → Nat → Int64)) (off : (Nat → Int64)) (row : (Nat → Int32)) (hw : (Nat → Nat → Int64)) (rl : Int32) (tm : (Nat → Int64)) (ord : (Nat → Int32)) (tc : Int32) (mth : Int32) (msc : Int32) (mec : Int32) (msrc : (Nat → Int32)) (mitm : (Nat → Int32)) (mknd : (Nat → Int32)) (mplc : (Nat → Int32)) (mclk : (Nat → Int64)) (mnc : Int32) (mnf : (Nat → Int32)) (mns : (Nat → Int32)) (msd : Int32) (mrl : Int32) (mrow : (Nat → Int32)) (mw : (Nat → Int64)) (mb : (Nat → Int64)) (mway : (Nat → Int64)) (moff : (Nat → Int64)) (out : Nat → Int64), LRange L i → EInv sc sd src itm knd plc clk ec nf ns nc wt bd off row hw rl tm ord tc mth msc mec msrc mitm mknd mplc mclk mnc mnf mns msd mrl mrow mw mb mway moff out → LC_2 L xs i EInv sc sd src itm knd plc clk ec nf ns nc wt bd off row hw rl tm ord tc mth msc mec msrc mitm mknd mplc mclk mnc mnf mns msd mrl mrow mw mb mway moff out := by
  intro i sc sd src itm knd plc clk ec nf ns nc wt bd off row hw rl tm ord tc mth msc mec msrc mitm mknd mplc mclk mnc mnf mns msd mrl mrow mw mb mway moff out hrg hinv
  obtain ⟨⟨rfl, rfl, rfl, rfl, rfl, rfl, rfl, rfl, rfl, rfl, rfl, rfl⟩, hsd, hring, n, ne, nn, ⟨hn, hne, hnn, rfl, rfl, rfl, hev, hnd⟩, hset⟩ := hinv
  unfold LC_2
  unfold L_need_wp X_need_wp M_thrown_wp
  refine ⟨hrg.2.1, hrg.2.2.1, ?_⟩
  generalize (xs (i + 1).toNatClampNeg) = a1
  generalize (xs (i + 2).toNatClampNeg) = a2
  have heI : (Int32.ofNat ne).toInt = ne := i3_toInt (by omega)
  refine X_checkEvent_of (fun s1 s2 => ?_) (fun hb => ⟨fun _ => ⟨hrg.2.1, hrg.2.2.1, M_need_of hnn (fun _ => (LFin rfl (fun h9 => absurd h9 (by decide)) ⟨⟨rfl, rfl, rfl, rfl, rfl, rfl, rfl, rfl, rfl, rfl, rfl, rfl⟩, hsd, hring, n, ne, nn, ⟨hn, hne, hnn, rfl, rfl, rfl, hev, hnd⟩, hset⟩)) (fun q1 q2 => absurd q1 hb) (fun q1 q2 => absurd q1 hb) (fun q1 q2 => absurd q1 hb)⟩, fun k => absurd rfl k⟩)
  refine X_checkEvent_of (fun t1 t2 => ?_) (fun hb => ⟨fun _ => ⟨hrg.2.1, hrg.2.2.1, M_need_of hnn (fun _ => (LFin rfl (fun h9 => absurd h9 (by decide)) ⟨⟨rfl, rfl, rfl, rfl, rfl, rfl, rfl, rfl, rfl, rfl, rfl, rfl⟩, hsd, hring, n, ne, nn, ⟨hn, hne, hnn, rfl, rfl, rfl, hev, hnd⟩, hset⟩)) (fun q1 q2 => absurd q2 hb) (fun q1 q2 => absurd q2 hb) (fun q1 q2 => absurd q2 hb)⟩, fun k => absurd rfl k⟩)
  rw [show (300 : Int32) = Int32.ofNat 300 from rfl, i3_lt (by omega) (by omega)]
  refine ⟨fun hd => ⟨fun h => ?_, fun h => ⟨fun k => absurd k (by decide), fun _ => ⟨fun k => absurd k (by decide), fun _ => ⟨fun _ => ⟨hrg.2.1, hrg.2.2.1, M_need_of hnn (fun q => absurd ⟨⟨s1, s2⟩, t1, t2⟩ q) (fun _ _ q => absurd q hd) (fun _ _ _ _ => (LFin rfl (fun h9 => absurd h9 (by decide)) ⟨⟨rfl, rfl, rfl, rfl, rfl, rfl, rfl, rfl, rfl, rfl, rfl, rfl⟩, hsd, hring, n, ne, nn, ⟨hn, hne, hnn, rfl, rfl, rfl, hev, hnd⟩, hset⟩)) (fun _ _ _ q => by omega)⟩, fun k => absurd rfl k⟩⟩⟩⟩, fun hd => ⟨fun k => absurd k (by decide), fun _ => ⟨fun _ => ⟨hrg.2.1, hrg.2.2.1, M_need_of hnn (fun q => absurd ⟨⟨s1, s2⟩, t1, t2⟩ q) (fun _ _ _ => (LFin rfl (fun h9 => absurd h9 (by decide)) ⟨⟨rfl, rfl, rfl, rfl, rfl, rfl, rfl, rfl, rfl, rfl, rfl, rfl⟩, hsd, hring, n, ne, nn, ⟨hn, hne, hnn, rfl, rfl, rfl, hev, hnd⟩, hset⟩)) (fun _ _ q => absurd hd q) (fun _ _ q => absurd hd q)⟩, fun k => absurd rfl k⟩⟩⟩
  unfold Needs_add_wp
  rw [i3_succ, i3_nat (by omega)]
  have hv : vp_in (Int32.ofNat nn) 300 := i3_in (by omega) (by omega)
  refine ⟨hv, hv, hrg.2.1, hrg.2.2.1, M_need_of hnn (fun q => absurd ⟨⟨s1, s2⟩, t1, t2⟩ q) (fun _ _ q => absurd q hd) (fun _ _ _ q => by omega) (fun _ _ _ _ => LFin rfl (fun _ => updL0 out _) ⟨⟨rfl, rfl, rfl, rfl, rfl, rfl, rfl, rfl, rfl, rfl, rfl, rfl⟩, Or.inl rfl, hring, n, ne, nn + 1, ⟨hn, hne, by omega, rfl, rfl, rfl, hev, fun k hk => ?_⟩, fun h9 => absurd rfl h9⟩)⟩
  show (1 ≤ (upd nf nn a1 k).toInt ∧ (upd nf nn a1 k).toInt ≤ ne) ∧ (1 ≤ (upd ns nn a2 k).toInt ∧ (upd ns nn a2 k).toInt ≤ ne)
  by_cases he : k = nn
  · subst he
    rw [upd_same, upd_same]
    omega
  · rw [upd_other _ _ he, upd_other _ _ he]
    exact hnd k (by omega)
set_option maxHeartbeats 1000000 in
theorem LC_4_pure (L : Nat) (xs : Nat → Int32) : ∀ (i : Int32) (sc : Int32) (sd : Int32) (src : (Nat → Int32)) (itm : (Nat → Int32)) (knd : (Nat → Int32)) (plc : (Nat → Int32)) (clk : (Nat → Int64)) (ec : Int32) (nf : (Nat → Int32)) (ns : (Nat → Int32)) (nc : Int32) (wt : (Nat → Nat → Int64)) (bd : (Nat → Nat → Int64)) (off : (Nat → Int64)) (row : (Nat → Int32)) (hw : (Nat → Nat → Int64)) (rl : Int32) (tm : (Nat → Int64)) (ord : (Nat → Int32)) (tc : Int32) (mth : Int32) (msc : Int32) (mec : Int32) (msrc : (Nat → Int32)) (mitm : (Nat → Int32)) (mknd : (Nat → Int32)) (mplc : (Nat → Int32)) (mclk : (Nat → Int64)) (mnc : Int32) (mnf : (Nat → Int32)) (mns : (Nat → Int32)) (msd : Int32) (mrl : Int32) (mrow : (Nat → Int32)) (mw : (Nat → Int64)) (mb : (Nat → Int64)) (mway : (Nat → Int64)) (moff : (Nat → Int64)) (out : Nat → Int64), LRange L i → EInv sc sd src itm knd plc clk ec nf ns nc wt bd off row hw rl tm ord tc mth msc mec msrc mitm mknd mplc mclk mnc mnf mns msd mrl mrow mw mb mway moff out → LC_4 L xs i EInv sc sd src itm knd plc clk ec nf ns nc wt bd off row hw rl tm ord tc mth msc mec msrc mitm mknd mplc mclk mnc mnf mns msd mrl mrow mw mb mway moff out := by
  intro i sc sd src itm knd plc clk ec nf ns nc wt bd off row hw rl tm ord tc mth msc mec msrc mitm mknd mplc mclk mnc mnf mns msd mrl mrow mw mb mway moff out hrg hinv
  obtain ⟨⟨rfl, rfl, rfl, rfl, rfl, rfl, rfl, rfl, rfl, rfl, rfl, rfl⟩, hsd, hring, n, ne, nn, ⟨hn, hne, hnn, rfl, rfl, rfl, hev, hnd⟩, hset⟩ := hinv
  unfold LC_4
  unfold X_ring_wp M_ring_wp
  refine ⟨hrg.2.1, ?_⟩
  generalize (xs (i + 1).toNatClampNeg) = a1
  obtain ⟨k, hk, rfl, hrow⟩ := id hring
  have hkI : (Int32.ofNat k).toInt = k := i3_toInt (by omega)
  have e : (Int32.ofNat k - 1).toInt = k - 1 := by
    have : (1 : Int32).toInt = 1 := rfl
    rw [sub32] <;> rw [hkI, this] <;> omega
  have c0 : (0 : Int32).toInt = 0 := rfl
  have c0' : (0 : Int64).toInt = 0 := rfl
  rw [lt32, lt32, c0, hkI]
  refine ⟨fun h => ⟨hrg.2.1, M_within_of (fun g1 g2 => absurd (show 0 ≤ a1.toInt ∧ a1.toInt < k by rw [w64, c0'] at g1; rw [w64, w64, e] at g2; omega) (by omega)) (fun _ => ⟨fun _ => ⟨fun _ => ⟨⟨rfl, rfl, rfl, rfl, rfl, rfl, rfl, rfl, rfl, rfl, rfl, rfl⟩, hsd, hring, n, ne, nn, ⟨hn, hne, hnn, rfl, rfl, rfl, hev, hnd⟩, hset⟩, fun g => absurd rfl g⟩, fun g => absurd rfl g⟩)⟩, fun h => ⟨fun h2 => ⟨in_iff.mpr (by omega), hrg.2.1, ?_⟩, fun h2 => ⟨hrg.2.1, M_within_of (fun g1 g2 => absurd (show 0 ≤ a1.toInt ∧ a1.toInt < k by rw [w64, c0'] at g1; rw [w64, w64, e] at g2; omega) (by omega)) (fun _ => ⟨fun _ => ⟨fun _ => ⟨⟨rfl, rfl, rfl, rfl, rfl, rfl, rfl, rfl, rfl, rfl, rfl, rfl⟩, hsd, hring, n, ne, nn, ⟨hn, hne, hnn, rfl, rfl, rfl, hev, hnd⟩, hset⟩, fun g => absurd rfl g⟩, fun g => absurd rfl g⟩)⟩⟩⟩
  refine M_within_of (fun g1 g2 => ⟨fun g => absurd g (by decide), fun _ => ⟨in_iff.mpr (by omega), ?_⟩⟩) (fun g => absurd ?_ g)
  · have hr : mrow a1.toNatClampNeg = row a1.toNatClampNeg := hrow _ (by rw [nat32]; omega)
    exact ⟨fun _ => ⟨⟨rfl, rfl, rfl, rfl, rfl, rfl, rfl, rfl, rfl, rfl, rfl, rfl⟩, hsd, hring, n, ne, nn, ⟨hn, hne, hnn, rfl, rfl, rfl, hev, hnd⟩, hset⟩, fun g => absurd hr.symm g⟩
  · rw [w64, w64, e, c0']; omega
set_option maxHeartbeats 1000000 in
theorem LC_5_pure (L : Nat) (xs : Nat → Int32) : ∀ (i : Int32) (sc : Int32) (sd : Int32) (src : (Nat → Int32)) (itm : (Nat → Int32)) (knd : (Nat → Int32)) (plc : (Nat → Int32)) (clk : (Nat → Int64)) (ec : Int32) (nf : (Nat → Int32)) (ns : (Nat → Int32)) (nc : Int32) (wt : (Nat → Nat → Int64)) (bd : (Nat → Nat → Int64)) (off : (Nat → Int64)) (row : (Nat → Int32)) (hw : (Nat → Nat → Int64)) (rl : Int32) (tm : (Nat → Int64)) (ord : (Nat → Int32)) (tc : Int32) (mth : Int32) (msc : Int32) (mec : Int32) (msrc : (Nat → Int32)) (mitm : (Nat → Int32)) (mknd : (Nat → Int32)) (mplc : (Nat → Int32)) (mclk : (Nat → Int64)) (mnc : Int32) (mnf : (Nat → Int32)) (mns : (Nat → Int32)) (msd : Int32) (mrl : Int32) (mrow : (Nat → Int32)) (mw : (Nat → Int64)) (mb : (Nat → Int64)) (mway : (Nat → Int64)) (moff : (Nat → Int64)) (out : Nat → Int64), LRange L i → EInv sc sd src itm knd plc clk ec nf ns nc wt bd off row hw rl tm ord tc mth msc mec msrc mitm mknd mplc mclk mnc mnf mns msd mrl mrow mw mb mway moff out → LC_5 L xs i EInv sc sd src itm knd plc clk ec nf ns nc wt bd off row hw rl tm ord tc mth msc mec msrc mitm mknd mplc mclk mnc mnf mns msd mrl mrow mw mb mway moff out := by
  intro i sc sd src itm knd plc clk ec nf ns nc wt bd off row hw rl tm ord tc mth msc mec msrc mitm mknd mplc mclk mnc mnf mns msd mrl mrow mw mb mway moff out hrg hinv
  obtain ⟨⟨rfl, rfl, rfl, rfl, rfl, rfl, rfl, rfl, rfl, rfl, rfl, rfl⟩, hsd, hring, n, ne, nn, ⟨hn, hne, hnn, rfl, rfl, rfl, hev, hnd⟩, hset⟩ := hinv
  unfold LC_5
  unfold L_offset_wp X_offset_wp M_thrown_wp M_offset_wp
  refine ⟨hrg.2.1, ?_⟩
  generalize (xs (i + 1).toNatClampNeg) = a1
  have hsI : (Int32.ofNat n).toInt = n := i3_toInt (by omega)
  have hs0 : 0 ≤ (Int32.ofNat n).toInt := by rw [hsI]; omega
  refine X_checkSource_of (fun s1 s2 => ?_) (fun hb => ⟨fun _ => ⟨hrg.2.1, M_isSource_of hs0 (fun q1 q2 => absurd ⟨q1, q2⟩ hb) (fun _ => ⟨fun g => absurd rfl g, fun _ => ?_⟩)⟩, fun k => absurd rfl k⟩)
  · unfold X_checkSettled_wp
    refine ⟨fun g => ⟨in_iff.mpr (by omega), hrg.2.1, M_isSource_of hs0 (fun _ _ => ⟨fun _ => ?_, fun g => absurd g (by decide)⟩) (fun q => absurd ⟨s1, s2⟩ q)⟩, fun g => ⟨fun k => absurd k (by decide), fun _ => ⟨fun _ => ⟨hrg.2.1, M_isSource_of hs0 (fun _ _ => ⟨fun _ => ?_, fun g => absurd g (by decide)⟩) (fun q => absurd ⟨s1, s2⟩ q)⟩, fun k => absurd rfl k⟩⟩⟩
    · unfold M_offset_B14 M_offset_B26
      obtain ⟨-, -, hoff, -, -⟩ := hset g
      have ho : moff a1.toNatClampNeg = off a1.toNatClampNeg := hoff _ (by rw [nat32]; omega)
      exact ⟨fun _ => M_refused_0 ⟨fun _ => ⟨in_iff.mpr (by omega), LFin rfl (fun _ => (updL0 out _).trans ho.symm) ⟨⟨rfl, rfl, rfl, rfl, rfl, rfl, rfl, rfl, rfl, rfl, rfl, rfl⟩, hsd, hring, n, ne, nn, ⟨hn, hne, hnn, rfl, rfl, rfl, hev, hnd⟩, hset⟩⟩, fun g => absurd rfl g⟩, fun q => absurd q g⟩
    · unfold M_offset_B14 M_offset_B26
      exact ⟨fun q => absurd g q, fun _ => M_refused_2 ⟨fun g => absurd g (by decide), fun _ => (LFin rfl (fun h9 => absurd h9 (by decide)) ⟨⟨rfl, rfl, rfl, rfl, rfl, rfl, rfl, rfl, rfl, rfl, rfl, rfl⟩, hsd, hring, n, ne, nn, ⟨hn, hne, hnn, rfl, rfl, rfl, hev, hnd⟩, hset⟩)⟩⟩
  · unfold M_offset_B14 M_offset_B26
    exact ⟨fun _ => M_refused_1 ⟨fun g => absurd g (by decide), fun _ => (LFin rfl (fun h9 => absurd h9 (by decide)) ⟨⟨rfl, rfl, rfl, rfl, rfl, rfl, rfl, rfl, rfl, rfl, rfl, rfl⟩, hsd, hring, n, ne, nn, ⟨hn, hne, hnn, rfl, rfl, rfl, hev, hnd⟩, hset⟩)⟩, fun _ => M_refused_1 ⟨fun g => absurd g (by decide), fun _ => (LFin rfl (fun h9 => absurd h9 (by decide)) ⟨⟨rfl, rfl, rfl, rfl, rfl, rfl, rfl, rfl, rfl, rfl, rfl, rfl⟩, hsd, hring, n, ne, nn, ⟨hn, hne, hnn, rfl, rfl, rfl, hev, hnd⟩, hset⟩)⟩⟩
theorem b16 {a b : Int32} {n : Nat} (hn : n ≤ 16) (a1 : 0 ≤ a.toInt) (a2 : a.toInt < n) (b1 : 0 ≤ b.toInt) (b2 : b.toInt < n) : (16 * a + b).toInt = 16 * a.toInt + b.toInt := by
  have c : (16 : Int32).toInt = 16 := rfl
  have m : (16 * a).toInt = 16 * a.toInt := by
    rw [Int32.toInt_mul, c]; exact Int.bmod_eq_of_le (by omega) (by omega)
  rw [add32] <;> rw [m] <;> omega
set_option maxHeartbeats 1000000 in
theorem LC_6_pure (L : Nat) (xs : Nat → Int32) : ∀ (i : Int32) (sc : Int32) (sd : Int32) (src : (Nat → Int32)) (itm : (Nat → Int32)) (knd : (Nat → Int32)) (plc : (Nat → Int32)) (clk : (Nat → Int64)) (ec : Int32) (nf : (Nat → Int32)) (ns : (Nat → Int32)) (nc : Int32) (wt : (Nat → Nat → Int64)) (bd : (Nat → Nat → Int64)) (off : (Nat → Int64)) (row : (Nat → Int32)) (hw : (Nat → Nat → Int64)) (rl : Int32) (tm : (Nat → Int64)) (ord : (Nat → Int32)) (tc : Int32) (mth : Int32) (msc : Int32) (mec : Int32) (msrc : (Nat → Int32)) (mitm : (Nat → Int32)) (mknd : (Nat → Int32)) (mplc : (Nat → Int32)) (mclk : (Nat → Int64)) (mnc : Int32) (mnf : (Nat → Int32)) (mns : (Nat → Int32)) (msd : Int32) (mrl : Int32) (mrow : (Nat → Int32)) (mw : (Nat → Int64)) (mb : (Nat → Int64)) (mway : (Nat → Int64)) (moff : (Nat → Int64)) (out : Nat → Int64), LRange L i → EInv sc sd src itm knd plc clk ec nf ns nc wt bd off row hw rl tm ord tc mth msc mec msrc mitm mknd mplc mclk mnc mnf mns msd mrl mrow mw mb mway moff out → LC_6 L xs i EInv sc sd src itm knd plc clk ec nf ns nc wt bd off row hw rl tm ord tc mth msc mec msrc mitm mknd mplc mclk mnc mnf mns msd mrl mrow mw mb mway moff out := by
  intro i sc sd src itm knd plc clk ec nf ns nc wt bd off row hw rl tm ord tc mth msc mec msrc mitm mknd mplc mclk mnc mnf mns msd mrl mrow mw mb mway moff out hrg hinv
  obtain ⟨⟨rfl, rfl, rfl, rfl, rfl, rfl, rfl, rfl, rfl, rfl, rfl, rfl⟩, hsd, hring, n, ne, nn, ⟨hn, hne, hnn, rfl, rfl, rfl, hev, hnd⟩, hset⟩ := hinv
  unfold LC_6
  unfold L_bound_wp X_bound_wp M_thrown_wp M_bound_wp
  refine ⟨hrg.2.1, hrg.2.2.1, ?_⟩
  generalize (xs (i + 1).toNatClampNeg) = a1
  generalize (xs (i + 2).toNatClampNeg) = a2
  have hsI : (Int32.ofNat n).toInt = n := i3_toInt (by omega)
  have hs0 : 0 ≤ (Int32.ofNat n).toInt := by rw [hsI]; omega
  refine X_checkSource_of (fun s1 s2 => ?_) (fun hb => ⟨fun _ => ⟨hrg.2.1, hrg.2.2.1, M_isSource_of hs0 (fun q1 q2 => absurd ⟨q1, q2⟩ hb) (fun _ => ⟨fun _ => ?_, fun g => absurd rfl g⟩)⟩, fun k => absurd rfl k⟩)
  · refine X_checkSource_of (fun t1 t2 => ?_) (fun hb => ⟨fun _ => ⟨hrg.2.1, hrg.2.2.1, M_isSource_of hs0 (fun _ _ => ⟨fun g => absurd g (by decide), fun _ => M_isSource_of hs0 (fun q1 q2 => absurd ⟨q1, q2⟩ hb) (fun _ => ⟨fun g => absurd rfl g, fun _ => ?_⟩)⟩) (fun q => absurd ⟨s1, s2⟩ q)⟩, fun k => absurd rfl k⟩)
    · unfold X_checkSettled_wp
      refine ⟨fun g => ⟨in_iff.mpr (by omega), in_iff.mpr (by omega), hrg.2.1, hrg.2.2.1, M_isSource_of hs0 (fun _ _ => ⟨fun g => absurd g (by decide), fun _ => M_isSource_of hs0 (fun _ _ => ⟨fun _ => ?_, fun g => absurd g (by decide)⟩) (fun q => absurd ⟨t1, t2⟩ q)⟩) (fun q => absurd ⟨s1, s2⟩ q)⟩, fun g => ⟨fun k => absurd k (by decide), fun _ => ⟨fun _ => ⟨hrg.2.1, hrg.2.2.1, M_isSource_of hs0 (fun _ _ => ⟨fun g => absurd g (by decide), fun _ => M_isSource_of hs0 (fun _ _ => ⟨fun _ => ?_, fun g => absurd g (by decide)⟩) (fun q => absurd ⟨t1, t2⟩ q)⟩) (fun q => absurd ⟨s1, s2⟩ q)⟩, fun k => absurd rfl k⟩⟩⟩
      · unfold M_bound_B22 M_bound_B34
        obtain ⟨-, hbd, -, -, -⟩ := hset g
        have e := b16 hn s1 (by omega) t1 (by omega : a2.toInt < n)
        have ho : mb (16 * a1 + a2).toNatClampNeg = bd a1.toNatClampNeg a2.toNatClampNeg := by
          rw [nat32, e, nat32, nat32, ← hbd _ _ (by omega) (by omega)]
          congr 1
          omega
        exact ⟨fun _ => M_refused_0 ⟨fun _ => ⟨in_iff.mpr (by omega), LFin rfl (fun _ => (updL0 out _).trans ho.symm) ⟨⟨rfl, rfl, rfl, rfl, rfl, rfl, rfl, rfl, rfl, rfl, rfl, rfl⟩, hsd, hring, n, ne, nn, ⟨hn, hne, hnn, rfl, rfl, rfl, hev, hnd⟩, hset⟩⟩, fun g => absurd rfl g⟩, fun q => absurd q g⟩
      · unfold M_bound_B22 M_bound_B34
        exact ⟨fun q => absurd g q, fun _ => M_refused_2 ⟨fun g => absurd g (by decide), fun _ => (LFin rfl (fun h9 => absurd h9 (by decide)) ⟨⟨rfl, rfl, rfl, rfl, rfl, rfl, rfl, rfl, rfl, rfl, rfl, rfl⟩, hsd, hring, n, ne, nn, ⟨hn, hne, hnn, rfl, rfl, rfl, hev, hnd⟩, hset⟩)⟩⟩
    · unfold M_bound_B22 M_bound_B34
      exact ⟨fun _ => M_refused_1 ⟨fun g => absurd g (by decide), fun _ => (LFin rfl (fun h9 => absurd h9 (by decide)) ⟨⟨rfl, rfl, rfl, rfl, rfl, rfl, rfl, rfl, rfl, rfl, rfl, rfl⟩, hsd, hring, n, ne, nn, ⟨hn, hne, hnn, rfl, rfl, rfl, hev, hnd⟩, hset⟩)⟩, fun _ => M_refused_1 ⟨fun g => absurd g (by decide), fun _ => (LFin rfl (fun h9 => absurd h9 (by decide)) ⟨⟨rfl, rfl, rfl, rfl, rfl, rfl, rfl, rfl, rfl, rfl, rfl, rfl⟩, hsd, hring, n, ne, nn, ⟨hn, hne, hnn, rfl, rfl, rfl, hev, hnd⟩, hset⟩)⟩⟩
  · unfold M_bound_B22 M_bound_B34
    exact ⟨fun _ => M_refused_1 ⟨fun g => absurd g (by decide), fun _ => (LFin rfl (fun h9 => absurd h9 (by decide)) ⟨⟨rfl, rfl, rfl, rfl, rfl, rfl, rfl, rfl, rfl, rfl, rfl, rfl⟩, hsd, hring, n, ne, nn, ⟨hn, hne, hnn, rfl, rfl, rfl, hev, hnd⟩, hset⟩)⟩, fun _ => M_refused_1 ⟨fun g => absurd g (by decide), fun _ => (LFin rfl (fun h9 => absurd h9 (by decide)) ⟨⟨rfl, rfl, rfl, rfl, rfl, rfl, rfl, rfl, rfl, rfl, rfl, rfl⟩, hsd, hring, n, ne, nn, ⟨hn, hne, hnn, rfl, rfl, rfl, hev, hnd⟩, hset⟩)⟩⟩
set_option maxHeartbeats 1000000 in
theorem LC_7_pure (L : Nat) (xs : Nat → Int32) : ∀ (i : Int32) (sc : Int32) (sd : Int32) (src : (Nat → Int32)) (itm : (Nat → Int32)) (knd : (Nat → Int32)) (plc : (Nat → Int32)) (clk : (Nat → Int64)) (ec : Int32) (nf : (Nat → Int32)) (ns : (Nat → Int32)) (nc : Int32) (wt : (Nat → Nat → Int64)) (bd : (Nat → Nat → Int64)) (off : (Nat → Int64)) (row : (Nat → Int32)) (hw : (Nat → Nat → Int64)) (rl : Int32) (tm : (Nat → Int64)) (ord : (Nat → Int32)) (tc : Int32) (mth : Int32) (msc : Int32) (mec : Int32) (msrc : (Nat → Int32)) (mitm : (Nat → Int32)) (mknd : (Nat → Int32)) (mplc : (Nat → Int32)) (mclk : (Nat → Int64)) (mnc : Int32) (mnf : (Nat → Int32)) (mns : (Nat → Int32)) (msd : Int32) (mrl : Int32) (mrow : (Nat → Int32)) (mw : (Nat → Int64)) (mb : (Nat → Int64)) (mway : (Nat → Int64)) (moff : (Nat → Int64)) (out : Nat → Int64), LRange L i → EInv sc sd src itm knd plc clk ec nf ns nc wt bd off row hw rl tm ord tc mth msc mec msrc mitm mknd mplc mclk mnc mnf mns msd mrl mrow mw mb mway moff out → LC_7 L xs i EInv sc sd src itm knd plc clk ec nf ns nc wt bd off row hw rl tm ord tc mth msc mec msrc mitm mknd mplc mclk mnc mnf mns msd mrl mrow mw mb mway moff out := by
  intro i sc sd src itm knd plc clk ec nf ns nc wt bd off row hw rl tm ord tc mth msc mec msrc mitm mknd mplc mclk mnc mnf mns msd mrl mrow mw mb mway moff out hrg hinv
  obtain ⟨⟨rfl, rfl, rfl, rfl, rfl, rfl, rfl, rfl, rfl, rfl, rfl, rfl⟩, hsd, hring, n, ne, nn, ⟨hn, hne, hnn, rfl, rfl, rfl, hev, hnd⟩, hset⟩ := hinv
  unfold LC_7
  unfold L_corrected_wp X_corrected_wp M_thrown_wp M_corrected_wp
  refine ⟨hrg.2.1, ?_⟩
  generalize (xs (i + 1).toNatClampNeg) = a1
  have heI : (Int32.ofNat ne).toInt = ne := i3_toInt (by omega)
  refine X_checkEvent_of (fun s1 s2 => ?_) (fun hb => ⟨fun _ => ⟨hrg.2.1, M_isEvent_of (fun q1 q2 => absurd ⟨q1, q2⟩ hb) (fun _ => ⟨fun g => absurd rfl g, fun _ => ?_⟩)⟩, fun k => absurd rfl k⟩)
  · unfold X_checkSettled_wp
    refine ⟨fun g => ⟨in_iff.mpr (by omega), hrg.2.1, M_isEvent_of (fun _ _ => ⟨fun _ => ?_, fun g => absurd g (by decide)⟩) (fun q => absurd ⟨s1, s2⟩ q)⟩, fun g => ⟨fun k => absurd k (by decide), fun _ => ⟨fun _ => ⟨hrg.2.1, M_isEvent_of (fun _ _ => ⟨fun _ => ?_, fun g => absurd g (by decide)⟩) (fun q => absurd ⟨s1, s2⟩ q)⟩, fun k => absurd rfl k⟩⟩⟩
    · unfold M_corrected_B14 M_corrected_B26 M_timeOf_wp
      obtain ⟨-, -, hoff, htm, -⟩ := hset g
      have hs := (hev a1.toNatClampNeg (by rw [nat32]; omega) (by rw [nat32]; omega)).1
      have ho : tm a1.toNatClampNeg = clk a1.toNatClampNeg + moff (src a1.toNatClampNeg).toNatClampNeg := by
        rw [htm _ (by rw [nat32]; omega) (by rw [nat32]; omega), hoff _ (by rw [nat32 (src _)]; omega)]
      exact ⟨fun _ => M_refused_0 ⟨fun _ => ⟨in_iff.mpr (by omega), in_iff.mpr (by omega), in_iff.mpr (by omega), LFin rfl (fun _ => (updL0 out _).trans ho) ⟨⟨rfl, rfl, rfl, rfl, rfl, rfl, rfl, rfl, rfl, rfl, rfl, rfl⟩, hsd, hring, n, ne, nn, ⟨hn, hne, hnn, rfl, rfl, rfl, hev, hnd⟩, hset⟩⟩, fun g => absurd rfl g⟩, fun q => absurd q g⟩
    · unfold M_corrected_B14 M_corrected_B26
      exact ⟨fun q => absurd g q, fun _ => M_refused_2 ⟨fun g => absurd g (by decide), fun _ => (LFin rfl (fun h9 => absurd h9 (by decide)) ⟨⟨rfl, rfl, rfl, rfl, rfl, rfl, rfl, rfl, rfl, rfl, rfl, rfl⟩, hsd, hring, n, ne, nn, ⟨hn, hne, hnn, rfl, rfl, rfl, hev, hnd⟩, hset⟩)⟩⟩
  · unfold M_corrected_B14 M_corrected_B26
    exact ⟨fun _ => M_refused_1 ⟨fun g => absurd g (by decide), fun _ => (LFin rfl (fun h9 => absurd h9 (by decide)) ⟨⟨rfl, rfl, rfl, rfl, rfl, rfl, rfl, rfl, rfl, rfl, rfl, rfl⟩, hsd, hring, n, ne, nn, ⟨hn, hne, hnn, rfl, rfl, rfl, hev, hnd⟩, hset⟩)⟩, fun _ => M_refused_1 ⟨fun g => absurd g (by decide), fun _ => (LFin rfl (fun h9 => absurd h9 (by decide)) ⟨⟨rfl, rfl, rfl, rfl, rfl, rfl, rfl, rfl, rfl, rfl, rfl, rfl⟩, hsd, hring, n, ne, nn, ⟨hn, hne, hnn, rfl, rfl, rfl, hev, hnd⟩, hset⟩)⟩⟩
set_option maxHeartbeats 1000000 in
theorem LC_10_pure (L : Nat) (xs : Nat → Int32) : ∀ (i : Int32) (sc : Int32) (sd : Int32) (src : (Nat → Int32)) (itm : (Nat → Int32)) (knd : (Nat → Int32)) (plc : (Nat → Int32)) (clk : (Nat → Int64)) (ec : Int32) (nf : (Nat → Int32)) (ns : (Nat → Int32)) (nc : Int32) (wt : (Nat → Nat → Int64)) (bd : (Nat → Nat → Int64)) (off : (Nat → Int64)) (row : (Nat → Int32)) (hw : (Nat → Nat → Int64)) (rl : Int32) (tm : (Nat → Int64)) (ord : (Nat → Int32)) (tc : Int32) (mth : Int32) (msc : Int32) (mec : Int32) (msrc : (Nat → Int32)) (mitm : (Nat → Int32)) (mknd : (Nat → Int32)) (mplc : (Nat → Int32)) (mclk : (Nat → Int64)) (mnc : Int32) (mnf : (Nat → Int32)) (mns : (Nat → Int32)) (msd : Int32) (mrl : Int32) (mrow : (Nat → Int32)) (mw : (Nat → Int64)) (mb : (Nat → Int64)) (mway : (Nat → Int64)) (moff : (Nat → Int64)) (out : Nat → Int64), LRange L i → EInv sc sd src itm knd plc clk ec nf ns nc wt bd off row hw rl tm ord tc mth msc mec msrc mitm mknd mplc mclk mnc mnf mns msd mrl mrow mw mb mway moff out → LC_10 L xs i EInv sc sd src itm knd plc clk ec nf ns nc wt bd off row hw rl tm ord tc mth msc mec msrc mitm mknd mplc mclk mnc mnf mns msd mrl mrow mw mb mway moff out := by
  intro i sc sd src itm knd plc clk ec nf ns nc wt bd off row hw rl tm ord tc mth msc mec msrc mitm mknd mplc mclk mnc mnf mns msd mrl mrow mw mb mway moff out hrg hinv
  obtain ⟨⟨rfl, rfl, rfl, rfl, rfl, rfl, rfl, rfl, rfl, rfl, rfl, rfl⟩, hsd, hring, n, ne, nn, ⟨hn, hne, hnn, rfl, rfl, rfl, hev, hnd⟩, hset⟩ := hinv
  unfold LC_10
  unfold L_correct_wp X_correct_wp M_thrown_wp M_correct_wp
  refine ⟨hrg.2.1, hrg.2.2.1, hrg.2.2.2.1, ?_⟩
  generalize (xs (i + 1).toNatClampNeg) = a1
  generalize (((xs (i + 2).toNatClampNeg).toInt64) <<< ((32 : Int32).toInt64 &&& 63)) ||| (((xs (i + 3).toNatClampNeg).toInt64) &&& 4294967295) = a2
  have heI : (Int32.ofNat ne).toInt = ne := i3_toInt (by omega)
  have cm : (-1000000000 : Int64).toInt = -1000000000 := rfl
  have cM : (1000000000 : Int64).toInt = 1000000000 := rfl
  refine X_checkEvent_of (fun s1 s2 => ?_) (fun hb => ⟨fun _ => ⟨hrg.2.1, hrg.2.2.1, hrg.2.2.2.1, M_isEvent_of (fun q1 q2 => absurd ⟨q1, q2⟩ hb) (fun _ => ⟨fun g => absurd rfl g, fun _ => ?_⟩)⟩, fun k => absurd rfl k⟩)
  · refine X_checkClock_of (fun c1 c2 => ?_) (fun hb => ⟨fun k => absurd k (by decide), fun _ => ⟨fun _ => ⟨hrg.2.1, hrg.2.2.1, hrg.2.2.2.1, M_isEvent_of (fun _ _ => ⟨fun _ => ?_, fun g => absurd g (by decide)⟩) (fun q => absurd ⟨s1, s2⟩ q)⟩, fun k => absurd rfl k⟩⟩)
    · have hv : vp_in a1 301 := in_iff.mpr (by omega)
      refine ⟨hv, hv, hv, hv, ?_⟩
      refine has_of hne (fun hm => ⟨fun h9 => absurd h9 (by decide), fun _ => ⟨hrg.2.1, hrg.2.2.1, hrg.2.2.2.1, M_isEvent_of (fun _ _ => ⟨fun _ => ?_, fun g => absurd g (by decide)⟩) (fun q => absurd ⟨s1, s2⟩ q)⟩⟩) (fun hm => ⟨fun _ => ⟨hv, hrg.2.1, hrg.2.2.1, hrg.2.2.2.1, M_isEvent_of (fun _ _ => ⟨fun _ => ?_, fun g => absurd g (by decide)⟩) (fun q => absurd ⟨s1, s2⟩ q)⟩, fun h9 => absurd rfl h9⟩)
      · unfold M_correct_B14 M_correct_B32
        refine M_within_of (fun _ _ => ⟨fun _ => M_refused_0 ⟨fun _ => ⟨hv, hv, hv, hv, find_of hne (fun e q1 q2 q3 => ⟨fun g => ?_, fun _ => LFin rfl (fun _ => updL0 out _) ⟨⟨rfl, rfl, rfl, rfl, rfl, rfl, rfl, rfl, rfl, rfl, rfl, rfl⟩, hsd, hring, n, ne, nn, ⟨hn, hne, hnn, rfl, rfl, rfl, hev, hnd⟩, hset⟩⟩) (fun q => absurd hm q)⟩, fun g => absurd rfl g⟩, fun g => absurd g (by decide)⟩) (fun q => absurd ⟨by rw [cm]; exact c1, by rw [cM]; exact c2⟩ q)
        rw [show (0 : Int32) = Int32.ofNat 0 from rfl, i3_le (by omega) (by omega)] at g
        omega
      · unfold M_correct_B14 M_correct_B32
        refine M_within_of (fun _ _ => ⟨fun _ => M_refused_0 ⟨fun _ => ⟨hv, hv, hv, hv, find_of hne (fun e q1 q2 q3 => absurd ⟨e, q1, q2, q3⟩ hm) (fun _ => ⟨fun _ => ⟨hv, LFin rfl (fun _ => updL0 out _) ⟨⟨rfl, rfl, rfl, rfl, rfl, rfl, rfl, rfl, rfl, rfl, rfl, rfl⟩, Or.inl rfl, hring, n, ne, nn, ⟨hn, hne, hnn, rfl, rfl, rfl, fun e e1 e2 => ⟨(hev e e1 e2).1, ?_⟩, hnd⟩, fun h9 => absurd rfl h9⟩⟩, fun g => absurd (by decide) g⟩)⟩, fun g => absurd rfl g⟩, fun g => absurd g (by decide)⟩) (fun q => absurd ⟨by rw [cm]; exact c1, by rw [cM]; exact c2⟩ q)
        show -1000000000 ≤ (vp_updL clk a1.toNatClampNeg a2 e).toInt ∧ (vp_updL clk a1.toNatClampNeg a2 e).toInt ≤ 1000000000
        by_cases he : e = a1.toNatClampNeg
        · rw [he, updL_same]; exact ⟨c1, c2⟩
        · rw [updL_other _ _ he]; exact (hev e e1 e2).2
    · unfold M_correct_B14 M_correct_B32
      refine M_within_of (fun q1 q2 => absurd ⟨by rw [cm] at q1; exact q1, by rw [cM] at q2; exact q2⟩ hb) (fun _ => ⟨fun g => absurd rfl g, fun _ => M_refused_2 ⟨fun g => absurd g (by decide), fun _ => (LFin rfl (fun h9 => absurd h9 (by decide)) ⟨⟨rfl, rfl, rfl, rfl, rfl, rfl, rfl, rfl, rfl, rfl, rfl, rfl⟩, hsd, hring, n, ne, nn, ⟨hn, hne, hnn, rfl, rfl, rfl, hev, hnd⟩, hset⟩)⟩⟩)
  · unfold M_correct_B14 M_correct_B32
    exact M_within_of (fun _ _ => ⟨fun _ => M_refused_1 ⟨fun g => absurd g (by decide), fun _ => (LFin rfl (fun h9 => absurd h9 (by decide)) ⟨⟨rfl, rfl, rfl, rfl, rfl, rfl, rfl, rfl, rfl, rfl, rfl, rfl⟩, hsd, hring, n, ne, nn, ⟨hn, hne, hnn, rfl, rfl, rfl, hev, hnd⟩, hset⟩)⟩, fun g => absurd g (by decide)⟩) (fun _ => ⟨fun g => absurd rfl g, fun _ => M_refused_1 ⟨fun g => absurd g (by decide), fun _ => (LFin rfl (fun h9 => absurd h9 (by decide)) ⟨⟨rfl, rfl, rfl, rfl, rfl, rfl, rfl, rfl, rfl, rfl, rfl, rfl⟩, hsd, hring, n, ne, nn, ⟨hn, hne, hnn, rfl, rfl, rfl, hev, hnd⟩, hset⟩)⟩⟩)
def ECnt (f : Nat → Int32) (v : Int32) : Nat → Int32
  | 0 => 0
  | k + 1 => if f (k + 1) = v then ECnt f v k + 1 else ECnt f v k
theorem ECnt_yes {f : Nat → Int32} {v : Int32} {k : Nat} (h : f (k + 1) = v) : ECnt f v (k + 1) = ECnt f v k + 1 := by rw [ECnt, if_pos h]
theorem ECnt_no {f : Nat → Int32} {v : Int32} {k : Nat} (h : ¬ f (k + 1) = v) : ECnt f v (k + 1) = ECnt f v k := by rw [ECnt, if_neg h]
theorem cnt_3 {f : Nat → Int32} {v : Int32} {ne : Nat} {Qx : Int32 → Prop} (hne : ne ≤ 300) (hq : Qx (ECnt f v ne)) : ∀ (n k : Nat), ne + 1 ≤ k + n → k ≤ ne → Events_countIn_3_L5 v f (Int32.ofNat ne) Qx n (ECnt f v k) (Int32.ofNat (k + 1)) := by
  intro n
  induction n with
  | zero => intro k g1 g2; omega
  | succ n ih =>
    intro k g1 g2
    unfold Events_countIn_3_L5
    rw [i3_lt (by omega) (by omega), i3_nat (by omega), i3_succ]
    refine ⟨fun h => ?_, fun h => ⟨i3_in (by omega) (by omega), fun c => ?_, fun c => ?_⟩⟩
    · rw [show k = ne by omega]; exact hq
    · rw [← ECnt_no c]; exact ih (k + 1) (by omega) (by omega)
    · rw [← ECnt_yes c]; exact ih (k + 1) (by omega) (by omega)
theorem cnt_5 {f : Nat → Int32} {v : Int32} {ne : Nat} {Qx : Int32 → Prop} (hne : ne ≤ 300) (hq : Qx (ECnt f v ne)) : ∀ (n k : Nat), ne + 1 ≤ k + n → k ≤ ne → Events_countIn_5_L5 v f (Int32.ofNat ne) Qx n (ECnt f v k) (Int32.ofNat (k + 1)) := by
  intro n
  induction n with
  | zero => intro k g1 g2; omega
  | succ n ih =>
    intro k g1 g2
    unfold Events_countIn_5_L5
    rw [i3_lt (by omega) (by omega), i3_nat (by omega), i3_succ]
    refine ⟨fun h => ?_, fun h => ⟨i3_in (by omega) (by omega), fun c => ?_, fun c => ?_⟩⟩
    · rw [show k = ne by omega]; exact hq
    · rw [← ECnt_no c]; exact ih (k + 1) (by omega) (by omega)
    · rw [← ECnt_yes c]; exact ih (k + 1) (by omega) (by omega)
theorem cnt_2 {f : Nat → Int32} {v : Int32} {ne : Nat} {Qx : Int32 → Prop} (hne : ne ≤ 300) (hq : Qx (ECnt f v ne)) : ∀ (n k : Nat), ne + 1 ≤ k + n → k ≤ ne → Events_countIn_2_L5 v f (Int32.ofNat ne) Qx n (ECnt f v k) (Int32.ofNat (k + 1)) := by
  intro n
  induction n with
  | zero => intro k g1 g2; omega
  | succ n ih =>
    intro k g1 g2
    unfold Events_countIn_2_L5
    rw [i3_lt (by omega) (by omega), i3_nat (by omega), i3_succ]
    refine ⟨fun h => ?_, fun h => ⟨i3_in (by omega) (by omega), fun c => ?_, fun c => ?_⟩⟩
    · rw [show k = ne by omega]; exact hq
    · rw [← ECnt_no c]; exact ih (k + 1) (by omega) (by omega)
    · rw [← ECnt_yes c]; exact ih (k + 1) (by omega) (by omega)
theorem cnt_4 {f : Nat → Int32} {v : Int32} {ne : Nat} {Qx : Int32 → Prop} (hne : ne ≤ 300) (hq : Qx (ECnt f v ne)) : ∀ (n k : Nat), ne + 1 ≤ k + n → k ≤ ne → Events_countIn_4_L5 v f (Int32.ofNat ne) Qx n (ECnt f v k) (Int32.ofNat (k + 1)) := by
  intro n
  induction n with
  | zero => intro k g1 g2; omega
  | succ n ih =>
    intro k g1 g2
    unfold Events_countIn_4_L5
    rw [i3_lt (by omega) (by omega), i3_nat (by omega), i3_succ]
    refine ⟨fun h => ?_, fun h => ⟨i3_in (by omega) (by omega), fun c => ?_, fun c => ?_⟩⟩
    · rw [show k = ne by omega]; exact hq
    · rw [← ECnt_no c]; exact ih (k + 1) (by omega) (by omega)
    · rw [← ECnt_yes c]; exact ih (k + 1) (by omega) (by omega)
theorem cnt_M {msrc mitm mknd mplc f : Nat → Int32} {a v : Int32} {ne : Nat} {Qx : Int32 → Prop} (hf : (a = 0 ∧ f = mitm) ∨ (a = 1 ∧ f = mplc) ∨ (a = 2 ∧ f = msrc) ∨ (a = 3 ∧ f = mknd)) (hne : ne ≤ 300) (hq : Qx (ECnt f v ne)) : ∀ (n k : Nat), ne + 1 ≤ k + n → k ≤ ne → M_ask_L33 a v (Int32.ofNat ne) msrc mitm mknd mplc Qx n (ECnt f v k) (Int32.ofNat (k + 1)) := by
  intro n
  induction n with
  | zero => intro k g1 g2; omega
  | succ n ih =>
    intro k g1 g2
    unfold M_ask_L33
    rw [i3_lt (by omega) (by omega), i3_nat (by omega), i3_succ]
    refine ⟨fun h => by rw [show k = ne by omega]; exact hq, fun h => ?_⟩
    have hv : vp_in (Int32.ofNat (k + 1)) 301 := i3_in (by omega) (by omega)
    have no : ¬ f (k + 1) = v → M_ask_L33 a v (Int32.ofNat ne) msrc mitm mknd mplc Qx n (ECnt f v k) (Int32.ofNat (k + 1 + 1)) := fun c => by rw [← ECnt_no c]; exact ih (k + 1) (by omega) (by omega)
    have ys : f (k + 1) = v → M_ask_L33 a v (Int32.ofNat ne) msrc mitm mknd mplc Qx n (ECnt f v k + 1) (Int32.ofNat (k + 1 + 1)) := fun c => by rw [← ECnt_yes c]; exact ih (k + 1) (by omega) (by omega)
    rcases hf with ⟨rfl, rfl⟩ | ⟨rfl, rfl⟩ | ⟨rfl, rfl⟩ | ⟨rfl, rfl⟩
    · exact ⟨fun c => absurd rfl c, fun _ => ⟨hv, no, ys⟩⟩
    · exact ⟨fun _ => ⟨fun c => absurd rfl c, fun _ => ⟨hv, no, ys⟩⟩, fun c => absurd c (by decide)⟩
    · exact ⟨fun _ => ⟨fun _ => ⟨fun c => absurd rfl c, fun _ => ⟨hv, no, ys⟩⟩, fun c => absurd c (by decide)⟩, fun c => absurd c (by decide)⟩
    · exact ⟨fun _ => ⟨fun _ => ⟨fun _ => ⟨hv, no, ys⟩, fun c => absurd c (by decide)⟩, fun c => absurd c (by decide)⟩, fun c => absurd c (by decide)⟩
theorem M_ask_of {mth a v : Int32} {msrc mitm mknd mplc f : Nat → Int32} {ne : Nat} {Qr : Int32 → Int32 → Prop} (hf : (a = 0 ∧ f = mitm) ∨ (a = 1 ∧ f = mplc) ∨ (a = 2 ∧ f = msrc) ∨ (a = 3 ∧ f = mknd)) (hne : ne ≤ 300) (hq : Qr (ECnt f v ne) 0) : M_ask_wp mth (Int32.ofNat ne) msrc mitm mknd mplc a v Qr := by
  unfold M_ask_wp M_ask_B18
  have ha : 0 ≤ a.toInt ∧ a.toInt ≤ 3 := by rcases hf with ⟨rfl, -⟩ | ⟨rfl, -⟩ | ⟨rfl, -⟩ | ⟨rfl, -⟩ <;> decide
  refine M_within_of (fun _ _ => ⟨fun _ => M_refused_0 ⟨fun _ => ⟨ne + 1, cnt_M hf hne hq (ne + 1) 0 (by omega) (by omega)⟩, fun g => absurd rfl g⟩, fun g => absurd g (by decide)⟩) (fun q => absurd ⟨?_, ?_⟩ q)
  · rw [w64]; exact ha.1
  · rw [w64]; exact ha.2
theorem M_ask_no {mth a v : Int32} {msrc mitm mknd mplc : Nat → Int32} {mec : Int32} {Qr : Int32 → Int32 → Prop} (hf : ¬ (0 ≤ a.toInt ∧ a.toInt ≤ 3)) (hq : Qr 0 1) : M_ask_wp mth mec msrc mitm mknd mplc a v Qr := by
  unfold M_ask_wp M_ask_B18
  exact M_within_of (fun q1 q2 => absurd ⟨by rw [w64] at q1; exact q1, by rw [w64] at q2; exact q2⟩ hf) (fun _ => ⟨fun g => absurd rfl g, fun _ => M_refused_1 ⟨fun g => absurd g (by decide), fun _ => hq⟩⟩)
set_option maxHeartbeats 1000000 in
theorem LC_11_pure (L : Nat) (xs : Nat → Int32) : ∀ (i : Int32) (sc : Int32) (sd : Int32) (src : (Nat → Int32)) (itm : (Nat → Int32)) (knd : (Nat → Int32)) (plc : (Nat → Int32)) (clk : (Nat → Int64)) (ec : Int32) (nf : (Nat → Int32)) (ns : (Nat → Int32)) (nc : Int32) (wt : (Nat → Nat → Int64)) (bd : (Nat → Nat → Int64)) (off : (Nat → Int64)) (row : (Nat → Int32)) (hw : (Nat → Nat → Int64)) (rl : Int32) (tm : (Nat → Int64)) (ord : (Nat → Int32)) (tc : Int32) (mth : Int32) (msc : Int32) (mec : Int32) (msrc : (Nat → Int32)) (mitm : (Nat → Int32)) (mknd : (Nat → Int32)) (mplc : (Nat → Int32)) (mclk : (Nat → Int64)) (mnc : Int32) (mnf : (Nat → Int32)) (mns : (Nat → Int32)) (msd : Int32) (mrl : Int32) (mrow : (Nat → Int32)) (mw : (Nat → Int64)) (mb : (Nat → Int64)) (mway : (Nat → Int64)) (moff : (Nat → Int64)) (out : Nat → Int64), LRange L i → EInv sc sd src itm knd plc clk ec nf ns nc wt bd off row hw rl tm ord tc mth msc mec msrc mitm mknd mplc mclk mnc mnf mns msd mrl mrow mw mb mway moff out → LC_11 L xs i EInv sc sd src itm knd plc clk ec nf ns nc wt bd off row hw rl tm ord tc mth msc mec msrc mitm mknd mplc mclk mnc mnf mns msd mrl mrow mw mb mway moff out := by
  intro i sc sd src itm knd plc clk ec nf ns nc wt bd off row hw rl tm ord tc mth msc mec msrc mitm mknd mplc mclk mnc mnf mns msd mrl mrow mw mb mway moff out hrg hinv
  obtain ⟨⟨rfl, rfl, rfl, rfl, rfl, rfl, rfl, rfl, rfl, rfl, rfl, rfl⟩, hsd, hring, n, ne, nn, ⟨hn, hne, hnn, rfl, rfl, rfl, hev, hnd⟩, hset⟩ := hinv
  unfold LC_11
  unfold L_ask_wp X_ask_wp M_thrown_wp
  refine ⟨hrg.2.1, hrg.2.2.1, ?_⟩
  generalize (xs (i + 1).toNatClampNeg) = a1
  generalize (xs (i + 2).toNatClampNeg) = a2
  refine ⟨fun c => ⟨ne + 1, cnt_3 hne ⟨hrg.2.1, hrg.2.2.1, M_ask_of (Or.inl ⟨c, rfl⟩) hne (LFin rfl (fun _ => updL0 out _) ⟨⟨rfl, rfl, rfl, rfl, rfl, rfl, rfl, rfl, rfl, rfl, rfl, rfl⟩, hsd, hring, n, ne, nn, ⟨hn, hne, hnn, rfl, rfl, rfl, hev, hnd⟩, hset⟩)⟩ (ne + 1) 0 (by omega) (by omega)⟩, fun d0 => ⟨fun c => ⟨ne + 1, cnt_5 hne ⟨hrg.2.1, hrg.2.2.1, M_ask_of (Or.inr (Or.inl ⟨c, rfl⟩)) hne (LFin rfl (fun _ => updL0 out _) ⟨⟨rfl, rfl, rfl, rfl, rfl, rfl, rfl, rfl, rfl, rfl, rfl, rfl⟩, hsd, hring, n, ne, nn, ⟨hn, hne, hnn, rfl, rfl, rfl, hev, hnd⟩, hset⟩)⟩ (ne + 1) 0 (by omega) (by omega)⟩, fun d1 => ⟨fun c => ⟨ne + 1, cnt_2 hne ⟨hrg.2.1, hrg.2.2.1, M_ask_of (Or.inr (Or.inr (Or.inl ⟨c, rfl⟩))) hne (LFin rfl (fun _ => updL0 out _) ⟨⟨rfl, rfl, rfl, rfl, rfl, rfl, rfl, rfl, rfl, rfl, rfl, rfl⟩, hsd, hring, n, ne, nn, ⟨hn, hne, hnn, rfl, rfl, rfl, hev, hnd⟩, hset⟩)⟩ (ne + 1) 0 (by omega) (by omega)⟩, fun d2 => ⟨fun c => ⟨ne + 1, cnt_4 hne ⟨hrg.2.1, hrg.2.2.1, M_ask_of (Or.inr (Or.inr (Or.inr ⟨c, rfl⟩))) hne (LFin rfl (fun _ => updL0 out _) ⟨⟨rfl, rfl, rfl, rfl, rfl, rfl, rfl, rfl, rfl, rfl, rfl, rfl⟩, hsd, hring, n, ne, nn, ⟨hn, hne, hnn, rfl, rfl, rfl, hev, hnd⟩, hset⟩)⟩ (ne + 1) 0 (by omega) (by omega)⟩, fun d3 => ⟨fun _ => ⟨hrg.2.1, hrg.2.2.1, M_ask_no (fun q => ?_) (LFin rfl (fun h9 => absurd h9 (by decide)) ⟨⟨rfl, rfl, rfl, rfl, rfl, rfl, rfl, rfl, rfl, rfl, rfl, rfl⟩, hsd, hring, n, ne, nn, ⟨hn, hne, hnn, rfl, rfl, rfl, hev, hnd⟩, hset⟩)⟩, fun k => absurd rfl k⟩⟩⟩⟩⟩
  rw [eq32] at d0 d1 d2 d3
  have c0 : (0 : Int32).toInt = 0 := rfl
  have c1 : (1 : Int32).toInt = 1 := rfl
  have c2 : (2 : Int32).toInt = 2 := rfl
  have c3 : (3 : Int32).toInt = 3 := rfl
  omega
