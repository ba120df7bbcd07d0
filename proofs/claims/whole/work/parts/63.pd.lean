/-! the weights -/
theorem up_same {w : Nat → Nat → Int64} {i : Nat} {f : Nat → Int64} : va_up w i f i = f := va_up_self w i f
theorem up_other {w : Nat → Nat → Int64} {i j : Nat} {f : Nat → Int64} (h : j ≠ i) : va_up w i f j = w j := va_up_ne w f h
theorem up_at {w : Nat → Nat → Int64} {i j x y : Nat} {v : Int64} : va_up w i (vp_updL (w i) j v) x y = if x = i ∧ y = j then v else w x y := by
  by_cases h : x = i
  · subst h
    rw [up_same]
    by_cases g : y = j
    · subst g; rw [updL_same, if_pos ⟨rfl, rfl⟩]
    · rw [updL_other _ _ g, if_neg (fun q => g q.2)]
  · rw [up_other h, if_neg (fun q => h q.1)]
def Egap (clk : Nat → Int64) (nf ns : Nat → Int32) (i : Nat) : Int64 := (clk (ns i).toNatClampNeg - clk (nf i).toNatClampNeg) - 1
def Ew (src : Nat → Int32) (clk : Nat → Int64) (nf ns : Nat → Int32) : Nat → Nat → Nat → Int64
  | 0, _, _ => far
  | i + 1, a, b => if a = (src (nf i).toNatClampNeg).toNatClampNeg ∧ b = (src (ns i).toNatClampNeg).toNatClampNeg then (if Egap clk nf ns i < Ew src clk nf ns i a b then Egap clk nf ns i else Ew src clk nf ns i a b) else Ew src clk nf ns i a b
section WEIGH
variable {n ne nn : Nat} {src : Nat → Int32} {clk : Nat → Int64} {nf ns : Nat → Int32}
/-- what is known of events and needs -/
def EEv (n ne nn : Nat) (src : Nat → Int32) (clk : Nat → Int64) (nf ns : Nat → Int32) : Prop := n ≤ 16 ∧ ne ≤ 300 ∧ nn ≤ 300 ∧ (∀ e, 1 ≤ e → e ≤ ne → (0 ≤ (src e).toInt ∧ (src e).toInt < n) ∧ (-1000000000 ≤ (clk e).toInt ∧ (clk e).toInt ≤ 1000000000)) ∧ (∀ i, i < nn → (1 ≤ (nf i).toInt ∧ (nf i).toInt ≤ ne) ∧ (1 ≤ (ns i).toInt ∧ (ns i).toInt ≤ ne))
theorem EEv.at (h : EEv n ne nn src clk nf ns) {i : Nat} (hi : i < nn) : vp_in (nf i) 301 ∧ vp_in (ns i) 301 ∧ (0 ≤ (src (nf i).toNatClampNeg).toInt ∧ (src (nf i).toNatClampNeg).toInt < n) ∧ (0 ≤ (src (ns i).toNatClampNeg).toInt ∧ (src (ns i).toNatClampNeg).toInt < n) ∧ -2000000001 ≤ (Egap clk nf ns i).toInt ∧ (Egap clk nf ns i).toInt ≤ 2000000001 := by
  obtain ⟨h1, h2, h3, h4, h5⟩ := h
  obtain ⟨⟨a1, a2⟩, b1, b2⟩ := h5 i hi
  have ef : (nf i).toNatClampNeg = (nf i).toInt.toNat := rfl
  have es : (ns i).toNatClampNeg = (ns i).toInt.toNat := rfl
  obtain ⟨f1, f2, f3⟩ := h4 (nf i).toNatClampNeg (by omega) (by omega)
  obtain ⟨s1, s2, s3⟩ := h4 (ns i).toNatClampNeg (by omega) (by omega)
  refine ⟨in_iff.mpr (by omega), in_iff.mpr (by omega), f1, s1, ?_⟩
  unfold Egap
  have c1 : (1 : Int64).toInt = 1 := rfl
  have e1 : (clk (ns i).toNatClampNeg - clk (nf i).toNatClampNeg).toInt = (clk (ns i).toNatClampNeg).toInt - (clk (nf i).toNatClampNeg).toInt := sub64 (by omega) (by omega)
  have e2 : (clk (ns i).toNatClampNeg - clk (nf i).toNatClampNeg - 1).toInt = (clk (ns i).toNatClampNeg - clk (nf i).toNatClampNeg).toInt - 1 := by
    rw [sub64] <;> rw [c1] <;> omega
  omega
theorem Ew.graph (h : EEv n ne nn src clk nf ns) : ∀ i, i ≤ nn → GW n (Ew src clk nf ns i) := by
  intro i
  induction i with
  | zero => intro _; exact ⟨h.1, fun a c hc => absurd rfl hc⟩
  | succ i ih =>
    intro hi
    refine ⟨h.1, fun a c hc => ?_⟩
    obtain ⟨-, -, ⟨f1, f2⟩, ⟨s1, s2⟩, g1, g2⟩ := h.at (i := i) (by omega)
    unfold Ew at hc ⊢
    by_cases e : a = (src (nf i).toNatClampNeg).toNatClampNeg ∧ c = (src (ns i).toNatClampNeg).toNatClampNeg
    · rw [if_pos e] at hc ⊢
      obtain ⟨ea, eb⟩ := e
      have ea' : a = (src (nf i).toNatClampNeg).toInt.toNat := ea
      have eb' : c = (src (ns i).toNatClampNeg).toInt.toNat := eb
      by_cases q : Egap clk nf ns i < Ew src clk nf ns i a c
      · rw [if_pos q] at hc ⊢
        exact ⟨by omega, by omega, g1, g2⟩
      · rw [if_neg q] at hc ⊢
        exact (ih (by omega)).2 a c hc
    · rw [if_neg e] at hc ⊢
      exact (ih (by omega)).2 a c hc
theorem wi12 {a : Nat} {w0 : Nat → Nat → Int64} {Qx : (Nat → Nat → Int64) → Prop} (hn : n ≤ 16) (ha : a < n) (hq : ∀ wt', (∀ y, y < n → wt' a y = far) → (∀ x, x ≠ a → wt' x = w0 x) → Qx wt') : ∀ (m j : Nat) (wt : Nat → Nat → Int64), n + 1 ≤ j + m → j ≤ n → (∀ y, y < j → wt a y = far) → (∀ x, x ≠ a → wt x = w0 x) → Limits_weigh_1_7_L12 (Int32.ofNat n) (Int32.ofNat a) Qx m (Int32.ofNat j) wt := by
  intro m
  induction m with
  | zero => intro j wt g1 g2; omega
  | succ m ih =>
    intro j wt g1 g2 g3 g4
    unfold Limits_weigh_1_7_L12
    rw [i3_le (by omega) (by omega), i3_nat (by omega), i3_nat (by omega), i3_succ]
    refine ⟨fun h => hq wt (fun y hy => g3 y (by omega)) g4, fun h => ⟨i3_in (by omega) (by omega), i3_in (by omega) (by omega), ih (j + 1) _ (by omega) (by omega) (fun y hy => ?_) (fun x hx => ?_)⟩⟩
    · rw [up_at]
      by_cases e : y = j
      · rw [if_pos ⟨rfl, e⟩]
      · rw [if_neg (fun q => e q.2)]; exact g3 y (by omega)
    · rw [up_other hx]; exact g4 x hx
theorem wi3 {Qx : (Nat → Nat → Int64) → Prop} (hn : n ≤ 16) (hq : ∀ wt', (∀ x y, x < n → y < n → wt' x y = far) → Qx wt') : ∀ (m a : Nat) (wt : Nat → Nat → Int64), n + 1 ≤ a + m → a ≤ n → (∀ x y, x < a → y < n → wt x y = far) → Limits_weigh_1_7_L3 (Int32.ofNat n) Qx m (Int32.ofNat a) wt := by
  intro m
  induction m with
  | zero => intro a wt g1 g2; omega
  | succ m ih =>
    intro a wt g1 g2 g3
    unfold Limits_weigh_1_7_L3
    rw [i3_le (by omega) (by omega), i3_succ]
    refine ⟨fun h => hq wt (fun x y hx hy => g3 x y (by omega) hy), fun h => ⟨n + 1, wi12 (w0 := wt) hn (by omega) (fun wt' e1 e2 => ih (a + 1) wt' (by omega) (by omega) (fun x y hx hy => ?_)) (n + 1) 0 wt (by omega) (by omega) (fun y hy => by omega) (fun x _ => rfl)⟩⟩
    by_cases e : x = a
    · subst e; exact e1 y hy
    · rw [e2 x e]; exact g3 x y (by omega) hy
theorem wi46 {Qx : (Nat → Nat → Int64) → Prop} (h : EEv n ne nn src clk nf ns) (hq : ∀ wt', (∀ x y, x < n → y < n → wt' x y = Ew src clk nf ns nn x y) → Qx wt') : ∀ (m i : Nat) (wt : Nat → Nat → Int64), nn + 1 ≤ i + m → i ≤ nn → (∀ x y, x < n → y < n → wt x y = Ew src clk nf ns i x y) → Limits_weigh_1_7_L46 src clk nf ns (Int32.ofNat nn) Qx m (Int32.ofNat i) wt := by
  have hn := h.1
  have hnn := h.2.2.1
  intro m
  induction m with
  | zero => intro i wt g1 g2; omega
  | succ m ih =>
    intro i wt g1 g2 g3
    unfold Limits_weigh_1_7_L46
    rw [i3_le (by omega) (by omega), i3_nat (by omega), i3_succ]
    refine ⟨fun h => hq wt (by rw [show nn = i by omega]; exact g3), fun hlt => ?_⟩
    obtain ⟨vf, vs, f1, s1, -, -⟩ := h.at (i := i) (by omega)
    have vi : vp_in (Int32.ofNat i) 300 := i3_in (by omega) (by omega)
    have w1 : vp_in (src (nf i).toNatClampNeg) 16 := in_iff.mpr (by omega)
    have w2 : vp_in (src (ns i).toNatClampNeg) 16 := in_iff.mpr (by omega)
    refine ⟨vi, vi, vf, vs, vs, vf, w1, w1, w2, w2, ih (i + 1) _ (by omega) (by omega) (fun x y hx hy => ?_)⟩
    have hA : (src (nf i).toNatClampNeg).toNatClampNeg < n := by rw [nat32 (src _)]; omega
    have hB : (src (ns i).toNatClampNeg).toNatClampNeg < n := by rw [nat32 (src _)]; omega
    rw [up_at]
    unfold Ew
    by_cases e : x = (src (nf i).toNatClampNeg).toNatClampNeg ∧ y = (src (ns i).toNatClampNeg).toNatClampNeg
    · rw [if_pos e, if_pos e, g3 _ _ hA hB, e.1, e.2]
      rfl
    · rw [if_neg e, if_neg e]
      exact g3 x y hx hy
theorem weigh_of {wt : Nat → Nat → Int64} {Qr : (Nat → Nat → Int64) → Prop} (h : EEv n ne nn src clk nf ns) (hq : ∀ wt', (∀ x y, x < n → y < n → wt' x y = Ew src clk nf ns nn x y) → Qr wt') : Limits_weigh_1_7_wp src clk nf ns (Int32.ofNat nn) wt (Int32.ofNat n) Qr :=
  ⟨n + 1, wi3 h.1 (fun wt' e => ⟨nn + 1, wi46 h (fun wt'' e2 => hq wt'' e2) (nn + 1) 0 wt' (by omega) (by omega) e⟩) (n + 1) 0 wt (by omega) (by omega) (fun x y hx => by omega)⟩
theorem mwi2 {Qx : (Nat → Int64) → Prop} (hq : ∀ mw', (∀ x, x < 256 → mw' x = far) → Qx mw') : ∀ (m k : Nat) (mw : Nat → Int64), 257 ≤ k + m → k ≤ 256 → (∀ x, x < k → mw x = far) → M_weigh_L2 Qx m (Int32.ofNat k) mw := by
  intro m
  induction m with
  | zero => intro k mw g1 g2; omega
  | succ m ih =>
    intro k mw g1 g2 g3
    unfold M_weigh_L2
    rw [show (256 : Int32) = Int32.ofNat 256 from rfl, i3_le (by omega) (by omega), i3_nat (by omega), i3_succ]
    refine ⟨fun h => hq mw (fun x hx => g3 x (by omega)), fun h => ⟨i3_in (by omega) (by omega), ih (k + 1) _ (by omega) (by omega) (fun x hx => ?_)⟩⟩
    by_cases e : x = k
    · subst e; exact updL_same _ _ _
    · rw [updL_other _ _ e]; exact g3 x (by omega)
theorem at16 {n : Nat} {a b : Int32} (hn : n ≤ 16) (ha : 0 ≤ a.toInt ∧ a.toInt < n) (hb : 0 ≤ b.toInt ∧ b.toInt < n) : (16 * a + b).toNatClampNeg = 16 * a.toNatClampNeg + b.toNatClampNeg ∧ vp_in (16 * a + b) 256 := by
  have e := b16 hn ha.1 ha.2 hb.1 hb.2
  have e1 : (16 * a + b).toNatClampNeg = (16 * a + b).toInt.toNat := rfl
  have e2 : a.toNatClampNeg = a.toInt.toNat := rfl
  have e3 : b.toNatClampNeg = b.toInt.toNat := rfl
  exact ⟨by omega, in_iff.mpr (by omega)⟩
theorem mwi26 {Qx : (Nat → Int64) → Prop} (h : EEv n ne nn src clk nf ns) (hq : ∀ mw', (∀ x y, x < 16 → y < 16 → mw' (16 * x + y) = Ew src clk nf ns nn x y) → Qx mw') : ∀ (m i : Nat) (mw : Nat → Int64), nn + 1 ≤ i + m → i ≤ nn → (∀ x y, x < 16 → y < 16 → mw (16 * x + y) = Ew src clk nf ns i x y) → M_weigh_L26 src clk (Int32.ofNat nn) nf ns Qx m (Int32.ofNat i) mw := by
  have hn := h.1
  have hnn := h.2.2.1
  intro m
  induction m with
  | zero => intro i wt g1 g2; omega
  | succ m ih =>
    intro i mw g1 g2 g3
    unfold M_weigh_L26
    rw [i3_le (by omega) (by omega), i3_nat (by omega), i3_succ]
    refine ⟨fun h => hq mw (by rw [show nn = i by omega]; exact g3), fun hlt => ?_⟩
    obtain ⟨vf, vs, f1, s1, -, -⟩ := h.at (i := i) (by omega)
    have vi : vp_in (Int32.ofNat i) 300 := i3_in (by omega) (by omega)
    obtain ⟨ea, va⟩ := at16 hn f1 s1
    have hA : (src (nf i).toNatClampNeg).toNatClampNeg < n := by rw [nat32 (src _)]; omega
    have hB : (src (ns i).toNatClampNeg).toNatClampNeg < n := by rw [nat32 (src _)]; omega
    rw [ea]
    have old := g3 _ _ (show (src (nf i).toNatClampNeg).toNatClampNeg < 16 by omega) (show (src (ns i).toNatClampNeg).toNatClampNeg < 16 by omega)
    have key : ∀ v : Int64, v = (if Egap clk nf ns i < mw (16 * (src (nf i).toNatClampNeg).toNatClampNeg + (src (ns i).toNatClampNeg).toNatClampNeg) then Egap clk nf ns i else mw (16 * (src (nf i).toNatClampNeg).toNatClampNeg + (src (ns i).toNatClampNeg).toNatClampNeg)) → M_weigh_L26 src clk (Int32.ofNat nn) nf ns Qx m (Int32.ofNat (i + 1)) (vp_updL mw (16 * (src (nf i).toNatClampNeg).toNatClampNeg + (src (ns i).toNatClampNeg).toNatClampNeg) v) := fun v hv => by
      refine ih (i + 1) _ (by omega) (by omega) (fun x y hx hy => ?_)
      unfold Ew
      by_cases e : x = (src (nf i).toNatClampNeg).toNatClampNeg ∧ y = (src (ns i).toNatClampNeg).toNatClampNeg
      · rw [if_pos e, e.1, e.2, updL_same, hv, old]
      · rw [if_neg e, updL_other _ _ (fun q => e (by omega))]
        exact g3 x y hx hy
    refine ⟨vi, vf, vi, vs, vi, vs, vi, vf, va, fun c => ⟨va, va, key _ ?_⟩, fun c => ⟨va, key _ ?_⟩⟩
    · rw [if_neg (fun q => ?_)]
      rw [le64] at c
      rw [lt64] at q
      have c : _ ≤ (Egap clk nf ns i).toInt := c
      omega
    · rw [if_pos (show Egap clk nf ns i < _ from ?_)]
      · rfl
      · rw [le64] at c
        rw [lt64]
        have c : ¬ _ ≤ (Egap clk nf ns i).toInt := c
        omega
theorem mweigh_of {mw : Nat → Int64} {Qr : (Nat → Int64) → Prop} (h : EEv n ne nn src clk nf ns) (hq : ∀ mw', (∀ x y, x < 16 → y < 16 → mw' (16 * x + y) = Ew src clk nf ns nn x y) → Qr mw') : M_weigh_wp src clk (Int32.ofNat nn) nf ns mw Qr :=
  ⟨257, mwi2 (fun mw' e => ⟨nn + 1, mwi26 h (fun mw'' e2 => hq mw'' e2) (nn + 1) 0 mw' (by omega) (by omega) (fun x y hx hy => e _ (by omega))⟩) 257 0 mw (by omega) (by omega) (fun x hx => by omega)⟩
end WEIGH
