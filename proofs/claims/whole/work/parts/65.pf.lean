/-! the class's ring -/
def NegAt (w : Nat → Nat → Int64) (k s : Nat) : Prop := ∃ x, Wk w k s s x ∧ x < 0
def OnP (w : Nat → Nat → Int64) (start : Nat) (sum : Int) (a k c : Nat) : Prop := w a c ≠ far ∧ ∃ y, Wk w k c start y ∧ sum + (w a c).toInt + y < 0
def Chain (w : Nat → Nat → Int64) (size start : Nat) (r : Nat → Nat) (m : Nat) : Prop := r 0 = start ∧ ∀ j, 1 ≤ j → j < m → OnP w start (Psm w r 0 (j - 1)) (r (j - 1)) (size - j) (r j) ∧ ∀ t, t < r j → ¬ OnP w start (Psm w r 0 (j - 1)) (r (j - 1)) (size - j) t
theorem Psm.congr {w : Nat → Nat → Int64} {f g : Nat → Nat} : ∀ {m : Nat}, (∀ i, i ≤ m → f i = g i) → Psm w f 0 m = Psm w g 0 m := by
  intro m
  induction m with
  | zero => intro _; rfl
  | succ m ih =>
    intro h
    show Psm w f 0 m + (w (f (0 + m)) (f (0 + m + 1))).toInt = Psm w g 0 m + (w (g (0 + m)) (g (0 + m + 1))).toInt
    rw [ih (fun i hi => h i (by omega)), h (0 + m) (by omega), h (0 + m + 1) (by omega)]
theorem Chain.uniq {w : Nat → Nat → Int64} {size start m : Nat} {r q : Nat → Nat} (h1 : Chain w size start r m) (h2 : Chain w size start q m) : ∀ j, j < m → r j = q j := by
  intro j
  induction j using Nat.strongRecOn with
  | ind j ih =>
    intro hj
    cases j with
    | zero => rw [h1.1, h2.1]
    | succ j =>
      have e1 : Psm w r 0 (j + 1 - 1) = Psm w q 0 (j + 1 - 1) := Psm.congr (fun i hi => ih i (by omega) (by omega))
      have e2 : r (j + 1 - 1) = q (j + 1 - 1) := ih _ (by omega) (by omega)
      obtain ⟨a1, a2⟩ := h1.2 (j + 1) (by omega) hj
      obtain ⟨b1, b2⟩ := h2.2 (j + 1) (by omega) hj
      rw [← e1, ← e2] at b1 b2
      rcases Nat.lt_trichotomy (r (j + 1)) (q (j + 1)) with g | g | g
      · exact absurd a1 (b2 _ g)
      · exact g
      · exact absurd b1 (a2 _ g)
def RF (w : Nat → Nat → Int64) (n k s0 : Nat) : Prop := 1 ≤ k ∧ k ≤ n ∧ s0 < n ∧ NegAt w k s0 ∧ (∀ j s, 1 ≤ j → j < k → ¬ NegAt w j s) ∧ ∀ s, s < s0 → ¬ NegAt w k s
theorem RF.uniq {w : Nat → Nat → Int64} {n k s k' s' : Nat} (h1 : RF w n k s) (h2 : RF w n k' s') : k = k' ∧ s = s' := by
  obtain ⟨a1, a2, a3, a4, a5, a6⟩ := h1
  obtain ⟨b1, b2, b3, b4, b5, b6⟩ := h2
  have e : k = k' := by
    rcases Nat.lt_trichotomy k k' with g | g | g
    · exact absurd a4 (b5 k s a1 g)
    · exact g
    · exact absurd b4 (a5 k' s' b1 g)
  subst e
  refine ⟨rfl, ?_⟩
  rcases Nat.lt_trichotomy s s' with g | g | g
  · exact absurd a4 (b6 s g)
  · exact g
  · exact absurd b4 (a6 s' g)
theorem OnP_iff {w : Nat → Nat → Int64} {start a k c : Nat} {sum : Int} {d : Int64} (h : Lst w k c start d) : OnP w start sum a k c ↔ w a c ≠ far ∧ d ≠ far ∧ sum + (w a c).toInt + d.toInt < 0 := by
  constructor
  · rintro ⟨h1, y, h2, h3⟩
    have hd : d ≠ far := fun e => (h.inf e) y h2
    have := (h.fin hd).2 y h2
    exact ⟨h1, hd, by omega⟩
  · rintro ⟨h1, h2, h3⟩
    exact ⟨h1, _, (h.fin h2).1, h3⟩
section RING
variable {w wt : Nat → Nat → Int64} {n : Nat}
theorem lt7 {hw : Nat → Nat → Int64} {s k g1 start : Nat} {Qx : Int64 → Prop} (hG : GW n w) (ht : ∀ x y, x < n → y < n → wt x y = w x y) (hs : s < n) (hk : k ≤ 300) (hr : ∀ c, c < n → Lst w k c start (hw g1 c)) (hq : ∀ d, Lst w (k + 1) s start d → Qx d) : ∀ (m c : Nat) (d : Int64), n + 1 ≤ c + m → c ≤ n → LstTo w k s start c d → Ring_leastThroughNext_wt_hw_L7 (Int32.ofNat n) s g1 wt hw Qx m d (Int32.ofNat c) := by
  have hn := hG.1
  intro m
  induction m with
  | zero => intro c d g1 g2; omega
  | succ m ih =>
    intro c d g1 g2 g3
    unfold Ring_leastThroughNext_wt_hw_L7
    rw [i3_le (by omega) (by omega), i3_nat (by omega), i3_succ]
    refine ⟨fun h => hq d (LstTo.all hG (by omega) g3), fun h => ?_⟩
    have hc : c < n := by omega
    have vc : vp_in (Int32.ofNat c) 16 := i3_in (by omega) (by omega)
    rw [ht s c hs hc]
    refine ⟨vc, fun e => ih (c + 1) d (by omega) (by omega) (g3.skip (Or.inl e)), fun e => ⟨vc, fun e2 => ih (c + 1) d (by omega) (by omega) (g3.skip (Or.inr ((hr c hc).inf e2))), fun e2 => ⟨vc, vc, ih (c + 1) _ (by omega) (by omega) (g3.take hG hk (hr c hc) e e2)⟩⟩⟩
theorem lt_of {hw : Nat → Nat → Int64} {s k g1 start : Nat} {Qr : Int64 → Unit → Prop} (hG : GW n w) (ht : ∀ x y, x < n → y < n → wt x y = w x y) (hs : s < n) (hk : k ≤ 300) (hr : ∀ c, c < n → Lst w k c start (hw g1 c)) (hq : ∀ d, Lst w (k + 1) s start d → Qr d ()) : Ring_leastThroughNext_wt_hw_wp wt hw s g1 (Int32.ofNat n) Qr :=
  ⟨n + 1, lt7 hG ht hs hk hr hq (n + 1) 0 far (by omega) (by omega) LstTo.zero⟩
theorem sb3 {start limit : Int32} {Qx : (Nat → Nat → Int64) → Prop} (hn : n ≤ 16) (hq : ∀ hw, (∀ s, s < n → hw 0 s = far) → Qx hw) : ∀ (m s : Nat) (hw : Nat → Nat → Int64), n + 1 ≤ s + m → s ≤ n → (∀ x, x < s → hw 0 x = far) → Ring_stepsBack_11_L3 start limit (Int32.ofNat n) Qx m (Int32.ofNat s) hw := by
  intro m
  induction m with
  | zero => intro s hw g1 g2; omega
  | succ m ih =>
    intro s hw g1 g2 g3
    unfold Ring_stepsBack_11_L3
    rw [i3_le (by omega) (by omega), i3_nat (by omega), i3_succ, show (0 : Int32).toNatClampNeg = 0 from rfl]
    refine ⟨fun h => hq hw (fun x hx => g3 x (by omega)), fun h => ⟨by unfold vp_in; decide, i3_in (by omega) (by omega), ih (s + 1) _ (by omega) (by omega) (fun x hx => ?_)⟩⟩
    rw [up_at]
    by_cases e : x = s
    · rw [if_pos ⟨rfl, e⟩]
    · rw [if_neg (fun q => e q.2)]; exact g3 x (by omega)
theorem sb48 {start k : Nat} {st li : Int32} {Qx : (Nat → Nat → Int64) → Prop} (hG : GW n w) (ht : ∀ x y, x < n → y < n → wt x y = w x y) (hk : 1 ≤ k) (hk2 : k ≤ 16) (hq : ∀ hw, (∀ j s, j ≤ k → s < n → Lst w j s start (hw j s)) → Qx hw) : ∀ (m s : Nat) (hw : Nat → Nat → Int64), n + 1 ≤ s + m → s ≤ n → (∀ j x, j < k → x < n → Lst w j x start (hw j x)) → (∀ x, x < s → Lst w k x start (hw k x)) → Ring_stepsBack_11_L48 st li (Int32.ofNat n) (Int32.ofNat k) wt Qx m (Int32.ofNat s) hw := by
  have hn := hG.1
  intro m
  induction m with
  | zero => intro s hw g1 g2; omega
  | succ m ih =>
    intro s hw g1 g2 g3 g4
    unfold Ring_stepsBack_11_L48
    have e1 : (Int32.ofNat k - 1).toInt = (k : Int) - 1 := by
      rw [i3_subI (by omega)] <;> rw [show (1 : Int32).toInt = 1 from rfl] <;> omega
    have e2 : (Int32.ofNat k - 1).toNatClampNeg = k - 1 := by rw [nat32, e1]; omega
    rw [i3_le (by omega) (by omega), i3_nat (by omega), i3_nat (by omega), i3_succ, e2]
    refine ⟨fun h => hq hw (fun j x hj hx => ?_), fun h => ⟨i3_in (by omega) (by omega), i3_in (by omega) (by omega), in_iff.mpr (by omega), ?_⟩⟩
    · by_cases e : j = k
      · subst e; exact g4 x (by omega)
      · exact g3 j x (by omega) hx
    · refine lt_of hG ht (show s < n by omega) (show k - 1 ≤ 300 by omega) (fun c hc => g3 (k - 1) c (by omega) hc) (fun d hd => ⟨i3_in (by omega) (by omega), ih (s + 1) _ (by omega) (by omega) (fun j x hj hx => ?_) (fun x hx => ?_)⟩)
      · rw [up_at, if_neg (fun q => by omega)]; exact g3 j x hj hx
      · rw [up_at]
        by_cases e : x = s
        · rw [if_pos ⟨rfl, e⟩, e]
          rw [show k - 1 + 1 = k by omega] at hd
          exact hd
        · rw [if_neg (fun q => e q.2)]; exact g4 x (by omega)
theorem sb39 {start limit : Nat} {Qr : Int32 → (Nat → Nat → Int64) → Prop} (hG : GW n w) (ht : ∀ x y, x < n → y < n → wt x y = w x y) (hs : start < n) (hl : limit ≤ 16) (h1 : ∀ k hw, 1 ≤ k → k ≤ limit → NegAt w k start → (∀ j, 1 ≤ j → j < k → ¬ NegAt w j start) → (∀ j s, j ≤ k → s < n → Lst w j s start (hw j s)) → Qr (Int32.ofNat k) hw) (h0 : ∀ hw, (∀ j, 1 ≤ j → j ≤ limit → ¬ NegAt w j start) → Qr 0 hw) : ∀ (m k : Nat) (hw : Nat → Nat → Int64), limit + 2 ≤ k + m → 1 ≤ k → k ≤ limit + 1 → (∀ j x, j < k → x < n → Lst w j x start (hw j x)) → (∀ j, 1 ≤ j → j < k → ¬ NegAt w j start) → Ring_stepsBack_11_L39 (Int32.ofNat start) (Int32.ofNat limit) (Int32.ofNat n) wt Qr (fun hw => Qr 0 hw) m (Int32.ofNat k) hw := by
  have hn := hG.1
  intro m
  induction m with
  | zero => intro k hw g1 g2 g3; omega
  | succ m ih =>
    intro k hw g1 g2 g3 g4 g5
    unfold Ring_stepsBack_11_L39
    rw [i3_lt (by omega) (by omega), i3_nat (by omega), i3_nat (by omega), i3_succ]
    refine ⟨fun h => h0 hw (fun j q1 q2 => g5 j q1 (by omega)), fun h => ⟨n + 1, sb48 hG ht g2 (by omega) (fun hw' hL => ⟨i3_in (by omega) (by omega), i3_in (by omega) (by omega), fun c => ?_, fun c => ?_⟩) (n + 1) 0 hw (by omega) (by omega) g4 (fun x hx => by omega)⟩⟩
    · refine ih (k + 1) hw' (by omega) (by omega) (by omega) (fun j x hj hx => hL j x (by omega) hx) (fun j q1 q2 hN => ?_)
      by_cases e : j = k
      · subst e
        have := (hL j start (Nat.le_refl _) hs).neg.mpr hN
        rw [le64] at c; rw [lt64] at this; omega
      · exact g5 j q1 (by omega) hN
    · refine h1 k hw' g2 (by omega) ((hL k start (Nat.le_refl _) hs).neg.mp ?_) g5 hL
      rw [le64] at c; rw [lt64]; omega
theorem sb_of {hw : Nat → Nat → Int64} {start limit : Nat} {Qr : Int32 → (Nat → Nat → Int64) → Prop} (hG : GW n w) (ht : ∀ x y, x < n → y < n → wt x y = w x y) (hs : start < n) (hl : limit ≤ 16) (h1 : ∀ k hw, 1 ≤ k → k ≤ limit → NegAt w k start → (∀ j, 1 ≤ j → j < k → ¬ NegAt w j start) → (∀ j s, j ≤ k → s < n → Lst w j s start (hw j s)) → Qr (Int32.ofNat k) hw) (h0 : ∀ hw, (∀ j, 1 ≤ j → j ≤ limit → ¬ NegAt w j start) → Qr 0 hw) : Ring_stepsBack_11_wp wt hw (Int32.ofNat start) (Int32.ofNat limit) (Int32.ofNat n) Qr := by
  have hn := hG.1
  refine ⟨n + 1, sb3 hn (fun hw' e => ?_) (n + 1) 0 hw (by omega) (by omega) (fun x hx => by omega)⟩
  refine ⟨by unfold vp_in; decide, i3_in (by omega) (by omega), limit + 1, ?_⟩
  rw [i3_nat (by omega), show (0 : Int32).toNatClampNeg = 0 from rfl]
  refine sb39 hG ht hs hl h1 h0 (limit + 1) 1 _ (by omega) (by omega) (by omega) (fun j x hj hx => ?_) (fun j q1 q2 => by omega)
  have ej : j = 0 := by omega
  subst ej
  have z := Lst.zero (w := w) x start
  rw [up_at]
  by_cases q : x = start
  · rw [if_pos ⟨rfl, q⟩]; rw [if_pos q] at z; exact z
  · rw [if_neg (fun r => q r.2), e x hx]; rw [if_neg q] at z; exact z
theorem Chain.path {size start m : Nat} {r : Nat → Nat} (h : Chain w size start r m) : ∀ j, j + 1 < m + 0 → w (r j) (r (j + 1)) ≠ far := fun j hj => ((h.2 (j + 1) (by omega) (by omega)).1).1
theorem Chain.sum (hG : GW n w) {size start m i : Nat} {r : Nat → Nat} (h : Chain w size start r m) (hi : i < m) : -(i * 2000000001 : Int) ≤ Psm w r 0 i ∧ Psm w r 0 i ≤ i * 2000000001 :=
  Wk.bound hG (Pth.walk (fun t q1 q2 => h.path t (by omega)))
/-- what lets the walk go on -/
theorem Chain.next {size start i : Nat} {r : Nat → Nat} {sum : Int} (hi : i < size) (hy : ∃ y, Wk w (size - i + 1) (r (i - 1)) start y ∧ sum + y < 0) : ∃ c, OnP w start sum (r (i - 1)) (size - i) c := by
  obtain ⟨y, ⟨c, z, h1, h2, rfl⟩, h3⟩ := hy
  exact ⟨c, h1, z, h2, by omega⟩
theorem ln3 {hw : Nat → Nat → Int64} {a k start : Nat} {s0 : Int64} {Qr : Int32 → Unit → Prop} (hG : GW n w) (ht : ∀ x y, x < n → y < n → wt x y = w x y) (ha : a < n) (hk : k ≤ 16) (hs : -(16 * 2000000001 : Int) ≤ s0.toInt ∧ s0.toInt ≤ 16 * 2000000001) (hL : ∀ c, c < n → Lst w k c start (hw k c)) (hex : ∃ c, OnP w start s0.toInt a k c) (hq : ∀ c, c < n → OnP w start s0.toInt a k c → (∀ t, t < c → ¬ OnP w start s0.toInt a k t) → Qr (Int32.ofNat c) ()) : ∀ (m c : Nat), n + 1 ≤ c + m → c ≤ n → (∀ t, t < c → ¬ OnP w start s0.toInt a k t) → Ring_leastNext_wt_hw_L3 s0 (Int32.ofNat n) a k wt hw Qr (Qr 0 ()) m (Int32.ofNat c) := by
  have hn := hG.1
  intro m
  induction m with
  | zero => intro c g1 g2; omega
  | succ m ih =>
    intro c g1 g2 g3
    unfold Ring_leastNext_wt_hw_L3
    rw [i3_le (by omega) (by omega), i3_nat (by omega), i3_succ]
    refine ⟨fun h => ?_, fun h => ?_⟩
    · obtain ⟨d, hd⟩ := hex
      exact absurd hd (g3 d (Nat.lt_of_lt_of_le (hG.2 a d hd.1).2.1 h))
    have hc : c < n := by omega
    have vc : vp_in (Int32.ofNat c) 16 := i3_in (by omega) (by omega)
    rw [ht a c ha hc]
    have nx : ¬ OnP w start s0.toInt a k c → Ring_leastNext_wt_hw_L3 s0 (Int32.ofNat n) a k wt hw Qr (Qr 0 ()) m (Int32.ofNat (c + 1)) := fun hno => ih (c + 1) (by omega) (by omega) (fun t q => by
      by_cases e : t = c
      · rw [e]; exact hno
      · exact g3 t (by omega))
    have iff := OnP_iff (a := a) (sum := s0.toInt) (hL c hc)
    refine ⟨vc, fun e => nx (fun q => q.1 e), fun e => ⟨vc, fun e2 => nx (fun q => (iff.mp q).2.1 e2), fun e2 => ?_⟩⟩
    obtain ⟨eS, -⟩ := step_sum hG (show k ≤ 300 by omega) (hL c hc) e e2
    have b1 := (hG.2 a c e).2.2
    have b2 := Wk.bound hG ((hL c hc).fin e2).1
    have e3 : (s0 + w a c).toInt = s0.toInt + (w a c).toInt := add64 (by omega) (by omega)
    have e4 : (s0 + w a c + hw k c).toInt = s0.toInt + (w a c).toInt + (hw k c).toInt := by
      rw [add64 (by omega) (by omega), e3]
    have z : (0 : Int64).toInt = 0 := rfl
    refine ⟨vc, vc, fun q => nx (fun g => ?_), fun q => hq c hc (iff.mpr ⟨e, e2, ?_⟩) g3⟩
    · have := (iff.mp g).2.2
      rw [le64, e4, z] at q; omega
    · rw [le64, e4, z] at q; omega
theorem tr13 {hw : Nat → Nat → Int64} {size start : Nat} {Qx : (Nat → Int32) → Prop} (hG : GW n w) (ht : ∀ x y, x < n → y < n → wt x y = w x y) (hz : size ≤ n) (hsn : start < n) (hL : ∀ j s, j ≤ size → s < n → Lst w j s start (hw j s)) (hq : ∀ (r : Nat → Nat) (row : Nat → Int32), Chain w size start r size → (∀ i, i < size → row i = Int32.ofNat (r i) ∧ r i < n) → Qx row) : ∀ (m i : Nat) (sum : Int64) (row : Nat → Int32) (r : Nat → Nat), size + 1 ≤ i + m → 1 ≤ i → i ≤ size → Chain w size start r i → (∀ t, t < i → row t = Int32.ofNat (r t) ∧ r t < n) → sum.toInt = Psm w r 0 (i - 1) → (∃ y, Wk w (size - i + 1) (r (i - 1)) start y ∧ sum.toInt + y < 0) → Ring_trace_11_L13 (Int32.ofNat n) wt hw (Int32.ofNat size) Qx m sum (Int32.ofNat i) row := by
  have hn := hG.1
  intro m
  induction m with
  | zero => intro i sum row r g1 g2 g3; omega
  | succ m ih =>
    intro i sum row r g1 g2 g3 g4 g5 g6 g7
    unfold Ring_trace_11_L13
    have e1 : (Int32.ofNat i - 1).toInt = (i : Int) - 1 := by
      rw [i3_subI (by omega)] <;> rw [show (1 : Int32).toInt = 1 from rfl] <;> omega
    have e2 : (Int32.ofNat i - 1).toNatClampNeg = i - 1 := by rw [nat32, e1]; omega
    have e3 : (Int32.ofNat size - Int32.ofNat i).toInt = (size : Int) - i := by
      rw [i3_subI (by omega)] <;> rw [i3_toInt (by omega)] <;> omega
    have e4 : (Int32.ofNat size - Int32.ofNat i).toNatClampNeg = size - i := by rw [nat32, e3]; omega
    rw [i3_le (by omega) (by omega), i3_nat (by omega), i3_succ, e2, e4, (g5 (i - 1) (by omega)).1, i3_nat (by have := (g5 (i - 1) (by omega)).2; omega)]
    have hr := (g5 (i - 1) (by omega)).2
    refine ⟨fun h => ?_, fun h => ⟨in_iff.mpr (by omega), i3_in (by omega) (by omega), in_iff.mpr (by omega), ?_⟩⟩
    · have e : i = size := by omega
      subst e
      exact hq r row g4 g5
    · have sb := g4.sum hG (show i - 1 < i by omega)
      have hsum : -(16 * 2000000001 : Int) ≤ sum.toInt ∧ sum.toInt ≤ 16 * 2000000001 := by rw [g6]; omega
      refine ⟨n + 1, ln3 hG ht hr (show size - i ≤ 16 by omega) hsum (fun c hc => hL (size - i) c (by omega) hc) (Chain.next (by omega) g7) (fun c hc hon hmin => ?_) (n + 1) 0 (by omega) (by omega) (fun t q => by omega)⟩
      have eu : upd row i (Int32.ofNat c) i = Int32.ofNat c := upd_same _ _ _
      rw [eu, i3_nat (show c < 2147483648 by omega)]
      have vi : vp_in (Int32.ofNat i) 16 := i3_in (by omega) (by omega)
      refine ⟨vi, vi, i3_in (by omega) (by omega), ?_⟩
      rw [ht _ _ hr hc]
      have ws := (hG.2 _ _ hon.1).2.2
      have es : (sum + w (r (i - 1)) c).toInt = sum.toInt + (w (r (i - 1)) c).toInt := add64 (by omega) (by omega)
      refine ih (i + 1) _ _ (fun t => if t = i then c else r t) (by omega) (by omega) (by omega) ⟨?_, fun j q1 q2 => ?_⟩ (fun t ht' => ?_) ?_ ?_
      · show (if 0 = i then c else r 0) = start
        rw [if_neg (by omega)]; exact g4.1
      · have ec : Psm w (fun t => if t = i then c else r t) 0 (j - 1) = Psm w r 0 (j - 1) := Psm.congr (fun t q => by show (if t = i then c else r t) = r t; rw [if_neg (by omega)])
        show OnP w start (Psm w (fun t => if t = i then c else r t) 0 (j - 1)) (if j - 1 = i then c else r (j - 1)) (size - j) (if j = i then c else r j) ∧ ∀ t, t < (if j = i then c else r j) → ¬ OnP w start (Psm w (fun t => if t = i then c else r t) 0 (j - 1)) (if j - 1 = i then c else r (j - 1)) (size - j) t
        rw [ec, if_neg (show ¬ j - 1 = i by omega)]
        by_cases e : j = i
        · subst e
          rw [if_pos rfl, ← g6]
          exact ⟨hon, hmin⟩
        · rw [if_neg e]; exact g4.2 j q1 (by omega)
      · show upd row i (Int32.ofNat c) t = Int32.ofNat (if t = i then c else r t) ∧ (if t = i then c else r t) < n
        by_cases e : t = i
        · subst e; rw [if_pos rfl, upd_same]; exact ⟨rfl, hc⟩
        · rw [if_neg e, upd_other _ _ e]; exact g5 t (by omega)
      · rw [es, g6, show i + 1 - 1 = (i - 1) + 1 by omega]
        show _ = Psm w (fun t => if t = i then c else r t) 0 (i - 1) + (w (if 0 + (i - 1) = i then c else r (0 + (i - 1))) (if 0 + (i - 1) + 1 = i then c else r (0 + (i - 1) + 1))).toInt
        have ec : Psm w (fun t => if t = i then c else r t) 0 (i - 1) = Psm w r 0 (i - 1) := Psm.congr (fun t q => by show (if t = i then c else r t) = r t; rw [if_neg (by omega)])
        rw [ec, if_neg (by omega), if_pos (by omega), Nat.zero_add]
      · obtain ⟨-, y, hy1, hy2⟩ := hon
        refine ⟨y, ?_, by rw [es]; omega⟩
        show Wk w (size - (i + 1) + 1) (if i + 1 - 1 = i then c else r (i + 1 - 1)) start y
        rw [if_pos (by omega), show size - (i + 1) + 1 = size - i by omega]
        exact hy1
theorem tr_of {hw : Nat → Nat → Int64} {row : Nat → Int32} {size start : Nat} {Qr : (Nat → Int32) → Prop} (hG : GW n w) (ht : ∀ x y, x < n → y < n → wt x y = w x y) (h1 : 1 ≤ size) (hz : size ≤ n) (hsn : start < n) (hL : ∀ j s, j ≤ size → s < n → Lst w j s start (hw j s)) (hN : NegAt w size start) (hq : ∀ (r : Nat → Nat) (row : Nat → Int32), Chain w size start r size → (∀ i, i < size → row i = Int32.ofNat (r i) ∧ r i < n) → Qr row) : Ring_trace_11_wp wt row hw (Int32.ofNat size) (Int32.ofNat start) (Int32.ofNat n) Qr := by
  have hn := hG.1
  refine ⟨by unfold vp_in; decide, size + 1, ?_⟩
  rw [show (0 : Int32).toNatClampNeg = 0 from rfl]
  obtain ⟨x, hx1, hx2⟩ := hN
  refine tr13 hG ht hz hsn hL hq (size + 1) 1 0 _ (fun _ => start) (by omega) (by omega) h1 ⟨rfl, fun j q1 q2 => by omega⟩ (fun t ht' => ?_) rfl ⟨x, ?_, ?_⟩
  · have e : t = 0 := by omega
    subst e
    exact ⟨upd_same _ _ _, hsn⟩
  · rw [show size - 1 + 1 = size by omega]; exact hx1
  · show (0 : Int64).toInt + x < 0
    rw [show (0 : Int64).toInt = 0 from rfl]; omega
/-- what the search has found among the starts below s -/
def RFs (w : Nat → Nat → Int64) (n s limit : Nat) (rl : Int32) (row : Nat → Int32) : Prop :=
  (rl = 0 ∧ limit = n ∧ ∀ t j, t < s → 1 ≤ j → j ≤ n → ¬ NegAt w j t) ∨
  ∃ (k s0 : Nat) (r : Nat → Nat), rl = Int32.ofNat k ∧ 1 ≤ k ∧ k ≤ n ∧ limit = k - 1 ∧ s0 < s ∧ NegAt w k s0 ∧ (∀ t j, t < s → 1 ≤ j → j < k → ¬ NegAt w j t) ∧ (∀ t, t < s0 → ¬ NegAt w k t) ∧ Chain w k s0 r k ∧ ∀ i, i < k → row i = Int32.ofNat (r i) ∧ r i < n
theorem rf10 {Qx : (Nat → Int32) → (Nat → Nat → Int64) → Int32 → Prop} (hG : GW n w) (ht : ∀ x y, x < n → y < n → wt x y = w x y) (hq : ∀ row hw rl limit, RFs w n n limit rl row → Qx row hw rl) : ∀ (m s limit : Nat) (row : Nat → Int32) (hw : Nat → Nat → Int64) (rl : Int32), n + 1 ≤ s + m → s ≤ n → RFs w n s limit rl row → Ring_find_11_L10 (Int32.ofNat n) wt Qx m (Int32.ofNat limit) (Int32.ofNat s) row hw rl := by
  have hn := hG.1
  intro m
  induction m with
  | zero => intro s limit row hw rl g1 g2; omega
  | succ m ih =>
    intro s limit row hw rl g1 g2 g3
    unfold Ring_find_11_L10
    rw [i3_le (by omega) (by omega), i3_succ]
    have hl : limit ≤ n := by rcases g3 with ⟨-, e, -⟩ | ⟨k, s0, r, -, -, q, e, -⟩ <;> omega
    refine ⟨fun h => hq row hw rl limit (by rw [show n = s by omega] at g3 ⊢; exact g3), fun h => sb_of hG ht (show s < n by omega) (by omega) (fun k hw' k1 k2 k3 k4 k5 => ⟨fun q => ?_, fun _ => ?_⟩) (fun hw' k => ⟨fun _ => ih (s + 1) limit row hw' rl (by omega) (by omega) ?_, fun q => absurd (by decide) q⟩)⟩
    · rw [show (0 : Int32) = Int32.ofNat 0 from rfl, i3_le (by omega) (by omega)] at q
      omega
    · have e1 : Int32.ofNat k - 1 = Int32.ofNat (k - 1) := by
        rw [eq32, i3_toInt (by omega), i3_subI (by omega)] <;> rw [show (1 : Int32).toInt = 1 from rfl] <;> omega
      rw [e1]
      refine tr_of hG ht k1 (by omega) (by omega) k5 k3 (fun r row' c1 c2 => ih (s + 1) (k - 1) row' hw' (Int32.ofNat k) (by omega) (by omega) (Or.inr ⟨k, s, r, rfl, k1, by omega, rfl, by omega, k3, fun t j q1 q2 q3 hN => ?_, fun t q hN => ?_, c1, c2⟩))
      · by_cases e : t = s
        · subst e; exact k4 j q2 q3 hN
        · rcases g3 with ⟨-, -, a⟩ | ⟨k', s0, r', -, -, a1, a2, a3, a4, a5, -⟩
          · exact a t j (by omega) q2 (by omega) hN
          · exact a5 t j (by omega) q2 (by omega) hN
      · rcases g3 with ⟨-, -, a⟩ | ⟨k', s0, r', -, -, a1, a2, a3, a4, a5, -⟩
        · exact a t k q k1 (by omega) hN
        · exact a5 t k q k1 (by omega) hN
    · rcases g3 with ⟨a0, a1, a⟩ | ⟨k', s0, r', a0, b1, a1, a2, a3, a4, a5, a6, a7, a8⟩
      · refine Or.inl ⟨a0, a1, fun t j q1 q2 q3 hN => ?_⟩
        by_cases e : t = s
        · subst e; exact k j q2 (by omega) hN
        · exact a t j (by omega) q2 q3 hN
      · refine Or.inr ⟨k', s0, r', a0, b1, a1, a2, by omega, a4, fun t j q1 q2 q3 hN => ?_, a6, a7, a8⟩
        by_cases e : t = s
        · subst e; exact k j q2 (by omega) hN
        · exact a5 t j (by omega) q2 q3 hN
theorem find_ring {row : Nat → Int32} {hw : Nat → Nat → Int64} {rl : Int32} {Qr : ((Nat → Int32) × (Nat → Nat → Int64) × Int32) → Prop} (hG : GW n w) (ht : ∀ x y, x < n → y < n → wt x y = w x y) (hN : Neg w) (hq : ∀ (k s0 : Nat) (r : Nat → Nat) row hw, RF w n k s0 → Chain w k s0 r k → (∀ i, i < k → row i = Int32.ofNat (r i) ∧ r i < n) → Qr (row, hw, Int32.ofNat k)) : Ring_find_11_wp wt row hw rl (Int32.ofNat n) Qr := by
  refine ⟨n + 1, rf10 hG ht (fun row' hw' rl' limit h => ?_) (n + 1) 0 n row hw 0 (by omega) (by omega) (Or.inl ⟨rfl, rfl, fun t j q => by omega⟩)⟩
  rcases h with ⟨-, -, h⟩ | ⟨k, s0, r, rfl, h1, h2, -, h3, h4, h5, h6, h7, h8⟩
  · obtain ⟨k, a, x, q1, q2⟩ := hN
    obtain ⟨j, s, y, r1, r2, r3, r4⟩ := Wk.short hG k a x q1 q2
    have hs : s < n := by
      cases j with
      | zero => omega
      | succ j => exact (Wk.lt hG r3).1
    exact absurd ⟨y, r3, r4⟩ (h s j hs r1 r2)
  · refine hq k s0 r row' hw' ⟨h1, h2, h3, h4, fun j s q1 q2 hN9 => ?_, h6⟩ h7 h8
    have hs : s < n := by
      obtain ⟨y, r3, -⟩ := hN9
      cases j with
      | zero => omega
      | succ j => exact (Wk.lt hG r3).1
    exact h5 s j hs q1 q2 hN9
end RING
