/-! the reference's ways and its ring -/
theorem mul32 {a b : Int32} (h1 : -2147483648 ≤ a.toInt * b.toInt) (h2 : a.toInt * b.toInt < 2147483648) : (a * b).toInt = a.toInt * b.toInt := by
  rw [Int32.toInt_mul]; exact Int.bmod_eq_of_le (by omega) (by omega)
theorem at16' {b c : Int32} {B C : Nat} (hb : b.toInt = B) (hc : c.toInt = C) (h1 : B < 16) (h2 : C < 16) : (16 * b + c).toNatClampNeg = 16 * B + C ∧ vp_in (16 * b + c) 256 := by
  have c16 : (16 : Int32).toInt = 16 := rfl
  have e1 : (16 * b).toInt = 16 * B := by rw [mul32] <;> rw [c16, hb] <;> omega
  have e2 : (16 * b + c).toInt = 16 * B + C := by rw [add32] <;> rw [e1, hc] <;> omega
  exact ⟨by rw [nat32, e2]; omega, in_iff.mpr (by omega)⟩
theorem at256 {a b c : Int32} {A B C : Nat} (ha : a.toInt = A) (hb : b.toInt = B) (hc : c.toInt = C) (h0 : A ≤ 16) (h1 : B < 16) (h2 : C < 16) : (256 * a + 16 * b + c).toNatClampNeg = 256 * A + 16 * B + C ∧ vp_in (256 * a + 16 * b + c) 4352 := by
  have c16 : (16 : Int32).toInt = 16 := rfl
  have c256 : (256 : Int32).toInt = 256 := rfl
  have e1 : (16 * b).toInt = 16 * B := by rw [mul32] <;> rw [c16, hb] <;> omega
  have e0 : (256 * a).toInt = 256 * A := by rw [mul32] <;> rw [c256, ha] <;> omega
  have e3 : (256 * a + 16 * b).toInt = 256 * A + 16 * B := by rw [add32] <;> rw [e0, e1] <;> omega
  have e2 : (256 * a + 16 * b + c).toInt = 256 * A + 16 * B + C := by rw [add32] <;> rw [e3, hc] <;> omega
  exact ⟨by rw [nat32, e2]; omega, in_iff.mpr (by omega)⟩
theorem pred32 {k : Nat} (h1 : 1 ≤ k) (h2 : k < 2147483648) : (Int32.ofNat k - 1).toInt = ((k - 1 : Nat) : Int) := by
  rw [i3_subI h2] <;> rw [show (1 : Int32).toInt = 1 from rfl] <;> omega
theorem plus_of {a b : Int64} {Q : Int64 → Unit → Prop} (h0 : a = far ∨ b = far → Q far ()) (h1 : a ≠ far → b ≠ far → Q (a + b) ()) : M_plus_wp a b Q :=
  ⟨fun e => h0 (Or.inl e), fun e => ⟨fun e2 => h1 e e2, fun e2 => h0 (Or.inr e2)⟩⟩
theorem le_far (d : Int64) : d ≤ far := by have := rg64 d; rw [le64, far_toInt]; omega
def Ways (w : Nat → Nat → Int64) (j : Nat) (mway : Nat → Int64) : Prop := ∀ x y, x < 16 → y < 16 → Lst w j x y (mway (256 * j + 16 * x + y))
section MWAYS
variable {w : Nat → Nat → Int64} {n : Nat} {mw : Nat → Int64}
theorem ms24 {mway : Nat → Int64} {j a b : Nat} {Qx : Int64 → Prop} (hG : GW n w) (ht : ∀ x y, x < 16 → y < 16 → mw (16 * x + y) = w x y) (hj : 1 ≤ j) (hj2 : j ≤ 16) (ha : a < 16) (hb : b < 16) (hW : Ways w (j - 1) mway) (hq : ∀ d, Lst w j a b d → Qx d) : ∀ (m c : Nat) (d : Int64), 17 ≤ c + m → c ≤ 16 → LstTo w (j - 1) a b c d → M_step_L24 (Int32.ofNat j) (Int32.ofNat a) (Int32.ofNat b) mw mway Qx m d (Int32.ofNat c) := by
  have hn := hG.1
  intro m
  induction m with
  | zero => intro c d g1 g2; omega
  | succ m ih =>
    intro c d g1 g2 g3
    unfold M_step_L24
    rw [show (16 : Int32) ≤ Int32.ofNat c ↔ 16 ≤ c from i3_le (a := 16) (by omega) (by omega), i3_succ]
    refine ⟨fun h => ?_, fun h => ?_⟩
    · have := LstTo.all hG (show n ≤ c by omega) g3
      rw [show j - 1 + 1 = j by omega] at this
      exact hq d this
    have hc : c < 16 := by omega
    obtain ⟨e1, v1⟩ := at16' (i3_toInt (show a < 2147483648 by omega)) (i3_toInt (show c < 2147483648 by omega)) ha hc
    obtain ⟨e2, v2⟩ := at256 (pred32 hj (by omega)) (i3_toInt (show c < 2147483648 by omega)) (i3_toInt (show b < 2147483648 by omega)) (by omega) hc hb
    rw [e1, e2, ht a c ha hc]
    have hr := hW c b hc hb
    refine ⟨v1, v2, plus_of (fun hf => ⟨fun _ => ih (c + 1) d (by omega) (by omega) (g3.skip (hf.imp id (fun e => hr.inf e))), fun q => absurd (le_far d) q⟩) (fun f1 f2 => ?_)⟩
    have hT := g3.take hG (by omega) hr f1 f2
    refine ⟨fun q => ih (c + 1) _ (by omega) (by omega) ?_, fun q => ih (c + 1) _ (by omega) (by omega) ?_⟩
    · rw [if_neg (by rw [lt64]; rw [le64] at q; omega)] at hT; exact hT
    · rw [if_pos (by rw [lt64]; rw [le64] at q; omega)] at hT; exact hT
theorem ms10 {j a : Nat} {Qx : (Nat → Int64) → Prop} (hG : GW n w) (ht : ∀ x y, x < 16 → y < 16 → mw (16 * x + y) = w x y) (hj : 1 ≤ j) (hj2 : j ≤ 16) (ha : a < 16) (hq : ∀ mway, (∀ j', j' < j → Ways w j' mway) → (∀ x y, x < a + 1 → y < 16 → Lst w j x y (mway (256 * j + 16 * x + y))) → Qx mway) : ∀ (m b : Nat) (mway : Nat → Int64), 17 ≤ b + m → b ≤ 16 → (∀ j', j' < j → Ways w j' mway) → (∀ x y, x < a → y < 16 → Lst w j x y (mway (256 * j + 16 * x + y))) → (∀ y, y < b → Lst w j a y (mway (256 * j + 16 * a + y))) → M_step_L10 (Int32.ofNat j) (Int32.ofNat a) mw Qx m (Int32.ofNat b) mway := by
  intro m
  induction m with
  | zero => intro b mway g1 g2; omega
  | succ m ih =>
    intro b mway g1 g2 g3 g4 g5
    unfold M_step_L10
    rw [show (16 : Int32) ≤ Int32.ofNat b ↔ 16 ≤ b from i3_le (a := 16) (by omega) (by omega), i3_succ]
    refine ⟨fun h => hq mway g3 (fun x y hx hy => ?_), fun h => ⟨17, ms24 hG ht hj hj2 ha (show b < 16 by omega) (g3 (j - 1) (by omega)) (fun d hd => ?_) 17 0 far (by omega) (by omega) LstTo.zero⟩⟩
    · by_cases e : x = a
      · subst e; exact g5 y (by omega)
      · exact g4 x y (by omega) hy
    · obtain ⟨e2, v2⟩ := at256 (i3_toInt (show j < 2147483648 by omega)) (i3_toInt (show a < 2147483648 by omega)) (i3_toInt (show b < 2147483648 by omega)) hj2 ha (show b < 16 by omega)
      rw [e2]
      refine ⟨v2, ih (b + 1) _ (by omega) (by omega) (fun j' hj' x y hx hy => ?_) (fun x y hx hy => ?_) (fun y hy => ?_)⟩
      · rw [updL_other _ _ (by omega)]; exact g3 j' hj' x y hx hy
      · rw [updL_other _ _ (by omega)]; exact g4 x y hx hy
      · by_cases e : y = b
        · subst e; rw [updL_same]; exact hd
        · rw [updL_other _ _ (by omega)]; exact g5 y (by omega)
theorem ms2 {j : Nat} {Qx : (Nat → Int64) → Prop} (hG : GW n w) (ht : ∀ x y, x < 16 → y < 16 → mw (16 * x + y) = w x y) (hj : 1 ≤ j) (hj2 : j ≤ 16) (hq : ∀ mway, (∀ j', j' < j + 1 → Ways w j' mway) → Qx mway) : ∀ (m a : Nat) (mway : Nat → Int64), 17 ≤ a + m → a ≤ 16 → (∀ j', j' < j → Ways w j' mway) → (∀ x y, x < a → y < 16 → Lst w j x y (mway (256 * j + 16 * x + y))) → M_step_L2 (Int32.ofNat j) mw Qx m (Int32.ofNat a) mway := by
  intro m
  induction m with
  | zero => intro b mway g1 g2; omega
  | succ m ih =>
    intro a mway g1 g2 g3 g4
    unfold M_step_L2
    rw [show (16 : Int32) ≤ Int32.ofNat a ↔ 16 ≤ a from i3_le (a := 16) (by omega) (by omega), i3_succ]
    refine ⟨fun h => hq mway (fun j' hj' => ?_), fun h => ⟨17, ms10 hG ht hj hj2 (show a < 16 by omega) (fun mway' k1 k2 => ih (a + 1) mway' (by omega) (by omega) k1 k2) 17 0 mway (by omega) (by omega) g3 g4 (fun y hy => by omega)⟩⟩
    by_cases e : j' = j
    · subst e; exact fun x y hx hy => g4 x y (by omega) hy
    · exact g3 j' (by omega)
theorem mstep_of {mway : Nat → Int64} {j : Nat} {Qr : (Nat → Int64) → Prop} (hG : GW n w) (ht : ∀ x y, x < 16 → y < 16 → mw (16 * x + y) = w x y) (hj : 1 ≤ j) (hj2 : j ≤ 16) (hW : ∀ j', j' < j → Ways w j' mway) (hq : ∀ mway, (∀ j', j' < j + 1 → Ways w j' mway) → Qr mway) : M_step_wp mw mway (Int32.ofNat j) Qr :=
  ⟨17, ms2 hG ht hj hj2 hq 17 0 mway (by omega) (by omega) hW (fun x y hx => by omega)⟩
/-! the ring, told -/
theorem isOn_of {mway : Nat → Int64} {a c k start : Nat} {s0 : Int64} {from' steps st : Int32} {Qr : Int32 → Unit → Prop} (hG : GW n w) (ht : ∀ x y, x < 16 → y < 16 → mw (16 * x + y) = w x y) (hk : k ≤ 16) (ha : a < 16) (hc : c < 16) (hst : start < 16) (ea : from'.toInt = a) (ek : steps.toInt = k) (es : st.toInt = start) (hs : -(16 * 2000000001 : Int) ≤ s0.toInt ∧ s0.toInt ≤ 16 * 2000000001) (hW : Ways w k mway) (h1 : OnP w start s0.toInt a k c → Qr 1 ()) (h0 : ¬ OnP w start s0.toInt a k c → Qr 0 ()) : M_isOn_wp mw mway s0 from' (Int32.ofNat c) steps st Qr := by
  unfold M_isOn_wp
  obtain ⟨e1, v1⟩ := at16' ea (i3_toInt (show c < 2147483648 by omega)) ha hc
  obtain ⟨e2, v2⟩ := at256 ek (i3_toInt (show c < 2147483648 by omega)) es hk hc hst
  rw [e1, e2, ht a c ha hc]
  have hr := hW c start hc hst
  have iff := OnP_iff (a := a) (sum := s0.toInt) hr
  have z : (0 : Int64).toInt = 0 := rfl
  refine ⟨v1, v2, plus_of (fun hf => ⟨fun _ => h0 (fun q => ?_), fun q => absurd rfl q⟩) (fun f1 f2 => ?_)⟩
  · have := iff.mp q
    exact hf.elim (fun e => this.1 e) (fun e => this.2.1 e)
  · obtain ⟨eS, hne⟩ := step_sum hG (show k ≤ 300 by omega) hr f1 f2
    have b1 := (hG.2 a c f1).2.2
    have b2 := Wk.bound hG (hr.fin f2).1
    have e3 : (s0 + (w a c + mway (256 * k + 16 * c + start))).toInt = s0.toInt + ((w a c).toInt + (mway (256 * k + 16 * c + start)).toInt) := by
      rw [add64 (by omega) (by omega), eS]
    refine ⟨fun q => absurd q hne, fun _ => ⟨fun q => h0 (fun g => ?_), fun q => h1 (iff.mpr ⟨f1, f2, ?_⟩)⟩⟩
    · have := (iff.mp g).2.2
      rw [le64, e3, z] at q; omega
    · rw [le64, e3, z] at q; omega
theorem mt26 {mway : Nat → Int64} {a k start size i : Nat} {s0 : Int64} {mrow : Nat → Int32} {Qx : Int32 → Prop} (hG : GW n w) (ht : ∀ x y, x < 16 → y < 16 → mw (16 * x + y) = w x y) (hi : 1 ≤ i) (hi2 : i < size) (hsz : size ≤ 16) (hk : k = size - i) (ha : a < n) (hst : start < n) (hrow : mrow (i - 1) = Int32.ofNat a) (hs : -(16 * 2000000001 : Int) ≤ s0.toInt ∧ s0.toInt ≤ 16 * 2000000001) (hW : Ways w k mway) (hex : ∃ c, OnP w start s0.toInt a k c) (hq : ∀ c, c < n → OnP w start s0.toInt a k c → (∀ t, t < c → ¬ OnP w start s0.toInt a k t) → Qx (Int32.ofNat c)) : ∀ (m c : Nat), n + 1 ≤ c + m → c ≤ n → (∀ t, t < c → ¬ OnP w start s0.toInt a k t) → M_tellRing_L26 (Int32.ofNat size) (Int32.ofNat start) s0 (Int32.ofNat i) mrow mw mway Qx m (Int32.ofNat c) := by
  have hn := hG.1
  intro m
  induction m with
  | zero => intro c g1 g2; omega
  | succ m ih =>
    intro c g1 g2 g3
    have hc : c < n := by
      obtain ⟨d, hd⟩ := hex
      have hdn := (hG.2 a d hd.1).2.1
      rcases Nat.lt_or_ge d c with q | q
      · exact absurd hd (g3 d q)
      · omega
    unfold M_tellRing_L26
    have e1 := pred32 hi (show i < 2147483648 by omega)
    have e2 : (Int32.ofNat i - 1).toNatClampNeg = i - 1 := by rw [nat32, e1]; omega
    have e3 : (Int32.ofNat size - Int32.ofNat i).toInt = (k : Int) := by
      rw [i3_subI (by omega)] <;> rw [i3_toInt (by omega)] <;> omega
    rw [e2, hrow, i3_succ]
    refine ⟨in_iff.mpr (by omega), isOn_of hG ht (show k ≤ 16 by omega) (show a < 16 by omega) (show c < 16 by omega) (show start < 16 by omega) (i3_toInt (by omega)) e3 (i3_toInt (by omega)) hs hW (fun hon => ⟨fun _ => hq c hc hon g3, fun q => absurd q (by decide)⟩) (fun hno => ⟨fun q => absurd rfl q, fun _ => ih (c + 1) (by omega) (by omega) (fun t q => ?_)⟩)⟩
    by_cases e : t = c
    · rw [e]; exact hno
    · exact g3 t (by omega)
theorem mt17 {mway : Nat → Int64} {size start : Nat} {Qx : (Nat → Int32) → Prop} (hG : GW n w) (ht : ∀ x y, x < 16 → y < 16 → mw (16 * x + y) = w x y) (hz : size ≤ n) (hsn : start < n) (hW : ∀ j, j ≤ size → Ways w j mway) (hq : ∀ (r : Nat → Nat) (row : Nat → Int32), Chain w size start r size → (∀ i, i < size → row i = Int32.ofNat (r i) ∧ r i < n) → Qx row) : ∀ (m i : Nat) (sum : Int64) (row : Nat → Int32) (r : Nat → Nat), size + 1 ≤ i + m → 1 ≤ i → i ≤ size → Chain w size start r i → (∀ t, t < i → row t = Int32.ofNat (r t) ∧ r t < n) → sum.toInt = Psm w r 0 (i - 1) → (∃ y, Wk w (size - i + 1) (r (i - 1)) start y ∧ sum.toInt + y < 0) → M_tellRing_L17 (Int32.ofNat size) (Int32.ofNat start) mw mway Qx m sum (Int32.ofNat i) row := by
  have hn := hG.1
  intro m
  induction m with
  | zero => intro i sum row r g1 g2 g3; omega
  | succ m ih =>
    intro i sum row r g1 g2 g3 g4 g5 g6 g7
    unfold M_tellRing_L17
    have e1 := pred32 g2 (show i < 2147483648 by omega)
    have e2 : (Int32.ofNat i - 1).toNatClampNeg = i - 1 := by rw [nat32, e1]; omega
    rw [i3_le (by omega) (by omega), i3_nat (by omega), i3_succ, e2]
    have hr := (g5 (i - 1) (by omega)).2
    refine ⟨fun h => ?_, fun h => ?_⟩
    · have e : i = size := by omega
      subst e
      exact hq r row g4 g5
    · have sb := g4.sum hG (show i - 1 < i by omega)
      have hsum : -(16 * 2000000001 : Int) ≤ sum.toInt ∧ sum.toInt ≤ 16 * 2000000001 := by rw [g6]; omega
      refine ⟨n + 1, mt26 hG ht g2 (by omega) (by omega) rfl hr hsn (g5 (i - 1) (by omega)).1 hsum (hW (size - i) (by omega)) (Chain.next (by omega) g7) (fun c hc hon hmin => ?_) (n + 1) 0 (by omega) (by omega) (fun t q => by omega)⟩
      obtain ⟨e3, v3⟩ := at16' (b := row (i - 1)) (c := Int32.ofNat c) (by rw [(g5 (i - 1) (by omega)).1]; exact i3_toInt (by omega)) (i3_toInt (show c < 2147483648 by omega)) (show r (i - 1) < 16 by omega) (show c < 16 by omega)
      rw [e3, ht _ _ (show r (i - 1) < 16 by omega) (show c < 16 by omega)]
      have vi : vp_in (Int32.ofNat i) 16 := i3_in (by omega) (by omega)
      refine ⟨in_iff.mpr (by omega), v3, vi, ?_⟩
      have ws := (hG.2 _ _ hon.1).2.2
      have es : (sum + w (r (i - 1)) c).toInt = sum.toInt + (w (r (i - 1)) c).toInt := add64 (by omega) (by omega)
      refine ih (i + 1) _ _ (fun t => if t = i then c else r t) (by omega) (by omega) (by omega) ⟨?_, fun j q1 q2 => ?_⟩ (fun t ht' => ?_) ?_ ?_
      · show (if 0 = i then c else r 0) = start
        rw [if_neg (by omega)]; exact g4.1
      · have ec : Psm w (fun t => if t = i then c else r t) 0 (j - 1) = Psm w r 0 (j - 1) := Psm.congr (fun t q => by show (if t = i then c else r t) = r t; rw [if_neg (by omega)])
        show OnP w start (Psm w (fun t => if t = i then c else r t) 0 (j - 1)) (if j - 1 = i then c else r (j - 1)) (size - j) (if j = i then c else r j) ∧ ∀ t, t < (if j = i then c else r j) → ¬ OnP w start (Psm w (fun t => if t = i then c else r t) 0 (j - 1)) (if j - 1 = i then c else r (j - 1)) (size - j) t
        rw [ec, if_neg (show ¬ j - 1 = i by omega)]
        by_cases e : j = i
        · subst e
          rw [if_pos rfl, ← g6]
          exact ⟨hon, hmin⟩
        · rw [if_neg e]; exact g4.2 j q1 (by omega)
      · show upd row i (Int32.ofNat c) t = Int32.ofNat (if t = i then c else r t) ∧ (if t = i then c else r t) < n
        by_cases e : t = i
        · subst e; rw [if_pos rfl, upd_same]; exact ⟨rfl, hc⟩
        · rw [if_neg e, upd_other _ _ e]; exact g5 t (by omega)
      · rw [es, g6, show i + 1 - 1 = (i - 1) + 1 by omega]
        show _ = Psm w (fun t => if t = i then c else r t) 0 (i - 1) + (w (if 0 + (i - 1) = i then c else r (0 + (i - 1))) (if 0 + (i - 1) + 1 = i then c else r (0 + (i - 1) + 1))).toInt
        have ec : Psm w (fun t => if t = i then c else r t) 0 (i - 1) = Psm w r 0 (i - 1) := Psm.congr (fun t q => by show (if t = i then c else r t) = r t; rw [if_neg (by omega)])
        rw [ec, if_neg (by omega), if_pos (by omega), Nat.zero_add]
      · obtain ⟨-, y, hy1, hy2⟩ := hon
        refine ⟨y, ?_, by rw [es]; omega⟩
        show Wk w (size - (i + 1) + 1) (if i + 1 - 1 = i then c else r (i + 1 - 1)) start y
        rw [if_pos (by omega), show size - (i + 1) + 1 = size - i by omega]
        exact hy1
theorem mt_of {mway : Nat → Int64} {mrl : Int32} {mrow : Nat → Int32} {size start : Nat} {Qr : (Int32 × (Nat → Int32)) → Prop} (hG : GW n w) (ht : ∀ x y, x < 16 → y < 16 → mw (16 * x + y) = w x y) (h1 : 1 ≤ size) (hz : size ≤ n) (hsn : start < n) (hW : ∀ j, j ≤ size → Ways w j mway) (hN : NegAt w size start) (hq : ∀ (r : Nat → Nat) (row : Nat → Int32), Chain w size start r size → (∀ i, i < size → row i = Int32.ofNat (r i) ∧ r i < n) → Qr (Int32.ofNat size, row)) : M_tellRing_wp mrl mrow mw mway (Int32.ofNat size) (Int32.ofNat start) Qr := by
  refine ⟨by unfold vp_in; decide, size + 1, ?_⟩
  rw [show (0 : Int32).toNatClampNeg = 0 from rfl]
  obtain ⟨x, hx1, hx2⟩ := hN
  refine mt17 hG ht hz hsn hW hq (size + 1) 1 0 _ (fun _ => start) (by omega) (by omega) h1 ⟨rfl, fun j q1 q2 => by omega⟩ (fun t ht' => ?_) rfl ⟨x, ?_, ?_⟩
  · have e : t = 0 := by omega
    subst e
    exact ⟨upd_same _ _ _, hsn⟩
  · rw [show size - 1 + 1 = size by omega]; exact hx1
  · show (0 : Int64).toInt + x < 0
    rw [show (0 : Int64).toInt = 0 from rfl]; omega
/-! the search -/
theorem NegAt.lt (hG : GW n w) {j s : Nat} (hj : 1 ≤ j) (h : NegAt w j s) : s < n := by
  obtain ⟨y, r3, -⟩ := h
  cases j with
  | zero => omega
  | succ j => exact (Wk.lt hG r3).1
variable {mth msd : Int32} {mb moff : Nat → Int64} {Qr : Int32 → (Int32 × Int32 × Int32 × (Nat → Int32) × (Nat → Int64) × (Nat → Int64) × (Nat → Int64) × (Nat → Int64)) → Prop}
theorem se73 {mway : Nat → Int64} {j : Nat} {Qx : Int32 → (Nat → Int32) → Prop} {mrl : Int32} {mrow : Nat → Int32} (hG : GW n w) (ht : ∀ x y, x < 16 → y < 16 → mw (16 * x + y) = w x y) (hj : 1 ≤ j) (hj2 : j ≤ 16) (hjn : Neg w → True) (hW : ∀ j', j' < j + 1 → Ways w j' mway) (hno : ∀ i s, 1 ≤ i → i < j → ¬ NegAt w i s) (h1 : ∀ (s0 : Nat) (r : Nat → Nat) (row : Nat → Int32), RF w n j s0 → Chain w j s0 r j → (∀ i, i < j → row i = Int32.ofNat (r i) ∧ r i < n) → Qr (-(Int32.ofNat j)) (mth, msd, Int32.ofNat j, row, mw, mb, mway, moff)) (h0 : (∀ i s, 1 ≤ i → i < j + 1 → ¬ NegAt w i s) → Qx mrl mrow) : ∀ (m s : Nat), 17 ≤ s + m → s ≤ 16 → (∀ t, t < s → ¬ NegAt w j t) → M_settle_L73 (Int32.ofNat j) mth msd mw mb mway moff Qr Qx m (Int32.ofNat s) mrl mrow := by
  have hn := hG.1
  intro m
  induction m with
  | zero => intro s g1 g2; omega
  | succ m ih =>
    intro s g1 g2 g3
    unfold M_settle_L73
    rw [show (16 : Int32) ≤ Int32.ofNat s ↔ 16 ≤ s from i3_le (a := 16) (by omega) (by omega), i3_succ]
    refine ⟨fun h => h0 (fun i t q1 q2 hN => ?_), fun h => ?_⟩
    · by_cases e : i = j
      · subst e; exact g3 t (by have := hN.lt hG q1; omega) hN
      · exact hno i t q1 (by omega) hN
    have hs : s < 16 := by omega
    obtain ⟨e2, v2⟩ := at256 (i3_toInt (show j < 2147483648 by omega)) (i3_toInt (show s < 2147483648 by omega)) (i3_toInt (show s < 2147483648 by omega)) hj2 hs hs
    rw [e2]
    have hL := hW j (by omega) s s hs hs
    refine ⟨v2, fun c => ih (s + 1) (by omega) (by omega) (fun t q hN => ?_), fun c => ?_⟩
    · by_cases e : t = s
      · subst e
        have := hL.neg.mpr hN
        rw [le64] at c; rw [lt64] at this; omega
      · exact g3 t (by omega) hN
    · have hN : NegAt w j s := hL.neg.mp (by rw [le64] at c; rw [lt64]; omega)
      have hsn := hN.lt hG hj
      have hjn2 : j ≤ n := by
        obtain ⟨x, x1, x2⟩ := hN
        obtain ⟨i, t, y, r1, r2, r3, r4⟩ := Wk.short hG j s x x1 x2
        rcases Nat.lt_or_ge i j with q | q
        · exact absurd ⟨y, r3, r4⟩ (hno i t r1 q)
        · omega
      exact mt_of hG ht hj hjn2 hsn (fun j' q => hW j' (by omega)) hN (fun r row c1 c2 => h1 s r row ⟨hj, hjn2, hsn, hN, hno, g3⟩ c1 c2)
theorem se60 {Qx : Int32 → (Nat → Int32) → (Nat → Int64) → Prop} {mrl : Int32} {mrow : Nat → Int32} (hG : GW n w) (ht : ∀ x y, x < 16 → y < 16 → mw (16 * x + y) = w x y) (h1 : ∀ (j s0 : Nat) (r : Nat → Nat) (row : Nat → Int32) (mway : Nat → Int64), RF w n j s0 → Chain w j s0 r j → (∀ i, i < j → row i = Int32.ofNat (r i) ∧ r i < n) → Qr (-(Int32.ofNat j)) (mth, msd, Int32.ofNat j, row, mw, mb, mway, moff)) (h0 : ∀ mway, ¬ Neg w → Qx mrl mrow mway) : ∀ (m j : Nat) (mway : Nat → Int64), 18 ≤ j + m → 1 ≤ j → j ≤ 17 → (∀ j', j' < j → Ways w j' mway) → (∀ i s, 1 ≤ i → i < j → ¬ NegAt w i s) → M_settle_L60 mth msd mw mb moff Qr Qx m (Int32.ofNat j) mrl mrow mway := by
  have hn := hG.1
  intro m
  induction m with
  | zero => intro j mway g1 g2 g3; omega
  | succ m ih =>
    intro j mway g1 g2 g3 g4 g5
    unfold M_settle_L60
    rw [show (16 : Int32) < Int32.ofNat j ↔ 16 < j from i3_lt (a := 16) (by omega) (by omega), i3_succ]
    refine ⟨fun h => h0 mway (fun ⟨k, a, x, q1, q2⟩ => ?_), fun h => mstep_of hG ht g2 (by omega) g4 (fun mway' hW => ⟨17, se73 hG ht g2 (by omega) (fun _ => trivial) hW g5 (fun s0 r row a1 a2 a3 => h1 j s0 r row mway' a1 a2 a3) (fun hno => ih (j + 1) mway' (by omega) (by omega) (by omega) hW hno) 17 0 (by omega) (by omega) (fun t q => by omega)⟩)⟩
    obtain ⟨i, t, y, r1, r2, r3, r4⟩ := Wk.short hG k a x q1 q2
    exact g5 i t r1 (by omega) ⟨y, r3, r4⟩
theorem div32 {k : Nat} (hk : k < 2147483648) : (Int32.ofNat k / 16).toInt = ((k / 16 : Nat) : Int) := by
  have c16 : (16 : Int32).toInt = 16 := rfl
  rw [Int32.toInt_div, i3_toInt hk, c16, Int.tdiv_eq_ediv_of_nonneg (by omega)]
  rw [Int.bmod_eq_of_le] <;> omega
theorem mod32 {k : Nat} (hk : k < 2147483648) : (Int32.ofNat k - Int32.ofNat k / 16 * 16).toInt = ((k % 16 : Nat) : Int) := by
  have c16 : (16 : Int32).toInt = 16 := rfl
  have e := div32 hk
  have e2 : (Int32.ofNat k / 16 * 16).toInt = ((k / 16 * 16 : Nat) : Int) := by rw [mul32] <;> rw [e, c16] <;> omega
  rw [sub32] <;> rw [e2, i3_toInt hk] <;> omega
theorem se21 {Qx : (Nat → Int64) → Prop} (hq : ∀ mway, Ways w 0 mway → Qx mway) : ∀ (m k : Nat) (mway : Nat → Int64), 257 ≤ k + m → k ≤ 256 → (∀ x, x < k → mway x = if x / 16 = x % 16 then 0 else far) → M_settle_L21 Qx m (Int32.ofNat k) mway := by
  intro m
  induction m with
  | zero => intro k mway g1 g2; omega
  | succ m ih =>
    intro k mway g1 g2 g3
    unfold M_settle_L21
    rw [show (256 : Int32) ≤ Int32.ofNat k ↔ 256 ≤ k from i3_le (a := 256) (by omega) (by omega), i3_nat (by omega), i3_succ, eq32, div32 (by omega), mod32 (by omega)]
    have nxt : ∀ v, v = (if k / 16 = k % 16 then 0 else far) → ∀ x, x < k + 1 → (vp_updL mway k v) x = if x / 16 = x % 16 then 0 else far := fun v hv x hx => by
      by_cases e : x = k
      · subst e; rw [updL_same]; exact hv
      · rw [updL_other _ _ e]; exact g3 x (by omega)
    refine ⟨fun h => hq mway (fun x y hx hy => ?_), fun h => ⟨fun c => ⟨i3_in (by omega) (by omega), ih (k + 1) _ (by omega) (by omega) (nxt _ ?_)⟩, fun c => ⟨i3_in (by omega) (by omega), ih (k + 1) _ (by omega) (by omega) (nxt _ ?_)⟩⟩⟩
    · have z := Lst.zero (w := w) x y
      rw [show 256 * 0 + 16 * x + y = 16 * x + y by omega, g3 (16 * x + y) (by omega)]
      have e1 : (16 * x + y) / 16 = x := by omega
      have e2 : (16 * x + y) % 16 = y := by omega
      rw [e1, e2]; exact z
    · rw [if_neg (by omega)]
    · rw [if_pos (by omega)]
end MWAYS
