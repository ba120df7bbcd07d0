/-! the reference's bounds -/
theorem div32g {k d : Nat} (hk : k < 2147483648) (h0 : 0 < d) (hd : d < 2147483648) : Int32.ofNat k / Int32.ofNat d = Int32.ofNat (k / d) := by
  have hle : k / d ≤ k := Nat.div_le_self k d
  have hx : ((k : Int) / (d : Int)) = ((k / d : Nat) : Int) := (Int.natCast_ediv k d).symm
  have key : ∀ q : Nat, q ≤ k → ((q : Nat) : Int).bmod (2 ^ 32) = q := fun q hq => Int.bmod_eq_of_le (by omega) (by omega)
  rw [eq32, Int32.toInt_div, i3_toInt hk, i3_toInt hd, Int.tdiv_eq_ediv_of_nonneg (by omega), hx, i3_toInt (Nat.lt_of_le_of_lt hle hk)]
  exact key _ hle
theorem div16e {k : Nat} (hk : k < 2147483648) : Int32.ofNat k / 16 = Int32.ofNat (k / 16) := div32g (d := 16) hk (by omega) (by omega)
theorem div256e {k : Nat} (hk : k < 2147483648) : Int32.ofNat k / 256 = Int32.ofNat (k / 256) := div32g (d := 256) hk (by omega) (by omega)
theorem mod16e {k : Nat} (hk : k < 2147483648) : Int32.ofNat k - Int32.ofNat k / 16 * 16 = Int32.ofNat (k % 16) := by
  rw [eq32, mod32 hk, i3_toInt (by omega)]
/-- how many are finite -/
def Nfc (f : Nat → Int64) : Nat → Nat
  | 0 => 0
  | k + 1 => Nfc f k + (if f k = far then 0 else 1)
theorem Nfc_le (f : Nat → Int64) : ∀ k, Nfc f k ≤ k := by
  intro k
  induction k with
  | zero => exact Nat.le_refl _
  | succ k ih =>
    show Nfc f k + (if f k = far then 0 else 1) ≤ k + 1
    by_cases h : f k = far
    · rw [if_pos h]; omega
    · rw [if_neg h]; omega
theorem Nfc_up {f : Nat → Int64} {j : Nat} {v : Int64} (hv : v ≠ far) : ∀ k, Nfc (vp_updL f j v) k = Nfc f k + (if j < k ∧ f j = far then 1 else 0) := by
  intro k
  induction k with
  | zero => show 0 = 0 + _; rw [if_neg (by omega)]
  | succ k ih =>
    show Nfc (vp_updL f j v) k + (if vp_updL f j v k = far then 0 else 1) = (Nfc f k + (if f k = far then 0 else 1)) + _
    rw [ih]
    by_cases e : k = j
    · subst e
      rw [updL_same, if_neg hv, if_neg (show ¬ (k < k ∧ f k = far) by omega)]
      by_cases q : f k = far
      · rw [if_pos q, if_pos ⟨by omega, q⟩]
      · rw [if_neg q, if_neg (fun r => q r.2)]
    · rw [updL_other _ _ e]
      by_cases q : j < k ∧ f j = far
      · rw [if_pos q, if_pos (show j < k + 1 ∧ f j = far from ⟨by omega, q.2⟩)]; omega
      · rw [if_neg q, if_neg (show ¬ (j < k + 1 ∧ f j = far) from fun r => q ⟨by omega, r.2⟩)]; omega
/-- a sum that falls -/
def Mss (f : Nat → Int64) : Nat → Nat
  | 0 => 0
  | k + 1 => Mss f k + ((f k).toInt + 9223372036854775808).toNat
theorem Mss_up {f : Nat → Int64} {j : Nat} {v : Int64} (hv : v < f j) : ∀ k, (j < k → Mss (vp_updL f j v) k < Mss f k) ∧ (¬ j < k → Mss (vp_updL f j v) k = Mss f k) := by
  rw [lt64] at hv
  have r := rg64 v
  intro k
  induction k with
  | zero => exact ⟨fun h => by omega, fun _ => rfl⟩
  | succ k ih =>
    show (_ → Mss (vp_updL f j v) k + ((vp_updL f j v k).toInt + 9223372036854775808).toNat < Mss f k + ((f k).toInt + 9223372036854775808).toNat) ∧ (_ → Mss (vp_updL f j v) k + ((vp_updL f j v k).toInt + 9223372036854775808).toNat = Mss f k + ((f k).toInt + 9223372036854775808).toNat)
    by_cases e : k = j
    · subst e
      rw [updL_same, ih.2 (by omega)]
      exact ⟨fun _ => by omega, fun h => by omega⟩
    · rw [updL_other _ _ e]
      refine ⟨fun h => ?_, fun h => by rw [ih.2 (by omega)]⟩
      have := ih.1 (by omega)
      omega
section BIND
variable {w : Nat → Nat → Int64} {n : Nat} {mw : Nat → Int64}
def Low (w : Nat → Nat → Int64) : Prop := ∀ k x y z, Wk w k x y z → -131072000065536 ≤ z
def BI (w : Nat → Nat → Int64) (mb : Nat → Int64) : Prop :=
  (∀ x y, x < 16 → y < 16 → mb (16 * x + y) ≠ far → (∃ k, Wk w k x y (mb (16 * x + y)).toInt) ∧ (mb (16 * x + y)).toInt ≤ Nfc mb 256 * 2000000001) ∧ ∀ x, x < 16 → (mb (16 * x + x)).toInt ≤ 0
def Fxd (w : Nat → Nat → Int64) (mb : Nat → Int64) (m : Nat) : Prop := ∀ a b c, a < 16 → b < 16 → c < 16 → 256 * a + 16 * b + c < m → w a b ≠ far → mb (16 * b + c) ≠ far → (mb (16 * a + c)).toInt ≤ (w a b).toInt + (mb (16 * b + c)).toInt
theorem BI.sum (hG : GW n w) (hL : Low w) {mb : Nat → Int64} (h : BI w mb) {a b c : Nat} (hb : b < 16) (hc : c < 16) (f1 : w a b ≠ far) (f2 : mb (16 * b + c) ≠ far) : (w a b + mb (16 * b + c)).toInt = (w a b).toInt + (mb (16 * b + c)).toInt ∧ w a b + mb (16 * b + c) ≠ far := by
  have g := (hG.2 a b f1).2.2
  obtain ⟨⟨k, hk⟩, hu⟩ := h.1 b c hb hc f2
  have hl := hL _ _ _ _ hk
  have hN := Nfc_le mb 256
  have e : (w a b + mb (16 * b + c)).toInt = (w a b).toInt + (mb (16 * b + c)).toInt := add64 (by omega) (by omega)
  exact ⟨e, by rw [ne_far, e]; omega⟩
theorem BI.step (hG : GW n w) (hL : Low w) {mb : Nat → Int64} (h : BI w mb) {a b c : Nat} (ha : a < 16) (hb : b < 16) (hc : c < 16) (f1 : w a b ≠ far) (f2 : mb (16 * b + c) ≠ far) (hlt : w a b + mb (16 * b + c) < mb (16 * a + c)) : BI w (vp_updL mb (16 * a + c) (w a b + mb (16 * b + c))) := by
  obtain ⟨e, hf⟩ := h.sum hG hL hb hc f1 f2
  rw [lt64, e] at hlt
  have g := (hG.2 a b f1).2.2
  obtain ⟨⟨k, hk⟩, hu⟩ := h.1 b c hb hc f2
  have hN := Nfc_up (f := mb) (j := 16 * a + c) hf 256
  refine ⟨fun x y hx hy q => ?_, fun x hx => ?_⟩
  · by_cases q2 : x = a ∧ y = c
    · obtain ⟨rfl, rfl⟩ := q2
      rw [updL_same, e, hN]
      refine ⟨⟨k + 1, b, _, f1, hk, rfl⟩, ?_⟩
      by_cases r : mb (16 * x + y) = far
      · rw [if_pos ⟨by omega, r⟩]; omega
      · rw [if_neg (fun z => r z.2)]
        have := (h.1 x y hx hy r).2
        omega
    · have ne : 16 * x + y ≠ 16 * a + c := fun z => q2 (by omega)
      rw [updL_other _ _ ne] at q ⊢
      rw [hN]
      obtain ⟨r1, r2⟩ := h.1 x y hx hy q
      refine ⟨r1, ?_⟩
      by_cases r : 16 * a + c < 256 ∧ mb (16 * a + c) = far
      · rw [if_pos r]; omega
      · rw [if_neg r]; omega
  · by_cases q : 16 * x + x = 16 * a + c
    · have e1 : x = a := by omega
      have e2 : x = c := by omega
      rw [q, updL_same, e]
      have := h.2 a ha
      rw [show 16 * a + a = 16 * a + c by omega] at this
      omega
    · rw [updL_other _ _ q]; exact h.2 x hx
theorem bi49 {Qx : Int32 → (Nat → Int64) → Prop} {mb0 : Nat → Int64} (hG : GW n w) (ht : ∀ x y, x < 16 → y < 16 → mw (16 * x + y) = w x y) (hL : Low w) (h0 : ∀ mb, BI w mb → Fxd w mb 4096 → Qx 0 mb) (h1 : ∀ mb, BI w mb → Mss mb 256 < Mss mb0 256 → Qx 1 mb) : ∀ (m k : Nat) (p : Int32) (mb : Nat → Int64), 4097 ≤ k + m → k ≤ 4096 → BI w mb → (p = 0 ∧ mb = mb0 ∧ Fxd w mb k) ∨ (p = 1 ∧ Mss mb 256 < Mss mb0 256) → M_bind_L49 mw Qx m p (Int32.ofNat k) mb := by
  intro m
  induction m with
  | zero => intro k p mb g1 g2; omega
  | succ m ih =>
    intro k p mb g1 g2 g3 g4
    unfold M_bind_L49
    rw [show (4096 : Int32) ≤ Int32.ofNat k ↔ 4096 ≤ k from i3_le (a := 4096) (by omega) (by omega), i3_succ, mod16e (by omega), div16e (by omega), mod16e (by omega), div256e (by omega)]
    refine ⟨fun h => ?_, fun h => ?_⟩
    · rcases g4 with ⟨rfl, -, q⟩ | ⟨rfl, q⟩
      · rw [show k = 4096 by omega] at q; exact h0 mb g3 q
      · exact h1 mb g3 q
    have ha : k / 256 < 16 := by omega
    have hb : k / 16 % 16 < 16 := by omega
    have hc : k % 16 < 16 := by omega
    have hk : 256 * (k / 256) + 16 * (k / 16 % 16) + k % 16 = k := by omega
    generalize k / 256 = a at *
    generalize k / 16 % 16 = b at *
    generalize k % 16 = c at *
    obtain ⟨e1, v1⟩ := at16' (i3_toInt (show a < 2147483648 by omega)) (i3_toInt (show b < 2147483648 by omega)) ha hb
    obtain ⟨e2, v2⟩ := at16' (i3_toInt (show b < 2147483648 by omega)) (i3_toInt (show c < 2147483648 by omega)) hb hc
    obtain ⟨e3, v3⟩ := at16' (i3_toInt (show a < 2147483648 by omega)) (i3_toInt (show c < 2147483648 by omega)) ha hc
    rw [e1, e2, e3, ht a b ha hb]
    have keep : (w a b ≠ far → mb (16 * b + c) ≠ far → (mb (16 * a + c)).toInt ≤ (w a b).toInt + (mb (16 * b + c)).toInt) → M_bind_L49 mw Qx m p (Int32.ofNat (k + 1)) mb := fun hf => by
      refine ih (k + 1) p mb (by omega) (by omega) g3 ?_
      rcases g4 with ⟨q1, q2, q3⟩ | q
      · refine Or.inl ⟨q1, q2, fun x y z hx hy hz hlt f1 f2 => ?_⟩
        by_cases r : 256 * x + 16 * y + z < k
        · exact q3 x y z hx hy hz r f1 f2
        · have r1 : x = a := by omega
          have r2 : y = b := by omega
          have r3 : z = c := by omega
          subst r1; subst r2; subst r3
          exact hf f1 f2
      · exact Or.inr q
    refine ⟨v1, v2, plus_of (fun hf => ⟨v3, fun _ => keep (fun f1 f2 => hf.elim (fun z => absurd z f1) (fun z => absurd z f2)), fun q => absurd (le_far _) q⟩) (fun f1 f2 => ⟨v3, fun q => keep (fun _ _ => ?_), fun q => ⟨v3, ?_⟩⟩)⟩
    · rw [le64, (g3.sum hG hL hb hc f1 f2).1] at q; exact q
    · have hlt : w a b + mb (16 * b + c) < mb (16 * a + c) := by rw [lt64]; rw [le64] at q; omega
      refine ih (k + 1) 1 _ (by omega) (by omega) (g3.step hG hL ha hb hc f1 f2 hlt) (Or.inr ⟨rfl, ?_⟩)
      have := (Mss_up hlt 256).1 (by omega)
      rcases g4 with ⟨-, q2, -⟩ | ⟨-, q2⟩
      · rw [q2] at this ⊢; exact this
      · omega
theorem bi41 {Qx : (Nat → Int64) → Prop} (hG : GW n w) (ht : ∀ x y, x < 16 → y < 16 → mw (16 * x + y) = w x y) (hL : Low w) (h0 : ∀ mb, BI w mb → Fxd w mb 4096 → Qx mb) : ∀ (m : Nat) (mb : Nat → Int64), Mss mb 256 + 1 ≤ m → BI w mb → M_bind_L41 mw Qx (m + 1) 1 mb := by
  intro m
  induction m with
  | zero => intro mb g1; omega
  | succ m ih =>
    intro mb g1 g2
    unfold M_bind_L41
    refine ⟨fun q => absurd q (by decide), fun _ => ⟨4097, bi49 (mb0 := mb) hG ht hL (fun mb' k1 k2 => ?_) (fun mb' k1 k2 => ih mb' (by omega) k1) 4097 0 0 mb (by omega) (by omega) g2 (Or.inl ⟨rfl, rfl, fun a b c _ _ _ q => by omega⟩)⟩⟩
    unfold M_bind_L41
    exact ⟨fun _ => h0 mb' k1 k2, fun q => absurd rfl q⟩
theorem BI.least (hG : GW n w) (hL : Low w) {mb : Nat → Int64} (h : BI w mb) (hF : Fxd w mb 4096) : ∀ a b, a < 16 → b < 16 → LA w a b (mb (16 * a + b)) := by
  have hn := hG.1
  have hN := Nfc_le mb 256
  have key : ∀ (k a b : Nat) (x : Int), a < 16 → Wk w k a b x → b < 16 ∧ mb (16 * a + b) ≠ far ∧ (mb (16 * a + b)).toInt ≤ x := by
    intro k
    induction k with
    | zero =>
      rintro a b x ha ⟨rfl, rfl⟩
      have := h.2 a ha
      exact ⟨ha, by rw [ne_far]; omega, this⟩
    | succ k ih =>
      rintro a b x ha ⟨c, y, q1, q2, rfl⟩
      have g := hG.2 a c q1
      obtain ⟨i1, i2, i3⟩ := ih c b y (by omega) q2
      have t := hF a c b ha (by omega) i1 (by omega) q1 i2
      have u := (h.1 c b (by omega) i1 i2).2
      exact ⟨i1, by rw [ne_far]; omega, by omega⟩
  intro a b ha hb
  by_cases f : mb (16 * a + b) = far
  · exact Or.inl ⟨f, fun k x hx => (key k a b x ha hx).2.1 f⟩
  · exact Or.inr ⟨f, (h.1 a b ha hb f).1, fun k x hx => (key k a b x ha hx).2.2⟩
theorem bi2 {Qx : (Nat → Int64) → Prop} (hq : ∀ mb, (∀ x y, x < 16 → y < 16 → mb (16 * x + y) = if x = y then 0 else far) → Qx mb) : ∀ (m k : Nat) (mb : Nat → Int64), 257 ≤ k + m → k ≤ 256 → (∀ x, x < k → mb x = if x / 16 = x % 16 then 0 else far) → M_bind_L2 Qx m (Int32.ofNat k) mb := by
  intro m
  induction m with
  | zero => intro k mb g1 g2; omega
  | succ m ih =>
    intro k mb g1 g2 g3
    unfold M_bind_L2
    rw [show (256 : Int32) ≤ Int32.ofNat k ↔ 256 ≤ k from i3_le (a := 256) (by omega) (by omega), i3_nat (by omega), i3_succ, eq32, div32 (by omega), mod32 (by omega)]
    have nxt : ∀ v, v = (if k / 16 = k % 16 then 0 else far) → ∀ x, x < k + 1 → (vp_updL mb k v) x = if x / 16 = x % 16 then 0 else far := fun v hv x hx => by
      by_cases e : x = k
      · subst e; rw [updL_same]; exact hv
      · rw [updL_other _ _ e]; exact g3 x (by omega)
    refine ⟨fun h => hq mb (fun x y hx hy => ?_), fun h => ⟨fun c => ⟨i3_in (by omega) (by omega), ih (k + 1) _ (by omega) (by omega) (nxt _ ?_)⟩, fun c => ⟨i3_in (by omega) (by omega), ih (k + 1) _ (by omega) (by omega) (nxt _ ?_)⟩⟩⟩
    · rw [g3 (16 * x + y) (by omega)]
      have e1 : (16 * x + y) / 16 = x := by omega
      have e2 : (16 * x + y) % 16 = y := by omega
      rw [e1, e2]
    · rw [if_neg (by omega)]
    · rw [if_pos (by omega)]
theorem BI.start {mb : Nat → Int64} (h : ∀ x y, x < 16 → y < 16 → mb (16 * x + y) = if x = y then 0 else far) : BI w mb := by
  have z : (0 : Int64).toInt = 0 := rfl
  refine ⟨fun x y hx hy q => ?_, fun x hx => ?_⟩
  · rw [h x y hx hy] at q ⊢
    by_cases e : x = y
    · rw [if_pos e, z]; exact ⟨⟨0, e, rfl⟩, by omega⟩
    · rw [if_neg e] at q; exact absurd rfl q
  · rw [h x x hx hx, if_pos rfl, z]; omega
end BIND
