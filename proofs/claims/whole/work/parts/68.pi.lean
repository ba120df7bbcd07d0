/-! offsets -/
def LoF (bd : Nat → Nat → Int64) (off : Nat → Int64) (s : Nat) : Nat → Int64
  | 0 => -9223372036854775807
  | t + 1 => if bd t s = far then LoF bd off s t else (if off t - bd t s < LoF bd off s t then LoF bd off s t else off t - bd t s)
def HiF (bd : Nat → Nat → Int64) (off : Nat → Int64) (s : Nat) : Nat → Int64
  | 0 => far
  | t + 1 => if bd s t = far then HiF bd off s t else (if off t + bd s t < HiF bd off s t then off t + bd s t else HiF bd off s t)
def Cho (lo hi : Int64) : Int64 := if (if 0 < hi then 0 else hi) < lo then lo else (if 0 < hi then 0 else hi)
def ChM (lo hi : Int64) : Int64 := if 0 < lo then lo else if hi < 0 then hi else 0
theorem LoF_far {bd : Nat → Nat → Int64} {off : Nat → Int64} {s t : Nat} (h : bd t s = far) : LoF bd off s (t + 1) = LoF bd off s t := by rw [LoF, if_pos h]
theorem LoF_fin {bd : Nat → Nat → Int64} {off : Nat → Int64} {s t : Nat} (h : ¬ bd t s = far) : LoF bd off s (t + 1) = if off t - bd t s < LoF bd off s t then LoF bd off s t else off t - bd t s := by rw [LoF, if_neg h]
theorem HiF_far {bd : Nat → Nat → Int64} {off : Nat → Int64} {s t : Nat} (h : bd s t = far) : HiF bd off s (t + 1) = HiF bd off s t := by rw [HiF, if_pos h]
theorem HiF_fin {bd : Nat → Nat → Int64} {off : Nat → Int64} {s t : Nat} (h : ¬ bd s t = far) : HiF bd off s (t + 1) = if off t + bd s t < HiF bd off s t then off t + bd s t else HiF bd off s t := by rw [HiF, if_neg h]
theorem LoF_congr {bd bd' : Nat → Nat → Int64} {off off' : Nat → Int64} {s : Nat} : ∀ t, (∀ x, x < t → off x = off' x ∧ bd x s = bd' x s) → LoF bd off s t = LoF bd' off' s t := by
  intro t
  induction t with
  | zero => intro _; rfl
  | succ t ih =>
    intro h
    unfold LoF
    rw [ih (fun x hx => h x (by omega)), (h t (by omega)).1, (h t (by omega)).2]
theorem HiF_congr {bd bd' : Nat → Nat → Int64} {off off' : Nat → Int64} {s : Nat} : ∀ t, (∀ x, x < t → off x = off' x ∧ bd s x = bd' s x) → HiF bd off s t = HiF bd' off' s t := by
  intro t
  induction t with
  | zero => intro _; rfl
  | succ t ih =>
    intro h
    unfold HiF
    rw [ih (fun x hx => h x (by omega)), (h t (by omega)).1, (h t (by omega)).2]
section OFF
variable {n : Nat} {bd : Nat → Nat → Int64}
theorem co19 {off : Nat → Int64} {s : Nat} {v1 : Int32} {Qx : Int64 → Int64 → Prop} (hs : s < 16) (hq : Qx (LoF bd off s s) (HiF bd off s s)) : ∀ (m t : Nat), s + 1 ≤ t + m → t ≤ s → Limits_chooseOffsets_L19 v1 (Int32.ofNat s) bd off Qx m (LoF bd off s t) (HiF bd off s t) (Int32.ofNat t) := by
  intro m
  induction m with
  | zero => intro t g1 g2; omega
  | succ m ih =>
    intro t g1 g2
    unfold Limits_chooseOffsets_L19
    rw [i3_le (by omega) (by omega), i3_nat (by omega), i3_nat (by omega), i3_succ]
    have vs : vp_in (Int32.ofNat s) 16 := i3_in (by omega) (by omega)
    have nx : ¬ s ≤ t → Limits_chooseOffsets_L19 v1 (Int32.ofNat s) bd off Qx m (LoF bd off s (t + 1)) (HiF bd off s (t + 1)) (Int32.ofNat (t + 1)) := fun h => ih (t + 1) (by omega) (by omega)
    refine ⟨fun h => by rw [show t = s by omega]; exact hq, fun h => ?_⟩
    have vt : vp_in (Int32.ofNat t) 16 := i3_in (by omega) (by omega)
    have nx := nx h
    refine ⟨vs, vt, fun e1 => ⟨vt, vs, fun e2 => ?_, fun e2 => ⟨vt, vt, vs, ?_⟩⟩, fun e1 => ⟨vt, vs, vt, vt, vs, fun e2 => ?_, fun e2 => ⟨vt, vt, vs, ?_⟩⟩⟩
    · rw [LoF_far e2, HiF_far e1] at nx; exact nx
    · rw [LoF_fin e2, HiF_far e1] at nx; exact nx
    · rw [LoF_far e2, HiF_fin e1] at nx; exact nx
    · rw [LoF_fin e2, HiF_fin e1] at nx; exact nx
def OffOk (n : Nat) (bd : Nat → Nat → Int64) (ch : Int64 → Int64 → Int64) (off : Nat → Int64) : Prop := ∀ s, s < n → off s = ch (LoF bd off s s) (HiF bd off s s)
theorem OffOk.push {ch : Int64 → Int64 → Int64} {s : Nat} {off : Nat → Int64} (h : OffOk s bd ch off) : OffOk (s + 1) bd ch (vp_updL off s (ch (LoF bd off s s) (HiF bd off s s))) := by
  intro x hx
  have e : ∀ z y, y ≤ s → LoF bd (vp_updL off s z) y y = LoF bd off y y ∧ HiF bd (vp_updL off s z) y y = HiF bd off y y := fun z y hy =>
    ⟨LoF_congr y (fun q hq => ⟨updL_other _ _ (by omega), rfl⟩), HiF_congr y (fun q hq => ⟨updL_other _ _ (by omega), rfl⟩)⟩
  obtain ⟨e1, e2⟩ := e (ch (LoF bd off s s) (HiF bd off s s)) x (by omega)
  rw [e1, e2]
  by_cases q : x = s
  · subst q; exact updL_same _ _ _
  · rw [updL_other _ _ q]; exact h x (by omega)
theorem co2 {Qx : (Nat → Int64) → Prop} (hn : n ≤ 16) (hq : ∀ off, OffOk n bd Cho off → Qx off) : ∀ (m s : Nat) (off : Nat → Int64), n + 1 ≤ s + m → s ≤ n → OffOk s bd Cho off → Limits_chooseOffsets_L2 (Int32.ofNat n) bd Qx m (Int32.ofNat s) off := by
  intro m
  induction m with
  | zero => intro s off g1 g2; omega
  | succ m ih =>
    intro s off g1 g2 g3
    unfold Limits_chooseOffsets_L2
    rw [i3_le (by omega) (by omega), i3_nat (by omega), i3_succ]
    refine ⟨fun h => hq off (by rw [show n = s by omega]; exact g3), fun h => ⟨s + 1, co19 (by omega) ⟨i3_in (by omega) (by omega), ih (s + 1) _ (by omega) (by omega) g3.push⟩ (s + 1) 0 (by omega) (by omega)⟩⟩
theorem choose_of {off : Nat → Int64} {Qr : (Nat → Int64) → Prop} (hn : n ≤ 16) (hq : ∀ off, OffOk n bd Cho off → Qr off) : Limits_chooseOffsets_wp bd off (Int32.ofNat n) Qr :=
  ⟨n + 1, co2 hn hq (n + 1) 0 off (by omega) (by omega) (fun s hs => by omega)⟩
theorem lo_eq {a b : Int64} : (a ≤ b → (if a < b then b else a) = b) ∧ (¬ a ≤ b → (if a < b then b else a) = a) := by
  refine ⟨fun h => ?_, fun h => ?_⟩
  · by_cases q : a < b
    · rw [if_pos q]
    · rw [if_neg q, eq64]; rw [lt64] at q; rw [le64] at h; omega
  · rw [if_neg (by rw [lt64]; rw [le64] at h; omega)]
theorem hi_eq {a b : Int64} : (b ≤ a → (if a < b then a else b) = b) ∧ (¬ b ≤ a → (if a < b then a else b) = a) := by
  refine ⟨fun h => ?_, fun h => ?_⟩
  · rw [if_neg (by rw [lt64]; rw [le64] at h; omega)]
  · rw [if_pos (by rw [lt64]; rw [le64] at h; omega)]
theorem mo170 {mb moff : Nat → Int64} {s : Nat} {Qx : Int64 → Int64 → Prop} (hs : s < 16) (hq : Qx (LoF (fun a b => mb (16 * a + b)) moff s s) (HiF (fun a b => mb (16 * a + b)) moff s s)) : ∀ (m t : Nat), s + 1 ≤ t + m → t ≤ s → M_bind_L170 (Int32.ofNat s) mb moff Qx m (LoF (fun a b => mb (16 * a + b)) moff s t) (HiF (fun a b => mb (16 * a + b)) moff s t) (Int32.ofNat t) := by
  intro m
  induction m with
  | zero => intro t g1 g2; omega
  | succ m ih =>
    intro t g1 g2
    unfold M_bind_L170
    rw [i3_le (by omega) (by omega), i3_nat (by omega), i3_succ]
    refine ⟨fun h => by rw [show t = s by omega]; exact hq, fun h => ?_⟩
    have ht : t < 16 := by omega
    obtain ⟨e1, w1⟩ := at16' (i3_toInt (show s < 2147483648 by omega)) (i3_toInt (show t < 2147483648 by omega)) hs ht
    obtain ⟨e2, w2⟩ := at16' (i3_toInt (show t < 2147483648 by omega)) (i3_toInt (show s < 2147483648 by omega)) ht hs
    rw [e1, e2, Int64.add_comm (mb (16 * s + t))]
    have vt : vp_in (Int32.ofNat t) 16 := i3_in (by omega) (by omega)
    have nx := ih (t + 1) (by omega) (by omega)
    have lf : mb (16 * t + s) = far → LoF (fun a b => mb (16 * a + b)) moff s (t + 1) = LoF (fun a b => mb (16 * a + b)) moff s t := fun e => LoF_far e
    have l1 : ¬ mb (16 * t + s) = far → (moff t - mb (16 * t + s) ≤ LoF (fun a b => mb (16 * a + b)) moff s t) → LoF (fun a b => mb (16 * a + b)) moff s (t + 1) = LoF (fun a b => mb (16 * a + b)) moff s t := fun e q => (LoF_fin (bd := fun a b => mb (16 * a + b)) e).trans (lo_eq.1 q)
    have l2 : ¬ mb (16 * t + s) = far → ¬ (moff t - mb (16 * t + s) ≤ LoF (fun a b => mb (16 * a + b)) moff s t) → LoF (fun a b => mb (16 * a + b)) moff s (t + 1) = moff t - mb (16 * t + s) := fun e q => (LoF_fin (bd := fun a b => mb (16 * a + b)) e).trans (lo_eq.2 q)
    have hf : mb (16 * s + t) = far → HiF (fun a b => mb (16 * a + b)) moff s (t + 1) = HiF (fun a b => mb (16 * a + b)) moff s t := fun e => HiF_far e
    have h1 : ¬ mb (16 * s + t) = far → (HiF (fun a b => mb (16 * a + b)) moff s t ≤ moff t + mb (16 * s + t)) → HiF (fun a b => mb (16 * a + b)) moff s (t + 1) = HiF (fun a b => mb (16 * a + b)) moff s t := fun e q => (HiF_fin (bd := fun a b => mb (16 * a + b)) e).trans (hi_eq.1 q)
    have h2 : ¬ mb (16 * s + t) = far → ¬ (HiF (fun a b => mb (16 * a + b)) moff s t ≤ moff t + mb (16 * s + t)) → HiF (fun a b => mb (16 * a + b)) moff s (t + 1) = moff t + mb (16 * s + t) := fun e q => (HiF_fin (bd := fun a b => mb (16 * a + b)) e).trans (hi_eq.2 q)
    refine ⟨w1, w2, fun a1 => ⟨fun a2 => ?_, fun a2 => ⟨vt, fun a3 => ?_, fun a3 => ⟨vt, ?_⟩⟩⟩, fun a1 => ⟨vt, fun b1 => ⟨fun a2 => ?_, fun a2 => ⟨vt, fun a3 => ?_, fun a3 => ⟨vt, ?_⟩⟩⟩, fun b1 => ⟨vt, fun a2 => ?_, fun a2 => ⟨vt, fun a3 => ?_, fun a3 => ⟨vt, ?_⟩⟩⟩⟩⟩
    · rw [lf a2, hf a1] at nx; exact nx
    · rw [l1 a2 a3, hf a1] at nx; exact nx
    · rw [l2 a2 a3, hf a1] at nx; exact nx
    · rw [lf a2, h1 a1 b1] at nx; exact nx
    · rw [l1 a2 a3, h1 a1 b1] at nx; exact nx
    · rw [l2 a2 a3, h1 a1 b1] at nx; exact nx
    · rw [lf a2, h2 a1 b1] at nx; exact nx
    · rw [l1 a2 a3, h2 a1 b1] at nx; exact nx
    · rw [l2 a2 a3, h2 a1 b1] at nx; exact nx
theorem mo152 {mb : Nat → Int64} {Qx : (Nat → Int64) → Prop} (hq : ∀ moff, OffOk 16 (fun a b => mb (16 * a + b)) ChM moff → Qx moff) : ∀ (m s : Nat) (moff : Nat → Int64), 17 ≤ s + m → s ≤ 16 → OffOk s (fun a b => mb (16 * a + b)) ChM moff → M_bind_L152 mb Qx m (Int32.ofNat s) moff := by
  intro m
  induction m with
  | zero => intro s off g1 g2; omega
  | succ m ih =>
    intro s moff g1 g2 g3
    unfold M_bind_L152
    rw [show (16 : Int32) ≤ Int32.ofNat s ↔ 16 ≤ s from i3_le (a := 16) (by omega) (by omega), i3_nat (by omega), i3_succ]
    refine ⟨fun h => hq moff (by rw [show s = 16 by omega] at g3; exact g3), fun h => ⟨s + 1, mo170 (by omega) ?_ (s + 1) 0 (by omega) (by omega)⟩⟩
    have vs : vp_in (Int32.ofNat s) 16 := i3_in (by omega) (by omega)
    have nx := ih (s + 1) _ (by omega) (by omega) g3.push
    generalize LoF (fun a b => mb (16 * a + b)) moff s s = lo at nx ⊢
    generalize HiF (fun a b => mb (16 * a + b)) moff s s = hi at nx ⊢
    unfold ChM at nx
    refine ⟨fun a1 => ⟨fun a2 => ⟨vs, ?_⟩, fun a2 => ⟨vs, ?_⟩⟩, fun a1 => ⟨vs, ?_⟩⟩
    · rw [if_neg (by rw [lt64]; rw [le64] at a1; omega), if_neg (by rw [lt64]; rw [le64] at a2; omega)] at nx; exact nx
    · rw [if_neg (by rw [lt64]; rw [le64] at a1; omega), if_pos (by rw [lt64]; rw [le64] at a2; omega)] at nx; exact nx
    · rw [if_pos (by rw [lt64]; rw [le64] at a1; omega)] at nx; exact nx
/-! both choices are the same -/
theorem LA.tri {w : Nat → Nat → Int64} {a b c : Nat} {x y z : Int64} (h1 : LA w a c x) (h2 : LA w c b y) (h3 : LA w a b z) (f1 : x ≠ far) (f2 : y ≠ far) : z ≠ far ∧ z.toInt ≤ x.toInt + y.toInt := by
  rcases h1 with ⟨e, -⟩ | ⟨-, ⟨k1, p1⟩, -⟩
  · exact absurd e f1
  rcases h2 with ⟨e, -⟩ | ⟨-, ⟨k2, p2⟩, -⟩
  · exact absurd e f2
  have p := p1.app p2
  rcases h3 with ⟨-, q⟩ | ⟨q1, -, q2⟩
  · exact absurd p (q _ _)
  · exact ⟨q1, q2 _ _ p⟩
variable {w : Nat → Nat → Int64}
/-- what the offsets below s keep -/
def OffI (bd : Nat → Nat → Int64) (off : Nat → Int64) (s : Nat) : Prop :=
  (∀ t, t < s → -((t + 1) * 131072000065536 : Int) ≤ (off t).toInt ∧ (off t).toInt ≤ (t + 1) * 131072000065536) ∧ ∀ t u, t < s → u < s → bd t u ≠ far → (off t).toInt - (off u).toInt ≤ (bd t u).toInt
def BdOk (n : Nat) (w bd : Nat → Nat → Int64) : Prop := n ≤ 16 ∧ (∀ a b, a < n → b < n → LA w a b (bd a b)) ∧ (∀ a b, a < n → b < n → bd a b ≠ far → -131072000065536 ≤ (bd a b).toInt ∧ (bd a b).toInt ≤ 131072000065536)
theorem LoF_is {off : Nat → Int64} {s : Nat} (hB : BdOk n w bd) (hs : s < n) (hI : OffI bd off s) : ∀ t, t ≤ s → (LoF bd off s t = -9223372036854775807 ∨ ∃ u, u < t ∧ bd u s ≠ far ∧ (LoF bd off s t).toInt = (off u).toInt - (bd u s).toInt) ∧ ∀ u, u < t → bd u s ≠ far → (off u).toInt - (bd u s).toInt ≤ (LoF bd off s t).toInt := by
  have hn := hB.1
  intro t
  induction t with
  | zero => intro _; exact ⟨Or.inl rfl, fun u hu => by omega⟩
  | succ t ih =>
    intro ht
    obtain ⟨h1, h2⟩ := ih (by omega)
    by_cases e : bd t s = far
    · rw [LoF_far e]
      refine ⟨h1.imp id (fun ⟨u, a, b, c⟩ => ⟨u, by omega, b, c⟩), fun u hu hf => ?_⟩
      by_cases q : u = t
      · subst q; exact absurd e hf
      · exact h2 u (by omega) hf
    · have b1 := hB.2.2 t s (by omega) hs e
      have b2 := hI.1 t (by omega)
      have es : (off t - bd t s).toInt = (off t).toInt - (bd t s).toInt := sub64 (by omega) (by omega)
      rw [LoF_fin e]
      by_cases q : off t - bd t s < LoF bd off s t
      · rw [if_pos q]
        rw [lt64, es] at q
        refine ⟨h1.imp id (fun ⟨u, a, b, c⟩ => ⟨u, by omega, b, c⟩), fun u hu hf => ?_⟩
        by_cases r : u = t
        · subst r; omega
        · exact h2 u (by omega) hf
      · rw [if_neg q]
        rw [lt64, es] at q
        refine ⟨Or.inr ⟨t, by omega, e, es⟩, fun u hu hf => ?_⟩
        rw [es]
        by_cases r : u = t
        · subst r; omega
        · have := h2 u (by omega) hf; omega
theorem HiF_is {off : Nat → Int64} {s : Nat} (hB : BdOk n w bd) (hs : s < n) (hI : OffI bd off s) : ∀ t, t ≤ s → (HiF bd off s t = far ∨ ∃ u, u < t ∧ bd s u ≠ far ∧ (HiF bd off s t).toInt = (off u).toInt + (bd s u).toInt) ∧ ∀ u, u < t → bd s u ≠ far → (HiF bd off s t).toInt ≤ (off u).toInt + (bd s u).toInt := by
  have hn := hB.1
  intro t
  induction t with
  | zero => intro _; exact ⟨Or.inl rfl, fun u hu => by omega⟩
  | succ t ih =>
    intro ht
    obtain ⟨h1, h2⟩ := ih (by omega)
    by_cases e : bd s t = far
    · rw [HiF_far e]
      refine ⟨h1.imp id (fun ⟨u, a, b, c⟩ => ⟨u, by omega, b, c⟩), fun u hu hf => ?_⟩
      by_cases q : u = t
      · subst q; exact absurd e hf
      · exact h2 u (by omega) hf
    · have b1 := hB.2.2 s t hs (by omega) e
      have b2 := hI.1 t (by omega)
      have es : (off t + bd s t).toInt = (off t).toInt + (bd s t).toInt := add64 (by omega) (by omega)
      rw [HiF_fin e]
      by_cases q : off t + bd s t < HiF bd off s t
      · rw [if_pos q]
        rw [lt64, es] at q
        refine ⟨Or.inr ⟨t, by omega, e, es⟩, fun u hu hf => ?_⟩
        rw [es]
        by_cases r : u = t
        · subst r; omega
        · have := h2 u (by omega) hf; omega
      · rw [if_neg q]
        rw [lt64, es] at q
        refine ⟨h1.imp id (fun ⟨u, a, b, c⟩ => ⟨u, by omega, b, c⟩), fun u hu hf => ?_⟩
        by_cases r : u = t
        · subst r; omega
        · exact h2 u (by omega) hf
theorem off_step {off : Nat → Int64} {s : Nat} (hB : BdOk n w bd) (hs : s < n) (hI : OffI bd off s) : Cho (LoF bd off s s) (HiF bd off s s) = ChM (LoF bd off s s) (HiF bd off s s) ∧ (off s = Cho (LoF bd off s s) (HiF bd off s s) → (bd s s).toInt ≤ 0 → -131072000065536 ≤ (bd s s).toInt → 0 ≤ (bd s s).toInt → OffI bd off (s + 1)) := by
  have hn := hB.1
  obtain ⟨l1, l2⟩ := LoF_is hB hs hI s (Nat.le_refl _)
  obtain ⟨u1, u2⟩ := HiF_is hB hs hI s (Nat.le_refl _)
  have lb : (LoF bd off s s = -9223372036854775807 ∨ (LoF bd off s s).toInt ≤ (s + 1) * 131072000065536 ∧ -((s + 1) * 131072000065536 : Int) ≤ (LoF bd off s s).toInt) := l1.imp id (fun ⟨u, a, b, c⟩ => by
    have := hI.1 u a; have := hB.2.2 u s (by omega) hs b; omega)
  have ub : (HiF bd off s s = far ∨ (HiF bd off s s).toInt ≤ (s + 1) * 131072000065536 ∧ -((s + 1) * 131072000065536 : Int) ≤ (HiF bd off s s).toInt) := u1.imp id (fun ⟨u, a, b, c⟩ => by
    have := hI.1 u a; have := hB.2.2 s u hs (by omega) b; omega)
  have hle : (LoF bd off s s).toInt ≤ (HiF bd off s s).toInt := by
    rcases l1 with e | ⟨u, a1, b1, c1⟩
    · rw [e, show (-9223372036854775807 : Int64).toInt = -9223372036854775807 from rfl]
      rcases ub with e2 | e2
      · rw [e2, far_toInt]; omega
      · omega
    · rcases u1 with e | ⟨v, a2, b2, c2⟩
      · rw [e, far_toInt]; have := rg64 (LoF bd off s s); omega
      · obtain ⟨q1, q2⟩ := LA.tri (hB.2.1 u s (by omega) hs) (hB.2.1 s v hs (by omega)) (hB.2.1 u v (by omega) (by omega)) b1 b2
        have := hI.2 u v a1 a2 q1
        omega
  have mz : (-9223372036854775807 : Int64).toInt = -9223372036854775807 := rfl
  have z0 : (0 : Int64).toInt = 0 := rfl
  have lbi : (LoF bd off s s).toInt ≤ (s + 1) * 131072000065536 := by
    rcases lb with e | e
    · rw [e, mz]; omega
    · exact e.1
  have ubi : -((s + 1) * 131072000065536 : Int) ≤ (HiF bd off s s).toInt := by
    rcases ub with e | e
    · rw [e, far_toInt]; omega
    · exact e.2
  generalize LoF bd off s s = lo at *
  generalize HiF bd off s s = hi at *
  have cho : lo.toInt ≤ (Cho lo hi).toInt ∧ (Cho lo hi).toInt ≤ hi.toInt ∧ -((s + 1) * 131072000065536 : Int) ≤ (Cho lo hi).toInt ∧ (Cho lo hi).toInt ≤ (s + 1) * 131072000065536 := by
    unfold Cho
    by_cases p : 0 < hi
    · rw [if_pos p]
      rw [lt64, z0] at p
      by_cases q : 0 < lo
      · rw [if_pos q]; rw [lt64, z0] at q; omega
      · rw [if_neg q, z0]; rw [lt64, z0] at q; omega
    · rw [if_neg p]
      rw [lt64, z0] at p
      by_cases q : hi < lo
      · rw [if_pos q]; rw [lt64] at q; omega
      · rw [if_neg q]; rw [lt64] at q; omega
  refine ⟨?_, fun e d1 d2 d3 => ⟨fun t ht => ?_, fun t u ht hu hf => ?_⟩⟩
  · unfold Cho ChM
    by_cases p : 0 < hi
    · rw [if_pos p]
      by_cases q : 0 < lo
      · rw [if_pos q, if_pos q]
      · rw [if_neg q, if_neg q, if_neg (by rw [lt64, z0]; rw [lt64, z0] at p; omega)]
    · rw [if_neg p]
      have q : ¬ hi < lo := by rw [lt64]; omega
      have r : ¬ 0 < lo := by rw [lt64, z0]; rw [lt64, z0] at p; omega
      rw [if_neg q, if_neg r]
      by_cases x : hi < 0
      · rw [if_pos x]
      · rw [if_neg x, eq64, z0]; rw [lt64, z0] at x p; omega
  · by_cases q : t = s
    · subst q; rw [e]; omega
    · have := hI.1 t (by omega); omega
  · by_cases q1 : t = s <;> by_cases q2 : u = s
    · subst q1; subst q2; omega
    · subst q1
      have := u2 u (by omega) hf
      rw [e]; omega
    · subst q2
      have := l2 t (by omega) hf
      rw [e]; omega
    · exact hI.2 t u (by omega) (by omega) hf
theorem off_same {off moff mb : Nat → Int64} (hB : BdOk n w bd) (hd : ∀ a, a < n → bd a a = 0) (hm : ∀ a b, a < n → b < n → mb (16 * a + b) = bd a b) (h1 : OffOk n bd Cho off) (h2 : OffOk 16 (fun a b => mb (16 * a + b)) ChM moff) : (∀ s, s < n → moff s = off s) ∧ ∀ s, s < n → -((s + 1) * 131072000065536 : Int) ≤ (off s).toInt ∧ (off s).toInt ≤ (s + 1) * 131072000065536 := by
  have hn := hB.1
  have key : ∀ s, s ≤ n → OffI bd off s ∧ ∀ t, t < s → moff t = off t := by
    intro s
    induction s with
    | zero => intro _; exact ⟨⟨fun t ht => by omega, fun t u ht => by omega⟩, fun t ht => by omega⟩
    | succ s ih =>
      intro hs
      obtain ⟨i1, i2⟩ := ih (by omega)
      obtain ⟨c1, c2⟩ := off_step hB (show s < n by omega) i1
      have dz : (bd s s).toInt = 0 := by rw [hd s (by omega)]; rfl
      refine ⟨c2 (h1 s (by omega)) (by omega) (by omega) (by omega), fun t ht => ?_⟩
      by_cases q : t = s
      · subst q
        rw [h2 t (by omega), h1 t (by omega), c1]
        have e1 : LoF (fun a b => mb (16 * a + b)) moff t t = LoF bd off t t := LoF_congr t (fun x hx => ⟨i2 x hx, hm x t (by omega) (by omega)⟩)
        have e2 : HiF (fun a b => mb (16 * a + b)) moff t t = HiF bd off t t := HiF_congr t (fun x hx => ⟨i2 x hx, hm t x (by omega) (by omega)⟩)
        rw [e1, e2]
      · exact i2 t (by omega)
  exact ⟨(key n (Nat.le_refl _)).2, (key n (Nat.le_refl _)).1.1⟩
end OFF
