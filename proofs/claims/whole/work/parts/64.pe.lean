/-! the class's bounds -/
def Neg (w : Nat → Nat → Int64) : Prop := ∃ (k a : Nat) (x : Int), Wk w k a a x ∧ x < 0
def LA (w : Nat → Nat → Int64) (a b : Nat) (d : Int64) : Prop := (d = far ∧ ∀ k x, ¬ Wk w k a b x) ∨ (d ≠ far ∧ (∃ k, Wk w k a b d.toInt) ∧ ∀ k x, Wk w k a b x → d.toInt ≤ x)
theorem LA.uniq {w : Nat → Nat → Int64} {a b : Nat} {d e : Int64} (h1 : LA w a b d) (h2 : LA w a b e) : d = e := by
  rcases h1 with ⟨p, q⟩ | ⟨p, ⟨k, q⟩, r⟩ <;> rcases h2 with ⟨p', q'⟩ | ⟨p', ⟨k', q'⟩, r'⟩
  · rw [p, p']
  · exact absurd q' (q _ _)
  · exact absurd q (q' _ _)
  · have := r _ _ q'
    have := r' _ _ q
    rw [eq64]; omega
def Mb : Nat → Int
  | 0 => 2000000001
  | j + 1 => 2 * Mb j
theorem Mb_ge (j : Nat) : 2000000001 ≤ Mb j := by
  induction j with
  | zero => exact Int.le_refl _
  | succ j ih => show _ ≤ 2 * Mb j; omega
theorem Mb_mono {i j : Nat} (h : i ≤ j) : Mb i ≤ Mb j := by
  induction j with
  | zero => rw [show i = 0 by omega]; exact Int.le_refl _
  | succ j ih =>
    by_cases e : i = j + 1
    · rw [e]; exact Int.le_refl _
    · have := ih (by omega)
      have := Mb_ge j
      show _ ≤ 2 * Mb j; omega
theorem Mb_le {j : Nat} (h : j ≤ 16) : Mb j ≤ 131072000065536 := Mb_mono h
section FW
variable {w : Nat → Nat → Int64} {n : Nat}
/-- after j vias -/
def FWi (n : Nat) (w : Nat → Nat → Int64) (j : Nat) (v : Nat → Nat → Int64) : Prop :=
  (∀ a b, a < n → b < n → v a b ≠ far → (∃ k, Wk w k a b (v a b).toInt) ∧ -Mb j ≤ (v a b).toInt ∧ (v a b).toInt ≤ Mb j) ∧
  (∀ a, a < n → (v a a).toInt ≤ 0) ∧ (∀ a b, a < n → b < n → w a b ≠ far → (v a b).toInt ≤ (w a b).toInt) ∧
  ∀ c, c < j → ∀ a b, a < n → b < n → v a c ≠ far → v c b ≠ far → (v a b).toInt ≤ (v a c).toInt + (v c b).toInt
def FS (v : Nat → Nat → Int64) (c a b : Nat) : Int64 := if v a c ≠ far ∧ v c b ≠ far then (if v a c + v c b < v a b then v a c + v c b else v a b) else v a b
theorem FS_col {v : Nat → Nat → Int64} {c a : Nat} (h : v c c = 0) : FS v c a c = v a c := by
  unfold FS
  rw [h, Int64.add_zero]
  by_cases q : v a c ≠ far ∧ (0 : Int64) ≠ far
  · rw [if_pos q, if_neg (by rw [lt64]; omega)]
  · rw [if_neg q]
theorem FS_row {v : Nat → Nat → Int64} {c b : Nat} (h : v c c = 0) : FS v c c b = v c b := by
  unfold FS
  rw [h, Int64.zero_add]
  by_cases q : (0 : Int64) ≠ far ∧ v c b ≠ far
  · rw [if_pos q, if_neg (by rw [lt64]; omega)]
  · rw [if_neg q]
theorem FWi.step (hw : GW n w) {j : Nat} {v : Nat → Nat → Int64} (hj : j < n) (h : FWi n w j v) (hd : ∀ a, a < n → v a a = 0) : FWi n w (j + 1) (FS v j) := by
  obtain ⟨h1, h2, h3, h4⟩ := h
  have hn := hw.1
  have hM := Mb_ge j
  have hM2 := Mb_le (j := j) (by omega)
  have eM : Mb (j + 1) = 2 * Mb j := rfl
  have sum : ∀ a b, a < n → b < n → v a j ≠ far → v j b ≠ far → (v a j + v j b).toInt = (v a j).toInt + (v j b).toInt ∧ v a j + v j b ≠ far := fun a b ha hb q1 q2 => by
    have r1 := (h1 a j ha hj q1).2
    have r2 := (h1 j b hj hb q2).2
    have e : (v a j + v j b).toInt = (v a j).toInt + (v j b).toInt := add64 (by omega) (by omega)
    exact ⟨e, by rw [ne_far, e]; omega⟩
  have le1 : ∀ a b, (FS v j a b).toInt ≤ (v a b).toInt := fun a b => by
    unfold FS
    by_cases q : v a j ≠ far ∧ v j b ≠ far
    · rw [if_pos q]
      by_cases r : v a j + v j b < v a b
      · rw [if_pos r]; rw [lt64] at r; omega
      · rw [if_neg r]; exact Int.le_refl _
    · rw [if_neg q]; exact Int.le_refl _
  have le2 : ∀ a b, a < n → b < n → v a j ≠ far → v j b ≠ far → (FS v j a b).toInt ≤ (v a j).toInt + (v j b).toInt := fun a b ha hb q1 q2 => by
    obtain ⟨e, -⟩ := sum a b ha hb q1 q2
    unfold FS
    rw [if_pos ⟨q1, q2⟩]
    by_cases r : v a j + v j b < v a b
    · rw [if_pos r, e]; exact Int.le_refl _
    · rw [if_neg r]; rw [lt64] at r; omega
  have alt : ∀ a b, a < n → b < n → FS v j a b ≠ far → (FS v j a b = v a b ∧ v a b ≠ far) ∨ (v a j ≠ far ∧ v j b ≠ far ∧ (FS v j a b).toInt = (v a j).toInt + (v j b).toInt) := fun a b ha hb hf => by
    unfold FS at hf ⊢
    by_cases q : v a j ≠ far ∧ v j b ≠ far
    · rw [if_pos q] at hf ⊢
      by_cases r : v a j + v j b < v a b
      · rw [if_pos r] at hf ⊢
        exact Or.inr ⟨q.1, q.2, (sum a b ha hb q.1 q.2).1⟩
      · rw [if_neg r] at hf ⊢
        exact Or.inl ⟨rfl, hf⟩
    · rw [if_neg q] at hf ⊢
      exact Or.inl ⟨rfl, hf⟩
  refine ⟨fun a b ha hb hf => ?_, fun a ha => ?_, fun a b ha hb q => ?_, fun c hc a b ha hb q1 q2 => ?_⟩
  · rcases alt a b ha hb hf with ⟨e, q⟩ | ⟨q1, q2, e⟩
    · rw [e]
      have r := h1 a b ha hb q
      exact ⟨r.1, by omega, by omega⟩
    · obtain ⟨⟨k1, r1⟩, r2, r3⟩ := h1 a j ha hj q1
      obtain ⟨⟨k2, t1⟩, t2, t3⟩ := h1 j b hj hb q2
      rw [e]
      exact ⟨⟨k1 + k2, r1.app t1⟩, by omega, by omega⟩
  · have := le1 a a; have := h2 a ha; omega
  · have := le1 a b; have := h3 a b ha hb q; omega
  · have hcn : c < n := by omega
    by_cases ec : c = j
    · subst ec
      rw [FS_col (hd c hcn)] at q1 ⊢
      rw [FS_row (hd c hcn)] at q2 ⊢
      exact le2 a b ha hb q1 q2
    · have hcj : c < j := by omega
      rcases alt a c ha hcn q1 with ⟨e1, r1⟩ | ⟨r1, r2, e1⟩ <;> rcases alt c b hcn hb q2 with ⟨e2, s1⟩ | ⟨s1, s2, e2⟩
      · rw [e1, e2]
        have := h4 c hcj a b ha hb r1 s1
        have := le1 a b
        omega
      · rw [e1]
        have t := h4 c hcj a j ha hj r1 s1
        have b1 := (h1 a c ha hcn r1).2
        have b2 := (h1 c j hcn hj s1).2
        have f : v a j ≠ far := by rw [ne_far]; omega
        have := le2 a b ha hb f s2
        omega
      · rw [e2]
        have t := h4 c hcj j b hj hb r2 s1
        have b1 := (h1 j c hj hcn r2).2
        have b2 := (h1 c b hcn hb s1).2
        have f : v j b ≠ far := by rw [ne_far]; omega
        have := le2 a b ha hb r1 f
        omega
      · have t := h4 c hcj j j hj hj r2 s1
        have z : (v j j).toInt = 0 := by rw [hd j hj]; rfl
        have := le2 a b ha hb r1 s2
        omega
/-- all vias done, and no source comes home below zero -/
theorem FWi.done (hw : GW n w) {v : Nat → Nat → Int64} (h : FWi n w n v) (hd : ∀ a, a < n → v a a = 0) : (∀ a b, a < n → b < n → LA w a b (v a b)) ∧ ¬ Neg w := by
  obtain ⟨h1, h2, h3, h4⟩ := h
  have hn := hw.1
  have hM2 := Mb_le hn
  have key : ∀ (k a b : Nat) (x : Int), a < n → Wk w k a b x → b < n ∧ v a b ≠ far ∧ (v a b).toInt ≤ x := by
    intro k
    induction k with
    | zero =>
      rintro a b x ha ⟨rfl, rfl⟩
      have := h2 a ha
      exact ⟨ha, by rw [ne_far]; omega, this⟩
    | succ k ih =>
      rintro a b x ha ⟨c, y, q1, q2, rfl⟩
      have g := hw.2 a c q1
      obtain ⟨i1, i2, i3⟩ := ih c b y g.2.1 q2
      have l := h3 a c ha g.2.1 q1
      have f : v a c ≠ far := by rw [ne_far]; omega
      have t := h4 c g.2.1 a b ha i1 f i2
      have b1 := (h1 a c ha g.2.1 f).2
      have b2 := (h1 c b g.2.1 i1 i2).2
      exact ⟨i1, by rw [ne_far]; omega, by omega⟩
  refine ⟨fun a b ha hb => ?_, ?_⟩
  · by_cases f : v a b = far
    · exact Or.inl ⟨f, fun k x hx => (key k a b x ha hx).2.1 f⟩
    · exact Or.inr ⟨f, (h1 a b ha hb f).1, fun k x hx => (key k a b x ha hx).2.2⟩
  · rintro ⟨k, a, x, q1, q2⟩
    cases k with
    | zero => obtain ⟨-, rfl⟩ := q1; omega
    | succ k =>
      have ha := (Wk.lt hw q1).1
      have := (key (k + 1) a a x ha q1).2.2
      rw [hd a ha] at this
      have : (0 : Int) ≤ x := this
      omega
/-! its loops -/
theorem close_loop {bd : Nat → Nat → Int64} {Qr : Int32 → Unit → Prop} (hn : n ≤ 16) (h1 : (∃ a, a < n ∧ bd a a < 0) → Qr 1 ()) (h0 : (∀ a, a < n → ¬ bd a a < 0) → Qr 0 ()) : ∀ (m a : Nat), n + 1 ≤ a + m → a ≤ n → (∀ x, x < a → ¬ bd x x < 0) → Limits_closesBelowZero_L2 (Int32.ofNat n) bd Qr (Qr 0 ()) m (Int32.ofNat a) := by
  intro m
  induction m with
  | zero => intro a g1 g2; omega
  | succ m ih =>
    intro a g1 g2 g3
    unfold Limits_closesBelowZero_L2
    rw [i3_le (by omega) (by omega), i3_nat (by omega), i3_succ]
    refine ⟨fun h => h0 (fun x hx => g3 x (by omega)), fun h => ⟨i3_in (by omega) (by omega), i3_in (by omega) (by omega), fun c => ih (a + 1) (by omega) (by omega) (fun x hx => ?_), fun c => h1 ⟨a, by omega, ?_⟩⟩⟩
    · by_cases e : x = a
      · subst e; rw [le64] at c; rw [lt64]; omega
      · exact g3 x (by omega)
    · rw [le64] at c; rw [lt64]; omega
theorem close_of {bd : Nat → Nat → Int64} {Qr : Int32 → Unit → Prop} (hn : n ≤ 16) (h1 : (∃ a, a < n ∧ bd a a < 0) → Qr 1 ()) (h0 : (∀ a, a < n → ¬ bd a a < 0) → Qr 0 ()) : Limits_closesBelowZero_wp bd (Int32.ofNat n) Qr :=
  ⟨n + 1, close_loop hn h1 h0 (n + 1) 0 (by omega) (by omega) (fun x hx => by omega)⟩
/-- the rows ahead of (a, b) are done -/
def FWc (n : Nat) (v : Nat → Nat → Int64) (c a b : Nat) (cur : Nat → Nat → Int64) : Prop := ∀ x y, x < n → y < n → cur x y = if x < a ∨ (x = a ∧ y < b) then FS v c x y else v x y
theorem sh28 {v : Nat → Nat → Int64} {c a : Nat} {Qx : (Nat → Nat → Int64) → Prop} (hn : n ≤ 16) (hc : c < n) (ha : a < n) (hd : v c c = 0) (hf : v a c ≠ far) (hq : ∀ cur, FWc n v c (a + 1) 0 cur → Qx cur) : ∀ (m b : Nat) (cur : Nat → Nat → Int64), n + 1 ≤ b + m → b ≤ n → FWc n v c a b cur → Limits_shortenThrough_L28 (Int32.ofNat c) (Int32.ofNat n) (Int32.ofNat a) Qx m (Int32.ofNat b) cur := by
  intro m
  induction m with
  | zero => intro b cur g1 g2; omega
  | succ m ih =>
    intro b cur g1 g2 g3
    unfold Limits_shortenThrough_L28
    rw [i3_le (by omega) (by omega), i3_nat (by omega), i3_nat (by omega), i3_nat (by omega), i3_succ]
    have vc : vp_in (Int32.ofNat c) 16 := i3_in (by omega) (by omega)
    have va : vp_in (Int32.ofNat a) 16 := i3_in (by omega) (by omega)
    have eac : cur a c = v a c := by
      rw [g3 a c ha hc]
      by_cases q : a < a ∨ (a = a ∧ c < b)
      · rw [if_pos q, FS_col hd]
      · rw [if_neg q]
    refine ⟨fun h => hq cur (fun x y hx hy => ?_), fun h => ?_⟩
    · rw [g3 x y hx hy]
      by_cases q : x < a ∨ (x = a ∧ y < b)
      · rw [if_pos q, if_pos (Or.inl (by omega))]
      · rw [if_neg q, if_neg (by omega)]
    have hb : b < n := by omega
    have vb : vp_in (Int32.ofNat b) 16 := i3_in (by omega) (by omega)
    have ecb : cur c b = v c b := by
      rw [g3 c b hc hb]
      by_cases q : c < a ∨ (c = a ∧ b < b)
      · rw [if_pos q, FS_row hd]
      · rw [if_neg q]
    have eab : cur a b = v a b := by rw [g3 a b ha hb, if_neg (by omega)]
    rw [ecb, eac, eab]
    have nxt : ∀ cur', (∀ x y, x < n → y < n → ¬ (x = a ∧ y = b) → cur' x y = cur x y) → cur' a b = FS v c a b → FWc n v c a (b + 1) cur' := fun cur' k1 k2 x y hx hy => by
      by_cases q : x = a ∧ y = b
      · rw [q.1, q.2, k2, if_pos (Or.inr ⟨rfl, by omega⟩)]
      · rw [k1 x y hx hy q, g3 x y hx hy]
        by_cases r : x < a ∨ (x = a ∧ y < b)
        · rw [if_pos r, if_pos (by omega)]
        · rw [if_neg r, if_neg (by omega)]
    refine ⟨vc, vb, fun e => ih (b + 1) cur (by omega) (by omega) (nxt cur (fun _ _ _ _ _ => rfl) ?_), fun e => ⟨va, va, vb, va, vc, vc, vb, vb, ih (b + 1) _ (by omega) (by omega) (nxt _ (fun x y hx hy q => ?_) ?_)⟩⟩
    · rw [eab]; unfold FS; rw [if_neg (fun q => q.2 e)]
    · rw [up_at, if_neg q]
    · rw [up_at, if_pos (show a = a ∧ b = b from ⟨rfl, rfl⟩)]; unfold FS; rw [if_pos (show v a c ≠ far ∧ v c b ≠ far from ⟨hf, e⟩)]
theorem sh2 {v : Nat → Nat → Int64} {c : Nat} {Qx : (Nat → Nat → Int64) → Prop} (hn : n ≤ 16) (hc : c < n) (hd : v c c = 0) (hq : ∀ cur, (∀ x y, x < n → y < n → cur x y = FS v c x y) → Qx cur) : ∀ (m a : Nat) (cur : Nat → Nat → Int64), n + 1 ≤ a + m → a ≤ n → FWc n v c a 0 cur → Limits_shortenThrough_L2 (Int32.ofNat c) (Int32.ofNat n) Qx m (Int32.ofNat a) cur := by
  intro m
  induction m with
  | zero => intro a cur g1 g2; omega
  | succ m ih =>
    intro a cur g1 g2 g3
    unfold Limits_shortenThrough_L2
    rw [i3_le (by omega) (by omega), i3_nat (by omega), i3_nat (by omega), i3_succ]
    refine ⟨fun h => hq cur (fun x y hx hy => by rw [g3 x y hx hy, if_pos (by omega)]), fun h => ?_⟩
    have ha : a < n := by omega
    have eac : cur a c = v a c := by rw [g3 a c ha hc, if_neg (by omega)]
    rw [eac]
    refine ⟨i3_in (by omega) (by omega), i3_in (by omega) (by omega), fun e => ⟨n + 1, sh28 hn hc ha hd e (fun cur' k => ih (a + 1) cur' (by omega) (by omega) k) (n + 1) 0 cur (by omega) (by omega) g3⟩, fun e => ih (a + 1) cur (by omega) (by omega) (fun x y hx hy => ?_)⟩
    rw [g3 x y hx hy]
    by_cases r : x < a ∨ (x = a ∧ y < 0)
    · rw [if_pos r, if_pos (by omega)]
    · rw [if_neg r]
      by_cases q : x = a
      · subst q
        rw [if_pos (by omega)]; unfold FS; rw [if_neg (fun z => z.1 e)]
      · rw [if_neg (by omega)]
theorem sh_of {v : Nat → Nat → Int64} {c : Nat} {Qr : (Nat → Nat → Int64) → Prop} (hn : n ≤ 16) (hc : c < n) (hd : v c c = 0) (hq : ∀ cur, (∀ x y, x < n → y < n → cur x y = FS v c x y) → Qr cur) : Limits_shortenThrough_wp v (Int32.ofNat c) (Int32.ofNat n) Qr :=
  ⟨n + 1, sh2 hn hc hd (fun cur k => hq cur k) (n + 1) 0 v (by omega) (by omega) (fun x y hx hy => by rw [if_neg (by omega)])⟩
theorem FWi.congr {j : Nat} {v v' : Nat → Nat → Int64} (hj : j ≤ n) (h : FWi n w j v) (e : ∀ x y, x < n → y < n → v' x y = v x y) : FWi n w j v' := by
  obtain ⟨h1, h2, h3, h4⟩ := h
  refine ⟨fun a b ha hb => by rw [e a b ha hb]; exact h1 a b ha hb, fun a ha => by rw [e a a ha ha]; exact h2 a ha, fun a b ha hb => by rw [e a b ha hb]; exact h3 a b ha hb, fun c hc a b ha hb => ?_⟩
  rw [e a b ha hb, e a c ha (by omega), e c b (by omega) hb]
  exact h4 c hc a b ha hb
theorem fb78 {Qx : Int32 → (Nat → Nat → Int64) → Prop} (hw : GW n w) (h1 : ∀ v, (∀ a b, a < n → b < n → LA w a b (v a b)) → (∀ a b, a < n → b < n → v a b ≠ far → -131072000065536 ≤ (v a b).toInt ∧ (v a b).toInt ≤ 131072000065536) → ¬ Neg w → Qx 1 v) (h0 : ∀ v, Neg w → Qx 0 v) : ∀ (m j : Nat) (p : Int32) (v : Nat → Nat → Int64), n + 1 ≤ j + m → j ≤ n → (p = 0 ∧ Neg w) ∨ (p = 1 ∧ FWi n w j v ∧ ∀ a, a < n → v a a = 0) → Limits_findBounds_L78 (Int32.ofNat n) Qx m p (Int32.ofNat j) v := by
  have hn := hw.1
  intro m
  induction m with
  | zero => intro j p v g1 g2; omega
  | succ m ih =>
    intro j p v g1 g2 g3
    unfold Limits_findBounds_L78
    rw [i3_le (by omega) (by omega), i3_succ]
    rcases g3 with ⟨rfl, hneg⟩ | ⟨rfl, hF, hd⟩
    · exact ⟨fun _ => h0 v hneg, fun _ => ⟨fun _ => h0 v hneg, fun g => absurd rfl g⟩⟩
    · refine ⟨fun h => ?_, fun h => ⟨fun g => absurd g (by decide), fun _ => ?_⟩⟩
      · have e : j = n := by omega
        subst e
        obtain ⟨k1, k2⟩ := hF.done hw hd
        refine h1 v k1 (fun a b ha hb hf => ?_) k2
        have := (hF.1 a b ha hb hf).2
        have := Mb_le hn
        omega
      · have hj : j < n := by omega
        have hS := hF.step hw hj hd
        refine sh_of hn hj (hd j hj) (fun cur hcur => ?_)
        have hC := hS.congr (by omega) hcur
        refine close_of hn (fun ⟨a, ha, hlt⟩ => ⟨fun _ => ih (j + 1) 0 cur (by omega) (by omega) (Or.inl ⟨rfl, ?_⟩), fun g => absurd g (by decide)⟩) (fun hge => ⟨fun g => absurd rfl g, fun _ => ih (j + 1) 1 cur (by omega) (by omega) (Or.inr ⟨rfl, hC, fun a ha => ?_⟩)⟩)
        · rw [lt64, show (0 : Int64).toInt = 0 from rfl] at hlt
          obtain ⟨⟨k, hk⟩, -⟩ := hC.1 a a ha ha (by rw [ne_far]; omega)
          exact ⟨k, a, _, hk, hlt⟩
        · have q1 := hC.2.1 a ha
          have q2 := hge a ha
          rw [lt64, show (0 : Int64).toInt = 0 from rfl] at q2
          rw [eq64, show (0 : Int64).toInt = 0 from rfl]; omega
theorem fb9 {a : Nat} {wt b0 : Nat → Nat → Int64} {Qx : (Nat → Nat → Int64) → Prop} (hn : n ≤ 16) (ha : a < n) (hq : ∀ bd, (∀ y, y < n → bd a y = wt a y) → (∀ x, x ≠ a → bd x = b0 x) → Qx bd) : ∀ (m j : Nat) (bd : Nat → Nat → Int64), n + 1 ≤ j + m → j ≤ n → (∀ y, y < j → bd a y = wt a y) → (∀ x, x ≠ a → bd x = b0 x) → Limits_findBounds_L9 (Int32.ofNat n) (Int32.ofNat a) wt Qx m (Int32.ofNat j) bd := by
  intro m
  induction m with
  | zero => intro j wt g1 g2; omega
  | succ m ih =>
    intro j bd g1 g2 g3 g4
    unfold Limits_findBounds_L9
    rw [i3_le (by omega) (by omega), i3_nat (by omega), i3_nat (by omega), i3_succ]
    have va : vp_in (Int32.ofNat a) 16 := i3_in (by omega) (by omega)
    refine ⟨fun h => hq bd (fun y hy => g3 y (by omega)) g4, fun h => ⟨va, va, i3_in (by omega) (by omega), i3_in (by omega) (by omega), ih (j + 1) _ (by omega) (by omega) (fun y hy => ?_) (fun x hx => ?_)⟩⟩
    · rw [up_at]
      by_cases e : y = j
      · rw [if_pos ⟨rfl, e⟩, e]
      · rw [if_neg (fun q => e q.2)]; exact g3 y (by omega)
    · rw [up_other hx]; exact g4 x hx
def FI (wt : Nat → Nat → Int64) (a b : Nat) : Int64 := if a = b then (if 0 < wt a a then 0 else wt a a) else wt a b
theorem fb2 {wt : Nat → Nat → Int64} {Qx : (Nat → Nat → Int64) → Prop} (hn : n ≤ 16) (hq : ∀ bd, (∀ x y, x < n → y < n → bd x y = FI wt x y) → Qx bd) : ∀ (m a : Nat) (bd : Nat → Nat → Int64), n + 1 ≤ a + m → a ≤ n → (∀ x y, x < a → y < n → bd x y = FI wt x y) → Limits_findBounds_L2 (Int32.ofNat n) wt Qx m (Int32.ofNat a) bd := by
  intro m
  induction m with
  | zero => intro a bd g1 g2; omega
  | succ m ih =>
    intro a bd g1 g2 g3
    unfold Limits_findBounds_L2
    rw [i3_le (by omega) (by omega), i3_nat (by omega), i3_succ]
    refine ⟨fun h => hq bd (fun x y hx hy => g3 x y (by omega) hy), fun h => ?_⟩
    have va : vp_in (Int32.ofNat a) 16 := i3_in (by omega) (by omega)
    refine ⟨n + 1, fb9 (b0 := bd) hn (by omega) (fun bd' e1 e2 => ⟨va, va, va, va, ih (a + 1) _ (by omega) (by omega) (fun x y hx hy => ?_)⟩) (n + 1) 0 bd (by omega) (by omega) (fun y hy => by omega) (fun x _ => rfl)⟩
    rw [up_at]
    by_cases e : x = a
    · subst e
      by_cases f : y = x
      · subst f; rw [if_pos ⟨rfl, rfl⟩]; unfold FI; rw [if_pos rfl]
      · rw [if_neg (fun q => f q.2), e1 y hy]; unfold FI; rw [if_neg (fun q => f q.symm)]
    · rw [if_neg (fun q => e q.1), e2 x e]; exact g3 x y (by omega) hy
theorem FI.start (hw : GW n w) {wt v : Nat → Nat → Int64} (ht : ∀ x y, x < n → y < n → wt x y = w x y) (hv : ∀ x y, x < n → y < n → v x y = FI wt x y) : FWi n w 0 v := by
  have c0 : (0 : Int64).toInt = 0 := rfl
  have alt : ∀ a b, a < n → b < n → (v a b = w a b ∧ (a = b → (w a b).toInt ≤ 0)) ∨ (a = b ∧ v a b = 0 ∧ 0 < (w a b).toInt) := fun a b ha hb => by
    rw [hv a b ha hb]
    unfold FI
    by_cases e : a = b
    · subst e
      rw [if_pos rfl, ht a a ha ha]
      by_cases q : 0 < w a a
      · rw [if_pos q]; rw [lt64, c0] at q; exact Or.inr ⟨rfl, rfl, q⟩
      · rw [if_neg q]; rw [lt64, c0] at q; exact Or.inl ⟨rfl, fun _ => by omega⟩
    · rw [if_neg e, ht a b ha hb]; exact Or.inl ⟨rfl, fun q => absurd q e⟩
  have eM : Mb 0 = 2000000001 := rfl
  refine ⟨fun a b ha hb hf => ?_, fun a ha => ?_, fun a b ha hb q => ?_, fun c hc => by omega⟩
  · rcases alt a b ha hb with ⟨e, -⟩ | ⟨e1, e2, -⟩
    · rw [e] at hf ⊢
      have := hw.2 a b hf
      exact ⟨⟨1, Wk.one hf⟩, by omega, by omega⟩
    · rw [e2, c0, eM]
      exact ⟨⟨0, e1, rfl⟩, by omega, by omega⟩
  · rcases alt a a ha ha with ⟨e, q⟩ | ⟨-, e, -⟩
    · rw [e]; exact q rfl
    · rw [e, c0]; omega
  · rcases alt a b ha hb with ⟨e, -⟩ | ⟨-, e, q2⟩
    · rw [e]; exact Int.le_refl _
    · rw [e, c0]; omega
theorem findBounds_of {wt bd : Nat → Nat → Int64} {Qr : Int32 → (Nat → Nat → Int64) → Prop} (hw : GW n w) (ht : ∀ x y, x < n → y < n → wt x y = w x y) (h1 : ∀ v, (∀ a b, a < n → b < n → LA w a b (v a b)) → (∀ a b, a < n → b < n → v a b ≠ far → -131072000065536 ≤ (v a b).toInt ∧ (v a b).toInt ≤ 131072000065536) → ¬ Neg w → Qr 1 v) (h0 : ∀ v, Neg w → Qr 0 v) : Limits_findBounds_wp wt bd (Int32.ofNat n) Qr := by
  have hn := hw.1
  refine ⟨n + 1, fb2 hn (fun v hv => ?_) (n + 1) 0 bd (by omega) (by omega) (fun x y hx => by omega)⟩
  have hF := FI.start hw ht hv
  refine close_of hn (fun ⟨a, ha, hlt⟩ => ⟨fun _ => ⟨n + 1, fb78 hw (fun v k1 k2 k3 => ⟨Or.inr rfl, h1 v k1 k2 k3⟩) (fun v k => ⟨Or.inl rfl, h0 v k⟩) (n + 1) 0 0 v (by omega) (by omega) (Or.inl ⟨rfl, ?_⟩)⟩, fun g => absurd g (by decide)⟩) (fun hge => ⟨fun g => absurd rfl g, fun _ => ⟨n + 1, fb78 hw (fun v k1 k2 k3 => ⟨Or.inr rfl, h1 v k1 k2 k3⟩) (fun v k => ⟨Or.inl rfl, h0 v k⟩) (n + 1) 0 1 v (by omega) (by omega) (Or.inr ⟨rfl, hF, fun a ha => ?_⟩)⟩⟩)
  · rw [lt64, show (0 : Int64).toInt = 0 from rfl] at hlt
    obtain ⟨⟨k, hk⟩, -⟩ := hF.1 a a ha ha (by rw [ne_far]; omega)
    exact ⟨k, a, _, hk, hlt⟩
  · have q1 := hF.2.1 a ha
    have q2 := hge a ha
    rw [lt64, show (0 : Int64).toInt = 0 from rfl] at q2
    rw [eq64, show (0 : Int64).toInt = 0 from rfl]; omega
end FW
