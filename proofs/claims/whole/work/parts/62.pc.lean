/-! walks over the sources -/
abbrev far : Int64 := 9223372036854775807
theorem far_toInt : far.toInt = 9223372036854775807 := rfl
theorem ne_far {d : Int64} : d ≠ far ↔ d.toInt < 9223372036854775807 := by
  have := rg64 d
  rw [Ne, eq64, far_toInt]; omega
def Wk (w : Nat → Nat → Int64) : Nat → Nat → Nat → Int → Prop
  | 0, a, b, x => a = b ∧ x = 0
  | k + 1, a, b, x => ∃ (c : Nat) (y : Int), w a c ≠ far ∧ Wk w k c b y ∧ x = (w a c).toInt + y
/-- the graph: steps only among the first n, each step's weight small -/
def GW (n : Nat) (w : Nat → Nat → Int64) : Prop := n ≤ 16 ∧ ∀ a c, w a c ≠ far → a < n ∧ c < n ∧ -2000000001 ≤ (w a c).toInt ∧ (w a c).toInt ≤ 2000000001
section WALK
variable {w : Nat → Nat → Int64} {n : Nat}
theorem Wk.bound (hw : GW n w) : ∀ {k a b : Nat} {x : Int}, Wk w k a b x → -(k * 2000000001 : Int) ≤ x ∧ x ≤ k * 2000000001 := by
  intro k
  induction k with
  | zero => rintro a b x ⟨-, rfl⟩; omega
  | succ k ih =>
    rintro a b x ⟨c, y, h1, h2, rfl⟩
    have := ih h2
    have := (hw.2 a c h1).2.2
    omega
theorem Wk.lt (hw : GW n w) : ∀ {k a b : Nat} {x : Int}, Wk w (k + 1) a b x → a < n ∧ b < n := by
  intro k
  induction k with
  | zero =>
    rintro a b x ⟨c, y, h1, ⟨rfl, -⟩, -⟩
    exact ⟨(hw.2 a c h1).1, (hw.2 a c h1).2.1⟩
  | succ k ih =>
    rintro a b x ⟨c, y, h1, h2, -⟩
    exact ⟨(hw.2 a c h1).1, (ih h2).2⟩
theorem Wk.app : ∀ {j k a c b : Nat} {x y : Int}, Wk w j a c x → Wk w k c b y → Wk w (j + k) a b (x + y) := by
  intro j
  induction j with
  | zero =>
    rintro k a c b x y ⟨rfl, rfl⟩ h
    rw [Nat.zero_add, Int.zero_add]; exact h
  | succ j ih =>
    rintro k a c b x y ⟨d, z, h1, h2, rfl⟩ h
    rw [show j + 1 + k = (j + k) + 1 by omega]
    exact ⟨d, z + y, h1, ih h2 h, by omega⟩
theorem Wk.one {a b : Nat} (h : w a b ≠ far) : Wk w 1 a b (w a b).toInt := ⟨b, 0, h, ⟨rfl, rfl⟩, by omega⟩
/-- a walk as a row of sources -/
def Pth (w : Nat → Nat → Int64) (f : Nat → Nat) (i k : Nat) : Prop := ∀ t, i ≤ t → t < i + k → w (f t) (f (t + 1)) ≠ far
def Psm (w : Nat → Nat → Int64) (f : Nat → Nat) (i : Nat) : Nat → Int
  | 0 => 0
  | k + 1 => Psm w f i k + (w (f (i + k)) (f (i + k + 1))).toInt
theorem Pth.walk {f : Nat → Nat} : ∀ {k i : Nat}, Pth w f i k → Wk w k (f i) (f (i + k)) (Psm w f i k) := by
  intro k
  induction k with
  | zero => intro i _; exact ⟨rfl, rfl⟩
  | succ k ih =>
    intro i h
    have h1 : Wk w k (f i) (f (i + k)) (Psm w f i k) := ih (fun t q1 q2 => h t q1 (by omega))
    exact h1.app (Wk.one (h (i + k) (by omega) (by omega)))
theorem Wk.path : ∀ {k a b : Nat} {x : Int}, Wk w k a b x → ∃ f : Nat → Nat, f 0 = a ∧ f k = b ∧ Pth w f 0 k := by
  intro k
  induction k with
  | zero =>
    rintro a b x ⟨rfl, -⟩
    exact ⟨fun _ => a, rfl, rfl, fun t _ h => by omega⟩
  | succ k ih =>
    rintro a b x ⟨c, y, h1, h2, -⟩
    obtain ⟨f, f0, fk, fp⟩ := ih h2
    refine ⟨fun t => if t = 0 then a else f (t - 1), by simp, by simp [fk], fun t _ ht => ?_⟩
    by_cases h : t = 0
    · subst h; simp [f0, h1]
    · have e : t + 1 - 1 = (t - 1) + 1 := by omega
      simp only [h, if_false, Nat.add_eq_zero_iff, Nat.one_ne_zero, and_false]
      rw [e]
      exact fp (t - 1) (by omega) (by omega)
theorem Wk.path2 : ∀ {k a b : Nat} {x : Int}, Wk w k a b x → ∃ f : Nat → Nat, f 0 = a ∧ f k = b ∧ Pth w f 0 k ∧ Psm w f 0 k = x := by
  intro k
  induction k with
  | zero =>
    rintro a b x ⟨rfl, rfl⟩
    exact ⟨fun _ => a, rfl, rfl, fun t _ h => by omega, rfl⟩
  | succ k ih =>
    rintro a b x ⟨c, y, h1, h2, rfl⟩
    obtain ⟨f, f0, fk, fp, fs⟩ := ih h2
    have hp : ∀ t, t < k + 1 → w ((fun t => if t = 0 then a else f (t - 1)) t) ((fun t => if t = 0 then a else f (t - 1)) (t + 1)) = if t = 0 then w a c else w (f (t - 1)) (f (t - 1 + 1)) := fun t ht => by
      by_cases h : t = 0
      · subst h; simp [f0]
      · have e : t + 1 - 1 = (t - 1) + 1 := by omega
        simp only [h, if_false, Nat.add_eq_zero_iff, Nat.one_ne_zero, and_false]
        rw [e]
    refine ⟨fun t => if t = 0 then a else f (t - 1), by simp, by simp [fk], fun t _ ht => ?_, ?_⟩
    · rw [hp t (by omega)]
      by_cases h : t = 0
      · simp [h, h1]
      · simp only [h, if_false]; exact fp (t - 1) (by omega) (by omega)
    · have key : ∀ m, m ≤ k → Psm w (fun t => if t = 0 then a else f (t - 1)) 0 (m + 1) = (w a c).toInt + Psm w f 0 m := by
        intro m
        induction m with
        | zero =>
          intro _
          show 0 + _ = _ + 0
          rw [hp 0 (by omega)]; simp
        | succ m ihm =>
          intro hm
          show Psm w _ 0 (m + 1) + _ = _ + (_ + _)
          rw [ihm (by omega), hp (0 + (m + 1)) (by omega)]
          simp only [Nat.zero_add, Nat.add_eq_zero_iff, Nat.one_ne_zero, and_false, if_false, Nat.add_sub_cancel]
          omega
      rw [key k (Nat.le_refl k), fs]
theorem Psm.add {f : Nat → Nat} {i : Nat} : ∀ (m l : Nat), Psm w f i (m + l) = Psm w f i m + Psm w f (i + m) l := by
  intro m l
  induction l with
  | zero => show Psm w f i m = Psm w f i m + 0; omega
  | succ l ih =>
    show Psm w f i (m + l) + (w (f (i + (m + l))) (f (i + (m + l) + 1))).toInt = _ + (_ + _)
    rw [ih, show i + (m + l) = i + m + l by omega]; omega
theorem pigeon : ∀ (n : Nat) (f : Nat → Nat), (∀ i, i ≤ n → f i < n) → ∃ i j, i < j ∧ j ≤ n ∧ f i = f j := by
  intro n
  induction n with
  | zero => intro f h; exact absurd (h 0 (by omega)) (by omega)
  | succ n ih =>
    intro f h
    by_cases hc : ∃ i, i ≤ n ∧ f i = f (n + 1)
    · obtain ⟨i, h1, h2⟩ := hc
      exact ⟨i, n + 1, by omega, by omega, h2⟩
    · have hne : ∀ i, i ≤ n → f i ≠ f (n + 1) := fun i hi e => hc ⟨i, hi, e⟩
      obtain ⟨i, j, h1, h2, h3⟩ := ih (fun i => if f i = n then f (n + 1) else f i) (fun i hi => by
        have q1 := h i (by omega)
        have q2 := h (n + 1) (by omega)
        have q3 := hne i hi
        show (if f i = n then f (n + 1) else f i) < n
        by_cases e : f i = n
        · rw [if_pos e]; omega
        · rw [if_neg e]; omega)
      refine ⟨i, j, h1, by omega, ?_⟩
      have q3 := hne i (by omega)
      have q4 := hne j (by omega)
      have h3 : (if f i = n then f (n + 1) else f i) = (if f j = n then f (n + 1) else f j) := h3
      by_cases e1 : f i = n <;> by_cases e2 : f j = n
      · omega
      · rw [if_pos e1, if_neg e2] at h3; omega
      · rw [if_neg e1, if_pos e2] at h3; omega
      · rw [if_neg e1, if_neg e2] at h3; exact h3
/-- a closed walk below zero has one of at most n steps -/
theorem Wk.short (hw : GW n w) : ∀ (k : Nat) (a : Nat) (x : Int), Wk w k a a x → x < 0 → ∃ (j s : Nat) (y : Int), 1 ≤ j ∧ j ≤ n ∧ Wk w j s s y ∧ y < 0 := by
  intro k
  induction k using Nat.strongRecOn with
  | ind k ih =>
    intro a x h hx
    by_cases hk : k ≤ n
    · refine ⟨k, a, x, ?_, hk, h, hx⟩
      cases k with
      | zero => obtain ⟨-, rfl⟩ := h; omega
      | succ k => omega
    · obtain ⟨f, f0, fk, fp, fs⟩ := h.path2
      obtain ⟨i, j, h1, h2, h3⟩ := pigeon n f (fun i hi => (hw.2 _ _ (fp i (by omega) (by omega))).1)
      have p1 : Wk w i (f 0) (f (0 + i)) (Psm w f 0 i) := Pth.walk (fun t q1 q2 => fp t q1 (by omega))
      have p2 : Wk w (j - i) (f i) (f (i + (j - i))) (Psm w f i (j - i)) := Pth.walk (fun t q1 q2 => fp t (by omega) (by omega))
      have p3 : Wk w (k - j) (f j) (f (j + (k - j))) (Psm w f j (k - j)) := Pth.walk (fun t q1 q2 => fp t (by omega) (by omega))
      have s1 : Psm w f 0 k = Psm w f 0 i + Psm w f i (j - i) + Psm w f j (k - j) := by
        have e1 := Psm.add (w := w) (f := f) (i := 0) i (k - i)
        have e2 := Psm.add (w := w) (f := f) (i := i) (j - i) (k - j)
        rw [show i + (k - i) = k by omega, Nat.zero_add] at e1
        rw [show j - i + (k - j) = k - i by omega, show i + (j - i) = j by omega] at e2
        omega
      rw [show i + (j - i) = j by omega] at p2
      rw [show j + (k - j) = k by omega] at p3
      rw [Nat.zero_add] at p1
      rw [f0] at p1
      rw [fk] at p3
      by_cases hz : Psm w f i (j - i) < 0
      · rw [← h3] at p2
        exact ih (j - i) (by omega) (f i) _ p2 hz
      · rw [← h3] at p3
        have p4 := p1.app p3
        exact ih (i + (k - j)) (by omega) a _ p4 (by omega)
/-- the least sum of the walks of k steps -/
def Lst (w : Nat → Nat → Int64) (k a b : Nat) (d : Int64) : Prop := (d = far ∧ ∀ x, ¬ Wk w k a b x) ∨ (d ≠ far ∧ Wk w k a b d.toInt ∧ ∀ x, Wk w k a b x → d.toInt ≤ x)
theorem Lst.uniq {k a b : Nat} {d e : Int64} (h1 : Lst w k a b d) (h2 : Lst w k a b e) : d = e := by
  rcases h1 with ⟨p, q⟩ | ⟨p, q, r⟩ <;> rcases h2 with ⟨p', q'⟩ | ⟨p', q', r'⟩
  · rw [p, p']
  · exact absurd q' (q _)
  · exact absurd q (q' _)
  · have := r _ q'
    have := r' _ q
    rw [eq64]; omega
theorem Lst.neg {k a b : Nat} {d : Int64} (h : Lst w k a b d) : d < 0 ↔ ∃ x, Wk w k a b x ∧ x < 0 := by
  rw [lt64, show (0 : Int64).toInt = 0 from rfl]
  rcases h with ⟨p, q⟩ | ⟨p, q, r⟩
  · rw [p, far_toInt]
    exact ⟨fun g => by omega, fun ⟨x, g, _⟩ => absurd g (q x)⟩
  · exact ⟨fun g => ⟨_, q, g⟩, fun ⟨x, g1, g2⟩ => by have := r x g1; omega⟩
theorem Lst.zero (a b : Nat) : Lst w 0 a b (if a = b then 0 else far) := by
  by_cases h : a = b
  · rw [if_pos h]
    exact Or.inr ⟨by decide, ⟨h, rfl⟩, fun x hx => by have := hx.2; rw [show (0 : Int64).toInt = 0 from rfl]; omega⟩
  · rw [if_neg h]
    exact Or.inl ⟨rfl, fun x hx => h hx.1⟩
/-- the same of the walks whose first step goes below m -/
def LstTo (w : Nat → Nat → Int64) (k a b m : Nat) (d : Int64) : Prop := (d = far ∧ ∀ c y, c < m → w a c ≠ far → ¬ Wk w k c b y) ∨ (d ≠ far ∧ (∃ c y, c < m ∧ w a c ≠ far ∧ Wk w k c b y ∧ d.toInt = (w a c).toInt + y) ∧ ∀ c y, c < m → w a c ≠ far → Wk w k c b y → d.toInt ≤ (w a c).toInt + y)
theorem LstTo.zero {k a b : Nat} : LstTo w k a b 0 far := Or.inl ⟨rfl, fun c y h => by omega⟩
theorem LstTo.all (hw : GW n w) {k a b m : Nat} {d : Int64} (hm : n ≤ m) (h : LstTo w k a b m d) : Lst w (k + 1) a b d := by
  rcases h with ⟨p, q⟩ | ⟨p, ⟨c, y, q1, q2, q3, q4⟩, r⟩
  · refine Or.inl ⟨p, ?_⟩
    rintro x ⟨c, y, h1, h2, -⟩
    exact q c y (Nat.lt_of_lt_of_le (hw.2 a c h1).2.1 hm) h1 h2
  · refine Or.inr ⟨p, ⟨c, y, q2, q3, q4⟩, ?_⟩
    rintro x ⟨c, y, h1, h2, rfl⟩
    exact r c y (Nat.lt_of_lt_of_le (hw.2 a c h1).2.1 hm) h1 h2
theorem LstTo.skip {k a b m : Nat} {d : Int64} (h : LstTo w k a b m d) (hs : w a m = far ∨ ∀ y, ¬ Wk w k m b y) : LstTo w k a b (m + 1) d := by
  have no : ∀ y, w a m ≠ far → ¬ Wk w k m b y := fun y h1 => hs.elim (fun e => absurd e h1) (fun e => e y)
  rcases h with ⟨p, q⟩ | ⟨p, ⟨c, y, q1, q2, q3, q4⟩, r⟩
  · refine Or.inl ⟨p, fun c y h1 h2 h3 => ?_⟩
    by_cases e : c = m
    · subst e; exact no y h2 h3
    · exact q c y (by omega) h2 h3
  · refine Or.inr ⟨p, ⟨c, y, by omega, q2, q3, q4⟩, fun c y h1 h2 h3 => ?_⟩
    by_cases e : c = m
    · subst e; exact absurd h3 (no y h2)
    · exact r c y (by omega) h2 h3
theorem Lst.fin {k a b : Nat} {d : Int64} (h : Lst w k a b d) (hd : d ≠ far) : Wk w k a b d.toInt ∧ ∀ x, Wk w k a b x → d.toInt ≤ x := by
  rcases h with ⟨p, q⟩ | ⟨p, q⟩
  · exact absurd p hd
  · exact q
theorem Lst.inf {k a b : Nat} {d : Int64} (h : Lst w k a b d) (hd : d = far) : ∀ x, ¬ Wk w k a b x := by
  rcases h with ⟨p, q⟩ | ⟨p, q⟩
  · exact q
  · exact absurd hd p
theorem step_sum (hw : GW n w) {k a b m : Nat} {r : Int64} (hk : k ≤ 300) (hr : Lst w k m b r) (h1 : w a m ≠ far) (h2 : r ≠ far) : (w a m + r).toInt = (w a m).toInt + r.toInt ∧ w a m + r ≠ far := by
  have q1 := (hw.2 a m h1).2.2
  have q2 := Wk.bound hw (hr.fin h2).1
  have e : (w a m + r).toInt = (w a m).toInt + r.toInt := add64 (by omega) (by omega)
  exact ⟨e, by rw [ne_far, e]; omega⟩
theorem LstTo.take (hw : GW n w) {k a b m : Nat} {d r : Int64} (hk : k ≤ 300) (h : LstTo w k a b m d) (hr : Lst w k m b r) (h1 : w a m ≠ far) (h2 : r ≠ far) : LstTo w k a b (m + 1) (if w a m + r < d then w a m + r else d) := by
  obtain ⟨e, hf⟩ := step_sum hw hk hr h1 h2
  obtain ⟨r1, r2⟩ := hr.fin h2
  by_cases hc : w a m + r < d
  · rw [if_pos hc]
    rw [lt64, e] at hc
    refine Or.inr ⟨hf, ⟨m, r.toInt, by omega, h1, r1, e⟩, fun c y g1 g2 g3 => ?_⟩
    rw [e]
    by_cases ec : c = m
    · subst ec; have := r2 y g3; omega
    · rcases h with ⟨p, q⟩ | ⟨p, -, q⟩
      · exact absurd g3 (q c y (by omega) g2)
      · have := q c y (by omega) g2 g3; omega
  · rw [if_neg hc]
    rw [lt64, e] at hc
    rcases h with ⟨p, q⟩ | ⟨p, ⟨c, y, q1, q2, q3, q4⟩, q⟩
    · rw [p, far_toInt] at hc
      rw [ne_far, e] at hf
      omega
    · refine Or.inr ⟨p, ⟨c, y, by omega, q2, q3, q4⟩, fun c y g1 g2 g3 => ?_⟩
      by_cases ec : c = m
      · subst ec; have := r2 y g3; omega
      · exact q c y (by omega) g2 g3
end WALK
