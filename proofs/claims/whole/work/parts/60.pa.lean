/-! numbers -/
theorem lt32 {a b : Int32} : a < b ↔ a.toInt < b.toInt := Int32.lt_iff_toInt_lt
theorem le32 {a b : Int32} : a ≤ b ↔ a.toInt ≤ b.toInt := Int32.le_iff_toInt_le
theorem eq32 {a b : Int32} : a = b ↔ a.toInt = b.toInt := Int32.toInt_inj.symm
theorem lt64 {a b : Int64} : a < b ↔ a.toInt < b.toInt := Int64.lt_iff_toInt_lt
theorem le64 {a b : Int64} : a ≤ b ↔ a.toInt ≤ b.toInt := Int64.le_iff_toInt_le
theorem eq64 {a b : Int64} : a = b ↔ a.toInt = b.toInt := Int64.toInt_inj.symm
theorem w64 (a : Int32) : a.toInt64.toInt = a.toInt := Int32.toInt_toInt64 a
theorem rg32 (a : Int32) : -2147483648 ≤ a.toInt ∧ a.toInt < 2147483648 := ⟨a.minValue_le_toInt, by have := a.toInt_lt; exact this⟩
theorem rg64 (a : Int64) : -9223372036854775808 ≤ a.toInt ∧ a.toInt < 9223372036854775808 := ⟨a.minValue_le_toInt, by have := a.toInt_lt; exact this⟩
theorem nat32 (a : Int32) : a.toNatClampNeg = a.toInt.toNat := rfl
theorem add32 {a b : Int32} (h1 : -2147483648 ≤ a.toInt + b.toInt) (h2 : a.toInt + b.toInt < 2147483648) : (a + b).toInt = a.toInt + b.toInt := by
  rw [Int32.toInt_add]; exact Int.bmod_eq_of_le (by omega) (by omega)
theorem sub32 {a b : Int32} (h1 : -2147483648 ≤ a.toInt - b.toInt) (h2 : a.toInt - b.toInt < 2147483648) : (a - b).toInt = a.toInt - b.toInt := by
  rw [Int32.toInt_sub]; exact Int.bmod_eq_of_le (by omega) (by omega)
theorem add64 {a b : Int64} (h1 : -9223372036854775808 ≤ a.toInt + b.toInt) (h2 : a.toInt + b.toInt < 9223372036854775808) : (a + b).toInt = a.toInt + b.toInt := by
  rw [Int64.toInt_add]; exact Int.bmod_eq_of_le (by omega) (by omega)
theorem sub64 {a b : Int64} (h1 : -9223372036854775808 ≤ a.toInt - b.toInt) (h2 : a.toInt - b.toInt < 9223372036854775808) : (a - b).toInt = a.toInt - b.toInt := by
  rw [Int64.toInt_sub]; exact Int.bmod_eq_of_le (by omega) (by omega)
theorem in_iff {i : Int32} {n : Nat} : vp_in i n ↔ 0 ≤ i.toInt ∧ i.toInt < n := by
  unfold vp_in
  rw [lt32, nat32, show (0 : Int32).toInt = 0 from rfl]
  omega
theorem ofNat_nat {a : Int32} (h : 0 ≤ a.toInt) : a = Int32.ofNat a.toInt.toNat := by
  have := rg32 a
  rw [eq32, i3_toInt (by omega)]
  omega
theorem upd_same (f : Nat → Int32) (k : Nat) (v : Int32) : upd f k v k = v := by simp [upd]
theorem upd_other (f : Nat → Int32) {k j : Nat} (v : Int32) (h : j ≠ k) : upd f k v j = f j := by simp [upd, h]
theorem updL_same (f : Nat → Int64) (k : Nat) (v : Int64) : vp_updL f k v k = v := by simp [vp_updL]
theorem updL_other (f : Nat → Int64) {k j : Nat} (v : Int64) (h : j ≠ k) : vp_updL f k v j = f j := by simp [vp_updL, h]
/-! the checks of both sides -/
theorem X_checkSource_of {sc a1 : Int32} {Qr : Unit → Prop} {Qt : Nat → Prop} (h1 : 0 ≤ a1.toInt → a1.toInt < sc.toInt → Qr ()) (h2 : ¬ (0 ≤ a1.toInt ∧ a1.toInt < sc.toInt) → Qt 0) : X_checkSource_wp sc a1 Qr Qt := by
  unfold X_checkSource_wp
  rw [lt32, lt32, show (0 : Int32).toInt = 0 from rfl]
  exact ⟨fun h => h2 (by omega), fun h => ⟨fun g => h1 (by omega) g, fun g => h2 (by omega)⟩⟩
theorem X_checkItem_of {a1 : Int32} {Qr : Unit → Prop} {Qt : Nat → Prop} (h1 : 0 ≤ a1.toInt → a1.toInt < 200 → Qr ()) (h2 : ¬ (0 ≤ a1.toInt ∧ a1.toInt < 200) → Qt 0) : X_checkItem_wp a1 Qr Qt := by
  unfold X_checkItem_wp
  rw [lt32, lt32, show (0 : Int32).toInt = 0 from rfl, show (200 : Int32).toInt = 200 from rfl]
  exact ⟨fun h => h2 (by omega), fun h => ⟨fun g => h1 (by omega) g, fun g => h2 (by omega)⟩⟩
theorem X_checkEvent_of {ec a1 : Int32} {Qr : Unit → Prop} {Qt : Nat → Prop} (h1 : 1 ≤ a1.toInt → a1.toInt ≤ ec.toInt → Qr ()) (h2 : ¬ (1 ≤ a1.toInt ∧ a1.toInt ≤ ec.toInt) → Qt 0) : X_checkEvent_wp ec a1 Qr Qt := by
  unfold X_checkEvent_wp
  rw [lt32, le32, show (1 : Int32).toInt = 1 from rfl]
  exact ⟨fun h => h2 (by omega), fun h => ⟨fun g => h1 (by omega) g, fun g => h2 (by omega)⟩⟩
theorem X_checkClock_of {a : Int64} {Qr : Unit → Prop} {Qt : Nat → Prop} (h1 : -1000000000 ≤ a.toInt → a.toInt ≤ 1000000000 → Qr ()) (h2 : ¬ (-1000000000 ≤ a.toInt ∧ a.toInt ≤ 1000000000) → Qt 1) : X_checkClock_wp a Qr Qt := by
  unfold X_checkClock_wp
  rw [lt64, le64, show (-1000000000 : Int64).toInt = -1000000000 from rfl, show (1000000000 : Int64).toInt = 1000000000 from rfl]
  exact ⟨fun h => h2 (by omega), fun h => ⟨fun g => h1 (by omega) g, fun g => h2 (by omega)⟩⟩
theorem X_isBag_of {a : Int32} {Qr : Int32 → Unit → Prop} (h1 : 100 ≤ a.toInt → a.toInt < 200 → Qr 1 ()) (h2 : ¬ (100 ≤ a.toInt ∧ a.toInt < 200) → Qr 0 ()) : X_isBag_wp a Qr := by
  unfold X_isBag_wp
  rw [lt32, le32, show (100 : Int32).toInt = 100 from rfl, show (200 : Int32).toInt = 200 from rfl]
  exact ⟨fun h => h2 (by omega), fun h => ⟨fun g => h2 (by omega), fun g => h1 (by omega) (by omega)⟩⟩
/-- kind and place fit the item -/
def EKind (a0 a1 a2 : Int32) : Prop := 0 ≤ a1.toInt ∧ a1.toInt < 8 ∧ 0 ≤ a2.toInt ∧ a2.toInt < 200 ∧ ((a1 = 1 ∨ a1 = 2) → ¬ (100 ≤ a0.toInt ∧ a0.toInt < 200) ∧ (100 ≤ a2.toInt ∧ a2.toInt < 200))
theorem X_checkKind_of {a0 a1 a2 : Int32} {Qr : Unit → Prop} {Qt : Nat → Prop} (h1 : EKind a0 a1 a2 → Qr ()) (h2 : ¬ EKind a0 a1 a2 → Qt 1) : X_checkKindAndPlace_wp a0 a1 a2 Qr Qt := by
  unfold X_checkKindAndPlace_wp
  rw [lt32 (a := a1), lt32 (a := a1), lt32 (a := a2), lt32 (a := a2), show (0 : Int32).toInt = 0 from rfl, show (8 : Int32).toInt = 8 from rfl, show (200 : Int32).toInt = 200 from rfl]
  have bag : (a1 = 1 ∨ a1 = 2) → 0 ≤ a1.toInt ∧ a1.toInt < 8 → 0 ≤ a2.toInt ∧ a2.toInt < 200 → ∀ Q9 : Unit → Prop, Q9 = Qr → X_isBag_wp a0 (fun r _ => (¬ r = 0 → Qt 1) ∧ (r = 0 → X_isBag_wp a2 (fun r _ => (¬ r = 0 → Qr ()) ∧ (r = 0 → Qt 1)))) := fun hk g1 g2 _ _ => by
    refine X_isBag_of (fun b1 b2 => ⟨fun _ => h2 (fun e => (e.2.2.2.2 hk).1 ⟨b1, b2⟩), fun h => absurd h (by decide)⟩) (fun b1 => ⟨fun h => absurd rfl h, fun _ => ?_⟩)
    exact X_isBag_of (fun b3 b4 => ⟨fun _ => h1 ⟨g1.1, g1.2, g2.1, g2.2, fun _ => ⟨b1, b3, b4⟩⟩, fun h => absurd h (by decide)⟩) (fun b3 => ⟨fun h => absurd rfl h, fun _ => h2 (fun e => b3 (e.2.2.2.2 hk).2)⟩)
  refine ⟨fun h => h2 (fun e => by have := e.1; omega), fun h => ⟨fun g => ⟨fun h => h2 (fun e => by have := e.2.2.1; omega), fun k => ⟨fun q => ⟨fun c => ?_, fun c => ⟨fun c2 => ?_, fun c2 => ?_⟩⟩, fun q => h2 (fun e => by have := e.2.2.2.1; omega)⟩⟩, fun g => h2 (fun e => by have := e.2.1; omega)⟩⟩
  · exact bag (Or.inl c) ⟨by omega, g⟩ ⟨by omega, q⟩ Qr rfl
  · exact h1 ⟨by omega, g, by omega, q, fun hh => absurd hh (by rintro (z | z); exact c z; exact c2 z)⟩
  · exact bag (Or.inr c2) ⟨by omega, g⟩ ⟨by omega, q⟩ Qr rfl
theorem M_within_of {a lo hi : Int64} {Qr : Int32 → Unit → Prop} (h1 : lo.toInt ≤ a.toInt → a.toInt ≤ hi.toInt → Qr 1 ()) (h2 : ¬ (lo.toInt ≤ a.toInt ∧ a.toInt ≤ hi.toInt) → Qr 0 ()) : M_within_wp a lo hi Qr := by
  unfold M_within_wp
  rw [lt64, lt64]
  exact ⟨fun h => h2 (by omega), fun h => ⟨fun g => h2 (by omega), fun g => h1 (by omega) (by omega)⟩⟩
theorem M_isSource_of {msc a : Int32} {Qr : Int32 → Unit → Prop} (hs : 0 ≤ msc.toInt) (h1 : 0 ≤ a.toInt → a.toInt < msc.toInt → Qr 1 ()) (h2 : ¬ (0 ≤ a.toInt ∧ a.toInt < msc.toInt) → Qr 0 ()) : M_isSource_wp msc a Qr := by
  unfold M_isSource_wp
  have e : (msc - 1).toInt = msc.toInt - 1 := by
    have := rg32 msc
    rw [sub32] <;> rw [show (1 : Int32).toInt = 1 from rfl] <;> omega
  have z : (0 : Int64).toInt = 0 := rfl
  refine M_within_of (fun g1 g2 => ⟨Or.inr rfl, ?_⟩) (fun g => ⟨Or.inl rfl, ?_⟩)
  · rw [w64] at g1; rw [w64, w64, e] at g2; exact h1 (by omega) (by omega)
  · rw [w64, w64, e, z] at g; exact h2 (by omega)
theorem M_isEvent_of {mec a : Int32} {Qr : Int32 → Unit → Prop} (h1 : 1 ≤ a.toInt → a.toInt ≤ mec.toInt → Qr 1 ()) (h2 : ¬ (1 ≤ a.toInt ∧ a.toInt ≤ mec.toInt) → Qr 0 ()) : M_isEvent_wp mec a Qr := by
  unfold M_isEvent_wp
  have z : (1 : Int64).toInt = 1 := rfl
  refine M_within_of (fun g1 g2 => ⟨Or.inr rfl, ?_⟩) (fun g => ⟨Or.inl rfl, ?_⟩)
  · rw [w64] at g1; rw [w64, w64] at g2; exact h1 (by omega) (by omega)
  · rw [w64, w64, z] at g; exact h2 (by omega)
theorem M_refused_1 {mth b c : Int32} {Qr : Int32 → Int32 → Prop} (h : Qr 1 1) : M_refused_wp mth 1 b c Qr := by
  unfold M_refused_wp M_refused_B26
  exact ⟨fun g => absurd g (by decide), fun _ => ⟨fun g => absurd g (by decide), fun _ => h⟩⟩
theorem M_refused_2 {mth c : Int32} {Qr : Int32 → Int32 → Prop} (h : Qr 1 2) : M_refused_wp mth 0 1 c Qr := by
  unfold M_refused_wp M_refused_B26
  exact ⟨fun _ => ⟨fun g => absurd g (by decide), fun _ => ⟨fun g => absurd g (by decide), fun _ => h⟩⟩, fun g => absurd rfl g⟩
theorem M_refused_3 {mth : Int32} {Qr : Int32 → Int32 → Prop} (h : Qr 1 3) : M_refused_wp mth 0 0 1 Qr := by
  unfold M_refused_wp M_refused_B26
  exact ⟨fun _ => ⟨fun _ => ⟨fun g => absurd g (by decide), fun _ => ⟨fun g => absurd g (by decide), fun _ => h⟩⟩, fun g => absurd rfl g⟩, fun g => absurd rfl g⟩
theorem M_refused_0 {mth : Int32} {Qr : Int32 → Int32 → Prop} (h : Qr 0 0) : M_refused_wp mth 0 0 0 Qr := by
  unfold M_refused_wp M_refused_B26
  exact ⟨fun _ => ⟨fun _ => ⟨fun _ => ⟨fun _ => h, fun g => absurd (by decide) g⟩, fun g => absurd rfl g⟩, fun g => absurd rfl g⟩, fun g => absurd rfl g⟩
theorem LFin {t k : Int32} {o b : Int64} {Q : Prop} (h1 : t = k) (h2 : k = 0 → o = b) (hq : Q) : ((t = k → ((¬ k = 0 → Q) ∧ (k = 0 → ((o = b → Q) ∧ (¬ o = b → False))))) ∧ (¬ t = k → False)) := ⟨fun _ => ⟨fun _ => hq, fun hk => ⟨fun _ => hq, fun hn => hn (h2 hk)⟩⟩, fun hn => hn h1⟩
/-! the invariant -/
def ELt (plc : Nat → Int32) (tm : Nat → Int64) (e f : Nat) : Prop := tm e < tm f ∨ (tm e = tm f ∧ (plc e < plc f ∨ (plc e = plc f ∧ e < f)))
def EOrd (ne : Nat) (plc : Nat → Int32) (tm : Nat → Int64) (ord : Nat → Int32) : Prop := ∃ p : Nat → Nat, (∀ i, i < ne → ord i = Int32.ofNat (p i) ∧ 1 ≤ p i ∧ p i ≤ ne) ∧ (∀ i j, i < j → j < ne → ELt plc tm (p i) (p j)) ∧ ∀ e, 1 ≤ e → e ≤ ne → ∃ i, i < ne ∧ p i = e
def EOk (n ne nn : Nat) (sc : Int32) (src itm knd plc : Nat → Int32) (clk : Nat → Int64) (ec : Int32) (nf ns : Nat → Int32) (nc : Int32) : Prop :=
  n ≤ 16 ∧ ne ≤ 300 ∧ nn ≤ 300 ∧ sc = Int32.ofNat n ∧ ec = Int32.ofNat ne ∧ nc = Int32.ofNat nn ∧
  (∀ e, 1 ≤ e → e ≤ ne → (0 ≤ (src e).toInt ∧ (src e).toInt < n) ∧ (-1000000000 ≤ (clk e).toInt ∧ (clk e).toInt ≤ 1000000000)) ∧
  (∀ i, i < nn → (1 ≤ (nf i).toInt ∧ (nf i).toInt ≤ ne) ∧ (1 ≤ (ns i).toInt ∧ (ns i).toInt ≤ ne))
def ESet (n ne : Nat) (src plc : Nat → Int32) (clk : Nat → Int64) (ec : Int32) (bd : Nat → Nat → Int64) (off : Nat → Int64) (tm : Nat → Int64) (ord : Nat → Int32) (tc : Int32) (mb moff : Nat → Int64) : Prop :=
  tc = ec ∧ (∀ a b, a < n → b < n → mb (16 * a + b) = bd a b) ∧ (∀ s, s < n → moff s = off s) ∧ (∀ e, 1 ≤ e → e ≤ ne → tm e = clk e + off (src e).toNatClampNeg) ∧ EOrd ne plc tm ord
def EInv : LInv := fun sc sd src itm knd plc clk ec nf ns nc wt bd off row hw rl tm ord tc mth msc mec msrc mitm mknd mplc mclk mnc mnf mns msd mrl mrow mw mb mway moff out =>
  (sc = msc ∧ ec = mec ∧ src = msrc ∧ itm = mitm ∧ knd = mknd ∧ plc = mplc ∧ clk = mclk ∧ nc = mnc ∧ nf = mnf ∧ ns = mns ∧ sd = msd ∧ rl = mrl) ∧ x_bool sd ∧ (∃ k : Nat, k ≤ 16 ∧ rl = Int32.ofNat k ∧ ∀ i, i < k → mrow i = row i) ∧
  ∃ n ne nn : Nat, EOk n ne nn sc src itm knd plc clk ec nf ns nc ∧ (¬ sd = 0 → ESet n ne src plc clk ec bd off tm ord tc mb moff)
theorem EInv_start : EInv 0 0 (fun _ => 0) (fun _ => 0) (fun _ => 0) (fun _ => 0) (fun _ => 0) 0 (fun _ => 0) (fun _ => 0) 0 (fun _ _ => 0) (fun _ _ => 0) (fun _ => 0) (fun _ => 0) (fun _ _ => 0) 0 (fun _ => 0) (fun _ => 0) 0 0 0 0 (fun _ => 0) (fun _ => 0) (fun _ => 0) (fun _ => 0) (fun _ => 0) 0 (fun _ => 0) (fun _ => 0) 0 0 (fun _ => 0) (fun _ => 0) (fun _ => 0) (fun _ => 0) (fun _ => 0) (fun _ => 0) :=
  ⟨⟨rfl, rfl, rfl, rfl, rfl, rfl, rfl, rfl, rfl, rfl, rfl, rfl⟩, Or.inl rfl, ⟨0, by omega, rfl, fun i h => by omega⟩, 0, 0, 0, ⟨by omega, by omega, by omega, rfl, rfl, rfl, fun e h1 h2 => by omega, fun i h => by omega⟩, fun h => absurd rfl h⟩
