theorem i3_toInt {k : Nat} (h : k < 2147483648) : (Int32.ofNat k).toInt = (k : Int) := Int32.toInt_ofNat_of_lt (by simpa using h)
theorem i3_nat {k : Nat} (h : k < 2147483648) : (Int32.ofNat k).toNatClampNeg = k := by
  show (Int32.ofNat k).toInt.toNat = k
  rw [i3_toInt h]; rfl
theorem i3_inj {a b : Nat} (ha : a < 2147483648) (hb : b < 2147483648) : Int32.ofNat a = Int32.ofNat b ↔ a = b := by
  constructor
  · intro h
    have := congrArg Int32.toInt h
    rw [i3_toInt ha, i3_toInt hb] at this
    omega
  · intro h; rw [h]
theorem i3_le {a b : Nat} (ha : a < 2147483648) (hb : b < 2147483648) : Int32.ofNat a ≤ Int32.ofNat b ↔ a ≤ b := by
  rw [Int32.le_iff_toInt_le, i3_toInt ha, i3_toInt hb]; omega
theorem i3_lt {a b : Nat} (ha : a < 2147483648) (hb : b < 2147483648) : Int32.ofNat a < Int32.ofNat b ↔ a < b := by
  rw [Int32.lt_iff_toInt_lt, i3_toInt ha, i3_toInt hb]; omega
theorem i3_add (a b : Nat) : Int32.ofNat a + Int32.ofNat b = Int32.ofNat (a + b) := (Int32.ofNat_add a b).symm
theorem i3_in {k n : Nat} (h : k < n) (hk : k < 2147483648) : vp_in (Int32.ofNat k) n := by
  unfold vp_in
  rw [Int32.lt_iff_toInt_lt, i3_toInt hk, i3_nat hk]
  rintro (q | q)
  · have : (k : Int) < 0 := q
    omega
  · omega
theorem i3_subI {a : Nat} {b : Int32} (ha : a < 2147483648) (h1 : -2147483648 ≤ (a : Int) - b.toInt) (h2 : (a : Int) - b.toInt < 2147483648) : (Int32.ofNat a - b).toInt = (a : Int) - b.toInt := by
  rw [Int32.toInt_sub, i3_toInt ha]
  exact Int.bmod_eq_of_le (by omega) (by omega)

abbrev LInv : Type := Int32 → Int32 → (Nat → Int32) → (Nat → Int32) → (Nat → Int32) → (Nat → Int32) → (Nat → Int64) → Int32 → (Nat → Int32) → (Nat → Int32) → Int32 → (Nat → Nat → Int64) → (Nat → Nat → Int64) → (Nat → Int64) → (Nat → Int32) → (Nat → Nat → Int64) → Int32 → (Nat → Int64) → (Nat → Int32) → Int32 → Int32 → Int32 → Int32 → (Nat → Int32) → (Nat → Int32) → (Nat → Int32) → (Nat → Int32) → (Nat → Int64) → Int32 → (Nat → Int32) → (Nat → Int32) → Int32 → Int32 → (Nat → Int32) → (Nat → Int64) → (Nat → Int64) → (Nat → Int64) → (Nat → Int64) → (Nat → Int64) → Prop
def LRange (L : Nat) (i : Int32) : Prop := vp_in i L ∧ vp_in (i + 1) L ∧ vp_in (i + 2) L ∧ vp_in (i + 3) L ∧ vp_in (i + 4) L ∧ vp_in (i + 5) L ∧ vp_in (i + 6) L
def LStep (Inv : LInv) (L : Nat) (xs : Nat → Int32) : Prop := (∀ (i : Int32) (sc : Int32) (sd : Int32) (src : (Nat → Int32)) (itm : (Nat → Int32)) (knd : (Nat → Int32)) (plc : (Nat → Int32)) (clk : (Nat → Int64)) (ec : Int32) (nf : (Nat → Int32)) (ns : (Nat → Int32)) (nc : Int32) (wt : (Nat → Nat → Int64)) (bd : (Nat → Nat → Int64)) (off : (Nat → Int64)) (row : (Nat → Int32)) (hw : (Nat → Nat → Int64)) (rl : Int32) (tm : (Nat → Int64)) (ord : (Nat → Int32)) (tc : Int32) (mth : Int32) (msc : Int32) (mec : Int32) (msrc : (Nat → Int32)) (mitm : (Nat → Int32)) (mknd : (Nat → Int32)) (mplc : (Nat → Int32)) (mclk : (Nat → Int64)) (mnc : Int32) (mnf : (Nat → Int32)) (mns : (Nat → Int32)) (msd : Int32) (mrl : Int32) (mrow : (Nat → Int32)) (mw : (Nat → Int64)) (mb : (Nat → Int64)) (mway : (Nat → Int64)) (moff : (Nat → Int64)) (out : Nat → Int64), LRange L i → Inv sc sd src itm knd plc clk ec nf ns nc wt bd off row hw rl tm ord tc mth msc mec msrc mitm mknd mplc mclk mnc mnf mns msd mrl mrow mw mb mway moff out → LC_0 L xs i Inv sc sd src itm knd plc clk ec nf ns nc wt bd off row hw rl tm ord tc mth msc mec msrc mitm mknd mplc mclk mnc mnf mns msd mrl mrow mw mb mway moff out) ∧ (∀ (i : Int32) (sc : Int32) (sd : Int32) (src : (Nat → Int32)) (itm : (Nat → Int32)) (knd : (Nat → Int32)) (plc : (Nat → Int32)) (clk : (Nat → Int64)) (ec : Int32) (nf : (Nat → Int32)) (ns : (Nat → Int32)) (nc : Int32) (wt : (Nat → Nat → Int64)) (bd : (Nat → Nat → Int64)) (off : (Nat → Int64)) (row : (Nat → Int32)) (hw : (Nat → Nat → Int64)) (rl : Int32) (tm : (Nat → Int64)) (ord : (Nat → Int32)) (tc : Int32) (mth : Int32) (msc : Int32) (mec : Int32) (msrc : (Nat → Int32)) (mitm : (Nat → Int32)) (mknd : (Nat → Int32)) (mplc : (Nat → Int32)) (mclk : (Nat → Int64)) (mnc : Int32) (mnf : (Nat → Int32)) (mns : (Nat → Int32)) (msd : Int32) (mrl : Int32) (mrow : (Nat → Int32)) (mw : (Nat → Int64)) (mb : (Nat → Int64)) (mway : (Nat → Int64)) (moff : (Nat → Int64)) (out : Nat → Int64), LRange L i → Inv sc sd src itm knd plc clk ec nf ns nc wt bd off row hw rl tm ord tc mth msc mec msrc mitm mknd mplc mclk mnc mnf mns msd mrl mrow mw mb mway moff out → LC_1 L xs i Inv sc sd src itm knd plc clk ec nf ns nc wt bd off row hw rl tm ord tc mth msc mec msrc mitm mknd mplc mclk mnc mnf mns msd mrl mrow mw mb mway moff out) ∧ (∀ (i : Int32) (sc : Int32) (sd : Int32) (src : (Nat → Int32)) (itm : (Nat → Int32)) (knd : (Nat → Int32)) (plc : (Nat → Int32)) (clk : (Nat → Int64)) (ec : Int32) (nf : (Nat → Int32)) (ns : (Nat → Int32)) (nc : Int32) (wt : (Nat → Nat → Int64)) (bd : (Nat → Nat → Int64)) (off : (Nat → Int64)) (row : (Nat → Int32)) (hw : (Nat → Nat → Int64)) (rl : Int32) (tm : (Nat → Int64)) (ord : (Nat → Int32)) (tc : Int32) (mth : Int32) (msc : Int32) (mec : Int32) (msrc : (Nat → Int32)) (mitm : (Nat → Int32)) (mknd : (Nat → Int32)) (mplc : (Nat → Int32)) (mclk : (Nat → Int64)) (mnc : Int32) (mnf : (Nat → Int32)) (mns : (Nat → Int32)) (msd : Int32) (mrl : Int32) (mrow : (Nat → Int32)) (mw : (Nat → Int64)) (mb : (Nat → Int64)) (mway : (Nat → Int64)) (moff : (Nat → Int64)) (out : Nat → Int64), LRange L i → Inv sc sd src itm knd plc clk ec nf ns nc wt bd off row hw rl tm ord tc mth msc mec msrc mitm mknd mplc mclk mnc mnf mns msd mrl mrow mw mb mway moff out → LC_2 L xs i Inv sc sd src itm knd plc clk ec nf ns nc wt bd off row hw rl tm ord tc mth msc mec msrc mitm mknd mplc mclk mnc mnf mns msd mrl mrow mw mb mway moff out) ∧ (∀ (i : Int32) (sc : Int32) (sd : Int32) (src : (Nat → Int32)) (itm : (Nat → Int32)) (knd : (Nat → Int32)) (plc : (Nat → Int32)) (clk : (Nat → Int64)) (ec : Int32) (nf : (Nat → Int32)) (ns : (Nat → Int32)) (nc : Int32) (wt : (Nat → Nat → Int64)) (bd : (Nat → Nat → Int64)) (off : (Nat → Int64)) (row : (Nat → Int32)) (hw : (Nat → Nat → Int64)) (rl : Int32) (tm : (Nat → Int64)) (ord : (Nat → Int32)) (tc : Int32) (mth : Int32) (msc : Int32) (mec : Int32) (msrc : (Nat → Int32)) (mitm : (Nat → Int32)) (mknd : (Nat → Int32)) (mplc : (Nat → Int32)) (mclk : (Nat → Int64)) (mnc : Int32) (mnf : (Nat → Int32)) (mns : (Nat → Int32)) (msd : Int32) (mrl : Int32) (mrow : (Nat → Int32)) (mw : (Nat → Int64)) (mb : (Nat → Int64)) (mway : (Nat → Int64)) (moff : (Nat → Int64)) (out : Nat → Int64), LRange L i → Inv sc sd src itm knd plc clk ec nf ns nc wt bd off row hw rl tm ord tc mth msc mec msrc mitm mknd mplc mclk mnc mnf mns msd mrl mrow mw mb mway moff out → LC_3 L xs i Inv sc sd src itm knd plc clk ec nf ns nc wt bd off row hw rl tm ord tc mth msc mec msrc mitm mknd mplc mclk mnc mnf mns msd mrl mrow mw mb mway moff out) ∧ (∀ (i : Int32) (sc : Int32) (sd : Int32) (src : (Nat → Int32)) (itm : (Nat → Int32)) (knd : (Nat → Int32)) (plc : (Nat → Int32)) (clk : (Nat → Int64)) (ec : Int32) (nf : (Nat → Int32)) (ns : (Nat → Int32)) (nc : Int32) (wt : (Nat → Nat → Int64)) (bd : (Nat → Nat → Int64)) (off : (Nat → Int64)) (row : (Nat → Int32)) (hw : (Nat → Nat → Int64)) (rl : Int32) (tm : (Nat → Int64)) (ord : (Nat → Int32)) (tc : Int32) (mth : Int32) (msc : Int32) (mec : Int32) (msrc : (Nat → Int32)) (mitm : (Nat → Int32)) (mknd : (Nat → Int32)) (mplc : (Nat → Int32)) (mclk : (Nat → Int64)) (mnc : Int32) (mnf : (Nat → Int32)) (mns : (Nat → Int32)) (msd : Int32) (mrl : Int32) (mrow : (Nat → Int32)) (mw : (Nat → Int64)) (mb : (Nat → Int64)) (mway : (Nat → Int64)) (moff : (Nat → Int64)) (out : Nat → Int64), LRange L i → Inv sc sd src itm knd plc clk ec nf ns nc wt bd off row hw rl tm ord tc mth msc mec msrc mitm mknd mplc mclk mnc mnf mns msd mrl mrow mw mb mway moff out → LC_4 L xs i Inv sc sd src itm knd plc clk ec nf ns nc wt bd off row hw rl tm ord tc mth msc mec msrc mitm mknd mplc mclk mnc mnf mns msd mrl mrow mw mb mway moff out) ∧ (∀ (i : Int32) (sc : Int32) (sd : Int32) (src : (Nat → Int32)) (itm : (Nat → Int32)) (knd : (Nat → Int32)) (plc : (Nat → Int32)) (clk : (Nat → Int64)) (ec : Int32) (nf : (Nat → Int32)) (ns : (Nat → Int32)) (nc : Int32) (wt : (Nat → Nat → Int64)) (bd : (Nat → Nat → Int64)) (off : (Nat → Int64)) (row : (Nat → Int32)) (hw : (Nat → Nat → Int64)) (rl : Int32) (tm : (Nat → Int64)) (ord : (Nat → Int32)) (tc : Int32) (mth : Int32) (msc : Int32) (mec : Int32) (msrc : (Nat → Int32)) (mitm : (Nat → Int32)) (mknd : (Nat → Int32)) (mplc : (Nat → Int32)) (mclk : (Nat → Int64)) (mnc : Int32) (mnf : (Nat → Int32)) (mns : (Nat → Int32)) (msd : Int32) (mrl : Int32) (mrow : (Nat → Int32)) (mw : (Nat → Int64)) (mb : (Nat → Int64)) (mway : (Nat → Int64)) (moff : (Nat → Int64)) (out : Nat → Int64), LRange L i → Inv sc sd src itm knd plc clk ec nf ns nc wt bd off row hw rl tm ord tc mth msc mec msrc mitm mknd mplc mclk mnc mnf mns msd mrl mrow mw mb mway moff out → LC_5 L xs i Inv sc sd src itm knd plc clk ec nf ns nc wt bd off row hw rl tm ord tc mth msc mec msrc mitm mknd mplc mclk mnc mnf mns msd mrl mrow mw mb mway moff out) ∧ (∀ (i : Int32) (sc : Int32) (sd : Int32) (src : (Nat → Int32)) (itm : (Nat → Int32)) (knd : (Nat → Int32)) (plc : (Nat → Int32)) (clk : (Nat → Int64)) (ec : Int32) (nf : (Nat → Int32)) (ns : (Nat → Int32)) (nc : Int32) (wt : (Nat → Nat → Int64)) (bd : (Nat → Nat → Int64)) (off : (Nat → Int64)) (row : (Nat → Int32)) (hw : (Nat → Nat → Int64)) (rl : Int32) (tm : (Nat → Int64)) (ord : (Nat → Int32)) (tc : Int32) (mth : Int32) (msc : Int32) (mec : Int32) (msrc : (Nat → Int32)) (mitm : (Nat → Int32)) (mknd : (Nat → Int32)) (mplc : (Nat → Int32)) (mclk : (Nat → Int64)) (mnc : Int32) (mnf : (Nat → Int32)) (mns : (Nat → Int32)) (msd : Int32) (mrl : Int32) (mrow : (Nat → Int32)) (mw : (Nat → Int64)) (mb : (Nat → Int64)) (mway : (Nat → Int64)) (moff : (Nat → Int64)) (out : Nat → Int64), LRange L i → Inv sc sd src itm knd plc clk ec nf ns nc wt bd off row hw rl tm ord tc mth msc mec msrc mitm mknd mplc mclk mnc mnf mns msd mrl mrow mw mb mway moff out → LC_6 L xs i Inv sc sd src itm knd plc clk ec nf ns nc wt bd off row hw rl tm ord tc mth msc mec msrc mitm mknd mplc mclk mnc mnf mns msd mrl mrow mw mb mway moff out) ∧ (∀ (i : Int32) (sc : Int32) (sd : Int32) (src : (Nat → Int32)) (itm : (Nat → Int32)) (knd : (Nat → Int32)) (plc : (Nat → Int32)) (clk : (Nat → Int64)) (ec : Int32) (nf : (Nat → Int32)) (ns : (Nat → Int32)) (nc : Int32) (wt : (Nat → Nat → Int64)) (bd : (Nat → Nat → Int64)) (off : (Nat → Int64)) (row : (Nat → Int32)) (hw : (Nat → Nat → Int64)) (rl : Int32) (tm : (Nat → Int64)) (ord : (Nat → Int32)) (tc : Int32) (mth : Int32) (msc : Int32) (mec : Int32) (msrc : (Nat → Int32)) (mitm : (Nat → Int32)) (mknd : (Nat → Int32)) (mplc : (Nat → Int32)) (mclk : (Nat → Int64)) (mnc : Int32) (mnf : (Nat → Int32)) (mns : (Nat → Int32)) (msd : Int32) (mrl : Int32) (mrow : (Nat → Int32)) (mw : (Nat → Int64)) (mb : (Nat → Int64)) (mway : (Nat → Int64)) (moff : (Nat → Int64)) (out : Nat → Int64), LRange L i → Inv sc sd src itm knd plc clk ec nf ns nc wt bd off row hw rl tm ord tc mth msc mec msrc mitm mknd mplc mclk mnc mnf mns msd mrl mrow mw mb mway moff out → LC_7 L xs i Inv sc sd src itm knd plc clk ec nf ns nc wt bd off row hw rl tm ord tc mth msc mec msrc mitm mknd mplc mclk mnc mnf mns msd mrl mrow mw mb mway moff out) ∧ (∀ (i : Int32) (sc : Int32) (sd : Int32) (src : (Nat → Int32)) (itm : (Nat → Int32)) (knd : (Nat → Int32)) (plc : (Nat → Int32)) (clk : (Nat → Int64)) (ec : Int32) (nf : (Nat → Int32)) (ns : (Nat → Int32)) (nc : Int32) (wt : (Nat → Nat → Int64)) (bd : (Nat → Nat → Int64)) (off : (Nat → Int64)) (row : (Nat → Int32)) (hw : (Nat → Nat → Int64)) (rl : Int32) (tm : (Nat → Int64)) (ord : (Nat → Int32)) (tc : Int32) (mth : Int32) (msc : Int32) (mec : Int32) (msrc : (Nat → Int32)) (mitm : (Nat → Int32)) (mknd : (Nat → Int32)) (mplc : (Nat → Int32)) (mclk : (Nat → Int64)) (mnc : Int32) (mnf : (Nat → Int32)) (mns : (Nat → Int32)) (msd : Int32) (mrl : Int32) (mrow : (Nat → Int32)) (mw : (Nat → Int64)) (mb : (Nat → Int64)) (mway : (Nat → Int64)) (moff : (Nat → Int64)) (out : Nat → Int64), LRange L i → Inv sc sd src itm knd plc clk ec nf ns nc wt bd off row hw rl tm ord tc mth msc mec msrc mitm mknd mplc mclk mnc mnf mns msd mrl mrow mw mb mway moff out → LC_8 L xs i Inv sc sd src itm knd plc clk ec nf ns nc wt bd off row hw rl tm ord tc mth msc mec msrc mitm mknd mplc mclk mnc mnf mns msd mrl mrow mw mb mway moff out) ∧ (∀ (i : Int32) (sc : Int32) (sd : Int32) (src : (Nat → Int32)) (itm : (Nat → Int32)) (knd : (Nat → Int32)) (plc : (Nat → Int32)) (clk : (Nat → Int64)) (ec : Int32) (nf : (Nat → Int32)) (ns : (Nat → Int32)) (nc : Int32) (wt : (Nat → Nat → Int64)) (bd : (Nat → Nat → Int64)) (off : (Nat → Int64)) (row : (Nat → Int32)) (hw : (Nat → Nat → Int64)) (rl : Int32) (tm : (Nat → Int64)) (ord : (Nat → Int32)) (tc : Int32) (mth : Int32) (msc : Int32) (mec : Int32) (msrc : (Nat → Int32)) (mitm : (Nat → Int32)) (mknd : (Nat → Int32)) (mplc : (Nat → Int32)) (mclk : (Nat → Int64)) (mnc : Int32) (mnf : (Nat → Int32)) (mns : (Nat → Int32)) (msd : Int32) (mrl : Int32) (mrow : (Nat → Int32)) (mw : (Nat → Int64)) (mb : (Nat → Int64)) (mway : (Nat → Int64)) (moff : (Nat → Int64)) (out : Nat → Int64), LRange L i → Inv sc sd src itm knd plc clk ec nf ns nc wt bd off row hw rl tm ord tc mth msc mec msrc mitm mknd mplc mclk mnc mnf mns msd mrl mrow mw mb mway moff out → LC_9 L xs i Inv sc sd src itm knd plc clk ec nf ns nc wt bd off row hw rl tm ord tc mth msc mec msrc mitm mknd mplc mclk mnc mnf mns msd mrl mrow mw mb mway moff out) ∧ (∀ (i : Int32) (sc : Int32) (sd : Int32) (src : (Nat → Int32)) (itm : (Nat → Int32)) (knd : (Nat → Int32)) (plc : (Nat → Int32)) (clk : (Nat → Int64)) (ec : Int32) (nf : (Nat → Int32)) (ns : (Nat → Int32)) (nc : Int32) (wt : (Nat → Nat → Int64)) (bd : (Nat → Nat → Int64)) (off : (Nat → Int64)) (row : (Nat → Int32)) (hw : (Nat → Nat → Int64)) (rl : Int32) (tm : (Nat → Int64)) (ord : (Nat → Int32)) (tc : Int32) (mth : Int32) (msc : Int32) (mec : Int32) (msrc : (Nat → Int32)) (mitm : (Nat → Int32)) (mknd : (Nat → Int32)) (mplc : (Nat → Int32)) (mclk : (Nat → Int64)) (mnc : Int32) (mnf : (Nat → Int32)) (mns : (Nat → Int32)) (msd : Int32) (mrl : Int32) (mrow : (Nat → Int32)) (mw : (Nat → Int64)) (mb : (Nat → Int64)) (mway : (Nat → Int64)) (moff : (Nat → Int64)) (out : Nat → Int64), LRange L i → Inv sc sd src itm knd plc clk ec nf ns nc wt bd off row hw rl tm ord tc mth msc mec msrc mitm mknd mplc mclk mnc mnf mns msd mrl mrow mw mb mway moff out → LC_10 L xs i Inv sc sd src itm knd plc clk ec nf ns nc wt bd off row hw rl tm ord tc mth msc mec msrc mitm mknd mplc mclk mnc mnf mns msd mrl mrow mw mb mway moff out) ∧ (∀ (i : Int32) (sc : Int32) (sd : Int32) (src : (Nat → Int32)) (itm : (Nat → Int32)) (knd : (Nat → Int32)) (plc : (Nat → Int32)) (clk : (Nat → Int64)) (ec : Int32) (nf : (Nat → Int32)) (ns : (Nat → Int32)) (nc : Int32) (wt : (Nat → Nat → Int64)) (bd : (Nat → Nat → Int64)) (off : (Nat → Int64)) (row : (Nat → Int32)) (hw : (Nat → Nat → Int64)) (rl : Int32) (tm : (Nat → Int64)) (ord : (Nat → Int32)) (tc : Int32) (mth : Int32) (msc : Int32) (mec : Int32) (msrc : (Nat → Int32)) (mitm : (Nat → Int32)) (mknd : (Nat → Int32)) (mplc : (Nat → Int32)) (mclk : (Nat → Int64)) (mnc : Int32) (mnf : (Nat → Int32)) (mns : (Nat → Int32)) (msd : Int32) (mrl : Int32) (mrow : (Nat → Int32)) (mw : (Nat → Int64)) (mb : (Nat → Int64)) (mway : (Nat → Int64)) (moff : (Nat → Int64)) (out : Nat → Int64), LRange L i → Inv sc sd src itm knd plc clk ec nf ns nc wt bd off row hw rl tm ord tc mth msc mec msrc mitm mknd mplc mclk mnc mnf mns msd mrl mrow mw mb mway moff out → LC_11 L xs i Inv sc sd src itm knd plc clk ec nf ns nc wt bd off row hw rl tm ord tc mth msc mec msrc mitm mknd mplc mclk mnc mnf mns msd mrl mrow mw mb mway moff out)
/-! THE CLAIM OUT OF ONE WALK OF THE LAW'S BODY. Your part is whole_start (and what it stands on); all else here is the same for every law, but numbers. -/
def R_law : String := "EventOrderLaw"
def lw_P (b : Addr) (xs : List Int32) (args : Array Value) (s : State) : Prop := args = #[.ref b] ∧ s.IntsAt b xs ∧ xs.length ≤ 3584 ∧ (Jvm.Cond.and given_1 narrow_1).before args s = true
def lw_Q (_ : Array Value) (s : State) (o : Outcome) (t : State) : Prop := o = .returned (some (.int 1)) ∧ Framed s o t [] 601024 7293034
def lw_Z (below : List Frame) (a : Array Value) (s : State) : State → Prop := fun t => ∃ o, t.status = .running ∧ Ended t below o ∧ lw_Q a s o t
/-- the law's own end, with 1 on the stack, nothing written that was there before, its room as the claim has it -/
theorem lw_ret {p : Program} {l : Launch} {e : Env} {s : State} {m : MethodId} {below : List Frame} {meth : Method} {c : Code} {b : Nat} (hx : p.tables.exec = Jvm.exec) (hb : c.code = code) (hr : meth.sig.returnType = ret) (hlocks : meth.locks = false) {pc : Nat} {H : Heap} {ls : Array Slot} (hdg : decode code pc = .ok (.ireturn, 1)) : W p l e room_1 s m #[Value.ref b] below meth c H [] 601024 7293034 (lw_Z below #[Value.ref b] s) (F0 m pc ls [.int 1]) := by
  intro T hT X
  obtain ⟨fs, hret, hrun, hended, hW, hframe⟩ := X.leave (v := some (.int 1)) (hlocks := hlocks) (fun h => by rw [hr] at h; cases h)
  have hmeth' : T.vm.method? m = some meth := X.method'
  refine ⟨T.setFrames fs, ?_, .returned (some (.int 1)), hrun, hended, rfl, ⟨_, rfl⟩, hW, hframe⟩
  jvm_step X.here [X.here.top, hx, hb, hdg, hmeth', hr, ret, narrow_b1]
  (try refine ⟨rfl, ?_⟩); (try refine ⟨rfl, ?_⟩)
  first | (intro acts; rw [hret _ acts rfl rfl rfl]) | rw [hret _ _ rfl rfl rfl]
  exact Steps.refl _
/-- what holds at the law's entry: the machine, the code, the tables' words (any of lw_tbl by 'hts w (by decide +kernel)'), the script of L ints xs at the cell b, what the Statement gives of the start (any of its parts by flat_of_before) -/
def lw_At (p : Program) (s : State) (m : MethodId) (meth : Method) (c : Code) (b L : Nat) (xs : Nat → Int32) : Prop :=
  p.tables.exec = Jvm.exec ∧ c.code = code ∧ meth.sig.returnType = ret ∧ c.maxLocals = 8 ∧ s.vm.findClass R_law = some m.cls ∧ (∀ w ∈ lw_tbl, w.before #[Value.ref b] s = true) ∧ va_X b L xs s s.heap ∧ b < s.heap.size ∧ meth.locks = false ∧ (Jvm.Cond.and given_1 narrow_1).before #[Value.ref b] s = true

set_option maxHeartbeats 4000000 in
set_option maxRecDepth 100000 in
theorem law_loop {p : Program} {l : Launch} {e : Env} {s : State} {m : MethodId} {below : List Frame} {meth : Method} {c : Code} {D : va_G} {A : Nat → Prop} {ad am : Nat → Nat} {o b L : Nat} {xs : Nat → Int32} {cI cL cO : ClassId} {Inv : LInv} (hC : XC p s m #[Value.ref b] c D vwCl (tysX cI cL cO) A 8 code TBL RL) (htr : l.stackTraces = false) (hN : XN s) (hX : va_X b L xs s s.heap) (hbl : b < s.heap.size) (hbA : ¬ A b) (hAe : ∀ q, A q → s.heap.size ≤ q) (hr : meth.sig.returnType = ret) (hlk : meth.locks = false) (hL : L ≤ 3584) (hst : LStep Inv L xs) : ∀ (n j ce sl : Nat) (sc : Int32) (sd : Int32) (src : (Nat → Int32)) (itm : (Nat → Int32)) (knd : (Nat → Int32)) (plc : (Nat → Int32)) (clk : (Nat → Int64)) (ec : Int32) (nf : (Nat → Int32)) (ns : (Nat → Int32)) (nc : Int32) (wt : (Nat → Nat → Int64)) (bd : (Nat → Nat → Int64)) (off : (Nat → Int64)) (row : (Nat → Int32)) (hw : (Nat → Nat → Int64)) (rl : Int32) (tm : (Nat → Int64)) (ord : (Nat → Int32)) (tc : Int32) (mth : Int32) (msc : Int32) (mec : Int32) (msrc : (Nat → Int32)) (mitm : (Nat → Int32)) (mknd : (Nat → Int32)) (mplc : (Nat → Int32)) (mclk : (Nat → Int64)) (mnc : Int32) (mnf : (Nat → Int32)) (mns : (Nat → Int32)) (msd : Int32) (mrl : Int32) (mrow : (Nat → Int32)) (mw : (Nat → Int64)) (mb : (Nat → Int64)) (mway : (Nat → Int64)) (moff : (Nat → Int64)) (out : Nat → Int64), L + 7 ≤ 7 * (j + n) → 7 * j ≤ L + 7 → ce + 8 * n ≤ 601024 → sl + 48 * n ≤ 7293034 → Inv sc sd src itm knd plc clk ec nf ns nc wt bd off row hw rl tm ord tc mth msc mec msrc mitm mknd mplc mclk mnc mnf mns msd mrl mrow mw mb mway moff out → XW p l e room_1 s m #[Value.ref b] below meth c D vwCl A 8 (lw_Z below #[Value.ref b] s) ce sl ((wM am cI cL cO mth msc mec msrc mitm mknd mplc mclk mnc mnf mns msd mrl mrow mw mb mway moff) ++ ((wX ad cI cL cO sc sd src itm knd plc clk ec nf ns nc wt bd off row hw rl tm ord tc) ++ [(o, .inl (cL, 1, .inr (.inl out)))])) 23 [(0, .ref b), (1, .ref (ad 0)), (2, .ref (am 0)), (3, .ref o), (4, .int (Int32.ofNat (7 * j)))] [] := by
  intro n
  induction n with
  | zero =>
    intro j ce sl sc sd src itm knd plc clk ec nf ns nc wt bd off row hw rl tm ord tc mth msc mec msrc mitm mknd mplc mclk mnc mnf mns msd mrl mrow mw mb mway moff out h1 h2 h3 h4 hi
    refine x_iload hC dL_law_23 4 rfl ?_
    refine x_aload_n hC dL_law_25 rfl 0 rfl ?_
    refine x_slen hC hX hbl hbA dL_law_26 ?_
    refine x_bipush (v := 7) hC dL_law_27 (by decide) ?_
    refine x_isub hC dL_law_29 ?_
    refine x_icmp_gt (tgt := 879) hC dL_law_30 (by decide) (fun g => ?_) (fun g => absurd ?_ g)
    · refine x_iconst (v := 1) hC dL_law_879 (by decide) ?_
      intro H locs ls hP hD hS hl
      exact va_forget (fun q hq => hAe _ (hS.2.2 q hq)) (W.widen (by omega) (by omega) (lw_ret hC.1.1 hC.1.2.1 hr hlk dL_law_880))
    · rw [Int32.lt_iff_toInt_lt, i3_toInt (by omega), i3_subI (by omega) (by show _ ≤ (L : Int) - 7; omega) (by show (L : Int) - 7 < _; omega)]
      show (L : Int) - 7 < _
      omega
  | succ n ih =>
    intro j ce sl sc sd src itm knd plc clk ec nf ns nc wt bd off row hw rl tm ord tc mth msc mec msrc mitm mknd mplc mclk mnc mnf mns msd mrl mrow mw mb mway moff out h1 h2 h3 h4 hi
    refine x_iload hC dL_law_23 4 rfl ?_
    refine x_aload_n hC dL_law_25 rfl 0 rfl ?_
    refine x_slen hC hX hbl hbA dL_law_26 ?_
    refine x_bipush (v := 7) hC dL_law_27 (by decide) ?_
    refine x_isub hC dL_law_29 ?_
    refine x_icmp_gt (tgt := 879) hC dL_law_30 (by decide) (fun g => ?_) (fun g => ?_)
    · refine x_iconst (v := 1) hC dL_law_879 (by decide) ?_
      intro H locs ls hP hD hS hl
      exact va_forget (fun q hq => hAe _ (hS.2.2 q hq)) (W.widen (by omega) (by omega) (lw_ret hC.1.1 hC.1.2.1 hr hlk dL_law_880))
    have hj : 7 * j + 7 ≤ L := by
      rw [Int32.lt_iff_toInt_lt, i3_toInt (by omega), i3_subI (by omega) (by show _ ≤ (L : Int) - 7; omega) (by show (L : Int) - 7 < _; omega)] at g
      have g : ¬ (L : Int) - 7 < _ := g
      omega
    have hrg : LRange L (Int32.ofNat (7 * j)) := ⟨i3_in (by omega) (by omega), i3_add (7 * j) 1 ▸ i3_in (by omega) (by omega), i3_add (7 * j) 2 ▸ i3_in (by omega) (by omega), i3_add (7 * j) 3 ▸ i3_in (by omega) (by omega), i3_add (7 * j) 4 ▸ i3_in (by omega) (by omega), i3_add (7 * j) 5 ▸ i3_in (by omega) (by omega), i3_add (7 * j) 6 ▸ i3_in (by omega) (by omega)⟩
    have hexit : ∀ (sc : Int32) (sd : Int32) (src : (Nat → Int32)) (itm : (Nat → Int32)) (knd : (Nat → Int32)) (plc : (Nat → Int32)) (clk : (Nat → Int64)) (ec : Int32) (nf : (Nat → Int32)) (ns : (Nat → Int32)) (nc : Int32) (wt : (Nat → Nat → Int64)) (bd : (Nat → Nat → Int64)) (off : (Nat → Int64)) (row : (Nat → Int32)) (hw : (Nat → Nat → Int64)) (rl : Int32) (tm : (Nat → Int64)) (ord : (Nat → Int32)) (tc : Int32) (mth : Int32) (msc : Int32) (mec : Int32) (msrc : (Nat → Int32)) (mitm : (Nat → Int32)) (mknd : (Nat → Int32)) (mplc : (Nat → Int32)) (mclk : (Nat → Int64)) (mnc : Int32) (mnf : (Nat → Int32)) (mns : (Nat → Int32)) (msd : Int32) (mrl : Int32) (mrow : (Nat → Int32)) (mw : (Nat → Int64)) (mb : (Nat → Int64)) (mway : (Nat → Int64)) (moff : (Nat → Int64)) (out : Nat → Int64), Inv sc sd src itm knd plc clk ec nf ns nc wt bd off row hw rl tm ord tc mth msc mec msrc mitm mknd mplc mclk mnc mnf mns msd mrl mrow mw mb mway moff out → XW p l e room_1 s m #[Value.ref b] below meth c D vwCl A 8 (lw_Z below #[Value.ref b] s) (ce + 8) (sl + 48) ((wM am cI cL cO mth msc mec msrc mitm mknd mplc mclk mnc mnf mns msd mrl mrow mw mb mway moff) ++ ((wX ad cI cL cO sc sd src itm knd plc clk ec nf ns nc wt bd off row hw rl tm ord tc) ++ [(o, .inl (cL, 1, .inr (.inl out)))])) 873 [(0, .ref b), (1, .ref (ad 0)), (2, .ref (am 0)), (3, .ref o), (4, .int (Int32.ofNat (7 * j)))] [] := by
      intro sc sd src itm knd plc clk ec nf ns nc wt bd off row hw rl tm ord tc mth msc mec msrc mitm mknd mplc mclk mnc mnf mns msd mrl mrow mw mb mway moff out hi
      refine x_iinc (v := Int32.ofNat (7 * (j + 1))) (lv' := [(4, .int (Int32.ofNat (7 * (j + 1)))), (0, .ref b), (1, .ref (ad 0)), (2, .ref (am 0)), (3, .ref o)]) hC dL_law_873 4 rfl ((i3_add (7 * j) 7).trans (by rw [show 7 * j + 7 = 7 * (j + 1) by omega])) (by decide) rfl ?_
      refine x_goto (tgt := 23) hC dL_law_876 (by decide) ?_
      refine x_lv (lv' := [(0, .ref b), (1, .ref (ad 0)), (2, .ref (am 0)), (3, .ref o), (4, .int (Int32.ofNat (7 * (j + 1))))]) [1, 2, 3, 4, 0] rfl ?_
      exact ih (j + 1) (ce + 8) (sl + 48) sc sd src itm knd plc clk ec nf ns nc wt bd off row hw rl tm ord tc mth msc mec msrc mitm mknd mplc mclk mnc mnf mns msd mrl mrow mw mb mway moff out (by omega) (by omega) (by omega) (by omega) hi
    refine x_aload_n hC dL_law_33 rfl 0 rfl ?_
    refine x_iload hC dL_law_34 4 rfl ?_
    refine x_sld hC hX hbl hbA hrg.1 dL_law_36 ?_
    refine x_bipush (v := 15) hC dL_law_37 (by decide) ?_
    refine x_iand hC dL_law_39 ?_
    by_cases g0 : (xs (Int32.ofNat (7 * j)).toNatClampNeg &&& 15) = 0
    · refine x_swIn (tgt := 104) hC 0 g0 dL_law_40 (by decide) (by decide) rfl (by decide) ?_
      exact LC_0_ok hC htr hN hX hbl hbA (by omega) (by omega) hexit (hst.1 _ _ _ _ _ _ _ _ _ _ _ _ _ _ _ _ _ _ _ _ _ _ _ _ _ _ _ _ _ _ _ _ _ _ _ _ _ _ _ _ hrg hi)
    by_cases g1 : (xs (Int32.ofNat (7 * j)).toNatClampNeg &&& 15) = 1
    · refine x_swIn (tgt := 148) hC 1 g1 dL_law_40 (by decide) (by decide) rfl (by decide) ?_
      exact LC_1_ok hC htr hN hX hbl hbA (by omega) (by omega) hexit (hst.2.1 _ _ _ _ _ _ _ _ _ _ _ _ _ _ _ _ _ _ _ _ _ _ _ _ _ _ _ _ _ _ _ _ _ _ _ _ _ _ _ _ hrg hi)
    by_cases g2 : (xs (Int32.ofNat (7 * j)).toNatClampNeg &&& 15) = 2
    · refine x_swIn (tgt := 286) hC 2 g2 dL_law_40 (by decide) (by decide) rfl (by decide) ?_
      exact LC_2_ok hC htr hN hX hbl hbA (by omega) (by omega) hexit (hst.2.2.1 _ _ _ _ _ _ _ _ _ _ _ _ _ _ _ _ _ _ _ _ _ _ _ _ _ _ _ _ _ _ _ _ _ _ _ _ _ _ _ _ hrg hi)
    by_cases g3 : (xs (Int32.ofNat (7 * j)).toNatClampNeg &&& 15) = 3
    · refine x_swIn (tgt := 354) hC 3 g3 dL_law_40 (by decide) (by decide) rfl (by decide) ?_
      exact LC_3_ok hC htr hN hX hbl hbA (by omega) (by omega) hexit (hst.2.2.2.1 _ _ _ _ _ _ _ _ _ _ _ _ _ _ _ _ _ _ _ _ _ _ _ _ _ _ _ _ _ _ _ _ _ _ _ _ _ _ _ _ hrg hi)
    by_cases g4 : (xs (Int32.ofNat (7 * j)).toNatClampNeg &&& 15) = 4
    · refine x_swIn (tgt := 367) hC 4 g4 dL_law_40 (by decide) (by decide) rfl (by decide) ?_
      exact LC_4_ok hC htr hN hX hbl hbA (by omega) (by omega) hexit (hst.2.2.2.2.1 _ _ _ _ _ _ _ _ _ _ _ _ _ _ _ _ _ _ _ _ _ _ _ _ _ _ _ _ _ _ _ _ _ _ _ _ _ _ _ _ hrg hi)
    by_cases g5 : (xs (Int32.ofNat (7 * j)).toNatClampNeg &&& 15) = 5
    · refine x_swIn (tgt := 392) hC 5 g5 dL_law_40 (by decide) (by decide) rfl (by decide) ?_
      exact LC_5_ok hC htr hN hX hbl hbA (by omega) (by omega) hexit (hst.2.2.2.2.2.1 _ _ _ _ _ _ _ _ _ _ _ _ _ _ _ _ _ _ _ _ _ _ _ _ _ _ _ _ _ _ _ _ _ _ _ _ _ _ _ _ hrg hi)
    by_cases g6 : (xs (Int32.ofNat (7 * j)).toNatClampNeg &&& 15) = 6
    · refine x_swIn (tgt := 447) hC 6 g6 dL_law_40 (by decide) (by decide) rfl (by decide) ?_
      exact LC_6_ok hC htr hN hX hbl hbA (by omega) (by omega) hexit (hst.2.2.2.2.2.2.1 _ _ _ _ _ _ _ _ _ _ _ _ _ _ _ _ _ _ _ _ _ _ _ _ _ _ _ _ _ _ _ _ _ _ _ _ _ _ _ _ hrg hi)
    by_cases g7 : (xs (Int32.ofNat (7 * j)).toNatClampNeg &&& 15) = 7
    · refine x_swIn (tgt := 514) hC 7 g7 dL_law_40 (by decide) (by decide) rfl (by decide) ?_
      exact LC_7_ok hC htr hN hX hbl hbA (by omega) (by omega) hexit (hst.2.2.2.2.2.2.2.1 _ _ _ _ _ _ _ _ _ _ _ _ _ _ _ _ _ _ _ _ _ _ _ _ _ _ _ _ _ _ _ _ _ _ _ _ _ _ _ _ hrg hi)
    by_cases g8 : (xs (Int32.ofNat (7 * j)).toNatClampNeg &&& 15) = 8
    · refine x_swIn (tgt := 569) hC 8 g8 dL_law_40 (by decide) (by decide) rfl (by decide) ?_
      exact LC_8_ok hC htr hN hX hbl hbA (by omega) (by omega) hexit (hst.2.2.2.2.2.2.2.2.1 _ _ _ _ _ _ _ _ _ _ _ _ _ _ _ _ _ _ _ _ _ _ _ _ _ _ _ _ _ _ _ _ _ _ _ _ _ _ _ _ hrg hi)
    by_cases g9 : (xs (Int32.ofNat (7 * j)).toNatClampNeg &&& 15) = 9
    · refine x_swIn (tgt := 637) hC 9 g9 dL_law_40 (by decide) (by decide) rfl (by decide) ?_
      exact LC_9_ok hC htr hN hX hbl hbA (by omega) (by omega) hexit (hst.2.2.2.2.2.2.2.2.2.1 _ _ _ _ _ _ _ _ _ _ _ _ _ _ _ _ _ _ _ _ _ _ _ _ _ _ _ _ _ _ _ _ _ _ _ _ _ _ _ _ hrg hi)
    by_cases g10 : (xs (Int32.ofNat (7 * j)).toNatClampNeg &&& 15) = 10
    · refine x_swIn (tgt := 705) hC 10 g10 dL_law_40 (by decide) (by decide) rfl (by decide) ?_
      exact LC_10_ok hC htr hN hX hbl hbA (by omega) (by omega) hexit (hst.2.2.2.2.2.2.2.2.2.2.1 _ _ _ _ _ _ _ _ _ _ _ _ _ _ _ _ _ _ _ _ _ _ _ _ _ _ _ _ _ _ _ _ _ _ _ _ _ _ _ _ hrg hi)
    by_cases g11 : (xs (Int32.ofNat (7 * j)).toNatClampNeg &&& 15) = 11
    · refine x_swIn (tgt := 805) hC 11 g11 dL_law_40 (by decide) (by decide) rfl (by decide) ?_
      exact LC_11_ok hC htr hN hX hbl hbA (by omega) (by omega) hexit (hst.2.2.2.2.2.2.2.2.2.2.2 _ _ _ _ _ _ _ _ _ _ _ _ _ _ _ _ _ _ _ _ _ _ _ _ _ _ _ _ _ _ _ _ _ _ _ _ _ _ _ _ hrg hi)
    refine x_swOut (tgt := 873) hC dL_law_40 (by have e0 := x_neI (v := 0) (n := 0) (by decide) g0; have e1 := x_neI (v := 1) (n := 1) (by decide) g1; have e2 := x_neI (v := 2) (n := 2) (by decide) g2; have e3 := x_neI (v := 3) (n := 3) (by decide) g3; have e4 := x_neI (v := 4) (n := 4) (by decide) g4; have e5 := x_neI (v := 5) (n := 5) (by decide) g5; have e6 := x_neI (v := 6) (n := 6) (by decide) g6; have e7 := x_neI (v := 7) (n := 7) (by decide) g7; have e8 := x_neI (v := 8) (n := 8) (by decide) g8; have e9 := x_neI (v := 9) (n := 9) (by decide) g9; have e10 := x_neI (v := 10) (n := 10) (by decide) g10; have e11 := x_neI (v := 11) (n := 11) (by decide) g11; omega) (by decide) ?_
    exact x_widen (by omega) (by omega) (hexit sc sd src itm knd plc clk ec nf ns nc wt bd off row hw rl tm ord tc mth msc mec msrc mitm mknd mplc mclk mnc mnf mns msd mrl mrow mw mb mway moff out hi)
theorem x_lw {w : Cond} (h : w ∈ TBL) : w ∈ lw_tbl := (List.mem_filter.mp h).1
theorem x_lwx {w : Cond} (h : w ∈ TBX) : w ∈ lw_tbl := (List.mem_filter.mp h).1
theorem x_strOf {args : Array Value} {s : State} {own tx : String} {k : Nat} (w : (Cond.stringRef own k tx).before args s = true) : ∃ a : Nat, vk_R own k tx a s := by
  cases hc : s.vm.findClass own with
  | none => simp [Cond.before, Cond.holds, Cond.value, hc] at w
  | some cc =>
    obtain ⟨k1, cf, i, a, hk, hcf, hp, -, hr, he⟩ := Cond.stringRef_spec hc w
    exact ⟨a, vk_R.of (A := args) w he⟩
theorem x_strs_in : ∀ q ∈ x_strs, Cond.stringRef q.1 q.2.1 q.2.2 ∈ lw_tbl := by decide +kernel
theorem x_nc_in : ∀ q ∈ x_nc, Cond.not (.castable q.1 q.2) ∈ flatC (Jvm.Cond.and given_1 narrow_1) := by decide +kernel
set_option maxHeartbeats 4000000 in
set_option maxRecDepth 100000 in
theorem whole_start {p : Program} {e : Env} {s : State} {m : MethodId} {below : List Frame} {meth : Method} {c : Code} (l : Launch) (htr : l.stackTraces = false) {b L : Nat} {xs : Nat → Int32} {Inv : LInv} (hst : LStep Inv L xs) (hi0 : Inv 0 0 (fun _ => 0) (fun _ => 0) (fun _ => 0) (fun _ => 0) (fun _ => 0) 0 (fun _ => 0) (fun _ => 0) 0 (fun _ _ => 0) (fun _ _ => 0) (fun _ => 0) (fun _ => 0) (fun _ _ => 0) 0 (fun _ => 0) (fun _ => 0) 0 0 0 0 (fun _ => 0) (fun _ => 0) (fun _ => 0) (fun _ => 0) (fun _ => 0) 0 (fun _ => 0) (fun _ => 0) 0 0 (fun _ => 0) (fun _ => 0) (fun _ => 0) (fun _ => 0) (fun _ => 0) (fun _ => 0)) (hL : L ≤ 3584) (C0 : lw_At p s m meth c b L xs) : W p l e room_1 s m #[Value.ref b] below meth c s.heap [] 0 0 (lw_Z below #[Value.ref b] s) (entryFrame m ([Value.ref b] : List Value).toArray 8) := by
  obtain ⟨hx, hb, hr, hml, hown, hts, hX, hbl, hlocks, hgv⟩ := id C0
  have hbA : ¬ (fun q : Nat => s.heap.size ≤ q) b := Nat.not_le.mpr hbl

  obtain ⟨c0, iS0, hKn0⟩ := u_known (C := RX) (T := TX) (N := 7) (n := 7) hts (fun w h => x_lw (iX w h)) (hts _ (x_lw k_l174))
  obtain ⟨c1, iS1, hKn1⟩ := u_known (C := REv) (T := TEv) (N := 6) (n := 6) hts (fun w h => x_lw (iEv w h)) (hts _ (x_lw k_l175))
  obtain ⟨c2, iS2, hKn2⟩ := u_known (C := RNd) (T := TNd) (N := 3) (n := 3) hts (fun w h => x_lw (iNd w h)) (hts _ (x_lw k_l176))
  obtain ⟨c3, iS3, hKn3⟩ := u_known (C := RLi) (T := TLi) (N := 3) (n := 3) hts (fun w h => x_lw (iLi w h)) (hts _ (x_lw k_l177))
  obtain ⟨c4, iS4, hKn4⟩ := u_known (C := RRg) (T := TRg) (N := 3) (n := 3) hts (fun w h => x_lw (iRg w h)) (hts _ (x_lw k_l178))
  obtain ⟨c5, iS5, hKn5⟩ := u_known (C := RTl) (T := TTl) (N := 3) (n := 3) hts (fun w h => x_lw (iTl w h)) (hts _ (x_lw k_l179))
  obtain ⟨c6, iS6, hKn6⟩ := u_known (C := RM) (T := TM) (N := 18) (n := 18) hts (fun w h => x_lw (iM w h)) (hts _ (x_lw k_l180))
  obtain ⟨D, hKc⟩ : ∃ D : va_G, ∀ (k : Nat) (q : vw_C), vwCl[k]? = some q → u_Kn s q.1 q.2.1 q.2.2 (D.1 k) (D.2 k) := by
    refine ⟨(fun k => if k = 0 then c0 else if k = 1 then c1 else if k = 2 then c2 else if k = 3 then c3 else if k = 4 then c4 else if k = 5 then c5 else c6, fun k => if k = 0 then iS0 else if k = 1 then iS1 else if k = 2 then iS2 else if k = 3 then iS3 else if k = 4 then iS4 else if k = 5 then iS5 else iS6), ?_⟩
    intro k q hq
    match k, hq with
    | 0, hq => cases hq; exact hKn0
    | 1, hq => cases hq; exact hKn1
    | 2, hq => cases hq; exact hKn2
    | 3, hq => cases hq; exact hKn3
    | 4, hq => cases hq; exact hKn4
    | 5, hq => cases hq; exact hKn5
    | 6, hq => cases hq; exact hKn6
    | k + 7, hq => simp [vwCl] at hq
  obtain ⟨cI, kI, mI, a1, a2, a3⟩ := Cond.arrayClass_spec (hts _ (x_lw k_l181))
  obtain ⟨cL, kL, mL, b1, b2, b3⟩ := Cond.arrayClass_spec (hts _ (x_lw k_l182))
  have hov : Cond.arrayOver (.array .long) ∈ lw_tbl := by decide +kernel
  obtain ⟨mO, cO, kO, -, -, e2, e3, e1⟩ := Jvm.Stand.arrayOver_specB (hts _ hov)
  have hK : va_K D vwCl (tysX cI cL cO) s := by
    refine ⟨hKc, fun k q hk => ?_⟩
    match k, hk with
    | 0, hk => cases hk; exact ⟨fun n z => ⟨fun k h => (by cases h), kI, a2, mI, a3⟩, a1⟩
    | 1, hk => cases hk; exact ⟨fun n z => ⟨fun k h => (by cases h), kL, b2, mL, b3⟩, b1⟩
    | 2, hk => cases hk; exact ⟨fun n z => ⟨fun k h => (by cases h), kO, e2, mO, e3⟩, e1⟩
    | k + 3, hk => simp [tysX] at hk
  have hfl := flat_of_before _ hgv
  have hA0 : ∀ a : Nat, a < s.heap.size → ¬ (fun q : Nat => s.heap.size ≤ q) a := fun a h => Nat.not_le.mpr h
  have hini : (Cond.initialized Bundle.tN).before #[Value.ref b] s = true := hts _ (by decide +kernel)
  have hE : XEn (fun q : Nat => s.heap.size ≤ q) s s.heap := by
    refine ⟨vx_Zqof (hts _ (by decide +kernel)) hini (hfl _ (by decide +kernel)) hA0, vx_Zqof (hts _ (by decide +kernel)) hini (hfl _ (by decide +kernel)) hA0, fun w hw => TBX_at hw (State.WarmedH.refl s) (hts w (x_lwx hw)), fun q hq => x_strOf (hts _ (x_strs_in q hq))⟩
  have hN : XN s := fun q hq => va_Nc.of (hfl _ (x_nc_in q hq))
  have hO : XO s := Jvm.Stand.arrayOver_alikeB (Vm.Alike.refl s.vm) (hts _ hov)
  have hC : XC p s m #[Value.ref b] c D vwCl (tysX cI cL cO) (fun q : Nat => s.heap.size ≤ q) 8 code TBL RL := ⟨⟨hx, hb, hml, hown, fun w hw => hts w (x_lw hw)⟩, hK, fun _ h => h, TBL_good, hE⟩
  have hl := lv_entry ([.ref b]) (n := 8) (Nat.le_of_ble_eq_true rfl)
  rw [lg_entry_eq]
  generalize hA : (fun q : Nat => s.heap.size ≤ q) = A at hC hbA
  have hAe : ∀ q, A q → s.heap.size ≤ q := fun q h => by rw [← hA] at h; exact h
  have key : XW p l e room_1 s m #[Value.ref b] below meth c D vwCl A 8 (lw_Z below #[Value.ref b] s) 0 0 [] 0 [(0, .ref b)] [] := by
    refine x_new (fs := [.null, .null, .null, .null, .null, .int 0, .int 0]) (ci := 0) hC iX tX tX_ok k_l183 k_l174 k_l184 rfl (by decide) (by decide) (by decide) dL_law_0 (fun q1 => ?_)
    refine x_dup hC dL_law_3 rfl ?_
    refine x_callI (S := Nat → Nat) (wl := []) (wr := []) (w1 := [(q1, .inr (0, [.null, .null, .null, .null, .null, .int 0, .int 0]))]) (wf := fun u => wX u cI cL cO 0 0 (fun _ => 0) (fun _ => 0) (fun _ => 0) (fun _ => 0) (fun _ => 0) 0 (fun _ => 0) (fun _ => 0) 0 (fun _ _ => 0) (fun _ _ => 0) (fun _ => 0) (fun _ => 0) (fun _ _ => 0) 0 (fun _ => 0) (fun _ => 0) 0) (wf2 := fun u => wX u cI cL cO 0 0 (fun _ => 0) (fun _ => 0) (fun _ => 0) (fun _ => 0) (fun _ => 0) 0 (fun _ => 0) (fun _ => 0) 0 (fun _ _ => 0) (fun _ _ => 0) (fun _ => 0) (fun _ => 0) (fun _ _ => 0) 0 (fun _ => 0) (fun _ => 0) 0) hC [] (by rfl) (fun u => by rw [List.append_nil, List.nil_append]) (fun sz => c_X_init (l := l) sz) (by decide) (by decide) k_l185 k_l186 k_l187 (by decide) 0 rfl (by decide +kernel) ⟨by decide, by decide⟩ (Nat.le_of_ble_eq_true rfl) hO rfl k_l188 rfl dL_law_4 (fun ad had => ?_)
    subst had
    refine x_astore_n (lv' := [(1, .ref (ad 0)), (0, .ref b)]) hC dL_law_7 rfl (by decide) rfl ?_
    refine x_new (fs := [.int 0, .int 0, .int 0, .null, .null, .null, .null, .null, .int 0, .null, .null, .int 0, .int 0, .null, .null, .null, .null, .null]) (ci := 6) hC iM tM tM_ok k_l189 k_l180 k_l190 rfl (by decide) (by decide) (by decide) dL_law_8 (fun q2 => ?_)
    refine x_dup hC dL_law_11 rfl ?_
    refine x_callI (S := Nat → Nat) (wl := (wX ad cI cL cO 0 0 (fun _ => 0) (fun _ => 0) (fun _ => 0) (fun _ => 0) (fun _ => 0) 0 (fun _ => 0) (fun _ => 0) 0 (fun _ _ => 0) (fun _ _ => 0) (fun _ => 0) (fun _ => 0) (fun _ _ => 0) 0 (fun _ => 0) (fun _ => 0) 0)) (wr := []) (w1 := [(q2, .inr (6, [.int 0, .int 0, .int 0, .null, .null, .null, .null, .null, .int 0, .null, .null, .int 0, .int 0, .null, .null, .null, .null, .null]))]) (wf := fun u => wM u cI cL cO 0 0 0 (fun _ => 0) (fun _ => 0) (fun _ => 0) (fun _ => 0) (fun _ => 0) 0 (fun _ => 0) (fun _ => 0) 0 0 (fun _ => 0) (fun _ => 0) (fun _ => 0) (fun _ => 0) (fun _ => 0)) (wf2 := fun u => (wX ad cI cL cO 0 0 (fun _ => 0) (fun _ => 0) (fun _ => 0) (fun _ => 0) (fun _ => 0) 0 (fun _ => 0) (fun _ => 0) 0 (fun _ _ => 0) (fun _ _ => 0) (fun _ => 0) (fun _ => 0) (fun _ _ => 0) 0 (fun _ => 0) (fun _ => 0) 0) ++ wM u cI cL cO 0 0 0 (fun _ => 0) (fun _ => 0) (fun _ => 0) (fun _ => 0) (fun _ => 0) 0 (fun _ => 0) (fun _ => 0) 0 0 (fun _ => 0) (fun _ => 0) (fun _ => 0) (fun _ => 0) (fun _ => 0)) hC [] (by rfl) (fun u => by rw [List.append_nil]) (fun sz => c_M_init (l := l) sz) (by decide) (by decide) k_l191 k_l192 k_l193 (by decide) 0 rfl (by decide +kernel) ⟨by decide, by decide⟩ (Nat.le_of_ble_eq_true rfl) hO rfl k_l194 rfl dL_law_12 (fun am ham => ?_)
    subst ham
    refine x_astore_n (lv' := [(2, .ref (am 0)), (1, .ref (ad 0)), (0, .ref b)]) hC dL_law_15 rfl (by decide) rfl ?_
    refine x_iconst (v := 1) hC dL_law_16 (by decide) ?_
    refine x_newl hC 1 1 rfl k_l182 (by decide) (by decide) (by decide) (by decide) (by decide) dL_law_17 (fun o => ?_)
    refine x_astore_n (lv' := [(3, .ref o), (2, .ref (am 0)), (1, .ref (ad 0)), (0, .ref b)]) hC dL_law_19 rfl (by decide) rfl ?_
    refine x_iconst (v := 0) hC dL_law_20 (by decide) ?_
    refine x_istore (lv' := [(4, .int 0), (3, .ref o), (2, .ref (am 0)), (1, .ref (ad 0)), (0, .ref b)]) hC dL_law_21 (by decide) rfl ?_
    refine x_lv (lv' := [(0, .ref b), (1, .ref (ad 0)), (2, .ref (am 0)), (3, .ref o), (4, .int 0)]) [4, 3, 2, 1, 0] rfl ?_
    have hpm : (((wX ad cI cL cO 0 0 (fun _ => 0) (fun _ => 0) (fun _ => 0) (fun _ => 0) (fun _ => 0) 0 (fun _ => 0) (fun _ => 0) 0 (fun _ _ => 0) (fun _ _ => 0) (fun _ => 0) (fun _ => 0) (fun _ _ => 0) 0 (fun _ => 0) (fun _ => 0) 0) ++ (wM am cI cL cO 0 0 0 (fun _ => 0) (fun _ => 0) (fun _ => 0) (fun _ => 0) (fun _ => 0) 0 (fun _ => 0) (fun _ => 0) 0 0 (fun _ => 0) (fun _ => 0) (fun _ => 0) (fun _ => 0) (fun _ => 0))) ++ ([(o, .inl (cL, 1, .inr (.inl (fun _ => 0))))] : va_W)).Perm ((wM am cI cL cO 0 0 0 (fun _ => 0) (fun _ => 0) (fun _ => 0) (fun _ => 0) (fun _ => 0) 0 (fun _ => 0) (fun _ => 0) 0 0 (fun _ => 0) (fun _ => 0) (fun _ => 0) (fun _ => 0) (fun _ => 0)) ++ ((wX ad cI cL cO 0 0 (fun _ => 0) (fun _ => 0) (fun _ => 0) (fun _ => 0) (fun _ => 0) 0 (fun _ => 0) (fun _ => 0) 0 (fun _ _ => 0) (fun _ _ => 0) (fun _ => 0) (fun _ => 0) (fun _ _ => 0) 0 (fun _ => 0) (fun _ => 0) 0) ++ ([(o, .inl (cL, 1, .inr (.inl (fun _ => 0))))] : va_W))) := by
      rw [← List.append_assoc]
      exact List.Perm.append_right _ List.perm_append_comm
    refine x_re (ws' := (wM am cI cL cO 0 0 0 (fun _ => 0) (fun _ => 0) (fun _ => 0) (fun _ => 0) (fun _ => 0) 0 (fun _ => 0) (fun _ => 0) 0 0 (fun _ => 0) (fun _ => 0) (fun _ => 0) (fun _ => 0) (fun _ => 0)) ++ ((wX ad cI cL cO 0 0 (fun _ => 0) (fun _ => 0) (fun _ => 0) (fun _ => 0) (fun _ => 0) 0 (fun _ => 0) (fun _ => 0) 0 (fun _ _ => 0) (fun _ _ => 0) (fun _ => 0) (fun _ => 0) (fun _ _ => 0) 0 (fun _ => 0) (fun _ => 0) 0) ++ [(o, .inl (cL, 1, .inr (.inl (fun _ => 0))))])) (fun H h => x_P_perm h hpm) (fun h => x_D_perm h hpm) ?_
    exact law_loop hC htr hN hX hbl hbA hAe hr hlocks hL hst (L + 1) 0 _ _ 0 0 (fun _ => 0) (fun _ => 0) (fun _ => 0) (fun _ => 0) (fun _ => 0) 0 (fun _ => 0) (fun _ => 0) 0 (fun _ _ => 0) (fun _ _ => 0) (fun _ => 0) (fun _ => 0) (fun _ _ => 0) 0 (fun _ => 0) (fun _ => 0) 0 0 0 0 (fun _ => 0) (fun _ => 0) (fun _ => 0) (fun _ => 0) (fun _ => 0) 0 (fun _ => 0) (fun _ => 0) 0 0 (fun _ => 0) (fun _ => 0) (fun _ => 0) (fun _ => 0) (fun _ => 0) (fun _ => 0) (by omega) (by omega) (by simp only [rm_X_init, rm_M_init]; omega) (by simp only [rm_X_init, rm_M_init]; omega) hi0
  exact key s.heap [] _ (fun k q h => by simp at h) ⟨fun i j p q h => by simp at h, fun k q h => by simp at h⟩ va_S.rf hl
