/-! EventOrder$Ring.leastThroughNext([J[JI)J -/
abbrev rm_Ring_leastThroughNext_wt_hw : Room := { frames := 1, cells := 0, slots := 0, locals := 40 }
def Ring_leastThroughNext_wt_hw_L7 (v2 : Int32) (g0 : Nat) (g1 : Nat) (wt : (Nat → Nat → Int64)) (hw : (Nat → Nat → Int64)) (Qx : Int64 → Prop) : Nat → Int64 → Int32 → Prop
  | 0, _, _ => False
  | n + 1, v3, v5 => ((v2 ≤ v5 → Qx v3) ∧ (¬ v2 ≤ v5 → vp_in v5 16 ∧ ((((wt g0) v5.toNatClampNeg) = 9223372036854775807 → Ring_leastThroughNext_wt_hw_L7 v2 g0 g1 wt hw Qx n v3 (v5 + 1)) ∧ (¬ ((wt g0) v5.toNatClampNeg) = 9223372036854775807 → vp_in v5 16 ∧ ((((hw g1) v5.toNatClampNeg) = 9223372036854775807 → Ring_leastThroughNext_wt_hw_L7 v2 g0 g1 wt hw Qx n v3 (v5 + 1)) ∧ (¬ ((hw g1) v5.toNatClampNeg) = 9223372036854775807 → vp_in v5 16 ∧ vp_in v5 16 ∧ Ring_leastThroughNext_wt_hw_L7 v2 g0 g1 wt hw Qx n (if (((wt g0) v5.toNatClampNeg) + ((hw g1) v5.toNatClampNeg)) < v3 then (((wt g0) v5.toNatClampNeg) + ((hw g1) v5.toNatClampNeg)) else v3) (v5 + 1)))))))

def Ring_leastThroughNext_wt_hw_wp (wt : (Nat → Nat → Int64)) (hw : (Nat → Nat → Int64)) (g0 : Nat) (g1 : Nat) (a2 : Int32) (Qr : Int64 → Unit → Prop) : Prop := (∃ n_9 : Nat, Ring_leastThroughNext_wt_hw_L7 a2 g0 g1 wt hw (fun (v3_8 : Int64) => Qr v3_8 ()) n_9 9223372036854775807 0)
set_option maxHeartbeats 4000000 in
set_option maxRecDepth 100000 in
theorem Ring_leastThroughNext_wt_hw_L7_ok {p : Program} {l : Launch} {e : Env} {s : State} {m : MethodId} {args : Array Value} {below : List Frame} {meth : Method} {c : Code} {Q : State → Prop} {D : va_G} {A : Nat → Prop} {ad : Nat → Nat} {cI cL cO : ClassId} {sc : Int32} {sd : Int32} {src : (Nat → Int32)} {itm : (Nat → Int32)} {knd : (Nat → Int32)} {plc : (Nat → Int32)} {clk : (Nat → Int64)} {ec : Int32} {nf : (Nat → Int32)} {ns : (Nat → Int32)} {nc : Int32} {wt : (Nat → Nat → Int64)} {bd : (Nat → Nat → Int64)} {off : (Nat → Int64)} {row : (Nat → Int32)} {hw : (Nat → Nat → Int64)} {rl : Int32} {tm : (Nat → Int64)} {ord : (Nat → Int32)} {tc : Int32} {v2 : Int32} {g0 : Nat} {g1 : Nat} {Qx : Int64 → Prop} (hg0 : g0 < 16) (hg1 : g1 < 17) (hC : XC p s m args c D vwCl (tysX cI cL cO) A 6 bRg_leastThroughNext TBL RRg)  (hexit : ∀ (v3 : Int64), Qx v3 → XW p l e rm_Ring_leastThroughNext_wt_hw s m args below meth c D vwCl A 6 Q 0 0 (wX ad cI cL cO sc sd src itm knd plc clk ec nf ns nc wt bd off row hw rl tm ord tc) 55 [(3, .long v3)] []) : ∀ (n : Nat) (v3 : Int64) (v5 : Int32), Ring_leastThroughNext_wt_hw_L7 v2 g0 g1 wt hw Qx n v3 v5 → XW p l e rm_Ring_leastThroughNext_wt_hw s m args below meth c D vwCl A 6 Q 0 0 (wX ad cI cL cO sc sd src itm knd plc clk ec nf ns nc wt bd off row hw rl tm ord tc) 7 [(0, .ref (ad (20 + g0))), (1, .ref (ad (52 + g1))), (2, .int v2), (3, .long v3), (5, .int v5)] [] := by
  intro n
  induction n with
  | zero => intro v3 v5 h; exact False.elim h
  | succ n ih =>
    intro v3 v5 h
    unfold Ring_leastThroughNext_wt_hw_L7 at h
    refine x_iload hC dRg_leastThroughNext_7 4 rfl ?_
    refine x_iload_n hC dRg_leastThroughNext_9 rfl 2 rfl ?_
    refine x_icmp_ge (tgt := 55) hC dRg_leastThroughNext_10 (by decide) (fun c_1 => ?_) (fun c_1 => ?_)
    · have h := h.1 c_1
      refine x_lv [3] rfl ?_
      exact hexit v3 h
    · have h := h.2 c_1
      refine x_aload_n hC dRg_leastThroughNext_13 rfl 0 rfl ?_
      refine x_iload hC dRg_leastThroughNext_14 4 rfl ?_
      obtain ⟨hb_2, h⟩ := h
      refine x_lald hC (20 + g0) 1 (wX_wt hg0) rfl hb_2 dRg_leastThroughNext_16 ?_
      refine x_ldc2 (v := 9223372036854775807) hC k_x38 dRg_leastThroughNext_17 ?_
      refine x_lcmp_eq (tgt := 49) hC dRg_leastThroughNext_20 dRg_leastThroughNext_21 (by decide) (fun c_3 => ?_) (fun c_3 => ?_)
      · have h := h.1 c_3
        refine x_iinc (v := v5 + 1) (lv' := [(5, .int (v5 + 1)), (0, .ref (ad (20 + g0))), (1, .ref (ad (52 + g1))), (2, .int v2), (3, .long v3)]) hC dRg_leastThroughNext_49 4 rfl rfl (by decide) rfl ?_
        refine x_goto (tgt := 7) hC dRg_leastThroughNext_52 (by decide) ?_
        refine x_lv [1, 2, 3, 4, 0] rfl ?_
        exact ih v3 (v5 + 1) h
      · have h := h.2 c_3
        refine x_aload_n hC dRg_leastThroughNext_24 rfl 1 rfl ?_
        refine x_iload hC dRg_leastThroughNext_25 4 rfl ?_
        obtain ⟨hb_4, h⟩ := h
        refine x_lald hC (52 + g1) 1 (wX_hw hg1) rfl hb_4 dRg_leastThroughNext_27 ?_
        refine x_ldc2 (v := 9223372036854775807) hC k_x38 dRg_leastThroughNext_28 ?_
        refine x_lcmp_eq (tgt := 49) hC dRg_leastThroughNext_31 dRg_leastThroughNext_32 (by decide) (fun c_5 => ?_) (fun c_5 => ?_)
        · have h := h.1 c_5
          refine x_iinc (v := v5 + 1) (lv' := [(5, .int (v5 + 1)), (0, .ref (ad (20 + g0))), (1, .ref (ad (52 + g1))), (2, .int v2), (3, .long v3)]) hC dRg_leastThroughNext_49 4 rfl rfl (by decide) rfl ?_
          refine x_goto (tgt := 7) hC dRg_leastThroughNext_52 (by decide) ?_
          refine x_lv [1, 2, 3, 4, 0] rfl ?_
          exact ih v3 (v5 + 1) h
        · have h := h.2 c_5
          refine x_lload_n hC dRg_leastThroughNext_35 rfl 3 rfl ?_
          refine x_aload_n hC dRg_leastThroughNext_36 rfl 0 rfl ?_
          refine x_iload hC dRg_leastThroughNext_37 4 rfl ?_
          obtain ⟨hb_6, h⟩ := h
          refine x_lald hC (20 + g0) 1 (wX_wt hg0) rfl hb_6 dRg_leastThroughNext_39 ?_
          refine x_aload_n hC dRg_leastThroughNext_40 rfl 1 rfl ?_
          refine x_iload hC dRg_leastThroughNext_41 4 rfl ?_
          obtain ⟨hb_7, h⟩ := h
          refine x_lald hC (52 + g1) 1 (wX_hw hg1) rfl hb_7 dRg_leastThroughNext_43 ?_
          refine x_ladd hC dRg_leastThroughNext_44 ?_
          refine x_mminl hC k_x39 k_x17 k_x18 k_x19 (by decide) (Nat.le_of_ble_eq_true rfl) (by decide) (by decide) dRg_leastThroughNext_45 ?_
          refine x_lstore_n (lv' := [(3, .long (if (((wt g0) v5.toNatClampNeg) + ((hw g1) v5.toNatClampNeg)) < v3 then (((wt g0) v5.toNatClampNeg) + ((hw g1) v5.toNatClampNeg)) else v3)), (0, .ref (ad (20 + g0))), (1, .ref (ad (52 + g1))), (2, .int v2), (5, .int v5)]) hC dRg_leastThroughNext_48 rfl (by decide) rfl ?_
          refine x_iinc (v := v5 + 1) (lv' := [(5, .int (v5 + 1)), (3, .long (if (((wt g0) v5.toNatClampNeg) + ((hw g1) v5.toNatClampNeg)) < v3 then (((wt g0) v5.toNatClampNeg) + ((hw g1) v5.toNatClampNeg)) else v3)), (0, .ref (ad (20 + g0))), (1, .ref (ad (52 + g1))), (2, .int v2)]) hC dRg_leastThroughNext_49 4 rfl rfl (by decide) rfl ?_
          refine x_goto (tgt := 7) hC dRg_leastThroughNext_52 (by decide) ?_
          refine x_lv [2, 3, 4, 1, 0] rfl ?_
          exact ih (if (((wt g0) v5.toNatClampNeg) + ((hw g1) v5.toNatClampNeg)) < v3 then (((wt g0) v5.toNatClampNeg) + ((hw g1) v5.toNatClampNeg)) else v3) (v5 + 1) h

set_option maxHeartbeats 4000000 in
set_option maxRecDepth 100000 in
theorem c_Ring_leastThroughNext_wt_hw {l : Launch} {D : va_G} {ad : Nat → Nat} {cI cL cO : ClassId} {sc : Int32} {sd : Int32} {src : (Nat → Int32)} {itm : (Nat → Int32)} {knd : (Nat → Int32)} {plc : (Nat → Int32)} {clk : (Nat → Int64)} {ec : Int32} {nf : (Nat → Int32)} {ns : (Nat → Int32)} {nc : Int32} {wt : (Nat → Nat → Int64)} {bd : (Nat → Nat → Int64)} {off : (Nat → Int64)} {row : (Nat → Int32)} {hw : (Nat → Nat → Int64)} {rl : Int32} {tm : (Nat → Int64)} {ord : (Nat → Int32)} {tc : Int32} {g0 : Nat} {g1 : Nat} {a2 : Int32} {Qr : Int64 → Unit → Prop} (hg0 : g0 < 16) (hg1 : g1 < 17) (h : Ring_leastThroughNext_wt_hw_wp wt hw g0 g1 a2 Qr) (sz : Nat) : vx_Met l yRg_leastThroughNext (Cond.code yRg_leastThroughNext bRg_leastThroughNext 6 (some .long) :: TBL) rm_Ring_leastThroughNext_wt_hw (va_Pc [.ref (ad (20 + g0)), .ref (ad (52 + g1)), .int a2] (XP D vwCl (tysX cI cL cO) (wX ad cI cL cO sc sd src itm knd plc clk ec nf ns nc wt bd off row hw rl tm ord tc) sz)) (va_Ql Qr (fun u t => XB D vwCl (tysX cI cL cO) (va_A (wX ad cI cL cO sc sd src itm knd plc clk ec nf ns nc wt bd off row hw rl tm ord tc) sz) (wX ad cI cL cO sc sd src itm knd plc clk ec nf ns nc wt bd off row hw rl tm ord tc) t) (va_A (wX ad cI cL cO sc sd src itm knd plc clk ec nf ns nc wt bd off row hw rl tm ord tc) sz)) (XT D vwCl (tysX cI cL cO) (va_A (wX ad cI cL cO sc sd src itm knd plc clk ec nf ns nc wt bd off row hw rl tm ord tc) sz) (wX ad cI cL cO sc sd src itm knd plc clk ec nf ns nc wt bd off row hw rl tm ord tc) (fun _ => False)) rm_Ring_leastThroughNext_wt_hw.cells rm_Ring_leastThroughNext_wt_hw.slots (va_A (wX ad cI cL cO sc sd src itm knd plc clk ec nf ns nc wt bd off row hw rl tm ord tc) sz) := by
  refine x_met [.ref (ad (20 + g0)), .ref (ad (52 + g1)), .int a2] TBL_good (by decide) (Nat.le_of_ble_eq_true rfl) ?_
  intro p e s m args below meth c hC hr hlk hnm hnh
  have hret : ∀ (ce sl : Nat), ce ≤ rm_Ring_leastThroughNext_wt_hw.cells → sl ≤ rm_Ring_leastThroughNext_wt_hw.slots → ∀ (r : Int64) (u : Unit), Qr r u → ∀ (pc : Nat) (lv : List (Nat × Value)), decode bRg_leastThroughNext pc = .ok (.lreturn, 1) → XW p l e rm_Ring_leastThroughNext_wt_hw s m args below meth c D vwCl (va_A (wX ad cI cL cO sc sd src itm knd plc clk ec nf ns nc wt bd off row hw rl tm ord tc) sz) 6 (vx_MQ below (va_Ql Qr (fun u t => XB D vwCl (tysX cI cL cO) (va_A (wX ad cI cL cO sc sd src itm knd plc clk ec nf ns nc wt bd off row hw rl tm ord tc) sz) (wX ad cI cL cO sc sd src itm knd plc clk ec nf ns nc wt bd off row hw rl tm ord tc) t) (va_A (wX ad cI cL cO sc sd src itm knd plc clk ec nf ns nc wt bd off row hw rl tm ord tc) sz)) (XT D vwCl (tysX cI cL cO) (va_A (wX ad cI cL cO sc sd src itm knd plc clk ec nf ns nc wt bd off row hw rl tm ord tc) sz) (wX ad cI cL cO sc sd src itm knd plc clk ec nf ns nc wt bd off row hw rl tm ord tc) (fun _ => False)) args s rm_Ring_leastThroughNext_wt_hw.cells rm_Ring_leastThroughNext_wt_hw.slots (va_A (wX ad cI cL cO sc sd src itm knd plc clk ec nf ns nc wt bd off row hw rl tm ord tc) sz)) ce sl (wX ad cI cL cO sc sd src itm knd plc clk ec nf ns nc wt bd off row hw rl tm ord tc) pc lv [.long r] := fun ce sl h1 h2 r u hq pc lv hd => x_lret (wf := fun u => (wX ad cI cL cO sc sd src itm knd plc clk ec nf ns nc wt bd off row hw rl tm ord tc)) hC h1 h2 hr hlk hd hq rfl
  show XW p l e rm_Ring_leastThroughNext_wt_hw s m args below meth c D vwCl (va_A (wX ad cI cL cO sc sd src itm knd plc clk ec nf ns nc wt bd off row hw rl tm ord tc) sz) 6 _ 0 0 (wX ad cI cL cO sc sd src itm knd plc clk ec nf ns nc wt bd off row hw rl tm ord tc) 0 [(0, .ref (ad (20 + g0))), (1, .ref (ad (52 + g1))), (2, .int a2)] []
  unfold Ring_leastThroughNext_wt_hw_wp at h
  refine x_ldc2 (v := 9223372036854775807) hC k_x38 dRg_leastThroughNext_0 ?_
  refine x_lstore_n (lv' := [(3, .long 9223372036854775807), (0, .ref (ad (20 + g0))), (1, .ref (ad (52 + g1))), (2, .int a2)]) hC dRg_leastThroughNext_3 rfl (by decide) rfl ?_
  refine x_iconst (v := 0) hC dRg_leastThroughNext_4 (by decide) ?_
  refine x_istore (lv' := [(5, .int 0), (3, .long 9223372036854775807), (0, .ref (ad (20 + g0))), (1, .ref (ad (52 + g1))), (2, .int a2)]) hC dRg_leastThroughNext_5 (by decide) rfl ?_
  obtain ⟨n_9, h⟩ := h
  refine x_lv [2, 3, 4, 1, 0] rfl ?_
  refine Ring_leastThroughNext_wt_hw_L7_ok hg0 hg1 hC (fun v3_8 h => ?_) n_9 9223372036854775807 0 h
  refine x_lload_n hC dRg_leastThroughNext_55 rfl 0 rfl ?_
  exact hret _ _ (by decide) (by decide) v3_8 () h _ _ dRg_leastThroughNext_56

/-! EventOrder$Ring.stepsBack(III[[J)I -/
abbrev rm_Ring_stepsBack_11 : Room := { frames := 2, cells := 0, slots := 0, locals := 65 }
def Ring_stepsBack_11_L3 (v1 : Int32) (v2 : Int32) (v3 : Int32) (Qx : (Nat → Nat → Int64) → Prop) : Nat → Int32 → (Nat → Nat → Int64) → Prop
  | 0, _, _ => False
  | n + 1, v5, hw => ((v3 ≤ v5 → Qx hw) ∧ (¬ v3 ≤ v5 → vp_in 0 17 ∧ vp_in v5 16 ∧ Ring_stepsBack_11_L3 v1 v2 v3 Qx n (v5 + 1) (va_up hw ((0 : Int32).toNatClampNeg) (vp_updL (hw ((0 : Int32).toNatClampNeg)) v5.toNatClampNeg 9223372036854775807))))

def Ring_stepsBack_11_L48 (v1 : Int32) (v2 : Int32) (v3 : Int32) (v5 : Int32) (wt : (Nat → Nat → Int64)) (Qx : (Nat → Nat → Int64) → Prop) : Nat → Int32 → (Nat → Nat → Int64) → Prop
  | 0, _, _ => False
  | n + 1, v6, hw => ((v3 ≤ v6 → Qx hw) ∧ (¬ v3 ≤ v6 → vp_in v5 17 ∧ vp_in v6 16 ∧ vp_in (v5 - 1) 17 ∧ Ring_leastThroughNext_wt_hw_wp wt hw v6.toNatClampNeg ((v5 - 1).toNatClampNeg) v3 (fun (r_12 : Int64) (u_13 : Unit) => vp_in v6 16 ∧ Ring_stepsBack_11_L48 v1 v2 v3 v5 wt Qx n (v6 + 1) (va_up hw v5.toNatClampNeg (vp_updL (hw v5.toNatClampNeg) v6.toNatClampNeg r_12)))))

def Ring_stepsBack_11_L39 (v1 : Int32) (v2 : Int32) (v3 : Int32) (wt : (Nat → Nat → Int64)) (Qr : Int32 → (Nat → Nat → Int64) → Prop) (Qx : (Nat → Nat → Int64) → Prop) : Nat → Int32 → (Nat → Nat → Int64) → Prop
  | 0, _, _ => False
  | n + 1, v5, hw => ((v2 < v5 → Qx hw) ∧ (¬ v2 < v5 → (∃ n_19 : Nat, Ring_stepsBack_11_L48 v1 v2 v3 v5 wt (fun (hw_15 : (Nat → Nat → Int64)) => vp_in v5 17 ∧ vp_in v1 16 ∧ ((0 ≤ ((hw_15 v5.toNatClampNeg) v1.toNatClampNeg) → Ring_stepsBack_11_L39 v1 v2 v3 wt Qr Qx n (v5 + 1) hw_15) ∧ (¬ 0 ≤ ((hw_15 v5.toNatClampNeg) v1.toNatClampNeg) → Qr v5 hw_15))) n_19 0 hw)))

def Ring_stepsBack_11_wp (wt : (Nat → Nat → Int64)) (hw : (Nat → Nat → Int64)) (a1 : Int32) (a2 : Int32) (a3 : Int32) (Qr : Int32 → (Nat → Nat → Int64) → Prop) : Prop := (∃ n_22 : Nat, Ring_stepsBack_11_L3 a1 a2 a3 (fun (hw_4 : (Nat → Nat → Int64)) => vp_in 0 17 ∧ vp_in a1 16 ∧ (∃ n_21 : Nat, Ring_stepsBack_11_L39 a1 a2 a3 wt Qr (fun (hw_20 : (Nat → Nat → Int64)) => Qr 0 hw_20) n_21 1 (va_up hw_4 ((0 : Int32).toNatClampNeg) (vp_updL (hw_4 ((0 : Int32).toNatClampNeg)) a1.toNatClampNeg 0)))) n_22 0 hw)
set_option maxHeartbeats 4000000 in
set_option maxRecDepth 100000 in
theorem Ring_stepsBack_11_L3_ok {p : Program} {l : Launch} {e : Env} {s : State} {m : MethodId} {args : Array Value} {below : List Frame} {meth : Method} {c : Code} {Q : State → Prop} {D : va_G} {A : Nat → Prop} {ad : Nat → Nat} {cI cL cO : ClassId} {sc : Int32} {sd : Int32} {src : (Nat → Int32)} {itm : (Nat → Int32)} {knd : (Nat → Int32)} {plc : (Nat → Int32)} {clk : (Nat → Int64)} {ec : Int32} {nf : (Nat → Int32)} {ns : (Nat → Int32)} {nc : Int32} {wt : (Nat → Nat → Int64)} {bd : (Nat → Nat → Int64)} {off : (Nat → Int64)} {row : (Nat → Int32)} {rl : Int32} {tm : (Nat → Int64)} {ord : (Nat → Int32)} {tc : Int32} {v1 : Int32} {v2 : Int32} {v3 : Int32} {Qx : (Nat → Nat → Int64) → Prop} (hC : XC p s m args c D vwCl (tysX cI cL cO) A 7 bRg_stepsBack TBL RRg)  (hexit : ∀ (hw : (Nat → Nat → Int64)), Qx hw → XW p l e rm_Ring_stepsBack_11 s m args below meth c D vwCl A 7 Q 0 0 (wX ad cI cL cO sc sd src itm knd plc clk ec nf ns nc wt bd off row hw rl tm ord tc) 27 [(0, .ref (ad 14)), (1, .int v1), (2, .int v2), (3, .int v3), (4, .ref (ad 11))] []) : ∀ (n : Nat) (v5 : Int32) (hw : (Nat → Nat → Int64)), Ring_stepsBack_11_L3 v1 v2 v3 Qx n v5 hw → XW p l e rm_Ring_stepsBack_11 s m args below meth c D vwCl A 7 Q 0 0 (wX ad cI cL cO sc sd src itm knd plc clk ec nf ns nc wt bd off row hw rl tm ord tc) 3 [(0, .ref (ad 14)), (1, .int v1), (2, .int v2), (3, .int v3), (4, .ref (ad 11)), (5, .int v5)] [] := by
  intro n
  induction n with
  | zero => intro v5 hw h; exact False.elim h
  | succ n ih =>
    intro v5 hw h
    unfold Ring_stepsBack_11_L3 at h
    refine x_iload hC dRg_stepsBack_3 5 rfl ?_
    refine x_iload_n hC dRg_stepsBack_5 rfl 3 rfl ?_
    refine x_icmp_ge (tgt := 27) hC dRg_stepsBack_6 (by decide) (fun c_1 => ?_) (fun c_1 => ?_)
    · have h := h.1 c_1
      refine x_lv [0, 1, 2, 3, 4] rfl ?_
      exact hexit hw h
    · have h := h.2 c_1
      refine x_aload_n hC dRg_stepsBack_9 rfl 0 rfl ?_
      refine x_get hC iRg 14 wX_14 rfl 1 (by decide) k_x37 rfl rfl dRg_stepsBack_10 ?_
      refine x_iconst (v := 0) hC dRg_stepsBack_13 (by decide) ?_
      obtain ⟨hb_2, h⟩ := h
      refine x_aald (y := ad (52 + (0 : Int32).toNatClampNeg)) hC 16 2 wX_16 rfl rfl hb_2 rfl dRg_stepsBack_14 ?_
      refine x_iload hC dRg_stepsBack_15 5 rfl ?_
      refine x_ldc2 (v := 9223372036854775807) hC k_x38 dRg_stepsBack_17 ?_
      obtain ⟨hb_3, h⟩ := h
      refine x_last (ws' := (wX ad cI cL cO sc sd src itm knd plc clk ec nf ns nc wt bd off row (va_up hw ((0 : Int32).toNatClampNeg) (vp_updL (hw ((0 : Int32).toNatClampNeg)) v5.toNatClampNeg 9223372036854775807)) rl tm ord tc)) hC (52 + ((0 : Int32).toNatClampNeg)) 1 (wX_hw (x_in_lt hb_2)) rfl hb_3 (wX_hw_set (x_in_lt hb_2)) dRg_stepsBack_20 ?_
      refine x_iinc (v := v5 + 1) (lv' := [(5, .int (v5 + 1)), (0, .ref (ad 14)), (1, .int v1), (2, .int v2), (3, .int v3), (4, .ref (ad 11))]) hC dRg_stepsBack_21 5 rfl rfl (by decide) rfl ?_
      refine x_goto (tgt := 3) hC dRg_stepsBack_24 (by decide) ?_
      refine x_lv [1, 2, 3, 4, 5, 0] rfl ?_
      exact ih (v5 + 1) (va_up hw ((0 : Int32).toNatClampNeg) (vp_updL (hw ((0 : Int32).toNatClampNeg)) v5.toNatClampNeg 9223372036854775807)) h

set_option maxHeartbeats 4000000 in
set_option maxRecDepth 100000 in
theorem Ring_stepsBack_11_L48_ok {p : Program} {l : Launch} {e : Env} {s : State} {m : MethodId} {args : Array Value} {below : List Frame} {meth : Method} {c : Code} {Q : State → Prop} {D : va_G} {A : Nat → Prop} {ad : Nat → Nat} {cI cL cO : ClassId} {sc : Int32} {sd : Int32} {src : (Nat → Int32)} {itm : (Nat → Int32)} {knd : (Nat → Int32)} {plc : (Nat → Int32)} {clk : (Nat → Int64)} {ec : Int32} {nf : (Nat → Int32)} {ns : (Nat → Int32)} {nc : Int32} {wt : (Nat → Nat → Int64)} {bd : (Nat → Nat → Int64)} {off : (Nat → Int64)} {row : (Nat → Int32)} {rl : Int32} {tm : (Nat → Int64)} {ord : (Nat → Int32)} {tc : Int32} {v1 : Int32} {v2 : Int32} {v3 : Int32} {v5 : Int32} {Qx : (Nat → Nat → Int64) → Prop} (hC : XC p s m args c D vwCl (tysX cI cL cO) A 7 bRg_stepsBack TBL RRg)  (hexit : ∀ (hw : (Nat → Nat → Int64)), Qx hw → XW p l e rm_Ring_stepsBack_11 s m args below meth c D vwCl A 7 Q 0 0 (wX ad cI cL cO sc sd src itm knd plc clk ec nf ns nc wt bd off row hw rl tm ord tc) 88 [(0, .ref (ad 14)), (1, .int v1), (2, .int v2), (3, .int v3), (4, .ref (ad 11)), (5, .int v5)] []) : ∀ (n : Nat) (v6 : Int32) (hw : (Nat → Nat → Int64)), Ring_stepsBack_11_L48 v1 v2 v3 v5 wt Qx n v6 hw → XW p l e rm_Ring_stepsBack_11 s m args below meth c D vwCl A 7 Q 0 0 (wX ad cI cL cO sc sd src itm knd plc clk ec nf ns nc wt bd off row hw rl tm ord tc) 48 [(0, .ref (ad 14)), (1, .int v1), (2, .int v2), (3, .int v3), (4, .ref (ad 11)), (5, .int v5), (6, .int v6)] [] := by
  intro n
  induction n with
  | zero => intro v6 hw h; exact False.elim h
  | succ n ih =>
    intro v6 hw h
    unfold Ring_stepsBack_11_L48 at h
    refine x_iload hC dRg_stepsBack_48 6 rfl ?_
    refine x_iload_n hC dRg_stepsBack_50 rfl 3 rfl ?_
    refine x_icmp_ge (tgt := 88) hC dRg_stepsBack_51 (by decide) (fun c_8 => ?_) (fun c_8 => ?_)
    · have h := h.1 c_8
      refine x_lv [0, 1, 2, 3, 4, 5] rfl ?_
      exact hexit hw h
    · have h := h.2 c_8
      refine x_aload_n hC dRg_stepsBack_54 rfl 0 rfl ?_
      refine x_get hC iRg 14 wX_14 rfl 1 (by decide) k_x37 rfl rfl dRg_stepsBack_55 ?_
      refine x_iload hC dRg_stepsBack_58 5 rfl ?_
      obtain ⟨hb_9, h⟩ := h
      refine x_aald (y := ad (52 + v5.toNatClampNeg)) hC 16 2 wX_16 rfl rfl hb_9 rfl dRg_stepsBack_60 ?_
      refine x_iload hC dRg_stepsBack_61 6 rfl ?_
      refine x_aload hC dRg_stepsBack_63 4 rfl ?_
      refine x_iload hC dRg_stepsBack_65 6 rfl ?_
      obtain ⟨hb_10, h⟩ := h
      refine x_aald (y := ad (20 + v6.toNatClampNeg)) hC 11 2 wX_11 rfl rfl hb_10 rfl dRg_stepsBack_67 ?_
      refine x_aload_n hC dRg_stepsBack_68 rfl 0 rfl ?_
      refine x_get hC iRg 14 wX_14 rfl 1 (by decide) k_x37 rfl rfl dRg_stepsBack_69 ?_
      refine x_iload hC dRg_stepsBack_72 5 rfl ?_
      refine x_iconst (v := 1) hC dRg_stepsBack_74 (by decide) ?_
      refine x_isub hC dRg_stepsBack_75 ?_
      obtain ⟨hb_11, h⟩ := h
      refine x_aald (y := ad (52 + (v5 - 1).toNatClampNeg)) hC 16 2 wX_16 rfl rfl hb_11 rfl dRg_stepsBack_76 ?_
      refine x_iload_n hC dRg_stepsBack_77 rfl 3 rfl ?_
      refine x_callSl (S := Unit) (wf := fun u => (wX ad cI cL cO sc sd src itm knd plc clk ec nf ns nc wt bd off row hw rl tm ord tc)) hC [.ref (ad (20 + v6.toNatClampNeg)), .ref (ad (52 + ((v5 - 1).toNatClampNeg))), .int v3] (fun sz => c_Ring_leastThroughNext_wt_hw (x_in_lt hb_10) (x_in_lt hb_11) h sz) (by decide) (by decide) k_x40 k_x41 k_x42 (by decide) 3 rfl (by decide +kernel) ⟨by decide, by decide⟩ (Nat.le_of_ble_eq_true rfl) k_x43 rfl dRg_stepsBack_78 (fun _ h9 => h9) (fun r_12 u_13 h => ?_)
      obtain ⟨hb_14, h⟩ := h
      refine x_last (ws' := (wX ad cI cL cO sc sd src itm knd plc clk ec nf ns nc wt bd off row (va_up hw v5.toNatClampNeg (vp_updL (hw v5.toNatClampNeg) v6.toNatClampNeg r_12)) rl tm ord tc)) hC (52 + v5.toNatClampNeg) 1 (wX_hw (x_in_lt hb_9)) rfl hb_14 (wX_hw_set (x_in_lt hb_9)) dRg_stepsBack_81 ?_
      refine x_iinc (v := v6 + 1) (lv' := [(6, .int (v6 + 1)), (0, .ref (ad 14)), (1, .int v1), (2, .int v2), (3, .int v3), (4, .ref (ad 11)), (5, .int v5)]) hC dRg_stepsBack_82 6 rfl rfl (by decide) rfl ?_
      refine x_goto (tgt := 48) hC dRg_stepsBack_85 (by decide) ?_
      refine x_lv [1, 2, 3, 4, 5, 6, 0] rfl ?_
      exact ih (v6 + 1) (va_up hw v5.toNatClampNeg (vp_updL (hw v5.toNatClampNeg) v6.toNatClampNeg r_12)) h

set_option maxHeartbeats 4000000 in
set_option maxRecDepth 100000 in
theorem Ring_stepsBack_11_L39_ok {p : Program} {l : Launch} {e : Env} {s : State} {m : MethodId} {args : Array Value} {below : List Frame} {meth : Method} {c : Code} {Q : State → Prop} {D : va_G} {A : Nat → Prop} {ad : Nat → Nat} {cI cL cO : ClassId} {sc : Int32} {sd : Int32} {src : (Nat → Int32)} {itm : (Nat → Int32)} {knd : (Nat → Int32)} {plc : (Nat → Int32)} {clk : (Nat → Int64)} {ec : Int32} {nf : (Nat → Int32)} {ns : (Nat → Int32)} {nc : Int32} {wt : (Nat → Nat → Int64)} {bd : (Nat → Nat → Int64)} {off : (Nat → Int64)} {row : (Nat → Int32)} {rl : Int32} {tm : (Nat → Int64)} {ord : (Nat → Int32)} {tc : Int32} {v1 : Int32} {v2 : Int32} {v3 : Int32} {Qr : Int32 → (Nat → Nat → Int64) → Prop} {Qx : (Nat → Nat → Int64) → Prop} (hC : XC p s m args c D vwCl (tysX cI cL cO) A 7 bRg_stepsBack TBL RRg) (hret : ∀ (r : Int32) (u : (Nat → Nat → Int64)), Qr r u → ∀ (pc : Nat) (lv : List (Nat × Value)), decode bRg_stepsBack pc = .ok (.ireturn, 1) → XW p l e rm_Ring_stepsBack_11 s m args below meth c D vwCl A 7 Q 0 0 (wX ad cI cL cO sc sd src itm knd plc clk ec nf ns nc wt bd off row u rl tm ord tc) pc lv [.int r]) (hexit : ∀ (hw : (Nat → Nat → Int64)), Qx hw → XW p l e rm_Ring_stepsBack_11 s m args below meth c D vwCl A 7 Q 0 0 (wX ad cI cL cO sc sd src itm knd plc clk ec nf ns nc wt bd off row hw rl tm ord tc) 111 [] []) : ∀ (n : Nat) (v5 : Int32) (hw : (Nat → Nat → Int64)), Ring_stepsBack_11_L39 v1 v2 v3 wt Qr Qx n v5 hw → XW p l e rm_Ring_stepsBack_11 s m args below meth c D vwCl A 7 Q 0 0 (wX ad cI cL cO sc sd src itm knd plc clk ec nf ns nc wt bd off row hw rl tm ord tc) 39 [(0, .ref (ad 14)), (1, .int v1), (2, .int v2), (3, .int v3), (4, .ref (ad 11)), (5, .int v5)] [] := by
  intro n
  induction n with
  | zero => intro v5 hw h; exact False.elim h
  | succ n ih =>
    intro v5 hw h
    unfold Ring_stepsBack_11_L39 at h
    refine x_iload hC dRg_stepsBack_39 5 rfl ?_
    refine x_iload_n hC dRg_stepsBack_41 rfl 2 rfl ?_
    refine x_icmp_gt (tgt := 111) hC dRg_stepsBack_42 (by decide) (fun c_7 => ?_) (fun c_7 => ?_)
    · have h := h.1 c_7
      refine x_lv [] rfl ?_
      exact hexit hw h
    · have h := h.2 c_7
      refine x_iconst (v := 0) hC dRg_stepsBack_45 (by decide) ?_
      refine x_istore (lv' := [(6, .int 0), (0, .ref (ad 14)), (1, .int v1), (2, .int v2), (3, .int v3), (4, .ref (ad 11)), (5, .int v5)]) hC dRg_stepsBack_46 (by decide) rfl ?_
      obtain ⟨n_19, h⟩ := h
      refine x_lv [1, 2, 3, 4, 5, 6, 0] rfl ?_
      refine Ring_stepsBack_11_L48_ok hC (fun hw_15 h => ?_) n_19 0 hw h
      refine x_aload_n hC dRg_stepsBack_88 rfl 0 rfl ?_
      refine x_get hC iRg 14 wX_14 rfl 1 (by decide) k_x37 rfl rfl dRg_stepsBack_89 ?_
      refine x_iload hC dRg_stepsBack_92 5 rfl ?_
      obtain ⟨hb_16, h⟩ := h
      refine x_aald (y := ad (52 + v5.toNatClampNeg)) hC 16 2 wX_16 rfl rfl hb_16 rfl dRg_stepsBack_94 ?_
      refine x_iload_n hC dRg_stepsBack_95 rfl 1 rfl ?_
      obtain ⟨hb_17, h⟩ := h
      refine x_lald hC (52 + v5.toNatClampNeg) 1 (wX_hw (x_in_lt hb_16)) rfl hb_17 dRg_stepsBack_96 ?_
      refine x_lconst (v := 0) hC dRg_stepsBack_97 (by decide) ?_
      refine x_lcmp_ge (tgt := 105) hC dRg_stepsBack_98 dRg_stepsBack_99 (by decide) (fun c_18 => ?_) (fun c_18 => ?_)
      · have h := h.1 c_18
        refine x_iinc (v := v5 + 1) (lv' := [(5, .int (v5 + 1)), (0, .ref (ad 14)), (1, .int v1), (2, .int v2), (3, .int v3), (4, .ref (ad 11))]) hC dRg_stepsBack_105 5 rfl rfl (by decide) rfl ?_
        refine x_goto (tgt := 39) hC dRg_stepsBack_108 (by decide) ?_
        refine x_lv [1, 2, 3, 4, 5, 0] rfl ?_
        exact ih (v5 + 1) hw_15 h
      · have h := h.2 c_18
        refine x_iload hC dRg_stepsBack_102 5 rfl ?_
        exact hret v5 hw_15 h _ _ dRg_stepsBack_104

set_option maxHeartbeats 4000000 in
set_option maxRecDepth 100000 in
theorem c_Ring_stepsBack_11 {l : Launch} {D : va_G} {ad : Nat → Nat} {cI cL cO : ClassId} {sc : Int32} {sd : Int32} {src : (Nat → Int32)} {itm : (Nat → Int32)} {knd : (Nat → Int32)} {plc : (Nat → Int32)} {clk : (Nat → Int64)} {ec : Int32} {nf : (Nat → Int32)} {ns : (Nat → Int32)} {nc : Int32} {wt : (Nat → Nat → Int64)} {bd : (Nat → Nat → Int64)} {off : (Nat → Int64)} {row : (Nat → Int32)} {hw : (Nat → Nat → Int64)} {rl : Int32} {tm : (Nat → Int64)} {ord : (Nat → Int32)} {tc : Int32} {a1 : Int32} {a2 : Int32} {a3 : Int32} {Qr : Int32 → (Nat → Nat → Int64) → Prop} (h : Ring_stepsBack_11_wp wt hw a1 a2 a3 Qr) (sz : Nat) : vx_Met l yRg_stepsBack (Cond.code yRg_stepsBack bRg_stepsBack 7 (some .int) :: TBL) rm_Ring_stepsBack_11 (va_Pc [.ref (ad 14), .int a1, .int a2, .int a3, .ref (ad 11)] (XP D vwCl (tysX cI cL cO) (wX ad cI cL cO sc sd src itm knd plc clk ec nf ns nc wt bd off row hw rl tm ord tc) sz)) (va_Qi Qr (fun u t => XB D vwCl (tysX cI cL cO) (va_A (wX ad cI cL cO sc sd src itm knd plc clk ec nf ns nc wt bd off row hw rl tm ord tc) sz) (wX ad cI cL cO sc sd src itm knd plc clk ec nf ns nc wt bd off row u rl tm ord tc) t) (va_A (wX ad cI cL cO sc sd src itm knd plc clk ec nf ns nc wt bd off row hw rl tm ord tc) sz)) (XT D vwCl (tysX cI cL cO) (va_A (wX ad cI cL cO sc sd src itm knd plc clk ec nf ns nc wt bd off row hw rl tm ord tc) sz) (wX ad cI cL cO sc sd src itm knd plc clk ec nf ns nc wt bd off row hw rl tm ord tc) (fun _ => False)) rm_Ring_stepsBack_11.cells rm_Ring_stepsBack_11.slots (va_A (wX ad cI cL cO sc sd src itm knd plc clk ec nf ns nc wt bd off row hw rl tm ord tc) sz) := by
  refine x_met [.ref (ad 14), .int a1, .int a2, .int a3, .ref (ad 11)] TBL_good (by decide) (Nat.le_of_ble_eq_true rfl) ?_
  intro p e s m args below meth c hC hr hlk hnm hnh
  have hret : ∀ (ce sl : Nat), ce ≤ rm_Ring_stepsBack_11.cells → sl ≤ rm_Ring_stepsBack_11.slots → ∀ (r : Int32) (u : (Nat → Nat → Int64)), Qr r u → ∀ (pc : Nat) (lv : List (Nat × Value)), decode bRg_stepsBack pc = .ok (.ireturn, 1) → XW p l e rm_Ring_stepsBack_11 s m args below meth c D vwCl (va_A (wX ad cI cL cO sc sd src itm knd plc clk ec nf ns nc wt bd off row hw rl tm ord tc) sz) 7 (vx_MQ below (va_Qi Qr (fun u t => XB D vwCl (tysX cI cL cO) (va_A (wX ad cI cL cO sc sd src itm knd plc clk ec nf ns nc wt bd off row hw rl tm ord tc) sz) (wX ad cI cL cO sc sd src itm knd plc clk ec nf ns nc wt bd off row u rl tm ord tc) t) (va_A (wX ad cI cL cO sc sd src itm knd plc clk ec nf ns nc wt bd off row hw rl tm ord tc) sz)) (XT D vwCl (tysX cI cL cO) (va_A (wX ad cI cL cO sc sd src itm knd plc clk ec nf ns nc wt bd off row hw rl tm ord tc) sz) (wX ad cI cL cO sc sd src itm knd plc clk ec nf ns nc wt bd off row hw rl tm ord tc) (fun _ => False)) args s rm_Ring_stepsBack_11.cells rm_Ring_stepsBack_11.slots (va_A (wX ad cI cL cO sc sd src itm knd plc clk ec nf ns nc wt bd off row hw rl tm ord tc) sz)) ce sl (wX ad cI cL cO sc sd src itm knd plc clk ec nf ns nc wt bd off row u rl tm ord tc) pc lv [.int r] := fun ce sl h1 h2 r u hq pc lv hd => x_iret (wf := fun u => (wX ad cI cL cO sc sd src itm knd plc clk ec nf ns nc wt bd off row u rl tm ord tc)) hC h1 h2 hr hlk hd hq rfl
  show XW p l e rm_Ring_stepsBack_11 s m args below meth c D vwCl (va_A (wX ad cI cL cO sc sd src itm knd plc clk ec nf ns nc wt bd off row hw rl tm ord tc) sz) 7 _ 0 0 (wX ad cI cL cO sc sd src itm knd plc clk ec nf ns nc wt bd off row hw rl tm ord tc) 0 [(0, .ref (ad 14)), (1, .int a1), (2, .int a2), (3, .int a3), (4, .ref (ad 11))] []
  unfold Ring_stepsBack_11_wp at h
  refine x_iconst (v := 0) hC dRg_stepsBack_0 (by decide) ?_
  refine x_istore (lv' := [(5, .int 0), (0, .ref (ad 14)), (1, .int a1), (2, .int a2), (3, .int a3), (4, .ref (ad 11))]) hC dRg_stepsBack_1 (by decide) rfl ?_
  obtain ⟨n_22, h⟩ := h
  refine x_lv [1, 2, 3, 4, 5, 0] rfl ?_
  refine Ring_stepsBack_11_L3_ok hC (fun hw_4 h => ?_) n_22 0 hw h
  refine x_aload_n hC dRg_stepsBack_27 rfl 0 rfl ?_
  refine x_get hC iRg 14 wX_14 rfl 1 (by decide) k_x37 rfl rfl dRg_stepsBack_28 ?_
  refine x_iconst (v := 0) hC dRg_stepsBack_31 (by decide) ?_
  obtain ⟨hb_5, h⟩ := h
  refine x_aald (y := ad (52 + (0 : Int32).toNatClampNeg)) hC 16 2 wX_16 rfl rfl hb_5 rfl dRg_stepsBack_32 ?_
  refine x_iload_n hC dRg_stepsBack_33 rfl 1 rfl ?_
  refine x_lconst (v := 0) hC dRg_stepsBack_34 (by decide) ?_
  obtain ⟨hb_6, h⟩ := h
  refine x_last (ws' := (wX ad cI cL cO sc sd src itm knd plc clk ec nf ns nc wt bd off row (va_up hw_4 ((0 : Int32).toNatClampNeg) (vp_updL (hw_4 ((0 : Int32).toNatClampNeg)) a1.toNatClampNeg 0)) rl tm ord tc)) hC (52 + ((0 : Int32).toNatClampNeg)) 1 (wX_hw (x_in_lt hb_5)) rfl hb_6 (wX_hw_set (x_in_lt hb_5)) dRg_stepsBack_35 ?_
  refine x_iconst (v := 1) hC dRg_stepsBack_36 (by decide) ?_
  refine x_istore (lv' := [(5, .int 1), (0, .ref (ad 14)), (1, .int a1), (2, .int a2), (3, .int a3), (4, .ref (ad 11))]) hC dRg_stepsBack_37 (by decide) rfl ?_
  obtain ⟨n_21, h⟩ := h
  refine x_lv [1, 2, 3, 4, 5, 0] rfl ?_
  refine Ring_stepsBack_11_L39_ok hC (hret _ _ (by decide) (by decide)) (fun hw_20 h => ?_) n_21 1 (va_up hw_4 ((0 : Int32).toNatClampNeg) (vp_updL (hw_4 ((0 : Int32).toNatClampNeg)) a1.toNatClampNeg 0)) h
  refine x_iconst (v := 0) hC dRg_stepsBack_111 (by decide) ?_
  exact hret _ _ (by decide) (by decide) 0 hw_20 h _ _ dRg_stepsBack_112

/-! EventOrder$Ring.leastNext(J[J[JI)I -/
abbrev rm_Ring_leastNext_wt_hw : Room := { frames := 0, cells := 0, slots := 0, locals := 0 }
def Ring_leastNext_wt_hw_L3 (v0 : Int64) (v4 : Int32) (g2 : Nat) (g3 : Nat) (wt : (Nat → Nat → Int64)) (hw : (Nat → Nat → Int64)) (Qr : Int32 → Unit → Prop) (Qx : Prop) : Nat → Int32 → Prop
  | 0, _ => False
  | n + 1, v5 => ((v4 ≤ v5 → Qx) ∧ (¬ v4 ≤ v5 → vp_in v5 16 ∧ ((((wt g2) v5.toNatClampNeg) = 9223372036854775807 → Ring_leastNext_wt_hw_L3 v0 v4 g2 g3 wt hw Qr Qx n (v5 + 1)) ∧ (¬ ((wt g2) v5.toNatClampNeg) = 9223372036854775807 → vp_in v5 16 ∧ ((((hw g3) v5.toNatClampNeg) = 9223372036854775807 → Ring_leastNext_wt_hw_L3 v0 v4 g2 g3 wt hw Qr Qx n (v5 + 1)) ∧ (¬ ((hw g3) v5.toNatClampNeg) = 9223372036854775807 → vp_in v5 16 ∧ vp_in v5 16 ∧ ((0 ≤ ((v0 + ((wt g2) v5.toNatClampNeg)) + ((hw g3) v5.toNatClampNeg)) → Ring_leastNext_wt_hw_L3 v0 v4 g2 g3 wt hw Qr Qx n (v5 + 1)) ∧ (¬ 0 ≤ ((v0 + ((wt g2) v5.toNatClampNeg)) + ((hw g3) v5.toNatClampNeg)) → Qr v5 ()))))))))

def Ring_leastNext_wt_hw_wp (wt : (Nat → Nat → Int64)) (hw : (Nat → Nat → Int64)) (a0 : Int64) (g2 : Nat) (g3 : Nat) (a4 : Int32) (Qr : Int32 → Unit → Prop) : Prop := (∃ n_9 : Nat, Ring_leastNext_wt_hw_L3 a0 a4 g2 g3 wt hw Qr (Qr 0 ()) n_9 0)
set_option maxHeartbeats 4000000 in
set_option maxRecDepth 100000 in
theorem Ring_leastNext_wt_hw_L3_ok {p : Program} {l : Launch} {e : Env} {s : State} {m : MethodId} {args : Array Value} {below : List Frame} {meth : Method} {c : Code} {Q : State → Prop} {D : va_G} {A : Nat → Prop} {ad : Nat → Nat} {cI cL cO : ClassId} {sc : Int32} {sd : Int32} {src : (Nat → Int32)} {itm : (Nat → Int32)} {knd : (Nat → Int32)} {plc : (Nat → Int32)} {clk : (Nat → Int64)} {ec : Int32} {nf : (Nat → Int32)} {ns : (Nat → Int32)} {nc : Int32} {wt : (Nat → Nat → Int64)} {bd : (Nat → Nat → Int64)} {off : (Nat → Int64)} {row : (Nat → Int32)} {hw : (Nat → Nat → Int64)} {rl : Int32} {tm : (Nat → Int64)} {ord : (Nat → Int32)} {tc : Int32} {v0 : Int64} {v4 : Int32} {g2 : Nat} {g3 : Nat} {Qr : Int32 → Unit → Prop} {Qx : Prop} (hg2 : g2 < 16) (hg3 : g3 < 17) (hC : XC p s m args c D vwCl (tysX cI cL cO) A 6 bRg_leastNext TBL RRg) (hret : ∀ (r : Int32) (u : Unit), Qr r u → ∀ (pc : Nat) (lv : List (Nat × Value)), decode bRg_leastNext pc = .ok (.ireturn, 1) → XW p l e rm_Ring_leastNext_wt_hw s m args below meth c D vwCl A 6 Q 0 0 (wX ad cI cL cO sc sd src itm knd plc clk ec nf ns nc wt bd off row hw rl tm ord tc) pc lv [.int r]) (hexit : Qx → XW p l e rm_Ring_leastNext_wt_hw s m args below meth c D vwCl A 6 Q 0 0 (wX ad cI cL cO sc sd src itm knd plc clk ec nf ns nc wt bd off row hw rl tm ord tc) 57 [] []) : ∀ (n : Nat) (v5 : Int32), Ring_leastNext_wt_hw_L3 v0 v4 g2 g3 wt hw Qr Qx n v5 → XW p l e rm_Ring_leastNext_wt_hw s m args below meth c D vwCl A 6 Q 0 0 (wX ad cI cL cO sc sd src itm knd plc clk ec nf ns nc wt bd off row hw rl tm ord tc) 3 [(0, .long v0), (2, .ref (ad (20 + g2))), (3, .ref (ad (52 + g3))), (4, .int v4), (5, .int v5)] [] := by
  intro n
  induction n with
  | zero => intro v5 h; exact False.elim h
  | succ n ih =>
    intro v5 h
    unfold Ring_leastNext_wt_hw_L3 at h
    refine x_iload hC dRg_leastNext_3 4 rfl ?_
    refine x_iload hC dRg_leastNext_5 3 rfl ?_
    refine x_icmp_ge (tgt := 57) hC dRg_leastNext_7 (by decide) (fun c_1 => ?_) (fun c_1 => ?_)
    · have h := h.1 c_1
      refine x_lv [] rfl ?_
      exact hexit  h
    · have h := h.2 c_1
      refine x_aload_n hC dRg_leastNext_10 rfl 1 rfl ?_
      refine x_iload hC dRg_leastNext_11 4 rfl ?_
      obtain ⟨hb_2, h⟩ := h
      refine x_lald hC (20 + g2) 1 (wX_wt hg2) rfl hb_2 dRg_leastNext_13 ?_
      refine x_ldc2 (v := 9223372036854775807) hC k_x38 dRg_leastNext_14 ?_
      refine x_lcmp_eq (tgt := 51) hC dRg_leastNext_17 dRg_leastNext_18 (by decide) (fun c_3 => ?_) (fun c_3 => ?_)
      · have h := h.1 c_3
        refine x_iinc (v := v5 + 1) (lv' := [(5, .int (v5 + 1)), (0, .long v0), (2, .ref (ad (20 + g2))), (3, .ref (ad (52 + g3))), (4, .int v4)]) hC dRg_leastNext_51 4 rfl rfl (by decide) rfl ?_
        refine x_goto (tgt := 3) hC dRg_leastNext_54 (by decide) ?_
        refine x_lv [1, 2, 3, 4, 0] rfl ?_
        exact ih (v5 + 1) h
      · have h := h.2 c_3
        refine x_aload_n hC dRg_leastNext_21 rfl 2 rfl ?_
        refine x_iload hC dRg_leastNext_22 4 rfl ?_
        obtain ⟨hb_4, h⟩ := h
        refine x_lald hC (52 + g3) 1 (wX_hw hg3) rfl hb_4 dRg_leastNext_24 ?_
        refine x_ldc2 (v := 9223372036854775807) hC k_x38 dRg_leastNext_25 ?_
        refine x_lcmp_eq (tgt := 51) hC dRg_leastNext_28 dRg_leastNext_29 (by decide) (fun c_5 => ?_) (fun c_5 => ?_)
        · have h := h.1 c_5
          refine x_iinc (v := v5 + 1) (lv' := [(5, .int (v5 + 1)), (0, .long v0), (2, .ref (ad (20 + g2))), (3, .ref (ad (52 + g3))), (4, .int v4)]) hC dRg_leastNext_51 4 rfl rfl (by decide) rfl ?_
          refine x_goto (tgt := 3) hC dRg_leastNext_54 (by decide) ?_
          refine x_lv [1, 2, 3, 4, 0] rfl ?_
          exact ih (v5 + 1) h
        · have h := h.2 c_5
          refine x_lload_n hC dRg_leastNext_32 rfl 0 rfl ?_
          refine x_aload_n hC dRg_leastNext_33 rfl 1 rfl ?_
          refine x_iload hC dRg_leastNext_34 4 rfl ?_
          obtain ⟨hb_6, h⟩ := h
          refine x_lald hC (20 + g2) 1 (wX_wt hg2) rfl hb_6 dRg_leastNext_36 ?_
          refine x_ladd hC dRg_leastNext_37 ?_
          refine x_aload_n hC dRg_leastNext_38 rfl 2 rfl ?_
          refine x_iload hC dRg_leastNext_39 4 rfl ?_
          obtain ⟨hb_7, h⟩ := h
          refine x_lald hC (52 + g3) 1 (wX_hw hg3) rfl hb_7 dRg_leastNext_41 ?_
          refine x_ladd hC dRg_leastNext_42 ?_
          refine x_lconst (v := 0) hC dRg_leastNext_43 (by decide) ?_
          refine x_lcmp_ge (tgt := 51) hC dRg_leastNext_44 dRg_leastNext_45 (by decide) (fun c_8 => ?_) (fun c_8 => ?_)
          · have h := h.1 c_8
            refine x_iinc (v := v5 + 1) (lv' := [(5, .int (v5 + 1)), (0, .long v0), (2, .ref (ad (20 + g2))), (3, .ref (ad (52 + g3))), (4, .int v4)]) hC dRg_leastNext_51 4 rfl rfl (by decide) rfl ?_
            refine x_goto (tgt := 3) hC dRg_leastNext_54 (by decide) ?_
            refine x_lv [1, 2, 3, 4, 0] rfl ?_
            exact ih (v5 + 1) h
          · have h := h.2 c_8
            refine x_iload hC dRg_leastNext_48 4 rfl ?_
            exact hret v5 () h _ _ dRg_leastNext_50

set_option maxHeartbeats 4000000 in
set_option maxRecDepth 100000 in
theorem c_Ring_leastNext_wt_hw {l : Launch} {D : va_G} {ad : Nat → Nat} {cI cL cO : ClassId} {sc : Int32} {sd : Int32} {src : (Nat → Int32)} {itm : (Nat → Int32)} {knd : (Nat → Int32)} {plc : (Nat → Int32)} {clk : (Nat → Int64)} {ec : Int32} {nf : (Nat → Int32)} {ns : (Nat → Int32)} {nc : Int32} {wt : (Nat → Nat → Int64)} {bd : (Nat → Nat → Int64)} {off : (Nat → Int64)} {row : (Nat → Int32)} {hw : (Nat → Nat → Int64)} {rl : Int32} {tm : (Nat → Int64)} {ord : (Nat → Int32)} {tc : Int32} {a0 : Int64} {g2 : Nat} {g3 : Nat} {a4 : Int32} {Qr : Int32 → Unit → Prop} (hg2 : g2 < 16) (hg3 : g3 < 17) (h : Ring_leastNext_wt_hw_wp wt hw a0 g2 g3 a4 Qr) (sz : Nat) : vx_Met l yRg_leastNext (Cond.code yRg_leastNext bRg_leastNext 6 (some .int) :: TBL) rm_Ring_leastNext_wt_hw (va_Pc [.long a0, .ref (ad (20 + g2)), .ref (ad (52 + g3)), .int a4] (XP D vwCl (tysX cI cL cO) (wX ad cI cL cO sc sd src itm knd plc clk ec nf ns nc wt bd off row hw rl tm ord tc) sz)) (va_Qi Qr (fun u t => XB D vwCl (tysX cI cL cO) (va_A (wX ad cI cL cO sc sd src itm knd plc clk ec nf ns nc wt bd off row hw rl tm ord tc) sz) (wX ad cI cL cO sc sd src itm knd plc clk ec nf ns nc wt bd off row hw rl tm ord tc) t) (va_A (wX ad cI cL cO sc sd src itm knd plc clk ec nf ns nc wt bd off row hw rl tm ord tc) sz)) (XT D vwCl (tysX cI cL cO) (va_A (wX ad cI cL cO sc sd src itm knd plc clk ec nf ns nc wt bd off row hw rl tm ord tc) sz) (wX ad cI cL cO sc sd src itm knd plc clk ec nf ns nc wt bd off row hw rl tm ord tc) (fun _ => False)) rm_Ring_leastNext_wt_hw.cells rm_Ring_leastNext_wt_hw.slots (va_A (wX ad cI cL cO sc sd src itm knd plc clk ec nf ns nc wt bd off row hw rl tm ord tc) sz) := by
  refine x_met [.long a0, .ref (ad (20 + g2)), .ref (ad (52 + g3)), .int a4] TBL_good (by decide) (Nat.le_of_ble_eq_true rfl) ?_
  intro p e s m args below meth c hC hr hlk hnm hnh
  have hret : ∀ (ce sl : Nat), ce ≤ rm_Ring_leastNext_wt_hw.cells → sl ≤ rm_Ring_leastNext_wt_hw.slots → ∀ (r : Int32) (u : Unit), Qr r u → ∀ (pc : Nat) (lv : List (Nat × Value)), decode bRg_leastNext pc = .ok (.ireturn, 1) → XW p l e rm_Ring_leastNext_wt_hw s m args below meth c D vwCl (va_A (wX ad cI cL cO sc sd src itm knd plc clk ec nf ns nc wt bd off row hw rl tm ord tc) sz) 6 (vx_MQ below (va_Qi Qr (fun u t => XB D vwCl (tysX cI cL cO) (va_A (wX ad cI cL cO sc sd src itm knd plc clk ec nf ns nc wt bd off row hw rl tm ord tc) sz) (wX ad cI cL cO sc sd src itm knd plc clk ec nf ns nc wt bd off row hw rl tm ord tc) t) (va_A (wX ad cI cL cO sc sd src itm knd plc clk ec nf ns nc wt bd off row hw rl tm ord tc) sz)) (XT D vwCl (tysX cI cL cO) (va_A (wX ad cI cL cO sc sd src itm knd plc clk ec nf ns nc wt bd off row hw rl tm ord tc) sz) (wX ad cI cL cO sc sd src itm knd plc clk ec nf ns nc wt bd off row hw rl tm ord tc) (fun _ => False)) args s rm_Ring_leastNext_wt_hw.cells rm_Ring_leastNext_wt_hw.slots (va_A (wX ad cI cL cO sc sd src itm knd plc clk ec nf ns nc wt bd off row hw rl tm ord tc) sz)) ce sl (wX ad cI cL cO sc sd src itm knd plc clk ec nf ns nc wt bd off row hw rl tm ord tc) pc lv [.int r] := fun ce sl h1 h2 r u hq pc lv hd => x_iret (wf := fun u => (wX ad cI cL cO sc sd src itm knd plc clk ec nf ns nc wt bd off row hw rl tm ord tc)) hC h1 h2 hr hlk hd hq rfl
  show XW p l e rm_Ring_leastNext_wt_hw s m args below meth c D vwCl (va_A (wX ad cI cL cO sc sd src itm knd plc clk ec nf ns nc wt bd off row hw rl tm ord tc) sz) 6 _ 0 0 (wX ad cI cL cO sc sd src itm knd plc clk ec nf ns nc wt bd off row hw rl tm ord tc) 0 [(0, .long a0), (2, .ref (ad (20 + g2))), (3, .ref (ad (52 + g3))), (4, .int a4)] []
  unfold Ring_leastNext_wt_hw_wp at h
  refine x_iconst (v := 0) hC dRg_leastNext_0 (by decide) ?_
  refine x_istore (lv' := [(5, .int 0), (0, .long a0), (2, .ref (ad (20 + g2))), (3, .ref (ad (52 + g3))), (4, .int a4)]) hC dRg_leastNext_1 (by decide) rfl ?_
  obtain ⟨n_9, h⟩ := h
  refine x_lv [1, 2, 3, 4, 0] rfl ?_
  refine Ring_leastNext_wt_hw_L3_ok hg2 hg3 hC (hret _ _ (by decide) (by decide)) (fun h => ?_) n_9 0 h
  refine x_iconst (v := 0) hC dRg_leastNext_57 (by decide) ?_
  exact hret _ _ (by decide) (by decide) 0 () h _ _ dRg_leastNext_58

/-! EventOrder$Ring.trace(II[[J)V -/
abbrev rm_Ring_trace_11 : Room := { frames := 1, cells := 0, slots := 0, locals := 25 }
def Ring_trace_11_L13 (v2 : Int32) (wt : (Nat → Nat → Int64)) (hw : (Nat → Nat → Int64)) (rl : Int32) (Qx : (Nat → Int32) → Prop) : Nat → Int64 → Int32 → (Nat → Int32) → Prop
  | 0, _, _, _ => False
  | n + 1, v4, v6, row => ((rl ≤ v6 → Qx row) ∧ (¬ rl ≤ v6 → vp_in (v6 - 1) 16 ∧ vp_in (row (v6 - 1).toNatClampNeg) 16 ∧ vp_in (rl - v6) 17 ∧ Ring_leastNext_wt_hw_wp wt hw v4 ((row (v6 - 1).toNatClampNeg).toNatClampNeg) ((rl - v6).toNatClampNeg) v2 (fun (r_6 : Int32) (u_7 : Unit) => vp_in v6 16 ∧ vp_in v6 16 ∧ vp_in ((upd row v6.toNatClampNeg r_6) v6.toNatClampNeg) 16 ∧ Ring_trace_11_L13 v2 wt hw rl Qx n (v4 + ((wt ((row (v6 - 1).toNatClampNeg).toNatClampNeg)) ((upd row v6.toNatClampNeg r_6) v6.toNatClampNeg).toNatClampNeg)) (v6 + 1) (upd row v6.toNatClampNeg r_6))))

def Ring_trace_11_wp (wt : (Nat → Nat → Int64)) (row : (Nat → Int32)) (hw : (Nat → Nat → Int64)) (rl : Int32) (a1 : Int32) (a2 : Int32) (Qr : (Nat → Int32) → Prop) : Prop := vp_in 0 16 ∧ (∃ n_12 : Nat, Ring_trace_11_L13 a2 wt hw rl (fun (row_11 : (Nat → Int32)) => Qr row_11) n_12 0 1 (upd row (0 : Int32).toNatClampNeg a1))
set_option maxHeartbeats 4000000 in
set_option maxRecDepth 100000 in
theorem Ring_trace_11_L13_ok {p : Program} {l : Launch} {e : Env} {s : State} {m : MethodId} {args : Array Value} {below : List Frame} {meth : Method} {c : Code} {Q : State → Prop} {D : va_G} {A : Nat → Prop} {ad : Nat → Nat} {cI cL cO : ClassId} {sc : Int32} {sd : Int32} {src : (Nat → Int32)} {itm : (Nat → Int32)} {knd : (Nat → Int32)} {plc : (Nat → Int32)} {clk : (Nat → Int64)} {ec : Int32} {nf : (Nat → Int32)} {ns : (Nat → Int32)} {nc : Int32} {wt : (Nat → Nat → Int64)} {bd : (Nat → Nat → Int64)} {off : (Nat → Int64)} {hw : (Nat → Nat → Int64)} {rl : Int32} {tm : (Nat → Int64)} {ord : (Nat → Int32)} {tc : Int32} {v2 : Int32} {Qx : (Nat → Int32) → Prop} (hC : XC p s m args c D vwCl (tysX cI cL cO) A 8 bRg_trace TBL RRg)  (hexit : ∀ (row : (Nat → Int32)), Qx row → XW p l e rm_Ring_trace_11 s m args below meth c D vwCl A 8 Q 0 0 (wX ad cI cL cO sc sd src itm knd plc clk ec nf ns nc wt bd off row hw rl tm ord tc) 83 [] []) : ∀ (n : Nat) (v4 : Int64) (v6 : Int32) (row : (Nat → Int32)), Ring_trace_11_L13 v2 wt hw rl Qx n v4 v6 row → XW p l e rm_Ring_trace_11 s m args below meth c D vwCl A 8 Q 0 0 (wX ad cI cL cO sc sd src itm knd plc clk ec nf ns nc wt bd off row hw rl tm ord tc) 13 [(0, .ref (ad 14)), (2, .int v2), (3, .ref (ad 11)), (4, .long v4), (6, .int v6)] [] := by
  intro n
  induction n with
  | zero => intro v4 v6 row h; exact False.elim h
  | succ n ih =>
    intro v4 v6 row h
    unfold Ring_trace_11_L13 at h
    refine x_iload hC dRg_trace_13 4 rfl ?_
    refine x_aload_n hC dRg_trace_15 rfl 0 rfl ?_
    refine x_get hC iRg 14 wX_14 rfl 2 (by decide) k_x36 rfl rfl dRg_trace_16 ?_
    refine x_icmp_ge (tgt := 83) hC dRg_trace_19 (by decide) (fun c_2 => ?_) (fun c_2 => ?_)
    · have h := h.1 c_2
      refine x_lv [] rfl ?_
      exact hexit row h
    · have h := h.2 c_2
      refine x_aload_n hC dRg_trace_22 rfl 2 rfl ?_
      refine x_aload_n hC dRg_trace_23 rfl 0 rfl ?_
      refine x_get hC iRg 14 wX_14 rfl 0 (by decide) k_x44 rfl rfl dRg_trace_24 ?_
      refine x_iload hC dRg_trace_27 4 rfl ?_
      refine x_iconst (v := 1) hC dRg_trace_29 (by decide) ?_
      refine x_isub hC dRg_trace_30 ?_
      obtain ⟨hb_3, h⟩ := h
      refine x_iald hC 15 0 wX_15 rfl hb_3 dRg_trace_31 ?_
      obtain ⟨hb_4, h⟩ := h
      refine x_aald (y := ad (20 + (row (v6 - 1).toNatClampNeg).toNatClampNeg)) hC 11 2 wX_11 rfl rfl hb_4 rfl dRg_trace_32 ?_
      refine x_astore (lv' := [(7, .ref (ad (20 + ((row (v6 - 1).toNatClampNeg).toNatClampNeg)))), (0, .ref (ad 14)), (2, .int v2), (3, .ref (ad 11)), (4, .long v4), (6, .int v6)]) hC dRg_trace_33 (by decide) rfl ?_
      refine x_aload_n hC dRg_trace_35 rfl 1 rfl ?_
      refine x_get hC iRg 14 wX_14 rfl 0 (by decide) k_x44 rfl rfl dRg_trace_36 ?_
      refine x_iload hC dRg_trace_39 5 rfl ?_
      refine x_lload hC dRg_trace_41 4 rfl ?_
      refine x_aload hC dRg_trace_43 0 rfl ?_
      refine x_aload_n hC dRg_trace_45 rfl 1 rfl ?_
      refine x_get hC iRg 14 wX_14 rfl 1 (by decide) k_x37 rfl rfl dRg_trace_46 ?_
      refine x_aload_n hC dRg_trace_49 rfl 1 rfl ?_
      refine x_get hC iRg 14 wX_14 rfl 2 (by decide) k_x36 rfl rfl dRg_trace_50 ?_
      refine x_iload hC dRg_trace_53 5 rfl ?_
      refine x_isub hC dRg_trace_55 ?_
      obtain ⟨hb_5, h⟩ := h
      refine x_aald (y := ad (52 + (rl - v6).toNatClampNeg)) hC 16 2 wX_16 rfl rfl hb_5 rfl dRg_trace_56 ?_
      refine x_iload_n hC dRg_trace_57 rfl 2 rfl ?_
      refine x_callSi (S := Unit) (wf := fun u => (wX ad cI cL cO sc sd src itm knd plc clk ec nf ns nc wt bd off row hw rl tm ord tc)) hC [.long v4, .ref (ad (20 + ((row (v6 - 1).toNatClampNeg).toNatClampNeg))), .ref (ad (52 + ((rl - v6).toNatClampNeg))), .int v2] (fun sz => c_Ring_leastNext_wt_hw (x_in_lt hb_4) (x_in_lt hb_5) h sz) (by decide) (by decide) k_x45 k_x46 k_x47 (by decide) 4 rfl (by decide +kernel) ⟨by decide, by decide⟩ (Nat.le_of_ble_eq_true rfl) k_x48 rfl dRg_trace_58 (fun _ h9 => h9) (fun r_6 u_7 h => ?_)
      obtain ⟨hb_8, h⟩ := h
      refine x_iast (ws' := (wX ad cI cL cO sc sd src itm knd plc clk ec nf ns nc wt bd off (upd row v6.toNatClampNeg r_6) hw rl tm ord tc)) hC 15 0 wX_15 rfl hb_8 wX_15_set dRg_trace_61 ?_
      refine x_lload hC dRg_trace_62 4 rfl ?_
      refine x_aload hC dRg_trace_64 0 rfl ?_
      refine x_aload_n hC dRg_trace_66 rfl 1 rfl ?_
      refine x_get hC iRg 14 wX_14 rfl 0 (by decide) k_x44 rfl rfl dRg_trace_67 ?_
      refine x_iload hC dRg_trace_70 5 rfl ?_
      obtain ⟨hb_9, h⟩ := h
      refine x_iald hC 15 0 wX_15 rfl hb_9 dRg_trace_72 ?_
      obtain ⟨hb_10, h⟩ := h
      refine x_lald hC (20 + ((row (v6 - 1).toNatClampNeg).toNatClampNeg)) 1 (wX_wt (x_in_lt hb_4)) rfl hb_10 dRg_trace_73 ?_
      refine x_ladd hC dRg_trace_74 ?_
      refine x_lstore (lv' := [(4, .long (v4 + ((wt ((row (v6 - 1).toNatClampNeg).toNatClampNeg)) ((upd row v6.toNatClampNeg r_6) v6.toNatClampNeg).toNatClampNeg))), (7, .ref (ad (20 + ((row (v6 - 1).toNatClampNeg).toNatClampNeg)))), (0, .ref (ad 14)), (2, .int v2), (3, .ref (ad 11)), (6, .int v6)]) hC dRg_trace_75 (by decide) rfl ?_
      refine x_iinc (v := v6 + 1) (lv' := [(6, .int (v6 + 1)), (4, .long (v4 + ((wt ((row (v6 - 1).toNatClampNeg).toNatClampNeg)) ((upd row v6.toNatClampNeg r_6) v6.toNatClampNeg).toNatClampNeg))), (7, .ref (ad (20 + ((row (v6 - 1).toNatClampNeg).toNatClampNeg)))), (0, .ref (ad 14)), (2, .int v2), (3, .ref (ad 11))]) hC dRg_trace_77 5 rfl rfl (by decide) rfl ?_
      refine x_goto (tgt := 13) hC dRg_trace_80 (by decide) ?_
      refine x_lv [3, 4, 5, 1, 0] rfl ?_
      exact ih (v4 + ((wt ((row (v6 - 1).toNatClampNeg).toNatClampNeg)) ((upd row v6.toNatClampNeg r_6) v6.toNatClampNeg).toNatClampNeg)) (v6 + 1) (upd row v6.toNatClampNeg r_6) h

set_option maxHeartbeats 4000000 in
set_option maxRecDepth 100000 in
theorem c_Ring_trace_11 {l : Launch} {D : va_G} {ad : Nat → Nat} {cI cL cO : ClassId} {sc : Int32} {sd : Int32} {src : (Nat → Int32)} {itm : (Nat → Int32)} {knd : (Nat → Int32)} {plc : (Nat → Int32)} {clk : (Nat → Int64)} {ec : Int32} {nf : (Nat → Int32)} {ns : (Nat → Int32)} {nc : Int32} {wt : (Nat → Nat → Int64)} {bd : (Nat → Nat → Int64)} {off : (Nat → Int64)} {row : (Nat → Int32)} {hw : (Nat → Nat → Int64)} {rl : Int32} {tm : (Nat → Int64)} {ord : (Nat → Int32)} {tc : Int32} {a1 : Int32} {a2 : Int32} {Qr : (Nat → Int32) → Prop} (h : Ring_trace_11_wp wt row hw rl a1 a2 Qr) (sz : Nat) : vx_Met l yRg_trace (Cond.code yRg_trace bRg_trace 8 none :: TBL) rm_Ring_trace_11 (va_Pc [.ref (ad 14), .int a1, .int a2, .ref (ad 11)] (XP D vwCl (tysX cI cL cO) (wX ad cI cL cO sc sd src itm knd plc clk ec nf ns nc wt bd off row hw rl tm ord tc) sz)) (va_Qv Qr (fun u t => XB D vwCl (tysX cI cL cO) (va_A (wX ad cI cL cO sc sd src itm knd plc clk ec nf ns nc wt bd off row hw rl tm ord tc) sz) (wX ad cI cL cO sc sd src itm knd plc clk ec nf ns nc wt bd off u hw rl tm ord tc) t) (va_A (wX ad cI cL cO sc sd src itm knd plc clk ec nf ns nc wt bd off row hw rl tm ord tc) sz)) (XT D vwCl (tysX cI cL cO) (va_A (wX ad cI cL cO sc sd src itm knd plc clk ec nf ns nc wt bd off row hw rl tm ord tc) sz) (wX ad cI cL cO sc sd src itm knd plc clk ec nf ns nc wt bd off row hw rl tm ord tc) (fun _ => False)) rm_Ring_trace_11.cells rm_Ring_trace_11.slots (va_A (wX ad cI cL cO sc sd src itm knd plc clk ec nf ns nc wt bd off row hw rl tm ord tc) sz) := by
  refine x_met [.ref (ad 14), .int a1, .int a2, .ref (ad 11)] TBL_good (by decide) (Nat.le_of_ble_eq_true rfl) ?_
  intro p e s m args below meth c hC hr hlk hnm hnh
  have hret : ∀ (ce sl : Nat), ce ≤ rm_Ring_trace_11.cells → sl ≤ rm_Ring_trace_11.slots → ∀ (u : (Nat → Int32)), Qr u → ∀ (pc : Nat) (lv : List (Nat × Value)), decode bRg_trace pc = .ok (.return_, 1) → XW p l e rm_Ring_trace_11 s m args below meth c D vwCl (va_A (wX ad cI cL cO sc sd src itm knd plc clk ec nf ns nc wt bd off row hw rl tm ord tc) sz) 8 (vx_MQ below (va_Qv Qr (fun u t => XB D vwCl (tysX cI cL cO) (va_A (wX ad cI cL cO sc sd src itm knd plc clk ec nf ns nc wt bd off row hw rl tm ord tc) sz) (wX ad cI cL cO sc sd src itm knd plc clk ec nf ns nc wt bd off u hw rl tm ord tc) t) (va_A (wX ad cI cL cO sc sd src itm knd plc clk ec nf ns nc wt bd off row hw rl tm ord tc) sz)) (XT D vwCl (tysX cI cL cO) (va_A (wX ad cI cL cO sc sd src itm knd plc clk ec nf ns nc wt bd off row hw rl tm ord tc) sz) (wX ad cI cL cO sc sd src itm knd plc clk ec nf ns nc wt bd off row hw rl tm ord tc) (fun _ => False)) args s rm_Ring_trace_11.cells rm_Ring_trace_11.slots (va_A (wX ad cI cL cO sc sd src itm knd plc clk ec nf ns nc wt bd off row hw rl tm ord tc) sz)) ce sl (wX ad cI cL cO sc sd src itm knd plc clk ec nf ns nc wt bd off u hw rl tm ord tc) pc lv [] := fun ce sl h1 h2 u hq pc lv hd => x_vret (wf := fun u => (wX ad cI cL cO sc sd src itm knd plc clk ec nf ns nc wt bd off u hw rl tm ord tc)) hC h1 h2 hr hlk hd hq rfl
  show XW p l e rm_Ring_trace_11 s m args below meth c D vwCl (va_A (wX ad cI cL cO sc sd src itm knd plc clk ec nf ns nc wt bd off row hw rl tm ord tc) sz) 8 _ 0 0 (wX ad cI cL cO sc sd src itm knd plc clk ec nf ns nc wt bd off row hw rl tm ord tc) 0 [(0, .ref (ad 14)), (1, .int a1), (2, .int a2), (3, .ref (ad 11))] []
  unfold Ring_trace_11_wp at h
  refine x_aload_n hC dRg_trace_0 rfl 0 rfl ?_
  refine x_get hC iRg 14 wX_14 rfl 0 (by decide) k_x44 rfl rfl dRg_trace_1 ?_
  refine x_iconst (v := 0) hC dRg_trace_4 (by decide) ?_
  refine x_iload_n hC dRg_trace_5 rfl 1 rfl ?_
  obtain ⟨hb_1, h⟩ := h
  refine x_iast (ws' := (wX ad cI cL cO sc sd src itm knd plc clk ec nf ns nc wt bd off (upd row (0 : Int32).toNatClampNeg a1) hw rl tm ord tc)) hC 15 0 wX_15 rfl hb_1 wX_15_set dRg_trace_6 ?_
  refine x_lconst (v := 0) hC dRg_trace_7 (by decide) ?_
  refine x_lstore (lv' := [(4, .long 0), (0, .ref (ad 14)), (1, .int a1), (2, .int a2), (3, .ref (ad 11))]) hC dRg_trace_8 (by decide) rfl ?_
  refine x_iconst (v := 1) hC dRg_trace_10 (by decide) ?_
  refine x_istore (lv' := [(6, .int 1), (4, .long 0), (0, .ref (ad 14)), (1, .int a1), (2, .int a2), (3, .ref (ad 11))]) hC dRg_trace_11 (by decide) rfl ?_
  obtain ⟨n_12, h⟩ := h
  refine x_lv [2, 4, 5, 1, 0] rfl ?_
  refine Ring_trace_11_L13_ok hC (fun row_11 h => ?_) n_12 0 1 (upd row (0 : Int32).toNatClampNeg a1) h
  exact hret _ _ (by decide) (by decide) row_11 h _ _ dRg_trace_83

/-! EventOrder$Ring.find(I[[J)V -/
abbrev rm_Ring_find_11 : Room := { frames := 3, cells := 0, slots := 0, locals := 91 }
def Ring_find_11_L10 (v1 : Int32) (wt : (Nat → Nat → Int64)) (Qx : (Nat → Int32) → (Nat → Nat → Int64) → Int32 → Prop) : Nat → Int32 → Int32 → (Nat → Int32) → (Nat → Nat → Int64) → Int32 → Prop
  | 0, _, _, _, _, _ => False
  | n + 1, v3, v4, row, hw, rl => ((v1 ≤ v4 → Qx row hw rl) ∧ (¬ v1 ≤ v4 → Ring_stepsBack_11_wp wt hw v4 v3 v1 (fun (r_2 : Int32) (u_3 : (Nat → Nat → Int64)) => ((r_2 ≤ 0 → Ring_find_11_L10 v1 wt Qx n v3 (v4 + 1) row u_3 rl) ∧ (¬ r_2 ≤ 0 → Ring_trace_11_wp wt row u_3 r_2 v4 v1 (fun (u_6 : (Nat → Int32)) => Ring_find_11_L10 v1 wt Qx n (r_2 - 1) (v4 + 1) u_6 u_3 r_2))))))

def Ring_find_11_wp (wt : (Nat → Nat → Int64)) (row : (Nat → Int32)) (hw : (Nat → Nat → Int64)) (rl : Int32) (a1 : Int32) (Qr : ((Nat → Int32) × (Nat → Nat → Int64) × Int32) → Prop) : Prop := (∃ n_10 : Nat, Ring_find_11_L10 a1 wt (fun (row_7 : (Nat → Int32)) (hw_8 : (Nat → Nat → Int64)) (rl_9 : Int32) => Qr (row_7, hw_8, rl_9)) n_10 a1 0 row hw 0)
set_option maxHeartbeats 4000000 in
set_option maxRecDepth 100000 in
theorem Ring_find_11_L10_ok {p : Program} {l : Launch} {e : Env} {s : State} {m : MethodId} {args : Array Value} {below : List Frame} {meth : Method} {c : Code} {Q : State → Prop} {D : va_G} {A : Nat → Prop} {ad : Nat → Nat} {cI cL cO : ClassId} {sc : Int32} {sd : Int32} {src : (Nat → Int32)} {itm : (Nat → Int32)} {knd : (Nat → Int32)} {plc : (Nat → Int32)} {clk : (Nat → Int64)} {ec : Int32} {nf : (Nat → Int32)} {ns : (Nat → Int32)} {nc : Int32} {wt : (Nat → Nat → Int64)} {bd : (Nat → Nat → Int64)} {off : (Nat → Int64)} {tm : (Nat → Int64)} {ord : (Nat → Int32)} {tc : Int32} {v1 : Int32} {Qx : (Nat → Int32) → (Nat → Nat → Int64) → Int32 → Prop} (hC : XC p s m args c D vwCl (tysX cI cL cO) A 6 bRg_find TBL RRg)  (hexit : ∀ (row : (Nat → Int32)) (hw : (Nat → Nat → Int64)) (rl : Int32), Qx row hw rl → XW p l e rm_Ring_find_11 s m args below meth c D vwCl A 6 Q 0 0 (wX ad cI cL cO sc sd src itm knd plc clk ec nf ns nc wt bd off row hw rl tm ord tc) 57 [] []) : ∀ (n : Nat) (v3 : Int32) (v4 : Int32) (row : (Nat → Int32)) (hw : (Nat → Nat → Int64)) (rl : Int32), Ring_find_11_L10 v1 wt Qx n v3 v4 row hw rl → XW p l e rm_Ring_find_11 s m args below meth c D vwCl A 6 Q 0 0 (wX ad cI cL cO sc sd src itm knd plc clk ec nf ns nc wt bd off row hw rl tm ord tc) 10 [(0, .ref (ad 14)), (1, .int v1), (2, .ref (ad 11)), (3, .int v3), (4, .int v4)] [] := by
  intro n
  induction n with
  | zero => intro v3 v4 row hw rl h; exact False.elim h
  | succ n ih =>
    intro v3 v4 row hw rl h
    unfold Ring_find_11_L10 at h
    refine x_iload hC dRg_find_10 4 rfl ?_
    refine x_iload_n hC dRg_find_12 rfl 1 rfl ?_
    refine x_icmp_ge (tgt := 57) hC dRg_find_13 (by decide) (fun c_1 => ?_) (fun c_1 => ?_)
    · have h := h.1 c_1
      refine x_lv [] rfl ?_
      exact hexit row hw rl h
    · have h := h.2 c_1
      refine x_aload_n hC dRg_find_16 rfl 0 rfl ?_
      refine x_iload hC dRg_find_17 4 rfl ?_
      refine x_iload_n hC dRg_find_19 rfl 3 rfl ?_
      refine x_iload_n hC dRg_find_20 rfl 1 rfl ?_
      refine x_aload_n hC dRg_find_21 rfl 2 rfl ?_
      refine x_callVi (S := (Nat → Nat → Int64)) (wf := fun u => (wX ad cI cL cO sc sd src itm knd plc clk ec nf ns nc wt bd off row u rl tm ord tc)) hC [.int v4, .int v3, .int v1, .ref (ad 11)] (fun sz => c_Ring_stepsBack_11 h sz) (by decide) (by decide) k_x54 k_x55 k_x56 (by decide) 4 rfl (by decide +kernel) ⟨by decide, by decide⟩ (Nat.le_of_ble_eq_true rfl) k_x57 k_x58 wX_14 rfl rfl dRg_find_22 (fun _ h9 => h9) (fun r_2 u_3 h => ?_)
      refine x_istore (lv' := [(5, .int r_2), (0, .ref (ad 14)), (1, .int v1), (2, .ref (ad 11)), (3, .int v3), (4, .int v4)]) hC dRg_find_25 (by decide) rfl ?_
      refine x_iload hC dRg_find_27 0 rfl ?_
      refine x_if_le (tgt := 51) hC dRg_find_29 (by decide) (fun c_4 => ?_) (fun c_4 => ?_)
      · have h := h.1 c_4
        refine x_iinc (v := v4 + 1) (lv' := [(4, .int (v4 + 1)), (5, .int r_2), (0, .ref (ad 14)), (1, .int v1), (2, .ref (ad 11)), (3, .int v3)]) hC dRg_find_51 5 rfl rfl (by decide) rfl ?_
        refine x_goto (tgt := 10) hC dRg_find_54 (by decide) ?_
        refine x_lv [2, 3, 4, 5, 0] rfl ?_
        exact ih v3 (v4 + 1) row u_3 rl h
      · have h := h.2 c_4
        refine x_aload_n hC dRg_find_32 rfl 1 rfl ?_
        refine x_iload hC dRg_find_33 0 rfl ?_
        refine x_put (ty := .int) (ws' := (wX ad cI cL cO sc sd src itm knd plc clk ec nf ns nc wt bd off row u_3 r_2 tm ord tc)) hC iRg 14 wX_14 rfl 2 (by decide) k_x36 rfl tRg tRg_ok nRg rfl (by decide +kernel) rfl rfl (Nat.le_of_ble_eq_true rfl) rfl dRg_find_35 ?_
        refine x_iload hC dRg_find_38 0 rfl ?_
        refine x_iconst (v := 1) hC dRg_find_40 (by decide) ?_
        refine x_isub hC dRg_find_41 ?_
        refine x_istore_n (lv' := [(3, .int (r_2 - 1)), (5, .int r_2), (0, .ref (ad 14)), (1, .int v1), (2, .ref (ad 11)), (4, .int v4)]) hC dRg_find_42 rfl (by decide) rfl ?_
        refine x_aload_n hC dRg_find_43 rfl 2 rfl ?_
        refine x_iload hC dRg_find_44 5 rfl ?_
        refine x_iload_n hC dRg_find_46 rfl 3 rfl ?_
        refine x_aload_n hC dRg_find_47 rfl 4 rfl ?_
        refine x_callVv (S := (Nat → Int32)) (wf := fun u => (wX ad cI cL cO sc sd src itm knd plc clk ec nf ns nc wt bd off u u_3 r_2 tm ord tc)) hC [.int v4, .int v1, .ref (ad 11)] (fun sz => c_Ring_trace_11 h sz) (by decide) (by decide) k_x49 k_x50 k_x51 (by decide) 3 rfl (by decide +kernel) ⟨by decide, by decide⟩ (Nat.le_of_ble_eq_true rfl) k_x52 k_x53 wX_14 rfl rfl dRg_find_48 (fun _ h9 => h9) (fun u_6 h => ?_)
        refine x_iinc (v := v4 + 1) (lv' := [(4, .int (v4 + 1)), (3, .int (r_2 - 1)), (5, .int r_2), (0, .ref (ad 14)), (1, .int v1), (2, .ref (ad 11))]) hC dRg_find_51 5 rfl rfl (by decide) rfl ?_
        refine x_goto (tgt := 10) hC dRg_find_54 (by decide) ?_
        refine x_lv [3, 4, 5, 1, 0] rfl ?_
        exact ih (r_2 - 1) (v4 + 1) u_6 u_3 r_2 h

set_option maxHeartbeats 4000000 in
set_option maxRecDepth 100000 in
theorem c_Ring_find_11 {l : Launch} {D : va_G} {ad : Nat → Nat} {cI cL cO : ClassId} {sc : Int32} {sd : Int32} {src : (Nat → Int32)} {itm : (Nat → Int32)} {knd : (Nat → Int32)} {plc : (Nat → Int32)} {clk : (Nat → Int64)} {ec : Int32} {nf : (Nat → Int32)} {ns : (Nat → Int32)} {nc : Int32} {wt : (Nat → Nat → Int64)} {bd : (Nat → Nat → Int64)} {off : (Nat → Int64)} {row : (Nat → Int32)} {hw : (Nat → Nat → Int64)} {rl : Int32} {tm : (Nat → Int64)} {ord : (Nat → Int32)} {tc : Int32} {a1 : Int32} {Qr : ((Nat → Int32) × (Nat → Nat → Int64) × Int32) → Prop} (h : Ring_find_11_wp wt row hw rl a1 Qr) (sz : Nat) : vx_Met l yRg_find (Cond.code yRg_find bRg_find 6 none :: TBL) rm_Ring_find_11 (va_Pc [.ref (ad 14), .int a1, .ref (ad 11)] (XP D vwCl (tysX cI cL cO) (wX ad cI cL cO sc sd src itm knd plc clk ec nf ns nc wt bd off row hw rl tm ord tc) sz)) (va_Qv Qr (fun u t => XB D vwCl (tysX cI cL cO) (va_A (wX ad cI cL cO sc sd src itm knd plc clk ec nf ns nc wt bd off row hw rl tm ord tc) sz) (wX ad cI cL cO sc sd src itm knd plc clk ec nf ns nc wt bd off u.1 u.2.1 u.2.2 tm ord tc) t) (va_A (wX ad cI cL cO sc sd src itm knd plc clk ec nf ns nc wt bd off row hw rl tm ord tc) sz)) (XT D vwCl (tysX cI cL cO) (va_A (wX ad cI cL cO sc sd src itm knd plc clk ec nf ns nc wt bd off row hw rl tm ord tc) sz) (wX ad cI cL cO sc sd src itm knd plc clk ec nf ns nc wt bd off row hw rl tm ord tc) (fun _ => False)) rm_Ring_find_11.cells rm_Ring_find_11.slots (va_A (wX ad cI cL cO sc sd src itm knd plc clk ec nf ns nc wt bd off row hw rl tm ord tc) sz) := by
  refine x_met [.ref (ad 14), .int a1, .ref (ad 11)] TBL_good (by decide) (Nat.le_of_ble_eq_true rfl) ?_
  intro p e s m args below meth c hC hr hlk hnm hnh
  have hret : ∀ (ce sl : Nat), ce ≤ rm_Ring_find_11.cells → sl ≤ rm_Ring_find_11.slots → ∀ (u : ((Nat → Int32) × (Nat → Nat → Int64) × Int32)), Qr u → ∀ (pc : Nat) (lv : List (Nat × Value)), decode bRg_find pc = .ok (.return_, 1) → XW p l e rm_Ring_find_11 s m args below meth c D vwCl (va_A (wX ad cI cL cO sc sd src itm knd plc clk ec nf ns nc wt bd off row hw rl tm ord tc) sz) 6 (vx_MQ below (va_Qv Qr (fun u t => XB D vwCl (tysX cI cL cO) (va_A (wX ad cI cL cO sc sd src itm knd plc clk ec nf ns nc wt bd off row hw rl tm ord tc) sz) (wX ad cI cL cO sc sd src itm knd plc clk ec nf ns nc wt bd off u.1 u.2.1 u.2.2 tm ord tc) t) (va_A (wX ad cI cL cO sc sd src itm knd plc clk ec nf ns nc wt bd off row hw rl tm ord tc) sz)) (XT D vwCl (tysX cI cL cO) (va_A (wX ad cI cL cO sc sd src itm knd plc clk ec nf ns nc wt bd off row hw rl tm ord tc) sz) (wX ad cI cL cO sc sd src itm knd plc clk ec nf ns nc wt bd off row hw rl tm ord tc) (fun _ => False)) args s rm_Ring_find_11.cells rm_Ring_find_11.slots (va_A (wX ad cI cL cO sc sd src itm knd plc clk ec nf ns nc wt bd off row hw rl tm ord tc) sz)) ce sl (wX ad cI cL cO sc sd src itm knd plc clk ec nf ns nc wt bd off u.1 u.2.1 u.2.2 tm ord tc) pc lv [] := fun ce sl h1 h2 u hq pc lv hd => x_vret (wf := fun u => (wX ad cI cL cO sc sd src itm knd plc clk ec nf ns nc wt bd off u.1 u.2.1 u.2.2 tm ord tc)) hC h1 h2 hr hlk hd hq rfl
  show XW p l e rm_Ring_find_11 s m args below meth c D vwCl (va_A (wX ad cI cL cO sc sd src itm knd plc clk ec nf ns nc wt bd off row hw rl tm ord tc) sz) 6 _ 0 0 (wX ad cI cL cO sc sd src itm knd plc clk ec nf ns nc wt bd off row hw rl tm ord tc) 0 [(0, .ref (ad 14)), (1, .int a1), (2, .ref (ad 11))] []
  unfold Ring_find_11_wp at h
  refine x_aload_n hC dRg_find_0 rfl 0 rfl ?_
  refine x_iconst (v := 0) hC dRg_find_1 (by decide) ?_
  refine x_put (ty := .int) (ws' := (wX ad cI cL cO sc sd src itm knd plc clk ec nf ns nc wt bd off row hw 0 tm ord tc)) hC iRg 14 wX_14 rfl 2 (by decide) k_x36 rfl tRg tRg_ok nRg rfl (by decide +kernel) rfl rfl (Nat.le_of_ble_eq_true rfl) rfl dRg_find_2 ?_
  refine x_iload_n hC dRg_find_5 rfl 1 rfl ?_
  refine x_istore_n (lv' := [(3, .int a1), (0, .ref (ad 14)), (1, .int a1), (2, .ref (ad 11))]) hC dRg_find_6 rfl (by decide) rfl ?_
  refine x_iconst (v := 0) hC dRg_find_7 (by decide) ?_
  refine x_istore (lv' := [(4, .int 0), (3, .int a1), (0, .ref (ad 14)), (1, .int a1), (2, .ref (ad 11))]) hC dRg_find_8 (by decide) rfl ?_
  obtain ⟨n_10, h⟩ := h
  refine x_lv [2, 3, 4, 1, 0] rfl ?_
  refine Ring_find_11_L10_ok hC (fun row_7 hw_8 rl_9 h => ?_) n_10 a1 0 row hw 0 h
  exact hret _ _ (by decide) (by decide) (row_7, hw_8, rl_9) h _ _ dRg_find_57

