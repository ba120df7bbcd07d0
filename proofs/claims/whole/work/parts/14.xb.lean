/-! EventOrder.source()I -/
abbrev rm_X_source : Room := { frames := 6, cells := 1, slots := 6, locals := 120 }
def X_source_wp (sc : Int32) (sd : Int32) (Qr : Int32 → (Int32 × Int32) → Prop) (Qt : Nat → Prop) : Prop := ((sc < 16 → Qr sc (sc + 1, 0)) ∧ (¬ sc < 16 → Qt 3))
set_option maxHeartbeats 4000000 in
set_option maxRecDepth 100000 in
theorem c_X_source {l : Launch} {D : va_G} {ad : Nat → Nat} {cI cL cO : ClassId} {sc : Int32} {sd : Int32} {src : (Nat → Int32)} {itm : (Nat → Int32)} {knd : (Nat → Int32)} {plc : (Nat → Int32)} {clk : (Nat → Int64)} {ec : Int32} {nf : (Nat → Int32)} {ns : (Nat → Int32)} {nc : Int32} {wt : (Nat → Nat → Int64)} {bd : (Nat → Nat → Int64)} {off : (Nat → Int64)} {row : (Nat → Int32)} {hw : (Nat → Nat → Int64)} {rl : Int32} {tm : (Nat → Int64)} {ord : (Nat → Int32)} {tc : Int32} {Qr : Int32 → (Int32 × Int32) → Prop} {Qt : Nat → Prop} (htr : l.stackTraces = false) (h : X_source_wp sc sd Qr Qt) (sz : Nat) : vx_Met l yX_source (Cond.code yX_source bX_source 2 (some .int) :: TBL) rm_X_source (va_Pc [.ref (ad 0)] (XP D vwCl (tysX cI cL cO) (wX ad cI cL cO sc sd src itm knd plc clk ec nf ns nc wt bd off row hw rl tm ord tc) sz)) (va_Qi Qr (fun u t => XB D vwCl (tysX cI cL cO) (va_A (wX ad cI cL cO sc sd src itm knd plc clk ec nf ns nc wt bd off row hw rl tm ord tc) sz) (wX ad cI cL cO u.1 u.2 src itm knd plc clk ec nf ns nc wt bd off row hw rl tm ord tc) t) (va_A (wX ad cI cL cO sc sd src itm knd plc clk ec nf ns nc wt bd off row hw rl tm ord tc) sz)) (XT D vwCl (tysX cI cL cO) (va_A (wX ad cI cL cO sc sd src itm knd plc clk ec nf ns nc wt bd off row hw rl tm ord tc) sz) (wX ad cI cL cO sc sd src itm knd plc clk ec nf ns nc wt bd off row hw rl tm ord tc) Qt) rm_X_source.cells rm_X_source.slots (va_A (wX ad cI cL cO sc sd src itm knd plc clk ec nf ns nc wt bd off row hw rl tm ord tc) sz) := by
  refine x_met [.ref (ad 0)] TBL_good (by decide) (Nat.le_of_ble_eq_true rfl) ?_
  intro p e s m args below meth c hC hr hlk hnm hnh
  have hret : ∀ (ce sl : Nat), ce ≤ rm_X_source.cells → sl ≤ rm_X_source.slots → ∀ (r : Int32) (u : (Int32 × Int32)), Qr r u → ∀ (pc : Nat) (lv : List (Nat × Value)), decode bX_source pc = .ok (.ireturn, 1) → XW p l e rm_X_source s m args below meth c D vwCl (va_A (wX ad cI cL cO sc sd src itm knd plc clk ec nf ns nc wt bd off row hw rl tm ord tc) sz) 2 (vx_MQ below (va_Qi Qr (fun u t => XB D vwCl (tysX cI cL cO) (va_A (wX ad cI cL cO sc sd src itm knd plc clk ec nf ns nc wt bd off row hw rl tm ord tc) sz) (wX ad cI cL cO u.1 u.2 src itm knd plc clk ec nf ns nc wt bd off row hw rl tm ord tc) t) (va_A (wX ad cI cL cO sc sd src itm knd plc clk ec nf ns nc wt bd off row hw rl tm ord tc) sz)) (XT D vwCl (tysX cI cL cO) (va_A (wX ad cI cL cO sc sd src itm knd plc clk ec nf ns nc wt bd off row hw rl tm ord tc) sz) (wX ad cI cL cO sc sd src itm knd plc clk ec nf ns nc wt bd off row hw rl tm ord tc) Qt) args s rm_X_source.cells rm_X_source.slots (va_A (wX ad cI cL cO sc sd src itm knd plc clk ec nf ns nc wt bd off row hw rl tm ord tc) sz)) ce sl (wX ad cI cL cO u.1 u.2 src itm knd plc clk ec nf ns nc wt bd off row hw rl tm ord tc) pc lv [.int r] := fun ce sl h1 h2 r u hq pc lv hd => x_iret (wf := fun u => (wX ad cI cL cO u.1 u.2 src itm knd plc clk ec nf ns nc wt bd off row hw rl tm ord tc)) hC h1 h2 hr hlk hd hq rfl
  show XW p l e rm_X_source s m args below meth c D vwCl (va_A (wX ad cI cL cO sc sd src itm knd plc clk ec nf ns nc wt bd off row hw rl tm ord tc) sz) 2 _ 0 0 (wX ad cI cL cO sc sd src itm knd plc clk ec nf ns nc wt bd off row hw rl tm ord tc) 0 [(0, .ref (ad 0))] []
  unfold X_source_wp at h
  refine x_aload_n hC dX_source_0 rfl 0 rfl ?_
  refine x_get hC iX 0 wX_0 rfl 5 (by decide) k_x77 rfl rfl dX_source_1 ?_
  refine x_bipush (v := 16) hC dX_source_4 (by decide) ?_
  refine x_icmp_lt (tgt := 19) hC dX_source_6 (by decide) (fun c_1 => ?_) (fun c_1 => ?_)
  · have h := h.1 c_1
    refine x_aload_n hC dX_source_19 rfl 0 rfl ?_
    refine x_get hC iX 0 wX_0 rfl 5 (by decide) k_x77 rfl rfl dX_source_20 ?_
    refine x_istore_n (lv' := [(1, .int sc), (0, .ref (ad 0))]) hC dX_source_23 rfl (by decide) rfl ?_
    refine x_aload_n hC dX_source_24 rfl 1 rfl ?_
    refine x_dup hC dX_source_25 rfl ?_
    refine x_get hC iX 0 wX_0 rfl 5 (by decide) k_x77 rfl rfl dX_source_26 ?_
    refine x_iconst (v := 1) hC dX_source_29 (by decide) ?_
    refine x_iadd hC dX_source_30 ?_
    refine x_put (ty := .int) (ws' := (wX ad cI cL cO (sc + 1) sd src itm knd plc clk ec nf ns nc wt bd off row hw rl tm ord tc)) hC iX 0 wX_0 rfl 5 (by decide) k_x77 rfl tX tX_ok nX rfl (by decide +kernel) rfl rfl (Nat.le_of_ble_eq_true rfl) rfl dX_source_31 ?_
    refine x_aload_n hC dX_source_34 rfl 1 rfl ?_
    refine x_iconst (v := 0) hC dX_source_35 (by decide) ?_
    refine x_put (ty := .boolean) (ws' := (wX ad cI cL cO (sc + 1) 0 src itm knd plc clk ec nf ns nc wt bd off row hw rl tm ord tc)) hC iX 0 wX_0 rfl 6 (by decide) k_x78 rfl tX tX_ok nX rfl (by decide +kernel) rfl rfl (Nat.le_of_ble_eq_true rfl) rfl dX_source_36 ?_
    refine x_iload_n hC dX_source_39 rfl 0 rfl ?_
    exact hret _ _ (by decide) (by decide) sc (sc + 1, 0) h _ _ dX_source_40
  · have h := h.2 c_1
    exact x_throw hC 3 rfl htr hlk hnh dX_source_9 dX_source_12 dX_source_13 dX_source_15 dX_source_18 k_x79 k_x80 (by decide +kernel) x_up_fit k_xa81 k_xo82 k_xs83 (by decide) (by decide) ⟨by decide, by decide⟩ (by decide) (by decide) h

/-! EventOrder.checkSource(I)V -/
abbrev rm_X_checkSource : Room := { frames := 6, cells := 1, slots := 6, locals := 120 }
def X_checkSource_wp (sc : Int32) (a1 : Int32) (Qr : Unit → Prop) (Qt : Nat → Prop) : Prop := ((a1 < 0 → Qt 0) ∧ (¬ a1 < 0 → ((a1 < sc → Qr ()) ∧ (¬ a1 < sc → Qt 0))))
set_option maxHeartbeats 4000000 in
set_option maxRecDepth 100000 in
theorem c_X_checkSource {l : Launch} {D : va_G} {ad : Nat → Nat} {cI cL cO : ClassId} {sc : Int32} {sd : Int32} {src : (Nat → Int32)} {itm : (Nat → Int32)} {knd : (Nat → Int32)} {plc : (Nat → Int32)} {clk : (Nat → Int64)} {ec : Int32} {nf : (Nat → Int32)} {ns : (Nat → Int32)} {nc : Int32} {wt : (Nat → Nat → Int64)} {bd : (Nat → Nat → Int64)} {off : (Nat → Int64)} {row : (Nat → Int32)} {hw : (Nat → Nat → Int64)} {rl : Int32} {tm : (Nat → Int64)} {ord : (Nat → Int32)} {tc : Int32} {a1 : Int32} {Qr : Unit → Prop} {Qt : Nat → Prop} (htr : l.stackTraces = false) (h : X_checkSource_wp sc a1 Qr Qt) (sz : Nat) : vx_Met l yX_checkSource (Cond.code yX_checkSource bX_checkSource 2 none :: TBL) rm_X_checkSource (va_Pc [.ref (ad 0), .int a1] (XP D vwCl (tysX cI cL cO) (wX ad cI cL cO sc sd src itm knd plc clk ec nf ns nc wt bd off row hw rl tm ord tc) sz)) (va_Qv Qr (fun u t => XB D vwCl (tysX cI cL cO) (va_A (wX ad cI cL cO sc sd src itm knd plc clk ec nf ns nc wt bd off row hw rl tm ord tc) sz) (wX ad cI cL cO sc sd src itm knd plc clk ec nf ns nc wt bd off row hw rl tm ord tc) t) (va_A (wX ad cI cL cO sc sd src itm knd plc clk ec nf ns nc wt bd off row hw rl tm ord tc) sz)) (XT D vwCl (tysX cI cL cO) (va_A (wX ad cI cL cO sc sd src itm knd plc clk ec nf ns nc wt bd off row hw rl tm ord tc) sz) (wX ad cI cL cO sc sd src itm knd plc clk ec nf ns nc wt bd off row hw rl tm ord tc) Qt) rm_X_checkSource.cells rm_X_checkSource.slots (va_A (wX ad cI cL cO sc sd src itm knd plc clk ec nf ns nc wt bd off row hw rl tm ord tc) sz) := by
  refine x_met [.ref (ad 0), .int a1] TBL_good (by decide) (Nat.le_of_ble_eq_true rfl) ?_
  intro p e s m args below meth c hC hr hlk hnm hnh
  have hret : ∀ (ce sl : Nat), ce ≤ rm_X_checkSource.cells → sl ≤ rm_X_checkSource.slots → ∀ (u : Unit), Qr u → ∀ (pc : Nat) (lv : List (Nat × Value)), decode bX_checkSource pc = .ok (.return_, 1) → XW p l e rm_X_checkSource s m args below meth c D vwCl (va_A (wX ad cI cL cO sc sd src itm knd plc clk ec nf ns nc wt bd off row hw rl tm ord tc) sz) 2 (vx_MQ below (va_Qv Qr (fun u t => XB D vwCl (tysX cI cL cO) (va_A (wX ad cI cL cO sc sd src itm knd plc clk ec nf ns nc wt bd off row hw rl tm ord tc) sz) (wX ad cI cL cO sc sd src itm knd plc clk ec nf ns nc wt bd off row hw rl tm ord tc) t) (va_A (wX ad cI cL cO sc sd src itm knd plc clk ec nf ns nc wt bd off row hw rl tm ord tc) sz)) (XT D vwCl (tysX cI cL cO) (va_A (wX ad cI cL cO sc sd src itm knd plc clk ec nf ns nc wt bd off row hw rl tm ord tc) sz) (wX ad cI cL cO sc sd src itm knd plc clk ec nf ns nc wt bd off row hw rl tm ord tc) Qt) args s rm_X_checkSource.cells rm_X_checkSource.slots (va_A (wX ad cI cL cO sc sd src itm knd plc clk ec nf ns nc wt bd off row hw rl tm ord tc) sz)) ce sl (wX ad cI cL cO sc sd src itm knd plc clk ec nf ns nc wt bd off row hw rl tm ord tc) pc lv [] := fun ce sl h1 h2 u hq pc lv hd => x_vret (wf := fun u => (wX ad cI cL cO sc sd src itm knd plc clk ec nf ns nc wt bd off row hw rl tm ord tc)) hC h1 h2 hr hlk hd hq rfl
  show XW p l e rm_X_checkSource s m args below meth c D vwCl (va_A (wX ad cI cL cO sc sd src itm knd plc clk ec nf ns nc wt bd off row hw rl tm ord tc) sz) 2 _ 0 0 (wX ad cI cL cO sc sd src itm knd plc clk ec nf ns nc wt bd off row hw rl tm ord tc) 0 [(0, .ref (ad 0)), (1, .int a1)] []
  unfold X_checkSource_wp at h
  refine x_iload_n hC dX_checkSource_0 rfl 1 rfl ?_
  refine x_if_lt (tgt := 12) hC dX_checkSource_1 (by decide) (fun c_1 => ?_) (fun c_1 => ?_)
  · have h := h.1 c_1
    exact x_throw hC 0 rfl htr hlk hnh dX_checkSource_12 dX_checkSource_15 dX_checkSource_16 dX_checkSource_18 dX_checkSource_21 k_x84 k_x85 (by decide +kernel) x_up_fit k_xa86 k_xo87 k_xs88 (by decide) (by decide) ⟨by decide, by decide⟩ (by decide) (by decide) h
  · have h := h.2 c_1
    refine x_iload_n hC dX_checkSource_4 rfl 1 rfl ?_
    refine x_aload_n hC dX_checkSource_5 rfl 0 rfl ?_
    refine x_get hC iX 0 wX_0 rfl 5 (by decide) k_x77 rfl rfl dX_checkSource_6 ?_
    refine x_icmp_lt (tgt := 22) hC dX_checkSource_9 (by decide) (fun c_2 => ?_) (fun c_2 => ?_)
    · have h := h.1 c_2
      exact hret _ _ (by decide) (by decide) () h _ _ dX_checkSource_22
    · have h := h.2 c_2
      exact x_throw hC 0 rfl htr hlk hnh dX_checkSource_12 dX_checkSource_15 dX_checkSource_16 dX_checkSource_18 dX_checkSource_21 k_x84 k_x85 (by decide +kernel) x_up_fit k_xa86 k_xo87 k_xs88 (by decide) (by decide) ⟨by decide, by decide⟩ (by decide) (by decide) h

/-! EventOrder.checkItem(I)V -/
abbrev rm_X_checkItem : Room := { frames := 6, cells := 1, slots := 6, locals := 120 }
def X_checkItem_wp (a0 : Int32) (Qr : Unit → Prop) (Qt : Nat → Prop) : Prop := ((a0 < 0 → Qt 0) ∧ (¬ a0 < 0 → ((a0 < 200 → Qr ()) ∧ (¬ a0 < 200 → Qt 0))))
set_option maxHeartbeats 4000000 in
set_option maxRecDepth 100000 in
theorem c_X_checkItem {l : Launch} {D : va_G} {ad : Nat → Nat} {cI cL cO : ClassId} {sc : Int32} {sd : Int32} {src : (Nat → Int32)} {itm : (Nat → Int32)} {knd : (Nat → Int32)} {plc : (Nat → Int32)} {clk : (Nat → Int64)} {ec : Int32} {nf : (Nat → Int32)} {ns : (Nat → Int32)} {nc : Int32} {wt : (Nat → Nat → Int64)} {bd : (Nat → Nat → Int64)} {off : (Nat → Int64)} {row : (Nat → Int32)} {hw : (Nat → Nat → Int64)} {rl : Int32} {tm : (Nat → Int64)} {ord : (Nat → Int32)} {tc : Int32} {a0 : Int32} {Qr : Unit → Prop} {Qt : Nat → Prop} (htr : l.stackTraces = false) (h : X_checkItem_wp a0 Qr Qt) (sz : Nat) : vx_Met l yX_checkItem (Cond.code yX_checkItem bX_checkItem 1 none :: TBL) rm_X_checkItem (va_Pc [.int a0] (XP D vwCl (tysX cI cL cO) (wX ad cI cL cO sc sd src itm knd plc clk ec nf ns nc wt bd off row hw rl tm ord tc) sz)) (va_Qv Qr (fun u t => XB D vwCl (tysX cI cL cO) (va_A (wX ad cI cL cO sc sd src itm knd plc clk ec nf ns nc wt bd off row hw rl tm ord tc) sz) (wX ad cI cL cO sc sd src itm knd plc clk ec nf ns nc wt bd off row hw rl tm ord tc) t) (va_A (wX ad cI cL cO sc sd src itm knd plc clk ec nf ns nc wt bd off row hw rl tm ord tc) sz)) (XT D vwCl (tysX cI cL cO) (va_A (wX ad cI cL cO sc sd src itm knd plc clk ec nf ns nc wt bd off row hw rl tm ord tc) sz) (wX ad cI cL cO sc sd src itm knd plc clk ec nf ns nc wt bd off row hw rl tm ord tc) Qt) rm_X_checkItem.cells rm_X_checkItem.slots (va_A (wX ad cI cL cO sc sd src itm knd plc clk ec nf ns nc wt bd off row hw rl tm ord tc) sz) := by
  refine x_met [.int a0] TBL_good (by decide) (Nat.le_of_ble_eq_true rfl) ?_
  intro p e s m args below meth c hC hr hlk hnm hnh
  have hret : ∀ (ce sl : Nat), ce ≤ rm_X_checkItem.cells → sl ≤ rm_X_checkItem.slots → ∀ (u : Unit), Qr u → ∀ (pc : Nat) (lv : List (Nat × Value)), decode bX_checkItem pc = .ok (.return_, 1) → XW p l e rm_X_checkItem s m args below meth c D vwCl (va_A (wX ad cI cL cO sc sd src itm knd plc clk ec nf ns nc wt bd off row hw rl tm ord tc) sz) 1 (vx_MQ below (va_Qv Qr (fun u t => XB D vwCl (tysX cI cL cO) (va_A (wX ad cI cL cO sc sd src itm knd plc clk ec nf ns nc wt bd off row hw rl tm ord tc) sz) (wX ad cI cL cO sc sd src itm knd plc clk ec nf ns nc wt bd off row hw rl tm ord tc) t) (va_A (wX ad cI cL cO sc sd src itm knd plc clk ec nf ns nc wt bd off row hw rl tm ord tc) sz)) (XT D vwCl (tysX cI cL cO) (va_A (wX ad cI cL cO sc sd src itm knd plc clk ec nf ns nc wt bd off row hw rl tm ord tc) sz) (wX ad cI cL cO sc sd src itm knd plc clk ec nf ns nc wt bd off row hw rl tm ord tc) Qt) args s rm_X_checkItem.cells rm_X_checkItem.slots (va_A (wX ad cI cL cO sc sd src itm knd plc clk ec nf ns nc wt bd off row hw rl tm ord tc) sz)) ce sl (wX ad cI cL cO sc sd src itm knd plc clk ec nf ns nc wt bd off row hw rl tm ord tc) pc lv [] := fun ce sl h1 h2 u hq pc lv hd => x_vret (wf := fun u => (wX ad cI cL cO sc sd src itm knd plc clk ec nf ns nc wt bd off row hw rl tm ord tc)) hC h1 h2 hr hlk hd hq rfl
  show XW p l e rm_X_checkItem s m args below meth c D vwCl (va_A (wX ad cI cL cO sc sd src itm knd plc clk ec nf ns nc wt bd off row hw rl tm ord tc) sz) 1 _ 0 0 (wX ad cI cL cO sc sd src itm knd plc clk ec nf ns nc wt bd off row hw rl tm ord tc) 0 [(0, .int a0)] []
  unfold X_checkItem_wp at h
  refine x_iload_n hC dX_checkItem_0 rfl 0 rfl ?_
  refine x_if_lt (tgt := 11) hC dX_checkItem_1 (by decide) (fun c_1 => ?_) (fun c_1 => ?_)
  · have h := h.1 c_1
    exact x_throw hC 0 rfl htr hlk hnh dX_checkItem_11 dX_checkItem_14 dX_checkItem_15 dX_checkItem_17 dX_checkItem_20 k_x84 k_x85 (by decide +kernel) x_up_fit k_xa86 k_xo87 k_xs89 (by decide) (by decide) ⟨by decide, by decide⟩ (by decide) (by decide) h
  · have h := h.2 c_1
    refine x_iload_n hC dX_checkItem_4 rfl 0 rfl ?_
    refine x_sipush (v := 200) hC dX_checkItem_5 (by decide) ?_
    refine x_icmp_lt (tgt := 21) hC dX_checkItem_8 (by decide) (fun c_2 => ?_) (fun c_2 => ?_)
    · have h := h.1 c_2
      exact hret _ _ (by decide) (by decide) () h _ _ dX_checkItem_21
    · have h := h.2 c_2
      exact x_throw hC 0 rfl htr hlk hnh dX_checkItem_11 dX_checkItem_14 dX_checkItem_15 dX_checkItem_17 dX_checkItem_20 k_x84 k_x85 (by decide +kernel) x_up_fit k_xa86 k_xo87 k_xs89 (by decide) (by decide) ⟨by decide, by decide⟩ (by decide) (by decide) h

/-! EventOrder.isBag(I)Z -/
abbrev rm_X_isBag : Room := { frames := 0, cells := 0, slots := 0, locals := 0 }
def X_isBag_wp (a0 : Int32) (Qr : Int32 → Unit → Prop) : Prop := ((a0 < 100 → Qr 0 ()) ∧ (¬ a0 < 100 → ((200 ≤ a0 → Qr 0 ()) ∧ (¬ 200 ≤ a0 → Qr 1 ()))))
set_option maxHeartbeats 4000000 in
set_option maxRecDepth 100000 in
theorem c_X_isBag {l : Launch} {D : va_G} {ad : Nat → Nat} {cI cL cO : ClassId} {sc : Int32} {sd : Int32} {src : (Nat → Int32)} {itm : (Nat → Int32)} {knd : (Nat → Int32)} {plc : (Nat → Int32)} {clk : (Nat → Int64)} {ec : Int32} {nf : (Nat → Int32)} {ns : (Nat → Int32)} {nc : Int32} {wt : (Nat → Nat → Int64)} {bd : (Nat → Nat → Int64)} {off : (Nat → Int64)} {row : (Nat → Int32)} {hw : (Nat → Nat → Int64)} {rl : Int32} {tm : (Nat → Int64)} {ord : (Nat → Int32)} {tc : Int32} {a0 : Int32} {Qr : Int32 → Unit → Prop} (h : X_isBag_wp a0 Qr) (sz : Nat) : vx_Met l yX_isBag (Cond.code yX_isBag bX_isBag 1 (some .boolean) :: TBL) rm_X_isBag (va_Pc [.int a0] (XP D vwCl (tysX cI cL cO) (wX ad cI cL cO sc sd src itm knd plc clk ec nf ns nc wt bd off row hw rl tm ord tc) sz)) (va_Qi Qr (fun u t => XB D vwCl (tysX cI cL cO) (va_A (wX ad cI cL cO sc sd src itm knd plc clk ec nf ns nc wt bd off row hw rl tm ord tc) sz) (wX ad cI cL cO sc sd src itm knd plc clk ec nf ns nc wt bd off row hw rl tm ord tc) t) (va_A (wX ad cI cL cO sc sd src itm knd plc clk ec nf ns nc wt bd off row hw rl tm ord tc) sz)) (XT D vwCl (tysX cI cL cO) (va_A (wX ad cI cL cO sc sd src itm knd plc clk ec nf ns nc wt bd off row hw rl tm ord tc) sz) (wX ad cI cL cO sc sd src itm knd plc clk ec nf ns nc wt bd off row hw rl tm ord tc) (fun _ => False)) rm_X_isBag.cells rm_X_isBag.slots (va_A (wX ad cI cL cO sc sd src itm knd plc clk ec nf ns nc wt bd off row hw rl tm ord tc) sz) := by
  refine x_met [.int a0] TBL_good (by decide) (Nat.le_of_ble_eq_true rfl) ?_
  intro p e s m args below meth c hC hr hlk hnm hnh
  have hret : ∀ (ce sl : Nat), ce ≤ rm_X_isBag.cells → sl ≤ rm_X_isBag.slots → ∀ (r : Int32) (u : Unit), x_bool r → Qr r u → ∀ (pc : Nat) (lv : List (Nat × Value)), decode bX_isBag pc = .ok (.ireturn, 1) → XW p l e rm_X_isBag s m args below meth c D vwCl (va_A (wX ad cI cL cO sc sd src itm knd plc clk ec nf ns nc wt bd off row hw rl tm ord tc) sz) 1 (vx_MQ below (va_Qi Qr (fun u t => XB D vwCl (tysX cI cL cO) (va_A (wX ad cI cL cO sc sd src itm knd plc clk ec nf ns nc wt bd off row hw rl tm ord tc) sz) (wX ad cI cL cO sc sd src itm knd plc clk ec nf ns nc wt bd off row hw rl tm ord tc) t) (va_A (wX ad cI cL cO sc sd src itm knd plc clk ec nf ns nc wt bd off row hw rl tm ord tc) sz)) (XT D vwCl (tysX cI cL cO) (va_A (wX ad cI cL cO sc sd src itm knd plc clk ec nf ns nc wt bd off row hw rl tm ord tc) sz) (wX ad cI cL cO sc sd src itm knd plc clk ec nf ns nc wt bd off row hw rl tm ord tc) (fun _ => False)) args s rm_X_isBag.cells rm_X_isBag.slots (va_A (wX ad cI cL cO sc sd src itm knd plc clk ec nf ns nc wt bd off row hw rl tm ord tc) sz)) ce sl (wX ad cI cL cO sc sd src itm knd plc clk ec nf ns nc wt bd off row hw rl tm ord tc) pc lv [.int r] := fun ce sl h1 h2 r u hb9 hq pc lv hd => x_zret (wf := fun u => (wX ad cI cL cO sc sd src itm knd plc clk ec nf ns nc wt bd off row hw rl tm ord tc)) hC h1 h2 hr hlk hb9 hd hq rfl
  show XW p l e rm_X_isBag s m args below meth c D vwCl (va_A (wX ad cI cL cO sc sd src itm knd plc clk ec nf ns nc wt bd off row hw rl tm ord tc) sz) 1 _ 0 0 (wX ad cI cL cO sc sd src itm knd plc clk ec nf ns nc wt bd off row hw rl tm ord tc) 0 [(0, .int a0)] []
  unfold X_isBag_wp at h
  refine x_iload_n hC dX_isBag_0 rfl 0 rfl ?_
  refine x_bipush (v := 100) hC dX_isBag_1 (by decide) ?_
  refine x_icmp_lt (tgt := 17) hC dX_isBag_3 (by decide) (fun c_1 => ?_) (fun c_1 => ?_)
  · have h := h.1 c_1
    refine x_iconst (v := 0) hC dX_isBag_17 (by decide) ?_
    exact hret _ _ (by decide) (by decide) 0 () (Or.inl rfl) h _ _ dX_isBag_18
  · have h := h.2 c_1
    refine x_iload_n hC dX_isBag_6 rfl 0 rfl ?_
    refine x_sipush (v := 200) hC dX_isBag_7 (by decide) ?_
    refine x_icmp_ge (tgt := 17) hC dX_isBag_10 (by decide) (fun c_2 => ?_) (fun c_2 => ?_)
    · have h := h.1 c_2
      refine x_iconst (v := 0) hC dX_isBag_17 (by decide) ?_
      exact hret _ _ (by decide) (by decide) 0 () (Or.inl rfl) h _ _ dX_isBag_18
    · have h := h.2 c_2
      refine x_iconst (v := 1) hC dX_isBag_13 (by decide) ?_
      refine x_goto (tgt := 18) hC dX_isBag_14 (by decide) ?_
      exact hret _ _ (by decide) (by decide) 1 () (Or.inr rfl) h _ _ dX_isBag_18

/-! EventOrder.checkKindAndPlace(III)V -/
abbrev rm_X_checkKindAndPlace : Room := { frames := 6, cells := 1, slots := 6, locals := 120 }
def X_checkKindAndPlace_wp (a0 : Int32) (a1 : Int32) (a2 : Int32) (Qr : Unit → Prop) (Qt : Nat → Prop) : Prop := ((a1 < 0 → Qt 1) ∧ (¬ a1 < 0 → ((a1 < 8 → ((a2 < 0 → Qt 1) ∧ (¬ a2 < 0 → ((a2 < 200 → ((a1 = 1 → X_isBag_wp a0 (fun (r_6 : Int32) (u_7 : Unit) => ((¬ r_6 = 0 → Qt 1) ∧ (r_6 = 0 → X_isBag_wp a2 (fun (r_9 : Int32) (u_10 : Unit) => ((¬ r_9 = 0 → Qr ()) ∧ (r_9 = 0 → Qt 1))))))) ∧ (¬ a1 = 1 → ((¬ a1 = 2 → Qr ()) ∧ (a1 = 2 → X_isBag_wp a0 (fun (r_13 : Int32) (u_14 : Unit) => ((¬ r_13 = 0 → Qt 1) ∧ (r_13 = 0 → X_isBag_wp a2 (fun (r_16 : Int32) (u_17 : Unit) => ((¬ r_16 = 0 → Qr ()) ∧ (r_16 = 0 → Qt 1))))))))))) ∧ (¬ a2 < 200 → Qt 1))))) ∧ (¬ a1 < 8 → Qt 1))))
set_option maxHeartbeats 4000000 in
set_option maxRecDepth 100000 in
theorem c_X_checkKindAndPlace {l : Launch} {D : va_G} {ad : Nat → Nat} {cI cL cO : ClassId} {sc : Int32} {sd : Int32} {src : (Nat → Int32)} {itm : (Nat → Int32)} {knd : (Nat → Int32)} {plc : (Nat → Int32)} {clk : (Nat → Int64)} {ec : Int32} {nf : (Nat → Int32)} {ns : (Nat → Int32)} {nc : Int32} {wt : (Nat → Nat → Int64)} {bd : (Nat → Nat → Int64)} {off : (Nat → Int64)} {row : (Nat → Int32)} {hw : (Nat → Nat → Int64)} {rl : Int32} {tm : (Nat → Int64)} {ord : (Nat → Int32)} {tc : Int32} {a0 : Int32} {a1 : Int32} {a2 : Int32} {Qr : Unit → Prop} {Qt : Nat → Prop} (htr : l.stackTraces = false) (h : X_checkKindAndPlace_wp a0 a1 a2 Qr Qt) (sz : Nat) : vx_Met l yX_checkKindAndPlace (Cond.code yX_checkKindAndPlace bX_checkKindAndPlace 3 none :: TBL) rm_X_checkKindAndPlace (va_Pc [.int a0, .int a1, .int a2] (XP D vwCl (tysX cI cL cO) (wX ad cI cL cO sc sd src itm knd plc clk ec nf ns nc wt bd off row hw rl tm ord tc) sz)) (va_Qv Qr (fun u t => XB D vwCl (tysX cI cL cO) (va_A (wX ad cI cL cO sc sd src itm knd plc clk ec nf ns nc wt bd off row hw rl tm ord tc) sz) (wX ad cI cL cO sc sd src itm knd plc clk ec nf ns nc wt bd off row hw rl tm ord tc) t) (va_A (wX ad cI cL cO sc sd src itm knd plc clk ec nf ns nc wt bd off row hw rl tm ord tc) sz)) (XT D vwCl (tysX cI cL cO) (va_A (wX ad cI cL cO sc sd src itm knd plc clk ec nf ns nc wt bd off row hw rl tm ord tc) sz) (wX ad cI cL cO sc sd src itm knd plc clk ec nf ns nc wt bd off row hw rl tm ord tc) Qt) rm_X_checkKindAndPlace.cells rm_X_checkKindAndPlace.slots (va_A (wX ad cI cL cO sc sd src itm knd plc clk ec nf ns nc wt bd off row hw rl tm ord tc) sz) := by
  refine x_met [.int a0, .int a1, .int a2] TBL_good (by decide) (Nat.le_of_ble_eq_true rfl) ?_
  intro p e s m args below meth c hC hr hlk hnm hnh
  have hret : ∀ (ce sl : Nat), ce ≤ rm_X_checkKindAndPlace.cells → sl ≤ rm_X_checkKindAndPlace.slots → ∀ (u : Unit), Qr u → ∀ (pc : Nat) (lv : List (Nat × Value)), decode bX_checkKindAndPlace pc = .ok (.return_, 1) → XW p l e rm_X_checkKindAndPlace s m args below meth c D vwCl (va_A (wX ad cI cL cO sc sd src itm knd plc clk ec nf ns nc wt bd off row hw rl tm ord tc) sz) 3 (vx_MQ below (va_Qv Qr (fun u t => XB D vwCl (tysX cI cL cO) (va_A (wX ad cI cL cO sc sd src itm knd plc clk ec nf ns nc wt bd off row hw rl tm ord tc) sz) (wX ad cI cL cO sc sd src itm knd plc clk ec nf ns nc wt bd off row hw rl tm ord tc) t) (va_A (wX ad cI cL cO sc sd src itm knd plc clk ec nf ns nc wt bd off row hw rl tm ord tc) sz)) (XT D vwCl (tysX cI cL cO) (va_A (wX ad cI cL cO sc sd src itm knd plc clk ec nf ns nc wt bd off row hw rl tm ord tc) sz) (wX ad cI cL cO sc sd src itm knd plc clk ec nf ns nc wt bd off row hw rl tm ord tc) Qt) args s rm_X_checkKindAndPlace.cells rm_X_checkKindAndPlace.slots (va_A (wX ad cI cL cO sc sd src itm knd plc clk ec nf ns nc wt bd off row hw rl tm ord tc) sz)) ce sl (wX ad cI cL cO sc sd src itm knd plc clk ec nf ns nc wt bd off row hw rl tm ord tc) pc lv [] := fun ce sl h1 h2 u hq pc lv hd => x_vret (wf := fun u => (wX ad cI cL cO sc sd src itm knd plc clk ec nf ns nc wt bd off row hw rl tm ord tc)) hC h1 h2 hr hlk hd hq rfl
  show XW p l e rm_X_checkKindAndPlace s m args below meth c D vwCl (va_A (wX ad cI cL cO sc sd src itm knd plc clk ec nf ns nc wt bd off row hw rl tm ord tc) sz) 3 _ 0 0 (wX ad cI cL cO sc sd src itm knd plc clk ec nf ns nc wt bd off row hw rl tm ord tc) 0 [(0, .int a0), (1, .int a1), (2, .int a2)] []
  unfold X_checkKindAndPlace_wp at h
  refine x_iload_n hC dX_checkKindAndPlace_0 rfl 1 rfl ?_
  refine x_if_lt (tgt := 10) hC dX_checkKindAndPlace_1 (by decide) (fun c_1 => ?_) (fun c_1 => ?_)
  · have h := h.1 c_1
    exact x_throw hC 1 rfl htr hlk hnh dX_checkKindAndPlace_10 dX_checkKindAndPlace_13 dX_checkKindAndPlace_14 dX_checkKindAndPlace_16 dX_checkKindAndPlace_19 k_x90 k_x91 (by decide +kernel) x_up_fit k_xa92 k_xo93 k_xs94 (by decide) (by decide) ⟨by decide, by decide⟩ (by decide) (by decide) h
  · have h := h.2 c_1
    refine x_iload_n hC dX_checkKindAndPlace_4 rfl 1 rfl ?_
    refine x_bipush (v := 8) hC dX_checkKindAndPlace_5 (by decide) ?_
    refine x_icmp_lt (tgt := 20) hC dX_checkKindAndPlace_7 (by decide) (fun c_2 => ?_) (fun c_2 => ?_)
    · have h := h.1 c_2
      refine x_iload_n hC dX_checkKindAndPlace_20 rfl 2 rfl ?_
      refine x_if_lt (tgt := 31) hC dX_checkKindAndPlace_21 (by decide) (fun c_3 => ?_) (fun c_3 => ?_)
      · have h := h.1 c_3
        exact x_throw hC 1 rfl htr hlk hnh dX_checkKindAndPlace_31 dX_checkKindAndPlace_34 dX_checkKindAndPlace_35 dX_checkKindAndPlace_37 dX_checkKindAndPlace_40 k_x90 k_x91 (by decide +kernel) x_up_fit k_xa92 k_xo93 k_xs95 (by decide) (by decide) ⟨by decide, by decide⟩ (by decide) (by decide) h
      · have h := h.2 c_3
        refine x_iload_n hC dX_checkKindAndPlace_24 rfl 2 rfl ?_
        refine x_sipush (v := 200) hC dX_checkKindAndPlace_25 (by decide) ?_
        refine x_icmp_lt (tgt := 41) hC dX_checkKindAndPlace_28 (by decide) (fun c_4 => ?_) (fun c_4 => ?_)
        · have h := h.1 c_4
          refine x_iload_n hC dX_checkKindAndPlace_41 rfl 1 rfl ?_
          refine x_iconst (v := 1) hC dX_checkKindAndPlace_42 (by decide) ?_
          refine x_icmp_eq (tgt := 51) hC dX_checkKindAndPlace_43 (by decide) (fun c_5 => ?_) (fun c_5 => ?_)
          · have h := h.1 c_5
            refine x_iload_n hC dX_checkKindAndPlace_51 rfl 0 rfl ?_
            refine x_callSi (S := Unit) (wf := fun u => (wX ad cI cL cO sc sd src itm knd plc clk ec nf ns nc wt bd off row hw rl tm ord tc)) hC [.int a0] (fun sz => c_X_isBag h sz) (by decide) (by decide) k_x97 k_x98 k_x99 (by decide) 1 rfl (by decide +kernel) ⟨by decide, by decide⟩ (Nat.le_of_ble_eq_true rfl) k_x100 rfl dX_checkKindAndPlace_52 (fun _ h9 => h9) (fun r_6 u_7 h => ?_)
            refine x_if_ne (tgt := 65) hC dX_checkKindAndPlace_55 (by decide) (fun c_8 => ?_) (fun c_8 => ?_)
            · have h := h.1 c_8
              exact x_throw hC 1 rfl htr hlk hnh dX_checkKindAndPlace_65 dX_checkKindAndPlace_68 dX_checkKindAndPlace_69 dX_checkKindAndPlace_71 dX_checkKindAndPlace_74 k_x90 k_x91 (by decide +kernel) x_up_fit k_xa92 k_xo93 k_xs96 (by decide) (by decide) ⟨by decide, by decide⟩ (by decide) (by decide) h
            · have h := h.2 c_8
              refine x_iload_n hC dX_checkKindAndPlace_58 rfl 2 rfl ?_
              refine x_callSi (S := Unit) (wf := fun u => (wX ad cI cL cO sc sd src itm knd plc clk ec nf ns nc wt bd off row hw rl tm ord tc)) hC [.int a2] (fun sz => c_X_isBag h sz) (by decide) (by decide) k_x97 k_x98 k_x99 (by decide) 1 rfl (by decide +kernel) ⟨by decide, by decide⟩ (Nat.le_of_ble_eq_true rfl) k_x100 rfl dX_checkKindAndPlace_59 (fun _ h9 => h9) (fun r_9 u_10 h => ?_)
              refine x_if_ne (tgt := 75) hC dX_checkKindAndPlace_62 (by decide) (fun c_11 => ?_) (fun c_11 => ?_)
              · have h := h.1 c_11
                exact hret _ _ (by decide) (by decide) () h _ _ dX_checkKindAndPlace_75
              · have h := h.2 c_11
                exact x_throw hC 1 rfl htr hlk hnh dX_checkKindAndPlace_65 dX_checkKindAndPlace_68 dX_checkKindAndPlace_69 dX_checkKindAndPlace_71 dX_checkKindAndPlace_74 k_x90 k_x91 (by decide +kernel) x_up_fit k_xa92 k_xo93 k_xs96 (by decide) (by decide) ⟨by decide, by decide⟩ (by decide) (by decide) h
          · have h := h.2 c_5
            refine x_iload_n hC dX_checkKindAndPlace_46 rfl 1 rfl ?_
            refine x_iconst (v := 2) hC dX_checkKindAndPlace_47 (by decide) ?_
            refine x_icmp_ne (tgt := 75) hC dX_checkKindAndPlace_48 (by decide) (fun c_12 => ?_) (fun c_12 => ?_)
            · have h := h.1 c_12
              exact hret _ _ (by decide) (by decide) () h _ _ dX_checkKindAndPlace_75
            · have h := h.2 c_12
              refine x_iload_n hC dX_checkKindAndPlace_51 rfl 0 rfl ?_
              refine x_callSi (S := Unit) (wf := fun u => (wX ad cI cL cO sc sd src itm knd plc clk ec nf ns nc wt bd off row hw rl tm ord tc)) hC [.int a0] (fun sz => c_X_isBag h sz) (by decide) (by decide) k_x97 k_x98 k_x99 (by decide) 1 rfl (by decide +kernel) ⟨by decide, by decide⟩ (Nat.le_of_ble_eq_true rfl) k_x100 rfl dX_checkKindAndPlace_52 (fun _ h9 => h9) (fun r_13 u_14 h => ?_)
              refine x_if_ne (tgt := 65) hC dX_checkKindAndPlace_55 (by decide) (fun c_15 => ?_) (fun c_15 => ?_)
              · have h := h.1 c_15
                exact x_throw hC 1 rfl htr hlk hnh dX_checkKindAndPlace_65 dX_checkKindAndPlace_68 dX_checkKindAndPlace_69 dX_checkKindAndPlace_71 dX_checkKindAndPlace_74 k_x90 k_x91 (by decide +kernel) x_up_fit k_xa92 k_xo93 k_xs96 (by decide) (by decide) ⟨by decide, by decide⟩ (by decide) (by decide) h
              · have h := h.2 c_15
                refine x_iload_n hC dX_checkKindAndPlace_58 rfl 2 rfl ?_
                refine x_callSi (S := Unit) (wf := fun u => (wX ad cI cL cO sc sd src itm knd plc clk ec nf ns nc wt bd off row hw rl tm ord tc)) hC [.int a2] (fun sz => c_X_isBag h sz) (by decide) (by decide) k_x97 k_x98 k_x99 (by decide) 1 rfl (by decide +kernel) ⟨by decide, by decide⟩ (Nat.le_of_ble_eq_true rfl) k_x100 rfl dX_checkKindAndPlace_59 (fun _ h9 => h9) (fun r_16 u_17 h => ?_)
                refine x_if_ne (tgt := 75) hC dX_checkKindAndPlace_62 (by decide) (fun c_18 => ?_) (fun c_18 => ?_)
                · have h := h.1 c_18
                  exact hret _ _ (by decide) (by decide) () h _ _ dX_checkKindAndPlace_75
                · have h := h.2 c_18
                  exact x_throw hC 1 rfl htr hlk hnh dX_checkKindAndPlace_65 dX_checkKindAndPlace_68 dX_checkKindAndPlace_69 dX_checkKindAndPlace_71 dX_checkKindAndPlace_74 k_x90 k_x91 (by decide +kernel) x_up_fit k_xa92 k_xo93 k_xs96 (by decide) (by decide) ⟨by decide, by decide⟩ (by decide) (by decide) h
        · have h := h.2 c_4
          exact x_throw hC 1 rfl htr hlk hnh dX_checkKindAndPlace_31 dX_checkKindAndPlace_34 dX_checkKindAndPlace_35 dX_checkKindAndPlace_37 dX_checkKindAndPlace_40 k_x90 k_x91 (by decide +kernel) x_up_fit k_xa92 k_xo93 k_xs95 (by decide) (by decide) ⟨by decide, by decide⟩ (by decide) (by decide) h
    · have h := h.2 c_2
      exact x_throw hC 1 rfl htr hlk hnh dX_checkKindAndPlace_10 dX_checkKindAndPlace_13 dX_checkKindAndPlace_14 dX_checkKindAndPlace_16 dX_checkKindAndPlace_19 k_x90 k_x91 (by decide +kernel) x_up_fit k_xa92 k_xo93 k_xs94 (by decide) (by decide) ⟨by decide, by decide⟩ (by decide) (by decide) h

/-! EventOrder.checkClock(J)V -/
abbrev rm_X_checkClock : Room := { frames := 6, cells := 1, slots := 6, locals := 120 }
def X_checkClock_wp (a0 : Int64) (Qr : Unit → Prop) (Qt : Nat → Prop) : Prop := ((a0 < (-1000000000) → Qt 1) ∧ (¬ a0 < (-1000000000) → ((a0 ≤ 1000000000 → Qr ()) ∧ (¬ a0 ≤ 1000000000 → Qt 1))))
set_option maxHeartbeats 4000000 in
set_option maxRecDepth 100000 in
theorem c_X_checkClock {l : Launch} {D : va_G} {ad : Nat → Nat} {cI cL cO : ClassId} {sc : Int32} {sd : Int32} {src : (Nat → Int32)} {itm : (Nat → Int32)} {knd : (Nat → Int32)} {plc : (Nat → Int32)} {clk : (Nat → Int64)} {ec : Int32} {nf : (Nat → Int32)} {ns : (Nat → Int32)} {nc : Int32} {wt : (Nat → Nat → Int64)} {bd : (Nat → Nat → Int64)} {off : (Nat → Int64)} {row : (Nat → Int32)} {hw : (Nat → Nat → Int64)} {rl : Int32} {tm : (Nat → Int64)} {ord : (Nat → Int32)} {tc : Int32} {a0 : Int64} {Qr : Unit → Prop} {Qt : Nat → Prop} (htr : l.stackTraces = false) (h : X_checkClock_wp a0 Qr Qt) (sz : Nat) : vx_Met l yX_checkClock (Cond.code yX_checkClock bX_checkClock 2 none :: TBL) rm_X_checkClock (va_Pc [.long a0] (XP D vwCl (tysX cI cL cO) (wX ad cI cL cO sc sd src itm knd plc clk ec nf ns nc wt bd off row hw rl tm ord tc) sz)) (va_Qv Qr (fun u t => XB D vwCl (tysX cI cL cO) (va_A (wX ad cI cL cO sc sd src itm knd plc clk ec nf ns nc wt bd off row hw rl tm ord tc) sz) (wX ad cI cL cO sc sd src itm knd plc clk ec nf ns nc wt bd off row hw rl tm ord tc) t) (va_A (wX ad cI cL cO sc sd src itm knd plc clk ec nf ns nc wt bd off row hw rl tm ord tc) sz)) (XT D vwCl (tysX cI cL cO) (va_A (wX ad cI cL cO sc sd src itm knd plc clk ec nf ns nc wt bd off row hw rl tm ord tc) sz) (wX ad cI cL cO sc sd src itm knd plc clk ec nf ns nc wt bd off row hw rl tm ord tc) Qt) rm_X_checkClock.cells rm_X_checkClock.slots (va_A (wX ad cI cL cO sc sd src itm knd plc clk ec nf ns nc wt bd off row hw rl tm ord tc) sz) := by
  refine x_met [.long a0] TBL_good (by decide) (Nat.le_of_ble_eq_true rfl) ?_
  intro p e s m args below meth c hC hr hlk hnm hnh
  have hret : ∀ (ce sl : Nat), ce ≤ rm_X_checkClock.cells → sl ≤ rm_X_checkClock.slots → ∀ (u : Unit), Qr u → ∀ (pc : Nat) (lv : List (Nat × Value)), decode bX_checkClock pc = .ok (.return_, 1) → XW p l e rm_X_checkClock s m args below meth c D vwCl (va_A (wX ad cI cL cO sc sd src itm knd plc clk ec nf ns nc wt bd off row hw rl tm ord tc) sz) 2 (vx_MQ below (va_Qv Qr (fun u t => XB D vwCl (tysX cI cL cO) (va_A (wX ad cI cL cO sc sd src itm knd plc clk ec nf ns nc wt bd off row hw rl tm ord tc) sz) (wX ad cI cL cO sc sd src itm knd plc clk ec nf ns nc wt bd off row hw rl tm ord tc) t) (va_A (wX ad cI cL cO sc sd src itm knd plc clk ec nf ns nc wt bd off row hw rl tm ord tc) sz)) (XT D vwCl (tysX cI cL cO) (va_A (wX ad cI cL cO sc sd src itm knd plc clk ec nf ns nc wt bd off row hw rl tm ord tc) sz) (wX ad cI cL cO sc sd src itm knd plc clk ec nf ns nc wt bd off row hw rl tm ord tc) Qt) args s rm_X_checkClock.cells rm_X_checkClock.slots (va_A (wX ad cI cL cO sc sd src itm knd plc clk ec nf ns nc wt bd off row hw rl tm ord tc) sz)) ce sl (wX ad cI cL cO sc sd src itm knd plc clk ec nf ns nc wt bd off row hw rl tm ord tc) pc lv [] := fun ce sl h1 h2 u hq pc lv hd => x_vret (wf := fun u => (wX ad cI cL cO sc sd src itm knd plc clk ec nf ns nc wt bd off row hw rl tm ord tc)) hC h1 h2 hr hlk hd hq rfl
  show XW p l e rm_X_checkClock s m args below meth c D vwCl (va_A (wX ad cI cL cO sc sd src itm knd plc clk ec nf ns nc wt bd off row hw rl tm ord tc) sz) 2 _ 0 0 (wX ad cI cL cO sc sd src itm knd plc clk ec nf ns nc wt bd off row hw rl tm ord tc) 0 [(0, .long a0)] []
  unfold X_checkClock_wp at h
  refine x_lload_n hC dX_checkClock_0 rfl 0 rfl ?_
  refine x_ldc2 (v := -1000000000) hC k_x101 dX_checkClock_1 ?_
  refine x_lcmp_lt (tgt := 16) hC dX_checkClock_4 dX_checkClock_5 (by decide) (fun c_1 => ?_) (fun c_1 => ?_)
  · have h := h.1 c_1
    exact x_throw hC 1 rfl htr hlk hnh dX_checkClock_16 dX_checkClock_19 dX_checkClock_20 dX_checkClock_22 dX_checkClock_25 k_x90 k_x91 (by decide +kernel) x_up_fit k_xa92 k_xo93 k_xs102 (by decide) (by decide) ⟨by decide, by decide⟩ (by decide) (by decide) h
  · have h := h.2 c_1
    refine x_lload_n hC dX_checkClock_8 rfl 0 rfl ?_
    refine x_ldc2 (v := 1000000000) hC k_x103 dX_checkClock_9 ?_
    refine x_lcmp_le (tgt := 26) hC dX_checkClock_12 dX_checkClock_13 (by decide) (fun c_2 => ?_) (fun c_2 => ?_)
    · have h := h.1 c_2
      exact hret _ _ (by decide) (by decide) () h _ _ dX_checkClock_26
    · have h := h.2 c_2
      exact x_throw hC 1 rfl htr hlk hnh dX_checkClock_16 dX_checkClock_19 dX_checkClock_20 dX_checkClock_22 dX_checkClock_25 k_x90 k_x91 (by decide +kernel) x_up_fit k_xa92 k_xo93 k_xs102 (by decide) (by decide) ⟨by decide, by decide⟩ (by decide) (by decide) h

/-! EventOrder.event(IIIIJ)I -/
abbrev rm_X_event : Room := { frames := 7, cells := 5, slots := 30, locals := 142 }
def X_event_wp (sc : Int32) (sd : Int32) (src : (Nat → Int32)) (itm : (Nat → Int32)) (knd : (Nat → Int32)) (plc : (Nat → Int32)) (clk : (Nat → Int64)) (ec : Int32) (a1 : Int32) (a2 : Int32) (a3 : Int32) (a4 : Int32) (a5 : Int64) (Qr : Int32 → (Int32 × (Nat → Int32) × (Nat → Int32) × (Nat → Int32) × (Nat → Int32) × (Nat → Int64) × Int32) → Prop) (Qt : Nat → Prop) : Prop := X_checkSource_wp sc a1 (fun (u_2 : Unit) => X_checkItem_wp a2 (fun (u_4 : Unit) => X_checkKindAndPlace_wp a2 a3 a4 (fun (u_6 : Unit) => X_checkClock_wp a5 (fun (u_8 : Unit) => Events_has_wp src itm knd plc clk ec a1 a2 a3 a4 a5 (fun (r_9 : Int32) (u_10 : Unit) => ((r_9 = 0 → ((ec < 300 → Events_add_wp src itm knd plc clk ec a1 a2 a3 a4 a5 (fun (r_13 : Int32) (u_14 : ((Nat → Int32) × (Nat → Int32) × (Nat → Int32) × (Nat → Int32) × (Nat → Int64) × Int32)) => Qr r_13 (0, u_14.1, u_14.2.1, u_14.2.2.1, u_14.2.2.2.1, u_14.2.2.2.2.1, u_14.2.2.2.2.2))) ∧ (¬ ec < 300 → Qt 3))) ∧ (¬ r_9 = 0 → Qr 0 (sd, src, itm, knd, plc, clk, ec))))) Qt) Qt) Qt) Qt
set_option maxHeartbeats 4000000 in
set_option maxRecDepth 100000 in
theorem c_X_event {l : Launch} {D : va_G} {ad : Nat → Nat} {cI cL cO : ClassId} {sc : Int32} {sd : Int32} {src : (Nat → Int32)} {itm : (Nat → Int32)} {knd : (Nat → Int32)} {plc : (Nat → Int32)} {clk : (Nat → Int64)} {ec : Int32} {nf : (Nat → Int32)} {ns : (Nat → Int32)} {nc : Int32} {wt : (Nat → Nat → Int64)} {bd : (Nat → Nat → Int64)} {off : (Nat → Int64)} {row : (Nat → Int32)} {hw : (Nat → Nat → Int64)} {rl : Int32} {tm : (Nat → Int64)} {ord : (Nat → Int32)} {tc : Int32} {a1 : Int32} {a2 : Int32} {a3 : Int32} {a4 : Int32} {a5 : Int64} {Qr : Int32 → (Int32 × (Nat → Int32) × (Nat → Int32) × (Nat → Int32) × (Nat → Int32) × (Nat → Int64) × Int32) → Prop} {Qt : Nat → Prop} (htr : l.stackTraces = false) (h : X_event_wp sc sd src itm knd plc clk ec a1 a2 a3 a4 a5 Qr Qt) (sz : Nat) : vx_Met l yX_event (Cond.code yX_event bX_event 7 (some .int) :: TBL) rm_X_event (va_Pc [.ref (ad 0), .int a1, .int a2, .int a3, .int a4, .long a5] (XP D vwCl (tysX cI cL cO) (wX ad cI cL cO sc sd src itm knd plc clk ec nf ns nc wt bd off row hw rl tm ord tc) sz)) (va_Qi Qr (fun u t => XB D vwCl (tysX cI cL cO) (va_A (wX ad cI cL cO sc sd src itm knd plc clk ec nf ns nc wt bd off row hw rl tm ord tc) sz) (wX ad cI cL cO sc u.1 u.2.1 u.2.2.1 u.2.2.2.1 u.2.2.2.2.1 u.2.2.2.2.2.1 u.2.2.2.2.2.2 nf ns nc wt bd off row hw rl tm ord tc) t) (va_A (wX ad cI cL cO sc sd src itm knd plc clk ec nf ns nc wt bd off row hw rl tm ord tc) sz)) (XT D vwCl (tysX cI cL cO) (va_A (wX ad cI cL cO sc sd src itm knd plc clk ec nf ns nc wt bd off row hw rl tm ord tc) sz) (wX ad cI cL cO sc sd src itm knd plc clk ec nf ns nc wt bd off row hw rl tm ord tc) Qt) rm_X_event.cells rm_X_event.slots (va_A (wX ad cI cL cO sc sd src itm knd plc clk ec nf ns nc wt bd off row hw rl tm ord tc) sz) := by
  refine x_met [.ref (ad 0), .int a1, .int a2, .int a3, .int a4, .long a5] TBL_good (by decide) (Nat.le_of_ble_eq_true rfl) ?_
  intro p e s m args below meth c hC hr hlk hnm hnh
  have hret : ∀ (ce sl : Nat), ce ≤ rm_X_event.cells → sl ≤ rm_X_event.slots → ∀ (r : Int32) (u : (Int32 × (Nat → Int32) × (Nat → Int32) × (Nat → Int32) × (Nat → Int32) × (Nat → Int64) × Int32)), Qr r u → ∀ (pc : Nat) (lv : List (Nat × Value)), decode bX_event pc = .ok (.ireturn, 1) → XW p l e rm_X_event s m args below meth c D vwCl (va_A (wX ad cI cL cO sc sd src itm knd plc clk ec nf ns nc wt bd off row hw rl tm ord tc) sz) 7 (vx_MQ below (va_Qi Qr (fun u t => XB D vwCl (tysX cI cL cO) (va_A (wX ad cI cL cO sc sd src itm knd plc clk ec nf ns nc wt bd off row hw rl tm ord tc) sz) (wX ad cI cL cO sc u.1 u.2.1 u.2.2.1 u.2.2.2.1 u.2.2.2.2.1 u.2.2.2.2.2.1 u.2.2.2.2.2.2 nf ns nc wt bd off row hw rl tm ord tc) t) (va_A (wX ad cI cL cO sc sd src itm knd plc clk ec nf ns nc wt bd off row hw rl tm ord tc) sz)) (XT D vwCl (tysX cI cL cO) (va_A (wX ad cI cL cO sc sd src itm knd plc clk ec nf ns nc wt bd off row hw rl tm ord tc) sz) (wX ad cI cL cO sc sd src itm knd plc clk ec nf ns nc wt bd off row hw rl tm ord tc) Qt) args s rm_X_event.cells rm_X_event.slots (va_A (wX ad cI cL cO sc sd src itm knd plc clk ec nf ns nc wt bd off row hw rl tm ord tc) sz)) ce sl (wX ad cI cL cO sc u.1 u.2.1 u.2.2.1 u.2.2.2.1 u.2.2.2.2.1 u.2.2.2.2.2.1 u.2.2.2.2.2.2 nf ns nc wt bd off row hw rl tm ord tc) pc lv [.int r] := fun ce sl h1 h2 r u hq pc lv hd => x_iret (wf := fun u => (wX ad cI cL cO sc u.1 u.2.1 u.2.2.1 u.2.2.2.1 u.2.2.2.2.1 u.2.2.2.2.2.1 u.2.2.2.2.2.2 nf ns nc wt bd off row hw rl tm ord tc)) hC h1 h2 hr hlk hd hq rfl
  show XW p l e rm_X_event s m args below meth c D vwCl (va_A (wX ad cI cL cO sc sd src itm knd plc clk ec nf ns nc wt bd off row hw rl tm ord tc) sz) 7 _ 0 0 (wX ad cI cL cO sc sd src itm knd plc clk ec nf ns nc wt bd off row hw rl tm ord tc) 0 [(0, .ref (ad 0)), (1, .int a1), (2, .int a2), (3, .int a3), (4, .int a4), (5, .long a5)] []
  unfold X_event_wp at h
  refine x_aload_n hC dX_event_0 rfl 0 rfl ?_
  refine x_iload_n hC dX_event_1 rfl 1 rfl ?_
  refine x_callVvT (S := Unit) (wf := fun u => (wX ad cI cL cO sc sd src itm knd plc clk ec nf ns nc wt bd off row hw rl tm ord tc)) hC (by decide) (by decide) [.int a1] (fun sz => c_X_checkSource htr h sz) (by decide) (by decide) k_x129 k_x130 k_x131 (by decide) 1 rfl (by decide +kernel) ⟨by decide, by decide⟩ (Nat.le_of_ble_eq_true rfl) k_x132 k_x133 wX_0 rfl rfl dX_event_2 hlk hnh (fun _ h9 => h9) (fun u_2 h => ?_)
  refine x_iload_n hC dX_event_5 rfl 2 rfl ?_
  refine x_callSvT (S := Unit) (wf := fun u => (wX ad cI cL cO sc sd src itm knd plc clk ec nf ns nc wt bd off row hw rl tm ord tc)) hC (by decide) (by decide) [.int a2] (fun sz => c_X_checkItem htr h sz) (by decide) (by decide) k_x125 k_x126 k_x127 (by decide) 1 rfl (by decide +kernel) ⟨by decide, by decide⟩ (Nat.le_of_ble_eq_true rfl) k_x128 rfl dX_event_6 hlk hnh (fun _ h9 => h9) (fun u_4 h => ?_)
  refine x_iload_n hC dX_event_9 rfl 2 rfl ?_
  refine x_iload_n hC dX_event_10 rfl 3 rfl ?_
  refine x_iload hC dX_event_11 4 rfl ?_
  refine x_callSvT (S := Unit) (wf := fun u => (wX ad cI cL cO sc sd src itm knd plc clk ec nf ns nc wt bd off row hw rl tm ord tc)) hC (by decide) (by decide) [.int a2, .int a3, .int a4] (fun sz => c_X_checkKindAndPlace htr h sz) (by decide) (by decide) k_x121 k_x122 k_x123 (by decide) 3 rfl (by decide +kernel) ⟨by decide, by decide⟩ (Nat.le_of_ble_eq_true rfl) k_x124 rfl dX_event_13 hlk hnh (fun _ h9 => h9) (fun u_6 h => ?_)
  refine x_lload hC dX_event_16 5 rfl ?_
  refine x_callSvT (S := Unit) (wf := fun u => (wX ad cI cL cO sc sd src itm knd plc clk ec nf ns nc wt bd off row hw rl tm ord tc)) hC (by decide) (by decide) [.long a5] (fun sz => c_X_checkClock htr h sz) (by decide) (by decide) k_x117 k_x118 k_x119 (by decide) 1 rfl (by decide +kernel) ⟨by decide, by decide⟩ (Nat.le_of_ble_eq_true rfl) k_x120 rfl dX_event_18 hlk hnh (fun _ h9 => h9) (fun u_8 h => ?_)
  refine x_aload_n hC dX_event_21 rfl 0 rfl ?_
  refine x_get hC iX 0 wX_0 rfl 0 (by decide) k_x104 rfl rfl dX_event_22 ?_
  refine x_iload_n hC dX_event_25 rfl 1 rfl ?_
  refine x_iload_n hC dX_event_26 rfl 2 rfl ?_
  refine x_iload_n hC dX_event_27 rfl 3 rfl ?_
  refine x_iload hC dX_event_28 4 rfl ?_
  refine x_lload hC dX_event_30 5 rfl ?_
  refine x_callVi (S := Unit) (wf := fun u => (wX ad cI cL cO sc sd src itm knd plc clk ec nf ns nc wt bd off row hw rl tm ord tc)) hC [.int a1, .int a2, .int a3, .int a4, .long a5] (fun sz => c_Events_has h sz) (by decide) (by decide) k_x112 k_x113 k_x114 (by decide) 5 rfl (by decide +kernel) ⟨by decide, by decide⟩ (Nat.le_of_ble_eq_true rfl) k_x115 k_x116 wX_1 rfl rfl dX_event_32 (fun _ h9 => h9) (fun r_9 u_10 h => ?_)
  refine x_if_eq (tgt := 40) hC dX_event_35 (by decide) (fun c_11 => ?_) (fun c_11 => ?_)
  · have h := h.1 c_11
    refine x_aload_n hC dX_event_40 rfl 0 rfl ?_
    refine x_get hC iX 0 wX_0 rfl 0 (by decide) k_x104 rfl rfl dX_event_41 ?_
    refine x_get hC iEv 1 wX_1 rfl 5 (by decide) k_x105 rfl rfl dX_event_44 ?_
    refine x_sipush (v := 300) hC dX_event_47 (by decide) ?_
    refine x_icmp_lt (tgt := 63) hC dX_event_50 (by decide) (fun c_12 => ?_) (fun c_12 => ?_)
    · have h := h.1 c_12
      refine x_aload_n hC dX_event_63 rfl 0 rfl ?_
      refine x_iconst (v := 0) hC dX_event_64 (by decide) ?_
      refine x_put (ty := .boolean) (ws' := (wX ad cI cL cO sc 0 src itm knd plc clk ec nf ns nc wt bd off row hw rl tm ord tc)) hC iX 0 wX_0 rfl 6 (by decide) k_x78 rfl tX tX_ok nX rfl (by decide +kernel) rfl rfl (Nat.le_of_ble_eq_true rfl) rfl dX_event_65 ?_
      refine x_aload_n hC dX_event_68 rfl 0 rfl ?_
      refine x_get hC iX 0 wX_0 rfl 0 (by decide) k_x104 rfl rfl dX_event_69 ?_
      refine x_iload_n hC dX_event_72 rfl 1 rfl ?_
      refine x_iload_n hC dX_event_73 rfl 2 rfl ?_
      refine x_iload_n hC dX_event_74 rfl 3 rfl ?_
      refine x_iload hC dX_event_75 4 rfl ?_
      refine x_lload hC dX_event_77 5 rfl ?_
      refine x_callVi (S := ((Nat → Int32) × (Nat → Int32) × (Nat → Int32) × (Nat → Int32) × (Nat → Int64) × Int32)) (wf := fun u => (wX ad cI cL cO sc 0 u.1 u.2.1 u.2.2.1 u.2.2.2.1 u.2.2.2.2.1 u.2.2.2.2.2 nf ns nc wt bd off row hw rl tm ord tc)) hC [.int a1, .int a2, .int a3, .int a4, .long a5] (fun sz => c_Events_add h sz) (by decide) (by decide) k_x106 k_x107 k_x108 (by decide) 5 rfl (by decide +kernel) ⟨by decide, by decide⟩ (Nat.le_of_ble_eq_true rfl) k_x109 k_x110 wX_1 rfl rfl dX_event_79 (fun _ h9 => h9) (fun r_13 u_14 h => ?_)
      exact hret _ _ (by decide) (by decide) r_13 (0, u_14.1, u_14.2.1, u_14.2.2.1, u_14.2.2.2.1, u_14.2.2.2.2.1, u_14.2.2.2.2.2) h _ _ dX_event_82
    · have h := h.2 c_12
      exact x_throw hC 3 rfl htr hlk hnh dX_event_53 dX_event_56 dX_event_57 dX_event_59 dX_event_62 k_x79 k_x80 (by decide +kernel) x_up_fit k_xa81 k_xo82 k_xs111 (by decide) (by decide) ⟨by decide, by decide⟩ (by decide) (by decide) h
  · have h := h.2 c_11
    refine x_iconst (v := 0) hC dX_event_38 (by decide) ?_
    exact hret _ _ (by decide) (by decide) 0 (sd, src, itm, knd, plc, clk, ec) h _ _ dX_event_39

/-! EventOrder.checkEvent(I)V -/
abbrev rm_X_checkEvent : Room := { frames := 6, cells := 1, slots := 6, locals := 120 }
def X_checkEvent_wp (ec : Int32) (a1 : Int32) (Qr : Unit → Prop) (Qt : Nat → Prop) : Prop := ((a1 < 1 → Qt 0) ∧ (¬ a1 < 1 → ((a1 ≤ ec → Qr ()) ∧ (¬ a1 ≤ ec → Qt 0))))
set_option maxHeartbeats 4000000 in
set_option maxRecDepth 100000 in
theorem c_X_checkEvent {l : Launch} {D : va_G} {ad : Nat → Nat} {cI cL cO : ClassId} {sc : Int32} {sd : Int32} {src : (Nat → Int32)} {itm : (Nat → Int32)} {knd : (Nat → Int32)} {plc : (Nat → Int32)} {clk : (Nat → Int64)} {ec : Int32} {nf : (Nat → Int32)} {ns : (Nat → Int32)} {nc : Int32} {wt : (Nat → Nat → Int64)} {bd : (Nat → Nat → Int64)} {off : (Nat → Int64)} {row : (Nat → Int32)} {hw : (Nat → Nat → Int64)} {rl : Int32} {tm : (Nat → Int64)} {ord : (Nat → Int32)} {tc : Int32} {a1 : Int32} {Qr : Unit → Prop} {Qt : Nat → Prop} (htr : l.stackTraces = false) (h : X_checkEvent_wp ec a1 Qr Qt) (sz : Nat) : vx_Met l yX_checkEvent (Cond.code yX_checkEvent bX_checkEvent 2 none :: TBL) rm_X_checkEvent (va_Pc [.ref (ad 0), .int a1] (XP D vwCl (tysX cI cL cO) (wX ad cI cL cO sc sd src itm knd plc clk ec nf ns nc wt bd off row hw rl tm ord tc) sz)) (va_Qv Qr (fun u t => XB D vwCl (tysX cI cL cO) (va_A (wX ad cI cL cO sc sd src itm knd plc clk ec nf ns nc wt bd off row hw rl tm ord tc) sz) (wX ad cI cL cO sc sd src itm knd plc clk ec nf ns nc wt bd off row hw rl tm ord tc) t) (va_A (wX ad cI cL cO sc sd src itm knd plc clk ec nf ns nc wt bd off row hw rl tm ord tc) sz)) (XT D vwCl (tysX cI cL cO) (va_A (wX ad cI cL cO sc sd src itm knd plc clk ec nf ns nc wt bd off row hw rl tm ord tc) sz) (wX ad cI cL cO sc sd src itm knd plc clk ec nf ns nc wt bd off row hw rl tm ord tc) Qt) rm_X_checkEvent.cells rm_X_checkEvent.slots (va_A (wX ad cI cL cO sc sd src itm knd plc clk ec nf ns nc wt bd off row hw rl tm ord tc) sz) := by
  refine x_met [.ref (ad 0), .int a1] TBL_good (by decide) (Nat.le_of_ble_eq_true rfl) ?_
  intro p e s m args below meth c hC hr hlk hnm hnh
  have hret : ∀ (ce sl : Nat), ce ≤ rm_X_checkEvent.cells → sl ≤ rm_X_checkEvent.slots → ∀ (u : Unit), Qr u → ∀ (pc : Nat) (lv : List (Nat × Value)), decode bX_checkEvent pc = .ok (.return_, 1) → XW p l e rm_X_checkEvent s m args below meth c D vwCl (va_A (wX ad cI cL cO sc sd src itm knd plc clk ec nf ns nc wt bd off row hw rl tm ord tc) sz) 2 (vx_MQ below (va_Qv Qr (fun u t => XB D vwCl (tysX cI cL cO) (va_A (wX ad cI cL cO sc sd src itm knd plc clk ec nf ns nc wt bd off row hw rl tm ord tc) sz) (wX ad cI cL cO sc sd src itm knd plc clk ec nf ns nc wt bd off row hw rl tm ord tc) t) (va_A (wX ad cI cL cO sc sd src itm knd plc clk ec nf ns nc wt bd off row hw rl tm ord tc) sz)) (XT D vwCl (tysX cI cL cO) (va_A (wX ad cI cL cO sc sd src itm knd plc clk ec nf ns nc wt bd off row hw rl tm ord tc) sz) (wX ad cI cL cO sc sd src itm knd plc clk ec nf ns nc wt bd off row hw rl tm ord tc) Qt) args s rm_X_checkEvent.cells rm_X_checkEvent.slots (va_A (wX ad cI cL cO sc sd src itm knd plc clk ec nf ns nc wt bd off row hw rl tm ord tc) sz)) ce sl (wX ad cI cL cO sc sd src itm knd plc clk ec nf ns nc wt bd off row hw rl tm ord tc) pc lv [] := fun ce sl h1 h2 u hq pc lv hd => x_vret (wf := fun u => (wX ad cI cL cO sc sd src itm knd plc clk ec nf ns nc wt bd off row hw rl tm ord tc)) hC h1 h2 hr hlk hd hq rfl
  show XW p l e rm_X_checkEvent s m args below meth c D vwCl (va_A (wX ad cI cL cO sc sd src itm knd plc clk ec nf ns nc wt bd off row hw rl tm ord tc) sz) 2 _ 0 0 (wX ad cI cL cO sc sd src itm knd plc clk ec nf ns nc wt bd off row hw rl tm ord tc) 0 [(0, .ref (ad 0)), (1, .int a1)] []
  unfold X_checkEvent_wp at h
  refine x_iload_n hC dX_checkEvent_0 rfl 1 rfl ?_
  refine x_iconst (v := 1) hC dX_checkEvent_1 (by decide) ?_
  refine x_icmp_lt (tgt := 16) hC dX_checkEvent_2 (by decide) (fun c_1 => ?_) (fun c_1 => ?_)
  · have h := h.1 c_1
    exact x_throw hC 0 rfl htr hlk hnh dX_checkEvent_16 dX_checkEvent_19 dX_checkEvent_20 dX_checkEvent_22 dX_checkEvent_25 k_x84 k_x85 (by decide +kernel) x_up_fit k_xa86 k_xo87 k_xs134 (by decide) (by decide) ⟨by decide, by decide⟩ (by decide) (by decide) h
  · have h := h.2 c_1
    refine x_iload_n hC dX_checkEvent_5 rfl 1 rfl ?_
    refine x_aload_n hC dX_checkEvent_6 rfl 0 rfl ?_
    refine x_get hC iX 0 wX_0 rfl 0 (by decide) k_x104 rfl rfl dX_checkEvent_7 ?_
    refine x_get hC iEv 1 wX_1 rfl 5 (by decide) k_x105 rfl rfl dX_checkEvent_10 ?_
    refine x_icmp_le (tgt := 26) hC dX_checkEvent_13 (by decide) (fun c_2 => ?_) (fun c_2 => ?_)
    · have h := h.1 c_2
      exact hret _ _ (by decide) (by decide) () h _ _ dX_checkEvent_26
    · have h := h.2 c_2
      exact x_throw hC 0 rfl htr hlk hnh dX_checkEvent_16 dX_checkEvent_19 dX_checkEvent_20 dX_checkEvent_22 dX_checkEvent_25 k_x84 k_x85 (by decide +kernel) x_up_fit k_xa86 k_xo87 k_xs134 (by decide) (by decide) ⟨by decide, by decide⟩ (by decide) (by decide) h

/-! EventOrder.need(II)I -/
abbrev rm_X_need : Room := { frames := 7, cells := 3, slots := 18, locals := 141 }
def X_need_wp (sd : Int32) (ec : Int32) (nf : (Nat → Int32)) (ns : (Nat → Int32)) (nc : Int32) (a1 : Int32) (a2 : Int32) (Qr : Int32 → (Int32 × (Nat → Int32) × (Nat → Int32) × Int32) → Prop) (Qt : Nat → Prop) : Prop := X_checkEvent_wp ec a1 (fun (u_2 : Unit) => X_checkEvent_wp ec a2 (fun (u_4 : Unit) => ((¬ a1 = a2 → ((nc < 300 → Needs_add_wp nf ns nc a1 a2 (fun (r_7 : Int32) (u_8 : ((Nat → Int32) × (Nat → Int32) × Int32)) => Qr r_7 (0, u_8.1, u_8.2.1, u_8.2.2))) ∧ (¬ nc < 300 → Qt 3))) ∧ (a1 = a2 → Qt 1))) Qt) Qt
set_option maxHeartbeats 4000000 in
set_option maxRecDepth 100000 in
theorem c_X_need {l : Launch} {D : va_G} {ad : Nat → Nat} {cI cL cO : ClassId} {sc : Int32} {sd : Int32} {src : (Nat → Int32)} {itm : (Nat → Int32)} {knd : (Nat → Int32)} {plc : (Nat → Int32)} {clk : (Nat → Int64)} {ec : Int32} {nf : (Nat → Int32)} {ns : (Nat → Int32)} {nc : Int32} {wt : (Nat → Nat → Int64)} {bd : (Nat → Nat → Int64)} {off : (Nat → Int64)} {row : (Nat → Int32)} {hw : (Nat → Nat → Int64)} {rl : Int32} {tm : (Nat → Int64)} {ord : (Nat → Int32)} {tc : Int32} {a1 : Int32} {a2 : Int32} {Qr : Int32 → (Int32 × (Nat → Int32) × (Nat → Int32) × Int32) → Prop} {Qt : Nat → Prop} (htr : l.stackTraces = false) (h : X_need_wp sd ec nf ns nc a1 a2 Qr Qt) (sz : Nat) : vx_Met l yX_need (Cond.code yX_need bX_need 3 (some .int) :: TBL) rm_X_need (va_Pc [.ref (ad 0), .int a1, .int a2] (XP D vwCl (tysX cI cL cO) (wX ad cI cL cO sc sd src itm knd plc clk ec nf ns nc wt bd off row hw rl tm ord tc) sz)) (va_Qi Qr (fun u t => XB D vwCl (tysX cI cL cO) (va_A (wX ad cI cL cO sc sd src itm knd plc clk ec nf ns nc wt bd off row hw rl tm ord tc) sz) (wX ad cI cL cO sc u.1 src itm knd plc clk ec u.2.1 u.2.2.1 u.2.2.2 wt bd off row hw rl tm ord tc) t) (va_A (wX ad cI cL cO sc sd src itm knd plc clk ec nf ns nc wt bd off row hw rl tm ord tc) sz)) (XT D vwCl (tysX cI cL cO) (va_A (wX ad cI cL cO sc sd src itm knd plc clk ec nf ns nc wt bd off row hw rl tm ord tc) sz) (wX ad cI cL cO sc sd src itm knd plc clk ec nf ns nc wt bd off row hw rl tm ord tc) Qt) rm_X_need.cells rm_X_need.slots (va_A (wX ad cI cL cO sc sd src itm knd plc clk ec nf ns nc wt bd off row hw rl tm ord tc) sz) := by
  refine x_met [.ref (ad 0), .int a1, .int a2] TBL_good (by decide) (Nat.le_of_ble_eq_true rfl) ?_
  intro p e s m args below meth c hC hr hlk hnm hnh
  have hret : ∀ (ce sl : Nat), ce ≤ rm_X_need.cells → sl ≤ rm_X_need.slots → ∀ (r : Int32) (u : (Int32 × (Nat → Int32) × (Nat → Int32) × Int32)), Qr r u → ∀ (pc : Nat) (lv : List (Nat × Value)), decode bX_need pc = .ok (.ireturn, 1) → XW p l e rm_X_need s m args below meth c D vwCl (va_A (wX ad cI cL cO sc sd src itm knd plc clk ec nf ns nc wt bd off row hw rl tm ord tc) sz) 3 (vx_MQ below (va_Qi Qr (fun u t => XB D vwCl (tysX cI cL cO) (va_A (wX ad cI cL cO sc sd src itm knd plc clk ec nf ns nc wt bd off row hw rl tm ord tc) sz) (wX ad cI cL cO sc u.1 src itm knd plc clk ec u.2.1 u.2.2.1 u.2.2.2 wt bd off row hw rl tm ord tc) t) (va_A (wX ad cI cL cO sc sd src itm knd plc clk ec nf ns nc wt bd off row hw rl tm ord tc) sz)) (XT D vwCl (tysX cI cL cO) (va_A (wX ad cI cL cO sc sd src itm knd plc clk ec nf ns nc wt bd off row hw rl tm ord tc) sz) (wX ad cI cL cO sc sd src itm knd plc clk ec nf ns nc wt bd off row hw rl tm ord tc) Qt) args s rm_X_need.cells rm_X_need.slots (va_A (wX ad cI cL cO sc sd src itm knd plc clk ec nf ns nc wt bd off row hw rl tm ord tc) sz)) ce sl (wX ad cI cL cO sc u.1 src itm knd plc clk ec u.2.1 u.2.2.1 u.2.2.2 wt bd off row hw rl tm ord tc) pc lv [.int r] := fun ce sl h1 h2 r u hq pc lv hd => x_iret (wf := fun u => (wX ad cI cL cO sc u.1 src itm knd plc clk ec u.2.1 u.2.2.1 u.2.2.2 wt bd off row hw rl tm ord tc)) hC h1 h2 hr hlk hd hq rfl
  show XW p l e rm_X_need s m args below meth c D vwCl (va_A (wX ad cI cL cO sc sd src itm knd plc clk ec nf ns nc wt bd off row hw rl tm ord tc) sz) 3 _ 0 0 (wX ad cI cL cO sc sd src itm knd plc clk ec nf ns nc wt bd off row hw rl tm ord tc) 0 [(0, .ref (ad 0)), (1, .int a1), (2, .int a2)] []
  unfold X_need_wp at h
  refine x_aload_n hC dX_need_0 rfl 0 rfl ?_
  refine x_iload_n hC dX_need_1 rfl 1 rfl ?_
  refine x_callVvT (S := Unit) (wf := fun u => (wX ad cI cL cO sc sd src itm knd plc clk ec nf ns nc wt bd off row hw rl tm ord tc)) hC (by decide) (by decide) [.int a1] (fun sz => c_X_checkEvent htr h sz) (by decide) (by decide) k_x144 k_x145 k_x146 (by decide) 1 rfl (by decide +kernel) ⟨by decide, by decide⟩ (Nat.le_of_ble_eq_true rfl) k_x147 k_x148 wX_0 rfl rfl dX_need_2 hlk hnh (fun _ h9 => h9) (fun u_2 h => ?_)
  refine x_aload_n hC dX_need_5 rfl 0 rfl ?_
  refine x_iload_n hC dX_need_6 rfl 2 rfl ?_
  refine x_callVvT (S := Unit) (wf := fun u => (wX ad cI cL cO sc sd src itm knd plc clk ec nf ns nc wt bd off row hw rl tm ord tc)) hC (by decide) (by decide) [.int a2] (fun sz => c_X_checkEvent htr h sz) (by decide) (by decide) k_x144 k_x145 k_x146 (by decide) 1 rfl (by decide +kernel) ⟨by decide, by decide⟩ (Nat.le_of_ble_eq_true rfl) k_x147 k_x148 wX_0 rfl rfl dX_need_7 hlk hnh (fun _ h9 => h9) (fun u_4 h => ?_)
  refine x_iload_n hC dX_need_10 rfl 1 rfl ?_
  refine x_iload_n hC dX_need_11 rfl 2 rfl ?_
  refine x_icmp_ne (tgt := 25) hC dX_need_12 (by decide) (fun c_5 => ?_) (fun c_5 => ?_)
  · have h := h.1 c_5
    refine x_aload_n hC dX_need_25 rfl 0 rfl ?_
    refine x_get hC iX 0 wX_0 rfl 1 (by decide) k_x135 rfl rfl dX_need_26 ?_
    refine x_get hC iNd 7 wX_7 rfl 2 (by decide) k_x136 rfl rfl dX_need_29 ?_
    refine x_sipush (v := 300) hC dX_need_32 (by decide) ?_
    refine x_icmp_lt (tgt := 48) hC dX_need_35 (by decide) (fun c_6 => ?_) (fun c_6 => ?_)
    · have h := h.1 c_6
      refine x_aload_n hC dX_need_48 rfl 0 rfl ?_
      refine x_iconst (v := 0) hC dX_need_49 (by decide) ?_
      refine x_put (ty := .boolean) (ws' := (wX ad cI cL cO sc 0 src itm knd plc clk ec nf ns nc wt bd off row hw rl tm ord tc)) hC iX 0 wX_0 rfl 6 (by decide) k_x78 rfl tX tX_ok nX rfl (by decide +kernel) rfl rfl (Nat.le_of_ble_eq_true rfl) rfl dX_need_50 ?_
      refine x_aload_n hC dX_need_53 rfl 0 rfl ?_
      refine x_get hC iX 0 wX_0 rfl 1 (by decide) k_x135 rfl rfl dX_need_54 ?_
      refine x_iload_n hC dX_need_57 rfl 1 rfl ?_
      refine x_iload_n hC dX_need_58 rfl 2 rfl ?_
      refine x_callVi (S := ((Nat → Int32) × (Nat → Int32) × Int32)) (wf := fun u => (wX ad cI cL cO sc 0 src itm knd plc clk ec u.1 u.2.1 u.2.2 wt bd off row hw rl tm ord tc)) hC [.int a1, .int a2] (fun sz => c_Needs_add h sz) (by decide) (by decide) k_x137 k_x138 k_x139 (by decide) 2 rfl (by decide +kernel) ⟨by decide, by decide⟩ (Nat.le_of_ble_eq_true rfl) k_x140 k_x141 wX_7 rfl rfl dX_need_59 (fun _ h9 => h9) (fun r_7 u_8 h => ?_)
      exact hret _ _ (by decide) (by decide) r_7 (0, u_8.1, u_8.2.1, u_8.2.2) h _ _ dX_need_62
    · have h := h.2 c_6
      exact x_throw hC 3 rfl htr hlk hnh dX_need_38 dX_need_41 dX_need_42 dX_need_44 dX_need_47 k_x79 k_x80 (by decide +kernel) x_up_fit k_xa81 k_xo82 k_xs142 (by decide) (by decide) ⟨by decide, by decide⟩ (by decide) (by decide) h
  · have h := h.2 c_5
    exact x_throw hC 1 rfl htr hlk hnh dX_need_15 dX_need_18 dX_need_19 dX_need_21 dX_need_24 k_x90 k_x91 (by decide +kernel) x_up_fit k_xa92 k_xo93 k_xs143 (by decide) (by decide) ⟨by decide, by decide⟩ (by decide) (by decide) h

/-! EventOrder.settle()I -/
abbrev rm_X_settle : Room := { frames := 4, cells := 0, slots := 0, locals := 116 }
def X_settle_wp (sc : Int32) (sd : Int32) (src : (Nat → Int32)) (plc : (Nat → Int32)) (clk : (Nat → Int64)) (ec : Int32) (nf : (Nat → Int32)) (ns : (Nat → Int32)) (nc : Int32) (wt : (Nat → Nat → Int64)) (bd : (Nat → Nat → Int64)) (off : (Nat → Int64)) (row : (Nat → Int32)) (hw : (Nat → Nat → Int64)) (rl : Int32) (tm : (Nat → Int64)) (ord : (Nat → Int32)) (tc : Int32) (Qr : Int32 → (Int32 × (Nat → Nat → Int64) × (Nat → Nat → Int64) × (Nat → Int64) × (Nat → Int32) × (Nat → Nat → Int64) × Int32 × (Nat → Int64) × (Nat → Int32) × Int32) → Prop) : Prop := Limits_weigh_1_7_wp src clk nf ns nc wt sc (fun (u_2 : (Nat → Nat → Int64)) => Limits_findBounds_wp u_2 bd sc (fun (r_3 : Int32) (u_4 : (Nat → Nat → Int64)) => x_bool r_3 ∧ ((¬ r_3 = 0 → Limits_chooseOffsets_wp u_4 off sc (fun (u_8 : (Nat → Int64)) => Timeline_lay_1_13_wp src plc clk ec u_8 tm ord tc (fun (u_10 : ((Nat → Int64) × (Nat → Int32) × Int32)) => Qr 1 (r_3, u_2, u_4, u_8, row, hw, 0, u_10.1, u_10.2.1, u_10.2.2)))) ∧ (r_3 = 0 → Ring_find_11_wp u_2 row hw rl sc (fun (u_12 : ((Nat → Int32) × (Nat → Nat → Int64) × Int32)) => Qr (-u_12.2.2) (r_3, u_2, u_4, off, u_12.1, u_12.2.1, u_12.2.2, tm, ord, tc))))))
set_option maxHeartbeats 4000000 in
set_option maxRecDepth 100000 in
theorem c_X_settle {l : Launch} {D : va_G} {ad : Nat → Nat} {cI cL cO : ClassId} {sc : Int32} {sd : Int32} {src : (Nat → Int32)} {itm : (Nat → Int32)} {knd : (Nat → Int32)} {plc : (Nat → Int32)} {clk : (Nat → Int64)} {ec : Int32} {nf : (Nat → Int32)} {ns : (Nat → Int32)} {nc : Int32} {wt : (Nat → Nat → Int64)} {bd : (Nat → Nat → Int64)} {off : (Nat → Int64)} {row : (Nat → Int32)} {hw : (Nat → Nat → Int64)} {rl : Int32} {tm : (Nat → Int64)} {ord : (Nat → Int32)} {tc : Int32} {Qr : Int32 → (Int32 × (Nat → Nat → Int64) × (Nat → Nat → Int64) × (Nat → Int64) × (Nat → Int32) × (Nat → Nat → Int64) × Int32 × (Nat → Int64) × (Nat → Int32) × Int32) → Prop} (h : X_settle_wp sc sd src plc clk ec nf ns nc wt bd off row hw rl tm ord tc Qr) (sz : Nat) : vx_Met l yX_settle (Cond.code yX_settle bX_settle 1 (some .int) :: TBL) rm_X_settle (va_Pc [.ref (ad 0)] (XP D vwCl (tysX cI cL cO) (wX ad cI cL cO sc sd src itm knd plc clk ec nf ns nc wt bd off row hw rl tm ord tc) sz)) (va_Qi Qr (fun u t => XB D vwCl (tysX cI cL cO) (va_A (wX ad cI cL cO sc sd src itm knd plc clk ec nf ns nc wt bd off row hw rl tm ord tc) sz) (wX ad cI cL cO sc u.1 src itm knd plc clk ec nf ns nc u.2.1 u.2.2.1 u.2.2.2.1 u.2.2.2.2.1 u.2.2.2.2.2.1 u.2.2.2.2.2.2.1 u.2.2.2.2.2.2.2.1 u.2.2.2.2.2.2.2.2.1 u.2.2.2.2.2.2.2.2.2) t) (va_A (wX ad cI cL cO sc sd src itm knd plc clk ec nf ns nc wt bd off row hw rl tm ord tc) sz)) (XT D vwCl (tysX cI cL cO) (va_A (wX ad cI cL cO sc sd src itm knd plc clk ec nf ns nc wt bd off row hw rl tm ord tc) sz) (wX ad cI cL cO sc sd src itm knd plc clk ec nf ns nc wt bd off row hw rl tm ord tc) (fun _ => False)) rm_X_settle.cells rm_X_settle.slots (va_A (wX ad cI cL cO sc sd src itm knd plc clk ec nf ns nc wt bd off row hw rl tm ord tc) sz) := by
  refine x_met [.ref (ad 0)] TBL_good (by decide) (Nat.le_of_ble_eq_true rfl) ?_
  intro p e s m args below meth c hC hr hlk hnm hnh
  have hret : ∀ (ce sl : Nat), ce ≤ rm_X_settle.cells → sl ≤ rm_X_settle.slots → ∀ (r : Int32) (u : (Int32 × (Nat → Nat → Int64) × (Nat → Nat → Int64) × (Nat → Int64) × (Nat → Int32) × (Nat → Nat → Int64) × Int32 × (Nat → Int64) × (Nat → Int32) × Int32)), Qr r u → ∀ (pc : Nat) (lv : List (Nat × Value)), decode bX_settle pc = .ok (.ireturn, 1) → XW p l e rm_X_settle s m args below meth c D vwCl (va_A (wX ad cI cL cO sc sd src itm knd plc clk ec nf ns nc wt bd off row hw rl tm ord tc) sz) 1 (vx_MQ below (va_Qi Qr (fun u t => XB D vwCl (tysX cI cL cO) (va_A (wX ad cI cL cO sc sd src itm knd plc clk ec nf ns nc wt bd off row hw rl tm ord tc) sz) (wX ad cI cL cO sc u.1 src itm knd plc clk ec nf ns nc u.2.1 u.2.2.1 u.2.2.2.1 u.2.2.2.2.1 u.2.2.2.2.2.1 u.2.2.2.2.2.2.1 u.2.2.2.2.2.2.2.1 u.2.2.2.2.2.2.2.2.1 u.2.2.2.2.2.2.2.2.2) t) (va_A (wX ad cI cL cO sc sd src itm knd plc clk ec nf ns nc wt bd off row hw rl tm ord tc) sz)) (XT D vwCl (tysX cI cL cO) (va_A (wX ad cI cL cO sc sd src itm knd plc clk ec nf ns nc wt bd off row hw rl tm ord tc) sz) (wX ad cI cL cO sc sd src itm knd plc clk ec nf ns nc wt bd off row hw rl tm ord tc) (fun _ => False)) args s rm_X_settle.cells rm_X_settle.slots (va_A (wX ad cI cL cO sc sd src itm knd plc clk ec nf ns nc wt bd off row hw rl tm ord tc) sz)) ce sl (wX ad cI cL cO sc u.1 src itm knd plc clk ec nf ns nc u.2.1 u.2.2.1 u.2.2.2.1 u.2.2.2.2.1 u.2.2.2.2.2.1 u.2.2.2.2.2.2.1 u.2.2.2.2.2.2.2.1 u.2.2.2.2.2.2.2.2.1 u.2.2.2.2.2.2.2.2.2) pc lv [.int r] := fun ce sl h1 h2 r u hq pc lv hd => x_iret (wf := fun u => (wX ad cI cL cO sc u.1 src itm knd plc clk ec nf ns nc u.2.1 u.2.2.1 u.2.2.2.1 u.2.2.2.2.1 u.2.2.2.2.2.1 u.2.2.2.2.2.2.1 u.2.2.2.2.2.2.2.1 u.2.2.2.2.2.2.2.2.1 u.2.2.2.2.2.2.2.2.2)) hC h1 h2 hr hlk hd hq rfl
  show XW p l e rm_X_settle s m args below meth c D vwCl (va_A (wX ad cI cL cO sc sd src itm knd plc clk ec nf ns nc wt bd off row hw rl tm ord tc) sz) 1 _ 0 0 (wX ad cI cL cO sc sd src itm knd plc clk ec nf ns nc wt bd off row hw rl tm ord tc) 0 [(0, .ref (ad 0))] []
  unfold X_settle_wp at h
  refine x_aload_n hC dX_settle_0 rfl 0 rfl ?_
  refine x_get hC iX 0 wX_0 rfl 2 (by decide) k_x149 rfl rfl dX_settle_1 ?_
  refine x_aload_n hC dX_settle_4 rfl 0 rfl ?_
  refine x_get hC iX 0 wX_0 rfl 5 (by decide) k_x77 rfl rfl dX_settle_5 ?_
  refine x_aload_n hC dX_settle_8 rfl 0 rfl ?_
  refine x_get hC iX 0 wX_0 rfl 0 (by decide) k_x104 rfl rfl dX_settle_9 ?_
  refine x_aload_n hC dX_settle_12 rfl 0 rfl ?_
  refine x_get hC iX 0 wX_0 rfl 1 (by decide) k_x135 rfl rfl dX_settle_13 ?_
  refine x_callVv (S := (Nat → Nat → Int64)) (wf := fun u => (wX ad cI cL cO sc sd src itm knd plc clk ec nf ns nc u bd off row hw rl tm ord tc)) hC [.int sc, .ref (ad 1), .ref (ad 7)] (fun sz => c_Limits_weigh_1_7 h sz) (by decide) (by decide) k_x175 k_x176 k_x177 (by decide) 3 rfl (by decide +kernel) ⟨by decide, by decide⟩ (Nat.le_of_ble_eq_true rfl) k_x178 k_x179 wX_10 rfl rfl dX_settle_16 (fun _ h9 => h9) (fun u_2 h => ?_)
  refine x_aload_n hC dX_settle_19 rfl 0 rfl ?_
  refine x_aload_n hC dX_settle_20 rfl 0 rfl ?_
  refine x_get hC iX 0 wX_0 rfl 2 (by decide) k_x149 rfl rfl dX_settle_21 ?_
  refine x_aload_n hC dX_settle_24 rfl 0 rfl ?_
  refine x_get hC iX 0 wX_0 rfl 5 (by decide) k_x77 rfl rfl dX_settle_25 ?_
  refine x_callVi (S := (Nat → Nat → Int64)) (wf := fun u => (wX ad cI cL cO sc sd src itm knd plc clk ec nf ns nc u_2 u off row hw rl tm ord tc)) hC [.int sc] (fun sz => c_Limits_findBounds h sz) (by decide) (by decide) k_x170 k_x171 k_x172 (by decide) 1 rfl (by decide +kernel) ⟨by decide, by decide⟩ (Nat.le_of_ble_eq_true rfl) k_x173 k_x174 wX_10 rfl rfl dX_settle_28 (fun _ h9 => h9) (fun r_3 u_4 h => ?_)
  obtain ⟨hb_5, h⟩ := h
  refine x_put (ty := .boolean) (ws' := (wX ad cI cL cO sc r_3 src itm knd plc clk ec nf ns nc u_2 u_4 off row hw rl tm ord tc)) hC iX 0 wX_0 rfl 6 (by decide) k_x78 rfl tX tX_ok nX rfl (by decide +kernel) (x_bool_nar hb_5) (x_bool_fit hb_5) (Nat.le_of_ble_eq_true rfl) rfl dX_settle_31 ?_
  refine x_aload_n hC dX_settle_34 rfl 0 rfl ?_
  refine x_get hC iX 0 wX_0 rfl 6 (by decide) k_x78 rfl rfl dX_settle_35 ?_
  refine x_if_ne (tgt := 68) hC dX_settle_38 (by decide) (fun c_6 => ?_) (fun c_6 => ?_)
  · have h := h.1 c_6
    refine x_aload_n hC dX_settle_68 rfl 0 rfl ?_
    refine x_get hC iX 0 wX_0 rfl 3 (by decide) k_x150 rfl rfl dX_settle_69 ?_
    refine x_iconst (v := 0) hC dX_settle_72 (by decide) ?_
    refine x_put (ty := .int) (ws' := (wX ad cI cL cO sc r_3 src itm knd plc clk ec nf ns nc u_2 u_4 off row hw 0 tm ord tc)) hC iRg 14 wX_14 rfl 2 (by decide) k_x151 rfl tRg tRg_ok nRg rfl (by decide +kernel) rfl rfl (Nat.le_of_ble_eq_true rfl) rfl dX_settle_73 ?_
    refine x_aload_n hC dX_settle_76 rfl 0 rfl ?_
    refine x_get hC iX 0 wX_0 rfl 2 (by decide) k_x149 rfl rfl dX_settle_77 ?_
    refine x_aload_n hC dX_settle_80 rfl 0 rfl ?_
    refine x_get hC iX 0 wX_0 rfl 5 (by decide) k_x77 rfl rfl dX_settle_81 ?_
    refine x_callVv (S := (Nat → Int64)) (wf := fun u => (wX ad cI cL cO sc r_3 src itm knd plc clk ec nf ns nc u_2 u_4 u row hw 0 tm ord tc)) hC [.int sc] (fun sz => c_Limits_chooseOffsets h sz) (by decide) (by decide) k_x159 k_x160 k_x161 (by decide) 1 rfl (by decide +kernel) ⟨by decide, by decide⟩ (Nat.le_of_ble_eq_true rfl) k_x162 k_x163 wX_10 rfl rfl dX_settle_84 (fun _ h9 => h9) (fun u_8 h => ?_)
    refine x_aload_n hC dX_settle_87 rfl 0 rfl ?_
    refine x_get hC iX 0 wX_0 rfl 4 (by decide) k_x152 rfl rfl dX_settle_88 ?_
    refine x_aload_n hC dX_settle_91 rfl 0 rfl ?_
    refine x_get hC iX 0 wX_0 rfl 0 (by decide) k_x104 rfl rfl dX_settle_92 ?_
    refine x_aload_n hC dX_settle_95 rfl 0 rfl ?_
    refine x_get hC iX 0 wX_0 rfl 2 (by decide) k_x149 rfl rfl dX_settle_96 ?_
    refine x_get hC iLi 10 wX_10 rfl 2 (by decide) k_x153 rfl rfl dX_settle_99 ?_
    refine x_callVv (S := ((Nat → Int64) × (Nat → Int32) × Int32)) (wf := fun u => (wX ad cI cL cO sc r_3 src itm knd plc clk ec nf ns nc u_2 u_4 u_8 row hw 0 u.1 u.2.1 u.2.2)) hC [.ref (ad 1), .ref (ad 13)] (fun sz => c_Timeline_lay_1_13 h sz) (by decide) (by decide) k_x154 k_x155 k_x156 (by decide) 2 rfl (by decide +kernel) ⟨by decide, by decide⟩ (Nat.le_of_ble_eq_true rfl) k_x157 k_x158 wX_17 rfl rfl dX_settle_102 (fun _ h9 => h9) (fun u_10 h => ?_)
    refine x_iconst (v := 1) hC dX_settle_105 (by decide) ?_
    exact hret _ _ (by decide) (by decide) 1 (r_3, u_2, u_4, u_8, row, hw, 0, u_10.1, u_10.2.1, u_10.2.2) h _ _ dX_settle_106
  · have h := h.2 c_6
    refine x_aload_n hC dX_settle_41 rfl 0 rfl ?_
    refine x_get hC iX 0 wX_0 rfl 3 (by decide) k_x150 rfl rfl dX_settle_42 ?_
    refine x_aload_n hC dX_settle_45 rfl 0 rfl ?_
    refine x_get hC iX 0 wX_0 rfl 5 (by decide) k_x77 rfl rfl dX_settle_46 ?_
    refine x_aload_n hC dX_settle_49 rfl 0 rfl ?_
    refine x_get hC iX 0 wX_0 rfl 2 (by decide) k_x149 rfl rfl dX_settle_50 ?_
    refine x_get hC iLi 10 wX_10 rfl 0 (by decide) k_x164 rfl rfl dX_settle_53 ?_
    refine x_callVv (S := ((Nat → Int32) × (Nat → Nat → Int64) × Int32)) (wf := fun u => (wX ad cI cL cO sc r_3 src itm knd plc clk ec nf ns nc u_2 u_4 off u.1 u.2.1 u.2.2 tm ord tc)) hC [.int sc, .ref (ad 11)] (fun sz => c_Ring_find_11 h sz) (by decide) (by decide) k_x165 k_x166 k_x167 (by decide) 2 rfl (by decide +kernel) ⟨by decide, by decide⟩ (Nat.le_of_ble_eq_true rfl) k_x168 k_x169 wX_14 rfl rfl dX_settle_56 (fun _ h9 => h9) (fun u_12 h => ?_)
    refine x_aload_n hC dX_settle_59 rfl 0 rfl ?_
    refine x_get hC iX 0 wX_0 rfl 3 (by decide) k_x150 rfl rfl dX_settle_60 ?_
    refine x_get hC iRg 14 wX_14 rfl 2 (by decide) k_x151 rfl rfl dX_settle_63 ?_
    refine x_ineg hC dX_settle_66 ?_
    exact hret _ _ (by decide) (by decide) (-u_12.2.2) (r_3, u_2, u_4, off, u_12.1, u_12.2.1, u_12.2.2, tm, ord, tc) h _ _ dX_settle_67

/-! EventOrder.ring(I)I -/
abbrev rm_X_ring : Room := { frames := 0, cells := 0, slots := 0, locals := 0 }
def X_ring_wp (row : (Nat → Int32)) (rl : Int32) (a1 : Int32) (Qr : Int32 → Unit → Prop) : Prop := ((a1 < 0 → Qr (-1) ()) ∧ (¬ a1 < 0 → ((a1 < rl → vp_in a1 16 ∧ Qr (row a1.toNatClampNeg) ()) ∧ (¬ a1 < rl → Qr (-1) ()))))
set_option maxHeartbeats 4000000 in
set_option maxRecDepth 100000 in
theorem c_X_ring {l : Launch} {D : va_G} {ad : Nat → Nat} {cI cL cO : ClassId} {sc : Int32} {sd : Int32} {src : (Nat → Int32)} {itm : (Nat → Int32)} {knd : (Nat → Int32)} {plc : (Nat → Int32)} {clk : (Nat → Int64)} {ec : Int32} {nf : (Nat → Int32)} {ns : (Nat → Int32)} {nc : Int32} {wt : (Nat → Nat → Int64)} {bd : (Nat → Nat → Int64)} {off : (Nat → Int64)} {row : (Nat → Int32)} {hw : (Nat → Nat → Int64)} {rl : Int32} {tm : (Nat → Int64)} {ord : (Nat → Int32)} {tc : Int32} {a1 : Int32} {Qr : Int32 → Unit → Prop} (h : X_ring_wp row rl a1 Qr) (sz : Nat) : vx_Met l yX_ring (Cond.code yX_ring bX_ring 2 (some .int) :: TBL) rm_X_ring (va_Pc [.ref (ad 0), .int a1] (XP D vwCl (tysX cI cL cO) (wX ad cI cL cO sc sd src itm knd plc clk ec nf ns nc wt bd off row hw rl tm ord tc) sz)) (va_Qi Qr (fun u t => XB D vwCl (tysX cI cL cO) (va_A (wX ad cI cL cO sc sd src itm knd plc clk ec nf ns nc wt bd off row hw rl tm ord tc) sz) (wX ad cI cL cO sc sd src itm knd plc clk ec nf ns nc wt bd off row hw rl tm ord tc) t) (va_A (wX ad cI cL cO sc sd src itm knd plc clk ec nf ns nc wt bd off row hw rl tm ord tc) sz)) (XT D vwCl (tysX cI cL cO) (va_A (wX ad cI cL cO sc sd src itm knd plc clk ec nf ns nc wt bd off row hw rl tm ord tc) sz) (wX ad cI cL cO sc sd src itm knd plc clk ec nf ns nc wt bd off row hw rl tm ord tc) (fun _ => False)) rm_X_ring.cells rm_X_ring.slots (va_A (wX ad cI cL cO sc sd src itm knd plc clk ec nf ns nc wt bd off row hw rl tm ord tc) sz) := by
  refine x_met [.ref (ad 0), .int a1] TBL_good (by decide) (Nat.le_of_ble_eq_true rfl) ?_
  intro p e s m args below meth c hC hr hlk hnm hnh
  have hret : ∀ (ce sl : Nat), ce ≤ rm_X_ring.cells → sl ≤ rm_X_ring.slots → ∀ (r : Int32) (u : Unit), Qr r u → ∀ (pc : Nat) (lv : List (Nat × Value)), decode bX_ring pc = .ok (.ireturn, 1) → XW p l e rm_X_ring s m args below meth c D vwCl (va_A (wX ad cI cL cO sc sd src itm knd plc clk ec nf ns nc wt bd off row hw rl tm ord tc) sz) 2 (vx_MQ below (va_Qi Qr (fun u t => XB D vwCl (tysX cI cL cO) (va_A (wX ad cI cL cO sc sd src itm knd plc clk ec nf ns nc wt bd off row hw rl tm ord tc) sz) (wX ad cI cL cO sc sd src itm knd plc clk ec nf ns nc wt bd off row hw rl tm ord tc) t) (va_A (wX ad cI cL cO sc sd src itm knd plc clk ec nf ns nc wt bd off row hw rl tm ord tc) sz)) (XT D vwCl (tysX cI cL cO) (va_A (wX ad cI cL cO sc sd src itm knd plc clk ec nf ns nc wt bd off row hw rl tm ord tc) sz) (wX ad cI cL cO sc sd src itm knd plc clk ec nf ns nc wt bd off row hw rl tm ord tc) (fun _ => False)) args s rm_X_ring.cells rm_X_ring.slots (va_A (wX ad cI cL cO sc sd src itm knd plc clk ec nf ns nc wt bd off row hw rl tm ord tc) sz)) ce sl (wX ad cI cL cO sc sd src itm knd plc clk ec nf ns nc wt bd off row hw rl tm ord tc) pc lv [.int r] := fun ce sl h1 h2 r u hq pc lv hd => x_iret (wf := fun u => (wX ad cI cL cO sc sd src itm knd plc clk ec nf ns nc wt bd off row hw rl tm ord tc)) hC h1 h2 hr hlk hd hq rfl
  show XW p l e rm_X_ring s m args below meth c D vwCl (va_A (wX ad cI cL cO sc sd src itm knd plc clk ec nf ns nc wt bd off row hw rl tm ord tc) sz) 2 _ 0 0 (wX ad cI cL cO sc sd src itm knd plc clk ec nf ns nc wt bd off row hw rl tm ord tc) 0 [(0, .ref (ad 0)), (1, .int a1)] []
  unfold X_ring_wp at h
  refine x_iload_n hC dX_ring_0 rfl 1 rfl ?_
  refine x_if_lt (tgt := 15) hC dX_ring_1 (by decide) (fun c_1 => ?_) (fun c_1 => ?_)
  · have h := h.1 c_1
    refine x_iconst (v := -1) hC dX_ring_15 (by decide) ?_
    exact hret _ _ (by decide) (by decide) (-1) () h _ _ dX_ring_16
  · have h := h.2 c_1
    refine x_iload_n hC dX_ring_4 rfl 1 rfl ?_
    refine x_aload_n hC dX_ring_5 rfl 0 rfl ?_
    refine x_get hC iX 0 wX_0 rfl 3 (by decide) k_x150 rfl rfl dX_ring_6 ?_
    refine x_get hC iRg 14 wX_14 rfl 2 (by decide) k_x151 rfl rfl dX_ring_9 ?_
    refine x_icmp_lt (tgt := 17) hC dX_ring_12 (by decide) (fun c_2 => ?_) (fun c_2 => ?_)
    · have h := h.1 c_2
      refine x_aload_n hC dX_ring_17 rfl 0 rfl ?_
      refine x_get hC iX 0 wX_0 rfl 3 (by decide) k_x150 rfl rfl dX_ring_18 ?_
      refine x_get hC iRg 14 wX_14 rfl 0 (by decide) k_x180 rfl rfl dX_ring_21 ?_
      refine x_iload_n hC dX_ring_24 rfl 1 rfl ?_
      obtain ⟨hb_3, h⟩ := h
      refine x_iald hC 15 0 wX_15 rfl hb_3 dX_ring_25 ?_
      exact hret _ _ (by decide) (by decide) (row a1.toNatClampNeg) () h _ _ dX_ring_26
    · have h := h.2 c_2
      refine x_iconst (v := -1) hC dX_ring_15 (by decide) ?_
      exact hret _ _ (by decide) (by decide) (-1) () h _ _ dX_ring_16

/-! EventOrder.checkSettled()V -/
abbrev rm_X_checkSettled : Room := { frames := 6, cells := 1, slots := 6, locals := 120 }
def X_checkSettled_wp (sd : Int32) (Qr : Unit → Prop) (Qt : Nat → Prop) : Prop := ((¬ sd = 0 → Qr ()) ∧ (sd = 0 → Qt 2))
set_option maxHeartbeats 4000000 in
set_option maxRecDepth 100000 in
theorem c_X_checkSettled {l : Launch} {D : va_G} {ad : Nat → Nat} {cI cL cO : ClassId} {sc : Int32} {sd : Int32} {src : (Nat → Int32)} {itm : (Nat → Int32)} {knd : (Nat → Int32)} {plc : (Nat → Int32)} {clk : (Nat → Int64)} {ec : Int32} {nf : (Nat → Int32)} {ns : (Nat → Int32)} {nc : Int32} {wt : (Nat → Nat → Int64)} {bd : (Nat → Nat → Int64)} {off : (Nat → Int64)} {row : (Nat → Int32)} {hw : (Nat → Nat → Int64)} {rl : Int32} {tm : (Nat → Int64)} {ord : (Nat → Int32)} {tc : Int32} {Qr : Unit → Prop} {Qt : Nat → Prop} (htr : l.stackTraces = false) (h : X_checkSettled_wp sd Qr Qt) (sz : Nat) : vx_Met l yX_checkSettled (Cond.code yX_checkSettled bX_checkSettled 1 none :: TBL) rm_X_checkSettled (va_Pc [.ref (ad 0)] (XP D vwCl (tysX cI cL cO) (wX ad cI cL cO sc sd src itm knd plc clk ec nf ns nc wt bd off row hw rl tm ord tc) sz)) (va_Qv Qr (fun u t => XB D vwCl (tysX cI cL cO) (va_A (wX ad cI cL cO sc sd src itm knd plc clk ec nf ns nc wt bd off row hw rl tm ord tc) sz) (wX ad cI cL cO sc sd src itm knd plc clk ec nf ns nc wt bd off row hw rl tm ord tc) t) (va_A (wX ad cI cL cO sc sd src itm knd plc clk ec nf ns nc wt bd off row hw rl tm ord tc) sz)) (XT D vwCl (tysX cI cL cO) (va_A (wX ad cI cL cO sc sd src itm knd plc clk ec nf ns nc wt bd off row hw rl tm ord tc) sz) (wX ad cI cL cO sc sd src itm knd plc clk ec nf ns nc wt bd off row hw rl tm ord tc) Qt) rm_X_checkSettled.cells rm_X_checkSettled.slots (va_A (wX ad cI cL cO sc sd src itm knd plc clk ec nf ns nc wt bd off row hw rl tm ord tc) sz) := by
  refine x_met [.ref (ad 0)] TBL_good (by decide) (Nat.le_of_ble_eq_true rfl) ?_
  intro p e s m args below meth c hC hr hlk hnm hnh
  have hret : ∀ (ce sl : Nat), ce ≤ rm_X_checkSettled.cells → sl ≤ rm_X_checkSettled.slots → ∀ (u : Unit), Qr u → ∀ (pc : Nat) (lv : List (Nat × Value)), decode bX_checkSettled pc = .ok (.return_, 1) → XW p l e rm_X_checkSettled s m args below meth c D vwCl (va_A (wX ad cI cL cO sc sd src itm knd plc clk ec nf ns nc wt bd off row hw rl tm ord tc) sz) 1 (vx_MQ below (va_Qv Qr (fun u t => XB D vwCl (tysX cI cL cO) (va_A (wX ad cI cL cO sc sd src itm knd plc clk ec nf ns nc wt bd off row hw rl tm ord tc) sz) (wX ad cI cL cO sc sd src itm knd plc clk ec nf ns nc wt bd off row hw rl tm ord tc) t) (va_A (wX ad cI cL cO sc sd src itm knd plc clk ec nf ns nc wt bd off row hw rl tm ord tc) sz)) (XT D vwCl (tysX cI cL cO) (va_A (wX ad cI cL cO sc sd src itm knd plc clk ec nf ns nc wt bd off row hw rl tm ord tc) sz) (wX ad cI cL cO sc sd src itm knd plc clk ec nf ns nc wt bd off row hw rl tm ord tc) Qt) args s rm_X_checkSettled.cells rm_X_checkSettled.slots (va_A (wX ad cI cL cO sc sd src itm knd plc clk ec nf ns nc wt bd off row hw rl tm ord tc) sz)) ce sl (wX ad cI cL cO sc sd src itm knd plc clk ec nf ns nc wt bd off row hw rl tm ord tc) pc lv [] := fun ce sl h1 h2 u hq pc lv hd => x_vret (wf := fun u => (wX ad cI cL cO sc sd src itm knd plc clk ec nf ns nc wt bd off row hw rl tm ord tc)) hC h1 h2 hr hlk hd hq rfl
  show XW p l e rm_X_checkSettled s m args below meth c D vwCl (va_A (wX ad cI cL cO sc sd src itm knd plc clk ec nf ns nc wt bd off row hw rl tm ord tc) sz) 1 _ 0 0 (wX ad cI cL cO sc sd src itm knd plc clk ec nf ns nc wt bd off row hw rl tm ord tc) 0 [(0, .ref (ad 0))] []
  unfold X_checkSettled_wp at h
  refine x_aload_n hC dX_checkSettled_0 rfl 0 rfl ?_
  refine x_get hC iX 0 wX_0 rfl 6 (by decide) k_x78 rfl rfl dX_checkSettled_1 ?_
  refine x_if_ne (tgt := 17) hC dX_checkSettled_4 (by decide) (fun c_1 => ?_) (fun c_1 => ?_)
  · have h := h.1 c_1
    exact hret _ _ (by decide) (by decide) () h _ _ dX_checkSettled_17
  · have h := h.2 c_1
    exact x_throw hC 2 rfl htr hlk hnh dX_checkSettled_7 dX_checkSettled_10 dX_checkSettled_11 dX_checkSettled_13 dX_checkSettled_16 k_x181 k_x182 (by decide +kernel) x_up_fit k_xa183 k_xo184 k_xs185 (by decide) (by decide) ⟨by decide, by decide⟩ (by decide) (by decide) h

/-! EventOrder.offset(I)J -/
abbrev rm_X_offset : Room := { frames := 7, cells := 2, slots := 12, locals := 141 }
def X_offset_wp (sc : Int32) (sd : Int32) (off : (Nat → Int64)) (a1 : Int32) (Qr : Int64 → Unit → Prop) (Qt : Nat → Prop) : Prop := X_checkSource_wp sc a1 (fun (u_2 : Unit) => X_checkSettled_wp sd (fun (u_4 : Unit) => vp_in a1 16 ∧ Qr (off a1.toNatClampNeg) ()) Qt) Qt
set_option maxHeartbeats 4000000 in
set_option maxRecDepth 100000 in
theorem c_X_offset {l : Launch} {D : va_G} {ad : Nat → Nat} {cI cL cO : ClassId} {sc : Int32} {sd : Int32} {src : (Nat → Int32)} {itm : (Nat → Int32)} {knd : (Nat → Int32)} {plc : (Nat → Int32)} {clk : (Nat → Int64)} {ec : Int32} {nf : (Nat → Int32)} {ns : (Nat → Int32)} {nc : Int32} {wt : (Nat → Nat → Int64)} {bd : (Nat → Nat → Int64)} {off : (Nat → Int64)} {row : (Nat → Int32)} {hw : (Nat → Nat → Int64)} {rl : Int32} {tm : (Nat → Int64)} {ord : (Nat → Int32)} {tc : Int32} {a1 : Int32} {Qr : Int64 → Unit → Prop} {Qt : Nat → Prop} (htr : l.stackTraces = false) (h : X_offset_wp sc sd off a1 Qr Qt) (sz : Nat) : vx_Met l yX_offset (Cond.code yX_offset bX_offset 2 (some .long) :: TBL) rm_X_offset (va_Pc [.ref (ad 0), .int a1] (XP D vwCl (tysX cI cL cO) (wX ad cI cL cO sc sd src itm knd plc clk ec nf ns nc wt bd off row hw rl tm ord tc) sz)) (va_Ql Qr (fun u t => XB D vwCl (tysX cI cL cO) (va_A (wX ad cI cL cO sc sd src itm knd plc clk ec nf ns nc wt bd off row hw rl tm ord tc) sz) (wX ad cI cL cO sc sd src itm knd plc clk ec nf ns nc wt bd off row hw rl tm ord tc) t) (va_A (wX ad cI cL cO sc sd src itm knd plc clk ec nf ns nc wt bd off row hw rl tm ord tc) sz)) (XT D vwCl (tysX cI cL cO) (va_A (wX ad cI cL cO sc sd src itm knd plc clk ec nf ns nc wt bd off row hw rl tm ord tc) sz) (wX ad cI cL cO sc sd src itm knd plc clk ec nf ns nc wt bd off row hw rl tm ord tc) Qt) rm_X_offset.cells rm_X_offset.slots (va_A (wX ad cI cL cO sc sd src itm knd plc clk ec nf ns nc wt bd off row hw rl tm ord tc) sz) := by
  refine x_met [.ref (ad 0), .int a1] TBL_good (by decide) (Nat.le_of_ble_eq_true rfl) ?_
  intro p e s m args below meth c hC hr hlk hnm hnh
  have hret : ∀ (ce sl : Nat), ce ≤ rm_X_offset.cells → sl ≤ rm_X_offset.slots → ∀ (r : Int64) (u : Unit), Qr r u → ∀ (pc : Nat) (lv : List (Nat × Value)), decode bX_offset pc = .ok (.lreturn, 1) → XW p l e rm_X_offset s m args below meth c D vwCl (va_A (wX ad cI cL cO sc sd src itm knd plc clk ec nf ns nc wt bd off row hw rl tm ord tc) sz) 2 (vx_MQ below (va_Ql Qr (fun u t => XB D vwCl (tysX cI cL cO) (va_A (wX ad cI cL cO sc sd src itm knd plc clk ec nf ns nc wt bd off row hw rl tm ord tc) sz) (wX ad cI cL cO sc sd src itm knd plc clk ec nf ns nc wt bd off row hw rl tm ord tc) t) (va_A (wX ad cI cL cO sc sd src itm knd plc clk ec nf ns nc wt bd off row hw rl tm ord tc) sz)) (XT D vwCl (tysX cI cL cO) (va_A (wX ad cI cL cO sc sd src itm knd plc clk ec nf ns nc wt bd off row hw rl tm ord tc) sz) (wX ad cI cL cO sc sd src itm knd plc clk ec nf ns nc wt bd off row hw rl tm ord tc) Qt) args s rm_X_offset.cells rm_X_offset.slots (va_A (wX ad cI cL cO sc sd src itm knd plc clk ec nf ns nc wt bd off row hw rl tm ord tc) sz)) ce sl (wX ad cI cL cO sc sd src itm knd plc clk ec nf ns nc wt bd off row hw rl tm ord tc) pc lv [.long r] := fun ce sl h1 h2 r u hq pc lv hd => x_lret (wf := fun u => (wX ad cI cL cO sc sd src itm knd plc clk ec nf ns nc wt bd off row hw rl tm ord tc)) hC h1 h2 hr hlk hd hq rfl
  show XW p l e rm_X_offset s m args below meth c D vwCl (va_A (wX ad cI cL cO sc sd src itm knd plc clk ec nf ns nc wt bd off row hw rl tm ord tc) sz) 2 _ 0 0 (wX ad cI cL cO sc sd src itm knd plc clk ec nf ns nc wt bd off row hw rl tm ord tc) 0 [(0, .ref (ad 0)), (1, .int a1)] []
  unfold X_offset_wp at h
  refine x_aload_n hC dX_offset_0 rfl 0 rfl ?_
  refine x_iload_n hC dX_offset_1 rfl 1 rfl ?_
  refine x_callVvT (S := Unit) (wf := fun u => (wX ad cI cL cO sc sd src itm knd plc clk ec nf ns nc wt bd off row hw rl tm ord tc)) hC (by decide) (by decide) [.int a1] (fun sz => c_X_checkSource htr h sz) (by decide) (by decide) k_x129 k_x130 k_x131 (by decide) 1 rfl (by decide +kernel) ⟨by decide, by decide⟩ (Nat.le_of_ble_eq_true rfl) k_x132 k_x133 wX_0 rfl rfl dX_offset_2 hlk hnh (fun _ h9 => h9) (fun u_2 h => ?_)
  refine x_aload_n hC dX_offset_5 rfl 0 rfl ?_
  refine x_callVvT (S := Unit) (wf := fun u => (wX ad cI cL cO sc sd src itm knd plc clk ec nf ns nc wt bd off row hw rl tm ord tc)) hC (by decide) (by decide) [] (fun sz => c_X_checkSettled htr h sz) (by decide) (by decide) k_x186 k_x187 k_x188 (by decide) 0 rfl (by decide +kernel) ⟨by decide, by decide⟩ (Nat.le_of_ble_eq_true rfl) k_x189 k_x190 wX_0 rfl rfl dX_offset_6 hlk hnh (fun _ h9 => h9) (fun u_4 h => ?_)
  refine x_aload_n hC dX_offset_9 rfl 0 rfl ?_
  refine x_get hC iX 0 wX_0 rfl 2 (by decide) k_x149 rfl rfl dX_offset_10 ?_
  refine x_get hC iLi 10 wX_10 rfl 2 (by decide) k_x153 rfl rfl dX_offset_13 ?_
  refine x_iload_n hC dX_offset_16 rfl 1 rfl ?_
  obtain ⟨hb_5, h⟩ := h
  refine x_lald hC 13 1 wX_13 rfl hb_5 dX_offset_17 ?_
  exact hret _ _ (by decide) (by decide) (off a1.toNatClampNeg) () h _ _ dX_offset_18

/-! EventOrder.bound(II)J -/
abbrev rm_X_bound : Room := { frames := 7, cells := 3, slots := 18, locals := 141 }
def X_bound_wp (sc : Int32) (sd : Int32) (bd : (Nat → Nat → Int64)) (a1 : Int32) (a2 : Int32) (Qr : Int64 → Unit → Prop) (Qt : Nat → Prop) : Prop := X_checkSource_wp sc a1 (fun (u_2 : Unit) => X_checkSource_wp sc a2 (fun (u_4 : Unit) => X_checkSettled_wp sd (fun (u_6 : Unit) => vp_in a1 16 ∧ vp_in a2 16 ∧ Qr ((bd a1.toNatClampNeg) a2.toNatClampNeg) ()) Qt) Qt) Qt
set_option maxHeartbeats 4000000 in
set_option maxRecDepth 100000 in
theorem c_X_bound {l : Launch} {D : va_G} {ad : Nat → Nat} {cI cL cO : ClassId} {sc : Int32} {sd : Int32} {src : (Nat → Int32)} {itm : (Nat → Int32)} {knd : (Nat → Int32)} {plc : (Nat → Int32)} {clk : (Nat → Int64)} {ec : Int32} {nf : (Nat → Int32)} {ns : (Nat → Int32)} {nc : Int32} {wt : (Nat → Nat → Int64)} {bd : (Nat → Nat → Int64)} {off : (Nat → Int64)} {row : (Nat → Int32)} {hw : (Nat → Nat → Int64)} {rl : Int32} {tm : (Nat → Int64)} {ord : (Nat → Int32)} {tc : Int32} {a1 : Int32} {a2 : Int32} {Qr : Int64 → Unit → Prop} {Qt : Nat → Prop} (htr : l.stackTraces = false) (h : X_bound_wp sc sd bd a1 a2 Qr Qt) (sz : Nat) : vx_Met l yX_bound (Cond.code yX_bound bX_bound 3 (some .long) :: TBL) rm_X_bound (va_Pc [.ref (ad 0), .int a1, .int a2] (XP D vwCl (tysX cI cL cO) (wX ad cI cL cO sc sd src itm knd plc clk ec nf ns nc wt bd off row hw rl tm ord tc) sz)) (va_Ql Qr (fun u t => XB D vwCl (tysX cI cL cO) (va_A (wX ad cI cL cO sc sd src itm knd plc clk ec nf ns nc wt bd off row hw rl tm ord tc) sz) (wX ad cI cL cO sc sd src itm knd plc clk ec nf ns nc wt bd off row hw rl tm ord tc) t) (va_A (wX ad cI cL cO sc sd src itm knd plc clk ec nf ns nc wt bd off row hw rl tm ord tc) sz)) (XT D vwCl (tysX cI cL cO) (va_A (wX ad cI cL cO sc sd src itm knd plc clk ec nf ns nc wt bd off row hw rl tm ord tc) sz) (wX ad cI cL cO sc sd src itm knd plc clk ec nf ns nc wt bd off row hw rl tm ord tc) Qt) rm_X_bound.cells rm_X_bound.slots (va_A (wX ad cI cL cO sc sd src itm knd plc clk ec nf ns nc wt bd off row hw rl tm ord tc) sz) := by
  refine x_met [.ref (ad 0), .int a1, .int a2] TBL_good (by decide) (Nat.le_of_ble_eq_true rfl) ?_
  intro p e s m args below meth c hC hr hlk hnm hnh
  have hret : ∀ (ce sl : Nat), ce ≤ rm_X_bound.cells → sl ≤ rm_X_bound.slots → ∀ (r : Int64) (u : Unit), Qr r u → ∀ (pc : Nat) (lv : List (Nat × Value)), decode bX_bound pc = .ok (.lreturn, 1) → XW p l e rm_X_bound s m args below meth c D vwCl (va_A (wX ad cI cL cO sc sd src itm knd plc clk ec nf ns nc wt bd off row hw rl tm ord tc) sz) 3 (vx_MQ below (va_Ql Qr (fun u t => XB D vwCl (tysX cI cL cO) (va_A (wX ad cI cL cO sc sd src itm knd plc clk ec nf ns nc wt bd off row hw rl tm ord tc) sz) (wX ad cI cL cO sc sd src itm knd plc clk ec nf ns nc wt bd off row hw rl tm ord tc) t) (va_A (wX ad cI cL cO sc sd src itm knd plc clk ec nf ns nc wt bd off row hw rl tm ord tc) sz)) (XT D vwCl (tysX cI cL cO) (va_A (wX ad cI cL cO sc sd src itm knd plc clk ec nf ns nc wt bd off row hw rl tm ord tc) sz) (wX ad cI cL cO sc sd src itm knd plc clk ec nf ns nc wt bd off row hw rl tm ord tc) Qt) args s rm_X_bound.cells rm_X_bound.slots (va_A (wX ad cI cL cO sc sd src itm knd plc clk ec nf ns nc wt bd off row hw rl tm ord tc) sz)) ce sl (wX ad cI cL cO sc sd src itm knd plc clk ec nf ns nc wt bd off row hw rl tm ord tc) pc lv [.long r] := fun ce sl h1 h2 r u hq pc lv hd => x_lret (wf := fun u => (wX ad cI cL cO sc sd src itm knd plc clk ec nf ns nc wt bd off row hw rl tm ord tc)) hC h1 h2 hr hlk hd hq rfl
  show XW p l e rm_X_bound s m args below meth c D vwCl (va_A (wX ad cI cL cO sc sd src itm knd plc clk ec nf ns nc wt bd off row hw rl tm ord tc) sz) 3 _ 0 0 (wX ad cI cL cO sc sd src itm knd plc clk ec nf ns nc wt bd off row hw rl tm ord tc) 0 [(0, .ref (ad 0)), (1, .int a1), (2, .int a2)] []
  unfold X_bound_wp at h
  refine x_aload_n hC dX_bound_0 rfl 0 rfl ?_
  refine x_iload_n hC dX_bound_1 rfl 1 rfl ?_
  refine x_callVvT (S := Unit) (wf := fun u => (wX ad cI cL cO sc sd src itm knd plc clk ec nf ns nc wt bd off row hw rl tm ord tc)) hC (by decide) (by decide) [.int a1] (fun sz => c_X_checkSource htr h sz) (by decide) (by decide) k_x129 k_x130 k_x131 (by decide) 1 rfl (by decide +kernel) ⟨by decide, by decide⟩ (Nat.le_of_ble_eq_true rfl) k_x132 k_x133 wX_0 rfl rfl dX_bound_2 hlk hnh (fun _ h9 => h9) (fun u_2 h => ?_)
  refine x_aload_n hC dX_bound_5 rfl 0 rfl ?_
  refine x_iload_n hC dX_bound_6 rfl 2 rfl ?_
  refine x_callVvT (S := Unit) (wf := fun u => (wX ad cI cL cO sc sd src itm knd plc clk ec nf ns nc wt bd off row hw rl tm ord tc)) hC (by decide) (by decide) [.int a2] (fun sz => c_X_checkSource htr h sz) (by decide) (by decide) k_x129 k_x130 k_x131 (by decide) 1 rfl (by decide +kernel) ⟨by decide, by decide⟩ (Nat.le_of_ble_eq_true rfl) k_x132 k_x133 wX_0 rfl rfl dX_bound_7 hlk hnh (fun _ h9 => h9) (fun u_4 h => ?_)
  refine x_aload_n hC dX_bound_10 rfl 0 rfl ?_
  refine x_callVvT (S := Unit) (wf := fun u => (wX ad cI cL cO sc sd src itm knd plc clk ec nf ns nc wt bd off row hw rl tm ord tc)) hC (by decide) (by decide) [] (fun sz => c_X_checkSettled htr h sz) (by decide) (by decide) k_x186 k_x187 k_x188 (by decide) 0 rfl (by decide +kernel) ⟨by decide, by decide⟩ (Nat.le_of_ble_eq_true rfl) k_x189 k_x190 wX_0 rfl rfl dX_bound_11 hlk hnh (fun _ h9 => h9) (fun u_6 h => ?_)
  refine x_aload_n hC dX_bound_14 rfl 0 rfl ?_
  refine x_get hC iX 0 wX_0 rfl 2 (by decide) k_x149 rfl rfl dX_bound_15 ?_
  refine x_get hC iLi 10 wX_10 rfl 1 (by decide) k_x191 rfl rfl dX_bound_18 ?_
  refine x_iload_n hC dX_bound_21 rfl 1 rfl ?_
  obtain ⟨hb_7, h⟩ := h
  refine x_aald (y := ad (36 + a1.toNatClampNeg)) hC 12 2 wX_12 rfl rfl hb_7 rfl dX_bound_22 ?_
  refine x_iload_n hC dX_bound_23 rfl 2 rfl ?_
  obtain ⟨hb_8, h⟩ := h
  refine x_lald hC (36 + a1.toNatClampNeg) 1 (wX_bd (x_in_lt hb_7)) rfl hb_8 dX_bound_24 ?_
  exact hret _ _ (by decide) (by decide) ((bd a1.toNatClampNeg) a2.toNatClampNeg) () h _ _ dX_bound_25

/-! EventOrder.corrected(I)J -/
abbrev rm_X_corrected : Room := { frames := 7, cells := 2, slots := 12, locals := 141 }
def X_corrected_wp (sd : Int32) (ec : Int32) (tm : (Nat → Int64)) (a1 : Int32) (Qr : Int64 → Unit → Prop) (Qt : Nat → Prop) : Prop := X_checkEvent_wp ec a1 (fun (u_2 : Unit) => X_checkSettled_wp sd (fun (u_4 : Unit) => vp_in a1 301 ∧ Qr (tm a1.toNatClampNeg) ()) Qt) Qt
set_option maxHeartbeats 4000000 in
set_option maxRecDepth 100000 in
theorem c_X_corrected {l : Launch} {D : va_G} {ad : Nat → Nat} {cI cL cO : ClassId} {sc : Int32} {sd : Int32} {src : (Nat → Int32)} {itm : (Nat → Int32)} {knd : (Nat → Int32)} {plc : (Nat → Int32)} {clk : (Nat → Int64)} {ec : Int32} {nf : (Nat → Int32)} {ns : (Nat → Int32)} {nc : Int32} {wt : (Nat → Nat → Int64)} {bd : (Nat → Nat → Int64)} {off : (Nat → Int64)} {row : (Nat → Int32)} {hw : (Nat → Nat → Int64)} {rl : Int32} {tm : (Nat → Int64)} {ord : (Nat → Int32)} {tc : Int32} {a1 : Int32} {Qr : Int64 → Unit → Prop} {Qt : Nat → Prop} (htr : l.stackTraces = false) (h : X_corrected_wp sd ec tm a1 Qr Qt) (sz : Nat) : vx_Met l yX_corrected (Cond.code yX_corrected bX_corrected 2 (some .long) :: TBL) rm_X_corrected (va_Pc [.ref (ad 0), .int a1] (XP D vwCl (tysX cI cL cO) (wX ad cI cL cO sc sd src itm knd plc clk ec nf ns nc wt bd off row hw rl tm ord tc) sz)) (va_Ql Qr (fun u t => XB D vwCl (tysX cI cL cO) (va_A (wX ad cI cL cO sc sd src itm knd plc clk ec nf ns nc wt bd off row hw rl tm ord tc) sz) (wX ad cI cL cO sc sd src itm knd plc clk ec nf ns nc wt bd off row hw rl tm ord tc) t) (va_A (wX ad cI cL cO sc sd src itm knd plc clk ec nf ns nc wt bd off row hw rl tm ord tc) sz)) (XT D vwCl (tysX cI cL cO) (va_A (wX ad cI cL cO sc sd src itm knd plc clk ec nf ns nc wt bd off row hw rl tm ord tc) sz) (wX ad cI cL cO sc sd src itm knd plc clk ec nf ns nc wt bd off row hw rl tm ord tc) Qt) rm_X_corrected.cells rm_X_corrected.slots (va_A (wX ad cI cL cO sc sd src itm knd plc clk ec nf ns nc wt bd off row hw rl tm ord tc) sz) := by
  refine x_met [.ref (ad 0), .int a1] TBL_good (by decide) (Nat.le_of_ble_eq_true rfl) ?_
  intro p e s m args below meth c hC hr hlk hnm hnh
  have hret : ∀ (ce sl : Nat), ce ≤ rm_X_corrected.cells → sl ≤ rm_X_corrected.slots → ∀ (r : Int64) (u : Unit), Qr r u → ∀ (pc : Nat) (lv : List (Nat × Value)), decode bX_corrected pc = .ok (.lreturn, 1) → XW p l e rm_X_corrected s m args below meth c D vwCl (va_A (wX ad cI cL cO sc sd src itm knd plc clk ec nf ns nc wt bd off row hw rl tm ord tc) sz) 2 (vx_MQ below (va_Ql Qr (fun u t => XB D vwCl (tysX cI cL cO) (va_A (wX ad cI cL cO sc sd src itm knd plc clk ec nf ns nc wt bd off row hw rl tm ord tc) sz) (wX ad cI cL cO sc sd src itm knd plc clk ec nf ns nc wt bd off row hw rl tm ord tc) t) (va_A (wX ad cI cL cO sc sd src itm knd plc clk ec nf ns nc wt bd off row hw rl tm ord tc) sz)) (XT D vwCl (tysX cI cL cO) (va_A (wX ad cI cL cO sc sd src itm knd plc clk ec nf ns nc wt bd off row hw rl tm ord tc) sz) (wX ad cI cL cO sc sd src itm knd plc clk ec nf ns nc wt bd off row hw rl tm ord tc) Qt) args s rm_X_corrected.cells rm_X_corrected.slots (va_A (wX ad cI cL cO sc sd src itm knd plc clk ec nf ns nc wt bd off row hw rl tm ord tc) sz)) ce sl (wX ad cI cL cO sc sd src itm knd plc clk ec nf ns nc wt bd off row hw rl tm ord tc) pc lv [.long r] := fun ce sl h1 h2 r u hq pc lv hd => x_lret (wf := fun u => (wX ad cI cL cO sc sd src itm knd plc clk ec nf ns nc wt bd off row hw rl tm ord tc)) hC h1 h2 hr hlk hd hq rfl
  show XW p l e rm_X_corrected s m args below meth c D vwCl (va_A (wX ad cI cL cO sc sd src itm knd plc clk ec nf ns nc wt bd off row hw rl tm ord tc) sz) 2 _ 0 0 (wX ad cI cL cO sc sd src itm knd plc clk ec nf ns nc wt bd off row hw rl tm ord tc) 0 [(0, .ref (ad 0)), (1, .int a1)] []
  unfold X_corrected_wp at h
  refine x_aload_n hC dX_corrected_0 rfl 0 rfl ?_
  refine x_iload_n hC dX_corrected_1 rfl 1 rfl ?_
  refine x_callVvT (S := Unit) (wf := fun u => (wX ad cI cL cO sc sd src itm knd plc clk ec nf ns nc wt bd off row hw rl tm ord tc)) hC (by decide) (by decide) [.int a1] (fun sz => c_X_checkEvent htr h sz) (by decide) (by decide) k_x144 k_x145 k_x146 (by decide) 1 rfl (by decide +kernel) ⟨by decide, by decide⟩ (Nat.le_of_ble_eq_true rfl) k_x147 k_x148 wX_0 rfl rfl dX_corrected_2 hlk hnh (fun _ h9 => h9) (fun u_2 h => ?_)
  refine x_aload_n hC dX_corrected_5 rfl 0 rfl ?_
  refine x_callVvT (S := Unit) (wf := fun u => (wX ad cI cL cO sc sd src itm knd plc clk ec nf ns nc wt bd off row hw rl tm ord tc)) hC (by decide) (by decide) [] (fun sz => c_X_checkSettled htr h sz) (by decide) (by decide) k_x186 k_x187 k_x188 (by decide) 0 rfl (by decide +kernel) ⟨by decide, by decide⟩ (Nat.le_of_ble_eq_true rfl) k_x189 k_x190 wX_0 rfl rfl dX_corrected_6 hlk hnh (fun _ h9 => h9) (fun u_4 h => ?_)
  refine x_aload_n hC dX_corrected_9 rfl 0 rfl ?_
  refine x_get hC iX 0 wX_0 rfl 4 (by decide) k_x152 rfl rfl dX_corrected_10 ?_
  refine x_get hC iTl 17 wX_17 rfl 0 (by decide) k_x192 rfl rfl dX_corrected_13 ?_
  refine x_iload_n hC dX_corrected_16 rfl 1 rfl ?_
  obtain ⟨hb_5, h⟩ := h
  refine x_lald hC 18 1 wX_18 rfl hb_5 dX_corrected_17 ?_
  exact hret _ _ (by decide) (by decide) (tm a1.toNatClampNeg) () h _ _ dX_corrected_18

/-! EventOrder.ordered(II)I -/
abbrev rm_X_ordered : Room := { frames := 7, cells := 2, slots := 12, locals := 140 }
def X_ordered_wp (sd : Int32) (itm : (Nat → Int32)) (ord : (Nat → Int32)) (tc : Int32) (a1 : Int32) (a2 : Int32) (Qr : Int32 → Unit → Prop) (Qt : Nat → Prop) : Prop := X_checkItem_wp a1 (fun (u_2 : Unit) => X_checkSettled_wp sd (fun (u_4 : Unit) => Timeline_eventOf_1_wp itm ord tc a1 a2 (fun (r_5 : Int32) (u_6 : Unit) => Qr r_5 ())) Qt) Qt
set_option maxHeartbeats 4000000 in
set_option maxRecDepth 100000 in
theorem c_X_ordered {l : Launch} {D : va_G} {ad : Nat → Nat} {cI cL cO : ClassId} {sc : Int32} {sd : Int32} {src : (Nat → Int32)} {itm : (Nat → Int32)} {knd : (Nat → Int32)} {plc : (Nat → Int32)} {clk : (Nat → Int64)} {ec : Int32} {nf : (Nat → Int32)} {ns : (Nat → Int32)} {nc : Int32} {wt : (Nat → Nat → Int64)} {bd : (Nat → Nat → Int64)} {off : (Nat → Int64)} {row : (Nat → Int32)} {hw : (Nat → Nat → Int64)} {rl : Int32} {tm : (Nat → Int64)} {ord : (Nat → Int32)} {tc : Int32} {a1 : Int32} {a2 : Int32} {Qr : Int32 → Unit → Prop} {Qt : Nat → Prop} (htr : l.stackTraces = false) (h : X_ordered_wp sd itm ord tc a1 a2 Qr Qt) (sz : Nat) : vx_Met l yX_ordered (Cond.code yX_ordered bX_ordered 3 (some .int) :: TBL) rm_X_ordered (va_Pc [.ref (ad 0), .int a1, .int a2] (XP D vwCl (tysX cI cL cO) (wX ad cI cL cO sc sd src itm knd plc clk ec nf ns nc wt bd off row hw rl tm ord tc) sz)) (va_Qi Qr (fun u t => XB D vwCl (tysX cI cL cO) (va_A (wX ad cI cL cO sc sd src itm knd plc clk ec nf ns nc wt bd off row hw rl tm ord tc) sz) (wX ad cI cL cO sc sd src itm knd plc clk ec nf ns nc wt bd off row hw rl tm ord tc) t) (va_A (wX ad cI cL cO sc sd src itm knd plc clk ec nf ns nc wt bd off row hw rl tm ord tc) sz)) (XT D vwCl (tysX cI cL cO) (va_A (wX ad cI cL cO sc sd src itm knd plc clk ec nf ns nc wt bd off row hw rl tm ord tc) sz) (wX ad cI cL cO sc sd src itm knd plc clk ec nf ns nc wt bd off row hw rl tm ord tc) Qt) rm_X_ordered.cells rm_X_ordered.slots (va_A (wX ad cI cL cO sc sd src itm knd plc clk ec nf ns nc wt bd off row hw rl tm ord tc) sz) := by
  refine x_met [.ref (ad 0), .int a1, .int a2] TBL_good (by decide) (Nat.le_of_ble_eq_true rfl) ?_
  intro p e s m args below meth c hC hr hlk hnm hnh
  have hret : ∀ (ce sl : Nat), ce ≤ rm_X_ordered.cells → sl ≤ rm_X_ordered.slots → ∀ (r : Int32) (u : Unit), Qr r u → ∀ (pc : Nat) (lv : List (Nat × Value)), decode bX_ordered pc = .ok (.ireturn, 1) → XW p l e rm_X_ordered s m args below meth c D vwCl (va_A (wX ad cI cL cO sc sd src itm knd plc clk ec nf ns nc wt bd off row hw rl tm ord tc) sz) 3 (vx_MQ below (va_Qi Qr (fun u t => XB D vwCl (tysX cI cL cO) (va_A (wX ad cI cL cO sc sd src itm knd plc clk ec nf ns nc wt bd off row hw rl tm ord tc) sz) (wX ad cI cL cO sc sd src itm knd plc clk ec nf ns nc wt bd off row hw rl tm ord tc) t) (va_A (wX ad cI cL cO sc sd src itm knd plc clk ec nf ns nc wt bd off row hw rl tm ord tc) sz)) (XT D vwCl (tysX cI cL cO) (va_A (wX ad cI cL cO sc sd src itm knd plc clk ec nf ns nc wt bd off row hw rl tm ord tc) sz) (wX ad cI cL cO sc sd src itm knd plc clk ec nf ns nc wt bd off row hw rl tm ord tc) Qt) args s rm_X_ordered.cells rm_X_ordered.slots (va_A (wX ad cI cL cO sc sd src itm knd plc clk ec nf ns nc wt bd off row hw rl tm ord tc) sz)) ce sl (wX ad cI cL cO sc sd src itm knd plc clk ec nf ns nc wt bd off row hw rl tm ord tc) pc lv [.int r] := fun ce sl h1 h2 r u hq pc lv hd => x_iret (wf := fun u => (wX ad cI cL cO sc sd src itm knd plc clk ec nf ns nc wt bd off row hw rl tm ord tc)) hC h1 h2 hr hlk hd hq rfl
  show XW p l e rm_X_ordered s m args below meth c D vwCl (va_A (wX ad cI cL cO sc sd src itm knd plc clk ec nf ns nc wt bd off row hw rl tm ord tc) sz) 3 _ 0 0 (wX ad cI cL cO sc sd src itm knd plc clk ec nf ns nc wt bd off row hw rl tm ord tc) 0 [(0, .ref (ad 0)), (1, .int a1), (2, .int a2)] []
  unfold X_ordered_wp at h
  refine x_iload_n hC dX_ordered_0 rfl 1 rfl ?_
  refine x_callSvT (S := Unit) (wf := fun u => (wX ad cI cL cO sc sd src itm knd plc clk ec nf ns nc wt bd off row hw rl tm ord tc)) hC (by decide) (by decide) [.int a1] (fun sz => c_X_checkItem htr h sz) (by decide) (by decide) k_x125 k_x126 k_x127 (by decide) 1 rfl (by decide +kernel) ⟨by decide, by decide⟩ (Nat.le_of_ble_eq_true rfl) k_x128 rfl dX_ordered_1 hlk hnh (fun _ h9 => h9) (fun u_2 h => ?_)
  refine x_aload_n hC dX_ordered_4 rfl 0 rfl ?_
  refine x_callVvT (S := Unit) (wf := fun u => (wX ad cI cL cO sc sd src itm knd plc clk ec nf ns nc wt bd off row hw rl tm ord tc)) hC (by decide) (by decide) [] (fun sz => c_X_checkSettled htr h sz) (by decide) (by decide) k_x186 k_x187 k_x188 (by decide) 0 rfl (by decide +kernel) ⟨by decide, by decide⟩ (Nat.le_of_ble_eq_true rfl) k_x189 k_x190 wX_0 rfl rfl dX_ordered_5 hlk hnh (fun _ h9 => h9) (fun u_4 h => ?_)
  refine x_aload_n hC dX_ordered_8 rfl 0 rfl ?_
  refine x_get hC iX 0 wX_0 rfl 4 (by decide) k_x152 rfl rfl dX_ordered_9 ?_
  refine x_aload_n hC dX_ordered_12 rfl 0 rfl ?_
  refine x_get hC iX 0 wX_0 rfl 0 (by decide) k_x104 rfl rfl dX_ordered_13 ?_
  refine x_iload_n hC dX_ordered_16 rfl 1 rfl ?_
  refine x_iload_n hC dX_ordered_17 rfl 2 rfl ?_
  refine x_callVi (S := Unit) (wf := fun u => (wX ad cI cL cO sc sd src itm knd plc clk ec nf ns nc wt bd off row hw rl tm ord tc)) hC [.ref (ad 1), .int a1, .int a2] (fun sz => c_Timeline_eventOf_1 h sz) (by decide) (by decide) k_x193 k_x194 k_x195 (by decide) 3 rfl (by decide +kernel) ⟨by decide, by decide⟩ (Nat.le_of_ble_eq_true rfl) k_x196 k_x197 wX_17 rfl rfl dX_ordered_18 (fun _ h9 => h9) (fun r_5 u_6 h => ?_)
  exact hret _ _ (by decide) (by decide) r_5 () h _ _ dX_ordered_21

/-! EventOrder.implied(II)I -/
abbrev rm_X_implied : Room := { frames := 7, cells := 1, slots := 6, locals := 140 }
def X_implied_wp (sd : Int32) (itm : (Nat → Int32)) (knd : (Nat → Int32)) (plc : (Nat → Int32)) (tm : (Nat → Int64)) (ord : (Nat → Int32)) (tc : Int32) (a1 : Int32) (a2 : Int32) (Qr : Int32 → Unit → Prop) (Qt : Nat → Prop) : Prop := X_isBag_wp a1 (fun (r_1 : Int32) (u_2 : Unit) => ((¬ r_1 = 0 → ((a2 < 0 → Qt 0) ∧ (¬ a2 < 0 → ((a2 < 100 → X_checkSettled_wp sd (fun (u_7 : Unit) => Timeline_countImplied_1_wp itm knd plc tm ord tc a1 a2 (fun (r_8 : Int32) (u_9 : Unit) => Qr r_8 ())) Qt) ∧ (¬ a2 < 100 → Qt 0))))) ∧ (r_1 = 0 → Qt 0)))
set_option maxHeartbeats 4000000 in
set_option maxRecDepth 100000 in
theorem c_X_implied {l : Launch} {D : va_G} {ad : Nat → Nat} {cI cL cO : ClassId} {sc : Int32} {sd : Int32} {src : (Nat → Int32)} {itm : (Nat → Int32)} {knd : (Nat → Int32)} {plc : (Nat → Int32)} {clk : (Nat → Int64)} {ec : Int32} {nf : (Nat → Int32)} {ns : (Nat → Int32)} {nc : Int32} {wt : (Nat → Nat → Int64)} {bd : (Nat → Nat → Int64)} {off : (Nat → Int64)} {row : (Nat → Int32)} {hw : (Nat → Nat → Int64)} {rl : Int32} {tm : (Nat → Int64)} {ord : (Nat → Int32)} {tc : Int32} {a1 : Int32} {a2 : Int32} {Qr : Int32 → Unit → Prop} {Qt : Nat → Prop} (htr : l.stackTraces = false) (h : X_implied_wp sd itm knd plc tm ord tc a1 a2 Qr Qt) (sz : Nat) : vx_Met l yX_implied (Cond.code yX_implied bX_implied 3 (some .int) :: TBL) rm_X_implied (va_Pc [.ref (ad 0), .int a1, .int a2] (XP D vwCl (tysX cI cL cO) (wX ad cI cL cO sc sd src itm knd plc clk ec nf ns nc wt bd off row hw rl tm ord tc) sz)) (va_Qi Qr (fun u t => XB D vwCl (tysX cI cL cO) (va_A (wX ad cI cL cO sc sd src itm knd plc clk ec nf ns nc wt bd off row hw rl tm ord tc) sz) (wX ad cI cL cO sc sd src itm knd plc clk ec nf ns nc wt bd off row hw rl tm ord tc) t) (va_A (wX ad cI cL cO sc sd src itm knd plc clk ec nf ns nc wt bd off row hw rl tm ord tc) sz)) (XT D vwCl (tysX cI cL cO) (va_A (wX ad cI cL cO sc sd src itm knd plc clk ec nf ns nc wt bd off row hw rl tm ord tc) sz) (wX ad cI cL cO sc sd src itm knd plc clk ec nf ns nc wt bd off row hw rl tm ord tc) Qt) rm_X_implied.cells rm_X_implied.slots (va_A (wX ad cI cL cO sc sd src itm knd plc clk ec nf ns nc wt bd off row hw rl tm ord tc) sz) := by
  refine x_met [.ref (ad 0), .int a1, .int a2] TBL_good (by decide) (Nat.le_of_ble_eq_true rfl) ?_
  intro p e s m args below meth c hC hr hlk hnm hnh
  have hret : ∀ (ce sl : Nat), ce ≤ rm_X_implied.cells → sl ≤ rm_X_implied.slots → ∀ (r : Int32) (u : Unit), Qr r u → ∀ (pc : Nat) (lv : List (Nat × Value)), decode bX_implied pc = .ok (.ireturn, 1) → XW p l e rm_X_implied s m args below meth c D vwCl (va_A (wX ad cI cL cO sc sd src itm knd plc clk ec nf ns nc wt bd off row hw rl tm ord tc) sz) 3 (vx_MQ below (va_Qi Qr (fun u t => XB D vwCl (tysX cI cL cO) (va_A (wX ad cI cL cO sc sd src itm knd plc clk ec nf ns nc wt bd off row hw rl tm ord tc) sz) (wX ad cI cL cO sc sd src itm knd plc clk ec nf ns nc wt bd off row hw rl tm ord tc) t) (va_A (wX ad cI cL cO sc sd src itm knd plc clk ec nf ns nc wt bd off row hw rl tm ord tc) sz)) (XT D vwCl (tysX cI cL cO) (va_A (wX ad cI cL cO sc sd src itm knd plc clk ec nf ns nc wt bd off row hw rl tm ord tc) sz) (wX ad cI cL cO sc sd src itm knd plc clk ec nf ns nc wt bd off row hw rl tm ord tc) Qt) args s rm_X_implied.cells rm_X_implied.slots (va_A (wX ad cI cL cO sc sd src itm knd plc clk ec nf ns nc wt bd off row hw rl tm ord tc) sz)) ce sl (wX ad cI cL cO sc sd src itm knd plc clk ec nf ns nc wt bd off row hw rl tm ord tc) pc lv [.int r] := fun ce sl h1 h2 r u hq pc lv hd => x_iret (wf := fun u => (wX ad cI cL cO sc sd src itm knd plc clk ec nf ns nc wt bd off row hw rl tm ord tc)) hC h1 h2 hr hlk hd hq rfl
  show XW p l e rm_X_implied s m args below meth c D vwCl (va_A (wX ad cI cL cO sc sd src itm knd plc clk ec nf ns nc wt bd off row hw rl tm ord tc) sz) 3 _ 0 0 (wX ad cI cL cO sc sd src itm knd plc clk ec nf ns nc wt bd off row hw rl tm ord tc) 0 [(0, .ref (ad 0)), (1, .int a1), (2, .int a2)] []
  unfold X_implied_wp at h
  refine x_iload_n hC dX_implied_0 rfl 1 rfl ?_
  refine x_callSi (S := Unit) (wf := fun u => (wX ad cI cL cO sc sd src itm knd plc clk ec nf ns nc wt bd off row hw rl tm ord tc)) hC [.int a1] (fun sz => c_X_isBag h sz) (by decide) (by decide) k_x97 k_x98 k_x99 (by decide) 1 rfl (by decide +kernel) ⟨by decide, by decide⟩ (Nat.le_of_ble_eq_true rfl) k_x100 rfl dX_implied_1 (fun _ h9 => h9) (fun r_1 u_2 h => ?_)
  refine x_if_ne (tgt := 17) hC dX_implied_4 (by decide) (fun c_3 => ?_) (fun c_3 => ?_)
  · have h := h.1 c_3
    refine x_iload_n hC dX_implied_17 rfl 2 rfl ?_
    refine x_if_lt (tgt := 27) hC dX_implied_18 (by decide) (fun c_4 => ?_) (fun c_4 => ?_)
    · have h := h.1 c_4
      exact x_throw hC 0 rfl htr hlk hnh dX_implied_27 dX_implied_30 dX_implied_31 dX_implied_33 dX_implied_36 k_x84 k_x85 (by decide +kernel) x_up_fit k_xa86 k_xo87 k_xs198 (by decide) (by decide) ⟨by decide, by decide⟩ (by decide) (by decide) h
    · have h := h.2 c_4
      refine x_iload_n hC dX_implied_21 rfl 2 rfl ?_
      refine x_bipush (v := 100) hC dX_implied_22 (by decide) ?_
      refine x_icmp_lt (tgt := 37) hC dX_implied_24 (by decide) (fun c_5 => ?_) (fun c_5 => ?_)
      · have h := h.1 c_5
        refine x_aload_n hC dX_implied_37 rfl 0 rfl ?_
        refine x_callVvT (S := Unit) (wf := fun u => (wX ad cI cL cO sc sd src itm knd plc clk ec nf ns nc wt bd off row hw rl tm ord tc)) hC (by decide) (by decide) [] (fun sz => c_X_checkSettled htr h sz) (by decide) (by decide) k_x186 k_x187 k_x188 (by decide) 0 rfl (by decide +kernel) ⟨by decide, by decide⟩ (Nat.le_of_ble_eq_true rfl) k_x189 k_x190 wX_0 rfl rfl dX_implied_38 hlk hnh (fun _ h9 => h9) (fun u_7 h => ?_)
        refine x_aload_n hC dX_implied_41 rfl 0 rfl ?_
        refine x_get hC iX 0 wX_0 rfl 4 (by decide) k_x152 rfl rfl dX_implied_42 ?_
        refine x_aload_n hC dX_implied_45 rfl 0 rfl ?_
        refine x_get hC iX 0 wX_0 rfl 0 (by decide) k_x104 rfl rfl dX_implied_46 ?_
        refine x_iload_n hC dX_implied_49 rfl 1 rfl ?_
        refine x_iload_n hC dX_implied_50 rfl 2 rfl ?_
        refine x_callVi (S := Unit) (wf := fun u => (wX ad cI cL cO sc sd src itm knd plc clk ec nf ns nc wt bd off row hw rl tm ord tc)) hC [.ref (ad 1), .int a1, .int a2] (fun sz => c_Timeline_countImplied_1 h sz) (by decide) (by decide) k_x199 k_x200 k_x201 (by decide) 3 rfl (by decide +kernel) ⟨by decide, by decide⟩ (Nat.le_of_ble_eq_true rfl) k_x202 k_x203 wX_17 rfl rfl dX_implied_51 (fun _ h9 => h9) (fun r_8 u_9 h => ?_)
        exact hret _ _ (by decide) (by decide) r_8 () h _ _ dX_implied_54
      · have h := h.2 c_5
        exact x_throw hC 0 rfl htr hlk hnh dX_implied_27 dX_implied_30 dX_implied_31 dX_implied_33 dX_implied_36 k_x84 k_x85 (by decide +kernel) x_up_fit k_xa86 k_xo87 k_xs198 (by decide) (by decide) ⟨by decide, by decide⟩ (by decide) (by decide) h
  · have h := h.2 c_3
    exact x_throw hC 0 rfl htr hlk hnh dX_implied_7 dX_implied_10 dX_implied_11 dX_implied_13 dX_implied_16 k_x84 k_x85 (by decide +kernel) x_up_fit k_xa86 k_xo87 k_xs204 (by decide) (by decide) ⟨by decide, by decide⟩ (by decide) (by decide) h

/-! EventOrder.correct(IJ)I -/
abbrev rm_X_correct : Room := { frames := 7, cells := 2, slots := 12, locals := 141 }
def X_correct_wp (sd : Int32) (src : (Nat → Int32)) (itm : (Nat → Int32)) (knd : (Nat → Int32)) (plc : (Nat → Int32)) (clk : (Nat → Int64)) (ec : Int32) (a1 : Int32) (a2 : Int64) (Qr : Int32 → (Int32 × (Nat → Int64)) → Prop) (Qt : Nat → Prop) : Prop := X_checkEvent_wp ec a1 (fun (u_2 : Unit) => X_checkClock_wp a2 (fun (u_4 : Unit) => vp_in a1 301 ∧ vp_in a1 301 ∧ vp_in a1 301 ∧ vp_in a1 301 ∧ Events_has_wp src itm knd plc clk ec (src a1.toNatClampNeg) (itm a1.toNatClampNeg) (knd a1.toNatClampNeg) (plc a1.toNatClampNeg) a2 (fun (r_9 : Int32) (u_10 : Unit) => ((r_9 = 0 → vp_in a1 301 ∧ Qr 1 (0, vp_updL clk a1.toNatClampNeg a2)) ∧ (¬ r_9 = 0 → Qr 0 (sd, clk))))) Qt) Qt
set_option maxHeartbeats 4000000 in
set_option maxRecDepth 100000 in
theorem c_X_correct {l : Launch} {D : va_G} {ad : Nat → Nat} {cI cL cO : ClassId} {sc : Int32} {sd : Int32} {src : (Nat → Int32)} {itm : (Nat → Int32)} {knd : (Nat → Int32)} {plc : (Nat → Int32)} {clk : (Nat → Int64)} {ec : Int32} {nf : (Nat → Int32)} {ns : (Nat → Int32)} {nc : Int32} {wt : (Nat → Nat → Int64)} {bd : (Nat → Nat → Int64)} {off : (Nat → Int64)} {row : (Nat → Int32)} {hw : (Nat → Nat → Int64)} {rl : Int32} {tm : (Nat → Int64)} {ord : (Nat → Int32)} {tc : Int32} {a1 : Int32} {a2 : Int64} {Qr : Int32 → (Int32 × (Nat → Int64)) → Prop} {Qt : Nat → Prop} (htr : l.stackTraces = false) (h : X_correct_wp sd src itm knd plc clk ec a1 a2 Qr Qt) (sz : Nat) : vx_Met l yX_correct (Cond.code yX_correct bX_correct 4 (some .int) :: TBL) rm_X_correct (va_Pc [.ref (ad 0), .int a1, .long a2] (XP D vwCl (tysX cI cL cO) (wX ad cI cL cO sc sd src itm knd plc clk ec nf ns nc wt bd off row hw rl tm ord tc) sz)) (va_Qi Qr (fun u t => XB D vwCl (tysX cI cL cO) (va_A (wX ad cI cL cO sc sd src itm knd plc clk ec nf ns nc wt bd off row hw rl tm ord tc) sz) (wX ad cI cL cO sc u.1 src itm knd plc u.2 ec nf ns nc wt bd off row hw rl tm ord tc) t) (va_A (wX ad cI cL cO sc sd src itm knd plc clk ec nf ns nc wt bd off row hw rl tm ord tc) sz)) (XT D vwCl (tysX cI cL cO) (va_A (wX ad cI cL cO sc sd src itm knd plc clk ec nf ns nc wt bd off row hw rl tm ord tc) sz) (wX ad cI cL cO sc sd src itm knd plc clk ec nf ns nc wt bd off row hw rl tm ord tc) Qt) rm_X_correct.cells rm_X_correct.slots (va_A (wX ad cI cL cO sc sd src itm knd plc clk ec nf ns nc wt bd off row hw rl tm ord tc) sz) := by
  refine x_met [.ref (ad 0), .int a1, .long a2] TBL_good (by decide) (Nat.le_of_ble_eq_true rfl) ?_
  intro p e s m args below meth c hC hr hlk hnm hnh
  have hret : ∀ (ce sl : Nat), ce ≤ rm_X_correct.cells → sl ≤ rm_X_correct.slots → ∀ (r : Int32) (u : (Int32 × (Nat → Int64))), Qr r u → ∀ (pc : Nat) (lv : List (Nat × Value)), decode bX_correct pc = .ok (.ireturn, 1) → XW p l e rm_X_correct s m args below meth c D vwCl (va_A (wX ad cI cL cO sc sd src itm knd plc clk ec nf ns nc wt bd off row hw rl tm ord tc) sz) 4 (vx_MQ below (va_Qi Qr (fun u t => XB D vwCl (tysX cI cL cO) (va_A (wX ad cI cL cO sc sd src itm knd plc clk ec nf ns nc wt bd off row hw rl tm ord tc) sz) (wX ad cI cL cO sc u.1 src itm knd plc u.2 ec nf ns nc wt bd off row hw rl tm ord tc) t) (va_A (wX ad cI cL cO sc sd src itm knd plc clk ec nf ns nc wt bd off row hw rl tm ord tc) sz)) (XT D vwCl (tysX cI cL cO) (va_A (wX ad cI cL cO sc sd src itm knd plc clk ec nf ns nc wt bd off row hw rl tm ord tc) sz) (wX ad cI cL cO sc sd src itm knd plc clk ec nf ns nc wt bd off row hw rl tm ord tc) Qt) args s rm_X_correct.cells rm_X_correct.slots (va_A (wX ad cI cL cO sc sd src itm knd plc clk ec nf ns nc wt bd off row hw rl tm ord tc) sz)) ce sl (wX ad cI cL cO sc u.1 src itm knd plc u.2 ec nf ns nc wt bd off row hw rl tm ord tc) pc lv [.int r] := fun ce sl h1 h2 r u hq pc lv hd => x_iret (wf := fun u => (wX ad cI cL cO sc u.1 src itm knd plc u.2 ec nf ns nc wt bd off row hw rl tm ord tc)) hC h1 h2 hr hlk hd hq rfl
  show XW p l e rm_X_correct s m args below meth c D vwCl (va_A (wX ad cI cL cO sc sd src itm knd plc clk ec nf ns nc wt bd off row hw rl tm ord tc) sz) 4 _ 0 0 (wX ad cI cL cO sc sd src itm knd plc clk ec nf ns nc wt bd off row hw rl tm ord tc) 0 [(0, .ref (ad 0)), (1, .int a1), (2, .long a2)] []
  unfold X_correct_wp at h
  refine x_aload_n hC dX_correct_0 rfl 0 rfl ?_
  refine x_iload_n hC dX_correct_1 rfl 1 rfl ?_
  refine x_callVvT (S := Unit) (wf := fun u => (wX ad cI cL cO sc sd src itm knd plc clk ec nf ns nc wt bd off row hw rl tm ord tc)) hC (by decide) (by decide) [.int a1] (fun sz => c_X_checkEvent htr h sz) (by decide) (by decide) k_x144 k_x145 k_x146 (by decide) 1 rfl (by decide +kernel) ⟨by decide, by decide⟩ (Nat.le_of_ble_eq_true rfl) k_x147 k_x148 wX_0 rfl rfl dX_correct_2 hlk hnh (fun _ h9 => h9) (fun u_2 h => ?_)
  refine x_lload_n hC dX_correct_5 rfl 2 rfl ?_
  refine x_callSvT (S := Unit) (wf := fun u => (wX ad cI cL cO sc sd src itm knd plc clk ec nf ns nc wt bd off row hw rl tm ord tc)) hC (by decide) (by decide) [.long a2] (fun sz => c_X_checkClock htr h sz) (by decide) (by decide) k_x117 k_x118 k_x119 (by decide) 1 rfl (by decide +kernel) ⟨by decide, by decide⟩ (Nat.le_of_ble_eq_true rfl) k_x120 rfl dX_correct_6 hlk hnh (fun _ h9 => h9) (fun u_4 h => ?_)
  refine x_aload_n hC dX_correct_9 rfl 0 rfl ?_
  refine x_get hC iX 0 wX_0 rfl 0 (by decide) k_x104 rfl rfl dX_correct_10 ?_
  refine x_aload_n hC dX_correct_13 rfl 0 rfl ?_
  refine x_get hC iX 0 wX_0 rfl 0 (by decide) k_x104 rfl rfl dX_correct_14 ?_
  refine x_get hC iEv 1 wX_1 rfl 0 (by decide) k_x205 rfl rfl dX_correct_17 ?_
  refine x_iload_n hC dX_correct_20 rfl 1 rfl ?_
  obtain ⟨hb_5, h⟩ := h
  refine x_iald hC 2 0 wX_2 rfl hb_5 dX_correct_21 ?_
  refine x_aload_n hC dX_correct_22 rfl 0 rfl ?_
  refine x_get hC iX 0 wX_0 rfl 0 (by decide) k_x104 rfl rfl dX_correct_23 ?_
  refine x_get hC iEv 1 wX_1 rfl 1 (by decide) k_x206 rfl rfl dX_correct_26 ?_
  refine x_iload_n hC dX_correct_29 rfl 1 rfl ?_
  obtain ⟨hb_6, h⟩ := h
  refine x_iald hC 3 0 wX_3 rfl hb_6 dX_correct_30 ?_
  refine x_aload_n hC dX_correct_31 rfl 0 rfl ?_
  refine x_get hC iX 0 wX_0 rfl 0 (by decide) k_x104 rfl rfl dX_correct_32 ?_
  refine x_get hC iEv 1 wX_1 rfl 2 (by decide) k_x207 rfl rfl dX_correct_35 ?_
  refine x_iload_n hC dX_correct_38 rfl 1 rfl ?_
  obtain ⟨hb_7, h⟩ := h
  refine x_iald hC 4 0 wX_4 rfl hb_7 dX_correct_39 ?_
  refine x_aload_n hC dX_correct_40 rfl 0 rfl ?_
  refine x_get hC iX 0 wX_0 rfl 0 (by decide) k_x104 rfl rfl dX_correct_41 ?_
  refine x_get hC iEv 1 wX_1 rfl 3 (by decide) k_x208 rfl rfl dX_correct_44 ?_
  refine x_iload_n hC dX_correct_47 rfl 1 rfl ?_
  obtain ⟨hb_8, h⟩ := h
  refine x_iald hC 5 0 wX_5 rfl hb_8 dX_correct_48 ?_
  refine x_lload_n hC dX_correct_49 rfl 2 rfl ?_
  refine x_callVi (S := Unit) (wf := fun u => (wX ad cI cL cO sc sd src itm knd plc clk ec nf ns nc wt bd off row hw rl tm ord tc)) hC [.int (src a1.toNatClampNeg), .int (itm a1.toNatClampNeg), .int (knd a1.toNatClampNeg), .int (plc a1.toNatClampNeg), .long a2] (fun sz => c_Events_has h sz) (by decide) (by decide) k_x112 k_x113 k_x114 (by decide) 5 rfl (by decide +kernel) ⟨by decide, by decide⟩ (Nat.le_of_ble_eq_true rfl) k_x115 k_x116 wX_1 rfl rfl dX_correct_50 (fun _ h9 => h9) (fun r_9 u_10 h => ?_)
  refine x_if_eq (tgt := 58) hC dX_correct_53 (by decide) (fun c_11 => ?_) (fun c_11 => ?_)
  · have h := h.1 c_11
    refine x_aload_n hC dX_correct_58 rfl 0 rfl ?_
    refine x_iconst (v := 0) hC dX_correct_59 (by decide) ?_
    refine x_put (ty := .boolean) (ws' := (wX ad cI cL cO sc 0 src itm knd plc clk ec nf ns nc wt bd off row hw rl tm ord tc)) hC iX 0 wX_0 rfl 6 (by decide) k_x78 rfl tX tX_ok nX rfl (by decide +kernel) rfl rfl (Nat.le_of_ble_eq_true rfl) rfl dX_correct_60 ?_
    refine x_aload_n hC dX_correct_63 rfl 0 rfl ?_
    refine x_get hC iX 0 wX_0 rfl 0 (by decide) k_x104 rfl rfl dX_correct_64 ?_
    refine x_get hC iEv 1 wX_1 rfl 4 (by decide) k_x209 rfl rfl dX_correct_67 ?_
    refine x_iload_n hC dX_correct_70 rfl 1 rfl ?_
    refine x_lload_n hC dX_correct_71 rfl 2 rfl ?_
    obtain ⟨hb_12, h⟩ := h
    refine x_last (ws' := (wX ad cI cL cO sc 0 src itm knd plc (vp_updL clk a1.toNatClampNeg a2) ec nf ns nc wt bd off row hw rl tm ord tc)) hC 6 1 wX_6 rfl hb_12 wX_6_set dX_correct_72 ?_
    refine x_iconst (v := 1) hC dX_correct_73 (by decide) ?_
    exact hret _ _ (by decide) (by decide) 1 (0, vp_updL clk a1.toNatClampNeg a2) h _ _ dX_correct_74
  · have h := h.2 c_11
    refine x_iconst (v := 0) hC dX_correct_56 (by decide) ?_
    exact hret _ _ (by decide) (by decide) 0 (sd, clk) h _ _ dX_correct_57

/-! EventOrder.ask(II)I -/
abbrev rm_X_ask : Room := { frames := 6, cells := 1, slots := 6, locals := 120 }
def X_ask_wp (src : (Nat → Int32)) (itm : (Nat → Int32)) (knd : (Nat → Int32)) (plc : (Nat → Int32)) (ec : Int32) (a1 : Int32) (a2 : Int32) (Qr : Int32 → Unit → Prop) (Qt : Nat → Prop) : Prop := ((a1 = 0 → Events_countIn_3_wp itm ec a2 (fun (r_2 : Int32) (u_3 : Unit) => Qr r_2 ())) ∧ (¬ a1 = 0 → ((a1 = 1 → Events_countIn_5_wp plc ec a2 (fun (r_5 : Int32) (u_6 : Unit) => Qr r_5 ())) ∧ (¬ a1 = 1 → ((a1 = 2 → Events_countIn_2_wp src ec a2 (fun (r_8 : Int32) (u_9 : Unit) => Qr r_8 ())) ∧ (¬ a1 = 2 → ((a1 = 3 → Events_countIn_4_wp knd ec a2 (fun (r_11 : Int32) (u_12 : Unit) => Qr r_11 ())) ∧ (¬ a1 = 3 → Qt 1))))))))
set_option maxHeartbeats 4000000 in
set_option maxRecDepth 100000 in
theorem c_X_ask {l : Launch} {D : va_G} {ad : Nat → Nat} {cI cL cO : ClassId} {sc : Int32} {sd : Int32} {src : (Nat → Int32)} {itm : (Nat → Int32)} {knd : (Nat → Int32)} {plc : (Nat → Int32)} {clk : (Nat → Int64)} {ec : Int32} {nf : (Nat → Int32)} {ns : (Nat → Int32)} {nc : Int32} {wt : (Nat → Nat → Int64)} {bd : (Nat → Nat → Int64)} {off : (Nat → Int64)} {row : (Nat → Int32)} {hw : (Nat → Nat → Int64)} {rl : Int32} {tm : (Nat → Int64)} {ord : (Nat → Int32)} {tc : Int32} {a1 : Int32} {a2 : Int32} {Qr : Int32 → Unit → Prop} {Qt : Nat → Prop} (htr : l.stackTraces = false) (h : X_ask_wp src itm knd plc ec a1 a2 Qr Qt) (sz : Nat) : vx_Met l yX_ask (Cond.code yX_ask bX_ask 3 (some .int) :: TBL) rm_X_ask (va_Pc [.ref (ad 0), .int a1, .int a2] (XP D vwCl (tysX cI cL cO) (wX ad cI cL cO sc sd src itm knd plc clk ec nf ns nc wt bd off row hw rl tm ord tc) sz)) (va_Qi Qr (fun u t => XB D vwCl (tysX cI cL cO) (va_A (wX ad cI cL cO sc sd src itm knd plc clk ec nf ns nc wt bd off row hw rl tm ord tc) sz) (wX ad cI cL cO sc sd src itm knd plc clk ec nf ns nc wt bd off row hw rl tm ord tc) t) (va_A (wX ad cI cL cO sc sd src itm knd plc clk ec nf ns nc wt bd off row hw rl tm ord tc) sz)) (XT D vwCl (tysX cI cL cO) (va_A (wX ad cI cL cO sc sd src itm knd plc clk ec nf ns nc wt bd off row hw rl tm ord tc) sz) (wX ad cI cL cO sc sd src itm knd plc clk ec nf ns nc wt bd off row hw rl tm ord tc) Qt) rm_X_ask.cells rm_X_ask.slots (va_A (wX ad cI cL cO sc sd src itm knd plc clk ec nf ns nc wt bd off row hw rl tm ord tc) sz) := by
  refine x_met [.ref (ad 0), .int a1, .int a2] TBL_good (by decide) (Nat.le_of_ble_eq_true rfl) ?_
  intro p e s m args below meth c hC hr hlk hnm hnh
  have hret : ∀ (ce sl : Nat), ce ≤ rm_X_ask.cells → sl ≤ rm_X_ask.slots → ∀ (r : Int32) (u : Unit), Qr r u → ∀ (pc : Nat) (lv : List (Nat × Value)), decode bX_ask pc = .ok (.ireturn, 1) → XW p l e rm_X_ask s m args below meth c D vwCl (va_A (wX ad cI cL cO sc sd src itm knd plc clk ec nf ns nc wt bd off row hw rl tm ord tc) sz) 3 (vx_MQ below (va_Qi Qr (fun u t => XB D vwCl (tysX cI cL cO) (va_A (wX ad cI cL cO sc sd src itm knd plc clk ec nf ns nc wt bd off row hw rl tm ord tc) sz) (wX ad cI cL cO sc sd src itm knd plc clk ec nf ns nc wt bd off row hw rl tm ord tc) t) (va_A (wX ad cI cL cO sc sd src itm knd plc clk ec nf ns nc wt bd off row hw rl tm ord tc) sz)) (XT D vwCl (tysX cI cL cO) (va_A (wX ad cI cL cO sc sd src itm knd plc clk ec nf ns nc wt bd off row hw rl tm ord tc) sz) (wX ad cI cL cO sc sd src itm knd plc clk ec nf ns nc wt bd off row hw rl tm ord tc) Qt) args s rm_X_ask.cells rm_X_ask.slots (va_A (wX ad cI cL cO sc sd src itm knd plc clk ec nf ns nc wt bd off row hw rl tm ord tc) sz)) ce sl (wX ad cI cL cO sc sd src itm knd plc clk ec nf ns nc wt bd off row hw rl tm ord tc) pc lv [.int r] := fun ce sl h1 h2 r u hq pc lv hd => x_iret (wf := fun u => (wX ad cI cL cO sc sd src itm knd plc clk ec nf ns nc wt bd off row hw rl tm ord tc)) hC h1 h2 hr hlk hd hq rfl
  show XW p l e rm_X_ask s m args below meth c D vwCl (va_A (wX ad cI cL cO sc sd src itm knd plc clk ec nf ns nc wt bd off row hw rl tm ord tc) sz) 3 _ 0 0 (wX ad cI cL cO sc sd src itm knd plc clk ec nf ns nc wt bd off row hw rl tm ord tc) 0 [(0, .ref (ad 0)), (1, .int a1), (2, .int a2)] []
  unfold X_ask_wp at h
  refine x_iload_n hC dX_ask_0 rfl 1 rfl ?_
  by_cases c_1 : a1 = 0
  · have h := h.1 c_1
    refine x_swIn (tgt := 32) hC 0 c_1 dX_ask_1 (by decide) (by decide) rfl (by decide) ?_
    refine x_aload_n hC dX_ask_32 rfl 0 rfl ?_
    refine x_get hC iX 0 wX_0 rfl 0 (by decide) k_x104 rfl rfl dX_ask_33 ?_
    refine x_aload_n hC dX_ask_36 rfl 0 rfl ?_
    refine x_get hC iX 0 wX_0 rfl 0 (by decide) k_x104 rfl rfl dX_ask_37 ?_
    refine x_get hC iEv 1 wX_1 rfl 1 (by decide) k_x206 rfl rfl dX_ask_40 ?_
    refine x_iload_n hC dX_ask_43 rfl 2 rfl ?_
    refine x_callVi (S := Unit) (wf := fun u => (wX ad cI cL cO sc sd src itm knd plc clk ec nf ns nc wt bd off row hw rl tm ord tc)) hC [.ref (ad 3), .int a2] (fun sz => c_Events_countIn_3 h sz) (by decide) (by decide) k_x210 k_x211 k_x212 (by decide) 2 rfl (by decide +kernel) ⟨by decide, by decide⟩ (Nat.le_of_ble_eq_true rfl) k_x213 k_x214 wX_1 rfl rfl dX_ask_44 (fun _ h9 => h9) (fun r_2 u_3 h => ?_)
    exact hret _ _ (by decide) (by decide) r_2 () h _ _ dX_ask_47
  · have h := h.2 c_1
    by_cases c_4 : a1 = 1
    · have h := h.1 c_4
      refine x_swIn (tgt := 48) hC 1 c_4 dX_ask_1 (by decide) (by decide) rfl (by decide) ?_
      refine x_aload_n hC dX_ask_48 rfl 0 rfl ?_
      refine x_get hC iX 0 wX_0 rfl 0 (by decide) k_x104 rfl rfl dX_ask_49 ?_
      refine x_aload_n hC dX_ask_52 rfl 0 rfl ?_
      refine x_get hC iX 0 wX_0 rfl 0 (by decide) k_x104 rfl rfl dX_ask_53 ?_
      refine x_get hC iEv 1 wX_1 rfl 3 (by decide) k_x208 rfl rfl dX_ask_56 ?_
      refine x_iload_n hC dX_ask_59 rfl 2 rfl ?_
      refine x_callVi (S := Unit) (wf := fun u => (wX ad cI cL cO sc sd src itm knd plc clk ec nf ns nc wt bd off row hw rl tm ord tc)) hC [.ref (ad 5), .int a2] (fun sz => c_Events_countIn_5 h sz) (by decide) (by decide) k_x210 k_x211 k_x212 (by decide) 2 rfl (by decide +kernel) ⟨by decide, by decide⟩ (Nat.le_of_ble_eq_true rfl) k_x213 k_x214 wX_1 rfl rfl dX_ask_60 (fun _ h9 => h9) (fun r_5 u_6 h => ?_)
      exact hret _ _ (by decide) (by decide) r_5 () h _ _ dX_ask_63
    · have h := h.2 c_4
      by_cases c_7 : a1 = 2
      · have h := h.1 c_7
        refine x_swIn (tgt := 64) hC 2 c_7 dX_ask_1 (by decide) (by decide) rfl (by decide) ?_
        refine x_aload_n hC dX_ask_64 rfl 0 rfl ?_
        refine x_get hC iX 0 wX_0 rfl 0 (by decide) k_x104 rfl rfl dX_ask_65 ?_
        refine x_aload_n hC dX_ask_68 rfl 0 rfl ?_
        refine x_get hC iX 0 wX_0 rfl 0 (by decide) k_x104 rfl rfl dX_ask_69 ?_
        refine x_get hC iEv 1 wX_1 rfl 0 (by decide) k_x205 rfl rfl dX_ask_72 ?_
        refine x_iload_n hC dX_ask_75 rfl 2 rfl ?_
        refine x_callVi (S := Unit) (wf := fun u => (wX ad cI cL cO sc sd src itm knd plc clk ec nf ns nc wt bd off row hw rl tm ord tc)) hC [.ref (ad 2), .int a2] (fun sz => c_Events_countIn_2 h sz) (by decide) (by decide) k_x210 k_x211 k_x212 (by decide) 2 rfl (by decide +kernel) ⟨by decide, by decide⟩ (Nat.le_of_ble_eq_true rfl) k_x213 k_x214 wX_1 rfl rfl dX_ask_76 (fun _ h9 => h9) (fun r_8 u_9 h => ?_)
        exact hret _ _ (by decide) (by decide) r_8 () h _ _ dX_ask_79
      · have h := h.2 c_7
        by_cases c_10 : a1 = 3
        · have h := h.1 c_10
          refine x_swIn (tgt := 80) hC 3 c_10 dX_ask_1 (by decide) (by decide) rfl (by decide) ?_
          refine x_aload_n hC dX_ask_80 rfl 0 rfl ?_
          refine x_get hC iX 0 wX_0 rfl 0 (by decide) k_x104 rfl rfl dX_ask_81 ?_
          refine x_aload_n hC dX_ask_84 rfl 0 rfl ?_
          refine x_get hC iX 0 wX_0 rfl 0 (by decide) k_x104 rfl rfl dX_ask_85 ?_
          refine x_get hC iEv 1 wX_1 rfl 2 (by decide) k_x207 rfl rfl dX_ask_88 ?_
          refine x_iload_n hC dX_ask_91 rfl 2 rfl ?_
          refine x_callVi (S := Unit) (wf := fun u => (wX ad cI cL cO sc sd src itm knd plc clk ec nf ns nc wt bd off row hw rl tm ord tc)) hC [.ref (ad 4), .int a2] (fun sz => c_Events_countIn_4 h sz) (by decide) (by decide) k_x210 k_x211 k_x212 (by decide) 2 rfl (by decide +kernel) ⟨by decide, by decide⟩ (Nat.le_of_ble_eq_true rfl) k_x213 k_x214 wX_1 rfl rfl dX_ask_92 (fun _ h9 => h9) (fun r_11 u_12 h => ?_)
          exact hret _ _ (by decide) (by decide) r_11 () h _ _ dX_ask_95
        · have h := h.2 c_10
          refine x_swOut (tgt := 96) hC dX_ask_1 (by have e0 := x_neI (v := 0) (n := 0) (by decide) c_1; have e1 := x_neI (v := 1) (n := 1) (by decide) c_4; have e2 := x_neI (v := 2) (n := 2) (by decide) c_7; have e3 := x_neI (v := 3) (n := 3) (by decide) c_10; omega) (by decide) ?_
          exact x_throw hC 1 rfl htr hlk hnh dX_ask_96 dX_ask_99 dX_ask_100 dX_ask_102 dX_ask_105 k_x90 k_x91 (by decide +kernel) x_up_fit k_xa92 k_xo93 k_xs215 (by decide) (by decide) ⟨by decide, by decide⟩ (by decide) (by decide) h

