/-! EventOrder$Events.add(IIIIJ)I -/
abbrev rm_Events_add : Room := { frames := 0, cells := 0, slots := 0, locals := 0 }
def Events_add_wp (src : (Nat → Int32)) (itm : (Nat → Int32)) (knd : (Nat → Int32)) (plc : (Nat → Int32)) (clk : (Nat → Int64)) (ec : Int32) (a1 : Int32) (a2 : Int32) (a3 : Int32) (a4 : Int32) (a5 : Int64) (Qr : Int32 → ((Nat → Int32) × (Nat → Int32) × (Nat → Int32) × (Nat → Int32) × (Nat → Int64) × Int32) → Prop) : Prop := vp_in (ec + 1) 301 ∧ vp_in (ec + 1) 301 ∧ vp_in (ec + 1) 301 ∧ vp_in (ec + 1) 301 ∧ vp_in (ec + 1) 301 ∧ Qr (ec + 1) (upd src (ec + 1).toNatClampNeg a1, upd itm (ec + 1).toNatClampNeg a2, upd knd (ec + 1).toNatClampNeg a3, upd plc (ec + 1).toNatClampNeg a4, vp_updL clk (ec + 1).toNatClampNeg a5, ec + 1)
set_option maxHeartbeats 4000000 in
set_option maxRecDepth 100000 in
theorem c_Events_add {l : Launch} {D : va_G} {ad : Nat → Nat} {cI cL cO : ClassId} {sc : Int32} {sd : Int32} {src : (Nat → Int32)} {itm : (Nat → Int32)} {knd : (Nat → Int32)} {plc : (Nat → Int32)} {clk : (Nat → Int64)} {ec : Int32} {nf : (Nat → Int32)} {ns : (Nat → Int32)} {nc : Int32} {wt : (Nat → Nat → Int64)} {bd : (Nat → Nat → Int64)} {off : (Nat → Int64)} {row : (Nat → Int32)} {hw : (Nat → Nat → Int64)} {rl : Int32} {tm : (Nat → Int64)} {ord : (Nat → Int32)} {tc : Int32} {a1 : Int32} {a2 : Int32} {a3 : Int32} {a4 : Int32} {a5 : Int64} {Qr : Int32 → ((Nat → Int32) × (Nat → Int32) × (Nat → Int32) × (Nat → Int32) × (Nat → Int64) × Int32) → Prop} (h : Events_add_wp src itm knd plc clk ec a1 a2 a3 a4 a5 Qr) (sz : Nat) : vx_Met l yEv_add (Cond.code yEv_add bEv_add 7 (some .int) :: TBL) rm_Events_add (va_Pc [.ref (ad 1), .int a1, .int a2, .int a3, .int a4, .long a5] (XP D vwCl (tysX cI cL cO) (wX ad cI cL cO sc sd src itm knd plc clk ec nf ns nc wt bd off row hw rl tm ord tc) sz)) (va_Qi Qr (fun u t => XB D vwCl (tysX cI cL cO) (va_A (wX ad cI cL cO sc sd src itm knd plc clk ec nf ns nc wt bd off row hw rl tm ord tc) sz) (wX ad cI cL cO sc sd u.1 u.2.1 u.2.2.1 u.2.2.2.1 u.2.2.2.2.1 u.2.2.2.2.2 nf ns nc wt bd off row hw rl tm ord tc) t) (va_A (wX ad cI cL cO sc sd src itm knd plc clk ec nf ns nc wt bd off row hw rl tm ord tc) sz)) (XT D vwCl (tysX cI cL cO) (va_A (wX ad cI cL cO sc sd src itm knd plc clk ec nf ns nc wt bd off row hw rl tm ord tc) sz) (wX ad cI cL cO sc sd src itm knd plc clk ec nf ns nc wt bd off row hw rl tm ord tc) (fun _ => False)) rm_Events_add.cells rm_Events_add.slots (va_A (wX ad cI cL cO sc sd src itm knd plc clk ec nf ns nc wt bd off row hw rl tm ord tc) sz) := by
  refine x_met [.ref (ad 1), .int a1, .int a2, .int a3, .int a4, .long a5] TBL_good (by decide) (Nat.le_of_ble_eq_true rfl) ?_
  intro p e s m args below meth c hC hr hlk hnm hnh
  have hret : ∀ (ce sl : Nat), ce ≤ rm_Events_add.cells → sl ≤ rm_Events_add.slots → ∀ (r : Int32) (u : ((Nat → Int32) × (Nat → Int32) × (Nat → Int32) × (Nat → Int32) × (Nat → Int64) × Int32)), Qr r u → ∀ (pc : Nat) (lv : List (Nat × Value)), decode bEv_add pc = .ok (.ireturn, 1) → XW p l e rm_Events_add s m args below meth c D vwCl (va_A (wX ad cI cL cO sc sd src itm knd plc clk ec nf ns nc wt bd off row hw rl tm ord tc) sz) 7 (vx_MQ below (va_Qi Qr (fun u t => XB D vwCl (tysX cI cL cO) (va_A (wX ad cI cL cO sc sd src itm knd plc clk ec nf ns nc wt bd off row hw rl tm ord tc) sz) (wX ad cI cL cO sc sd u.1 u.2.1 u.2.2.1 u.2.2.2.1 u.2.2.2.2.1 u.2.2.2.2.2 nf ns nc wt bd off row hw rl tm ord tc) t) (va_A (wX ad cI cL cO sc sd src itm knd plc clk ec nf ns nc wt bd off row hw rl tm ord tc) sz)) (XT D vwCl (tysX cI cL cO) (va_A (wX ad cI cL cO sc sd src itm knd plc clk ec nf ns nc wt bd off row hw rl tm ord tc) sz) (wX ad cI cL cO sc sd src itm knd plc clk ec nf ns nc wt bd off row hw rl tm ord tc) (fun _ => False)) args s rm_Events_add.cells rm_Events_add.slots (va_A (wX ad cI cL cO sc sd src itm knd plc clk ec nf ns nc wt bd off row hw rl tm ord tc) sz)) ce sl (wX ad cI cL cO sc sd u.1 u.2.1 u.2.2.1 u.2.2.2.1 u.2.2.2.2.1 u.2.2.2.2.2 nf ns nc wt bd off row hw rl tm ord tc) pc lv [.int r] := fun ce sl h1 h2 r u hq pc lv hd => x_iret (wf := fun u => (wX ad cI cL cO sc sd u.1 u.2.1 u.2.2.1 u.2.2.2.1 u.2.2.2.2.1 u.2.2.2.2.2 nf ns nc wt bd off row hw rl tm ord tc)) hC h1 h2 hr hlk hd hq rfl
  show XW p l e rm_Events_add s m args below meth c D vwCl (va_A (wX ad cI cL cO sc sd src itm knd plc clk ec nf ns nc wt bd off row hw rl tm ord tc) sz) 7 _ 0 0 (wX ad cI cL cO sc sd src itm knd plc clk ec nf ns nc wt bd off row hw rl tm ord tc) 0 [(0, .ref (ad 1)), (1, .int a1), (2, .int a2), (3, .int a3), (4, .int a4), (5, .long a5)] []
  unfold Events_add_wp at h
  refine x_aload_n hC dEv_add_0 rfl 0 rfl ?_
  refine x_dup hC dEv_add_1 rfl ?_
  refine x_get hC iEv 1 wX_1 rfl 5 (by decide) k_x0 rfl rfl dEv_add_2 ?_
  refine x_iconst (v := 1) hC dEv_add_5 (by decide) ?_
  refine x_iadd hC dEv_add_6 ?_
  refine x_put (ty := .int) (ws' := (wX ad cI cL cO sc sd src itm knd plc clk (ec + 1) nf ns nc wt bd off row hw rl tm ord tc)) hC iEv 1 wX_1 rfl 5 (by decide) k_x0 rfl tEv tEv_ok nEv rfl (by decide +kernel) rfl rfl (Nat.le_of_ble_eq_true rfl) rfl dEv_add_7 ?_
  refine x_aload_n hC dEv_add_10 rfl 0 rfl ?_
  refine x_get hC iEv 1 wX_1 rfl 0 (by decide) k_x1 rfl rfl dEv_add_11 ?_
  refine x_aload_n hC dEv_add_14 rfl 0 rfl ?_
  refine x_get hC iEv 1 wX_1 rfl 5 (by decide) k_x0 rfl rfl dEv_add_15 ?_
  refine x_iload_n hC dEv_add_18 rfl 1 rfl ?_
  obtain ⟨hb_1, h⟩ := h
  refine x_iast (ws' := (wX ad cI cL cO sc sd (upd src (ec + 1).toNatClampNeg a1) itm knd plc clk (ec + 1) nf ns nc wt bd off row hw rl tm ord tc)) hC 2 0 wX_2 rfl hb_1 wX_2_set dEv_add_19 ?_
  refine x_aload_n hC dEv_add_20 rfl 0 rfl ?_
  refine x_get hC iEv 1 wX_1 rfl 1 (by decide) k_x2 rfl rfl dEv_add_21 ?_
  refine x_aload_n hC dEv_add_24 rfl 0 rfl ?_
  refine x_get hC iEv 1 wX_1 rfl 5 (by decide) k_x0 rfl rfl dEv_add_25 ?_
  refine x_iload_n hC dEv_add_28 rfl 2 rfl ?_
  obtain ⟨hb_2, h⟩ := h
  refine x_iast (ws' := (wX ad cI cL cO sc sd (upd src (ec + 1).toNatClampNeg a1) (upd itm (ec + 1).toNatClampNeg a2) knd plc clk (ec + 1) nf ns nc wt bd off row hw rl tm ord tc)) hC 3 0 wX_3 rfl hb_2 wX_3_set dEv_add_29 ?_
  refine x_aload_n hC dEv_add_30 rfl 0 rfl ?_
  refine x_get hC iEv 1 wX_1 rfl 2 (by decide) k_x3 rfl rfl dEv_add_31 ?_
  refine x_aload_n hC dEv_add_34 rfl 0 rfl ?_
  refine x_get hC iEv 1 wX_1 rfl 5 (by decide) k_x0 rfl rfl dEv_add_35 ?_
  refine x_iload_n hC dEv_add_38 rfl 3 rfl ?_
  obtain ⟨hb_3, h⟩ := h
  refine x_iast (ws' := (wX ad cI cL cO sc sd (upd src (ec + 1).toNatClampNeg a1) (upd itm (ec + 1).toNatClampNeg a2) (upd knd (ec + 1).toNatClampNeg a3) plc clk (ec + 1) nf ns nc wt bd off row hw rl tm ord tc)) hC 4 0 wX_4 rfl hb_3 wX_4_set dEv_add_39 ?_
  refine x_aload_n hC dEv_add_40 rfl 0 rfl ?_
  refine x_get hC iEv 1 wX_1 rfl 3 (by decide) k_x4 rfl rfl dEv_add_41 ?_
  refine x_aload_n hC dEv_add_44 rfl 0 rfl ?_
  refine x_get hC iEv 1 wX_1 rfl 5 (by decide) k_x0 rfl rfl dEv_add_45 ?_
  refine x_iload hC dEv_add_48 4 rfl ?_
  obtain ⟨hb_4, h⟩ := h
  refine x_iast (ws' := (wX ad cI cL cO sc sd (upd src (ec + 1).toNatClampNeg a1) (upd itm (ec + 1).toNatClampNeg a2) (upd knd (ec + 1).toNatClampNeg a3) (upd plc (ec + 1).toNatClampNeg a4) clk (ec + 1) nf ns nc wt bd off row hw rl tm ord tc)) hC 5 0 wX_5 rfl hb_4 wX_5_set dEv_add_50 ?_
  refine x_aload_n hC dEv_add_51 rfl 0 rfl ?_
  refine x_get hC iEv 1 wX_1 rfl 4 (by decide) k_x5 rfl rfl dEv_add_52 ?_
  refine x_aload_n hC dEv_add_55 rfl 0 rfl ?_
  refine x_get hC iEv 1 wX_1 rfl 5 (by decide) k_x0 rfl rfl dEv_add_56 ?_
  refine x_lload hC dEv_add_59 5 rfl ?_
  obtain ⟨hb_5, h⟩ := h
  refine x_last (ws' := (wX ad cI cL cO sc sd (upd src (ec + 1).toNatClampNeg a1) (upd itm (ec + 1).toNatClampNeg a2) (upd knd (ec + 1).toNatClampNeg a3) (upd plc (ec + 1).toNatClampNeg a4) (vp_updL clk (ec + 1).toNatClampNeg a5) (ec + 1) nf ns nc wt bd off row hw rl tm ord tc)) hC 6 1 wX_6 rfl hb_5 wX_6_set dEv_add_61 ?_
  refine x_aload_n hC dEv_add_62 rfl 0 rfl ?_
  refine x_get hC iEv 1 wX_1 rfl 5 (by decide) k_x0 rfl rfl dEv_add_63 ?_
  exact hret _ _ (by decide) (by decide) (ec + 1) (upd src (ec + 1).toNatClampNeg a1, upd itm (ec + 1).toNatClampNeg a2, upd knd (ec + 1).toNatClampNeg a3, upd plc (ec + 1).toNatClampNeg a4, vp_updL clk (ec + 1).toNatClampNeg a5, ec + 1) h _ _ dEv_add_66

/-! EventOrder$Events.has(IIIIJ)Z -/
abbrev rm_Events_has : Room := { frames := 0, cells := 0, slots := 0, locals := 0 }
def Events_has_L3 (v1 : Int32) (v2 : Int32) (v3 : Int32) (v4 : Int32) (v5 : Int64) (src : (Nat → Int32)) (itm : (Nat → Int32)) (knd : (Nat → Int32)) (plc : (Nat → Int32)) (clk : (Nat → Int64)) (ec : Int32) (Qr : Int32 → Unit → Prop) (Qx : Prop) : Nat → Int32 → Prop
  | 0, _ => False
  | n + 1, v7 => ((ec < v7 → Qx) ∧ (¬ ec < v7 → vp_in v7 301 ∧ ((¬ (clk v7.toNatClampNeg) = v5 → Events_has_L3 v1 v2 v3 v4 v5 src itm knd plc clk ec Qr Qx n (v7 + 1)) ∧ ((clk v7.toNatClampNeg) = v5 → vp_in v7 301 ∧ ((¬ (src v7.toNatClampNeg) = v1 → Events_has_L3 v1 v2 v3 v4 v5 src itm knd plc clk ec Qr Qx n (v7 + 1)) ∧ ((src v7.toNatClampNeg) = v1 → vp_in v7 301 ∧ ((¬ (itm v7.toNatClampNeg) = v2 → Events_has_L3 v1 v2 v3 v4 v5 src itm knd plc clk ec Qr Qx n (v7 + 1)) ∧ ((itm v7.toNatClampNeg) = v2 → vp_in v7 301 ∧ ((¬ (knd v7.toNatClampNeg) = v3 → Events_has_L3 v1 v2 v3 v4 v5 src itm knd plc clk ec Qr Qx n (v7 + 1)) ∧ ((knd v7.toNatClampNeg) = v3 → vp_in v7 301 ∧ ((¬ (plc v7.toNatClampNeg) = v4 → Events_has_L3 v1 v2 v3 v4 v5 src itm knd plc clk ec Qr Qx n (v7 + 1)) ∧ ((plc v7.toNatClampNeg) = v4 → Qr 1 ()))))))))))))

def Events_has_wp (src : (Nat → Int32)) (itm : (Nat → Int32)) (knd : (Nat → Int32)) (plc : (Nat → Int32)) (clk : (Nat → Int64)) (ec : Int32) (a1 : Int32) (a2 : Int32) (a3 : Int32) (a4 : Int32) (a5 : Int64) (Qr : Int32 → Unit → Prop) : Prop := (∃ n_12 : Nat, Events_has_L3 a1 a2 a3 a4 a5 src itm knd plc clk ec Qr (Qr 0 ()) n_12 1)
set_option maxHeartbeats 4000000 in
set_option maxRecDepth 100000 in
theorem Events_has_L3_ok {p : Program} {l : Launch} {e : Env} {s : State} {m : MethodId} {args : Array Value} {below : List Frame} {meth : Method} {c : Code} {Q : State → Prop} {D : va_G} {A : Nat → Prop} {ad : Nat → Nat} {cI cL cO : ClassId} {sc : Int32} {sd : Int32} {src : (Nat → Int32)} {itm : (Nat → Int32)} {knd : (Nat → Int32)} {plc : (Nat → Int32)} {clk : (Nat → Int64)} {ec : Int32} {nf : (Nat → Int32)} {ns : (Nat → Int32)} {nc : Int32} {wt : (Nat → Nat → Int64)} {bd : (Nat → Nat → Int64)} {off : (Nat → Int64)} {row : (Nat → Int32)} {hw : (Nat → Nat → Int64)} {rl : Int32} {tm : (Nat → Int64)} {ord : (Nat → Int32)} {tc : Int32} {v1 : Int32} {v2 : Int32} {v3 : Int32} {v4 : Int32} {v5 : Int64} {Qr : Int32 → Unit → Prop} {Qx : Prop} (hC : XC p s m args c D vwCl (tysX cI cL cO) A 8 bEv_has TBL REv) (hret : ∀ (r : Int32) (u : Unit), x_bool r → Qr r u → ∀ (pc : Nat) (lv : List (Nat × Value)), decode bEv_has pc = .ok (.ireturn, 1) → XW p l e rm_Events_has s m args below meth c D vwCl A 8 Q 0 0 (wX ad cI cL cO sc sd src itm knd plc clk ec nf ns nc wt bd off row hw rl tm ord tc) pc lv [.int r]) (hexit : Qx → XW p l e rm_Events_has s m args below meth c D vwCl A 8 Q 0 0 (wX ad cI cL cO sc sd src itm knd plc clk ec nf ns nc wt bd off row hw rl tm ord tc) 78 [] []) : ∀ (n : Nat) (v7 : Int32), Events_has_L3 v1 v2 v3 v4 v5 src itm knd plc clk ec Qr Qx n v7 → XW p l e rm_Events_has s m args below meth c D vwCl A 8 Q 0 0 (wX ad cI cL cO sc sd src itm knd plc clk ec nf ns nc wt bd off row hw rl tm ord tc) 3 [(0, .ref (ad 1)), (1, .int v1), (2, .int v2), (3, .int v3), (4, .int v4), (5, .long v5), (7, .int v7)] [] := by
  intro n
  induction n with
  | zero => intro v7 h; exact False.elim h
  | succ n ih =>
    intro v7 h
    unfold Events_has_L3 at h
    refine x_iload hC dEv_has_3 6 rfl ?_
    refine x_aload_n hC dEv_has_5 rfl 0 rfl ?_
    refine x_get hC iEv 1 wX_1 rfl 5 (by decide) k_x0 rfl rfl dEv_has_6 ?_
    refine x_icmp_gt (tgt := 78) hC dEv_has_9 (by decide) (fun c_1 => ?_) (fun c_1 => ?_)
    · have h := h.1 c_1
      refine x_lv [] rfl ?_
      exact hexit  h
    · have h := h.2 c_1
      refine x_aload_n hC dEv_has_12 rfl 0 rfl ?_
      refine x_get hC iEv 1 wX_1 rfl 4 (by decide) k_x5 rfl rfl dEv_has_13 ?_
      refine x_iload hC dEv_has_16 6 rfl ?_
      obtain ⟨hb_2, h⟩ := h
      refine x_lald hC 6 1 wX_6 rfl hb_2 dEv_has_18 ?_
      refine x_lload hC dEv_has_19 5 rfl ?_
      refine x_lcmp_ne (tgt := 72) hC dEv_has_21 dEv_has_22 (by decide) (fun c_3 => ?_) (fun c_3 => ?_)
      · have h := h.1 c_3
        refine x_iinc (v := v7 + 1) (lv' := [(7, .int (v7 + 1)), (0, .ref (ad 1)), (1, .int v1), (2, .int v2), (3, .int v3), (4, .int v4), (5, .long v5)]) hC dEv_has_72 6 rfl rfl (by decide) rfl ?_
        refine x_goto (tgt := 3) hC dEv_has_75 (by decide) ?_
        refine x_lv [1, 2, 3, 4, 5, 6, 0] rfl ?_
        exact ih (v7 + 1) h
      · have h := h.2 c_3
        refine x_aload_n hC dEv_has_25 rfl 0 rfl ?_
        refine x_get hC iEv 1 wX_1 rfl 0 (by decide) k_x1 rfl rfl dEv_has_26 ?_
        refine x_iload hC dEv_has_29 6 rfl ?_
        obtain ⟨hb_4, h⟩ := h
        refine x_iald hC 2 0 wX_2 rfl hb_4 dEv_has_31 ?_
        refine x_iload_n hC dEv_has_32 rfl 1 rfl ?_
        refine x_icmp_ne (tgt := 72) hC dEv_has_33 (by decide) (fun c_5 => ?_) (fun c_5 => ?_)
        · have h := h.1 c_5
          refine x_iinc (v := v7 + 1) (lv' := [(7, .int (v7 + 1)), (0, .ref (ad 1)), (1, .int v1), (2, .int v2), (3, .int v3), (4, .int v4), (5, .long v5)]) hC dEv_has_72 6 rfl rfl (by decide) rfl ?_
          refine x_goto (tgt := 3) hC dEv_has_75 (by decide) ?_
          refine x_lv [1, 2, 3, 4, 5, 6, 0] rfl ?_
          exact ih (v7 + 1) h
        · have h := h.2 c_5
          refine x_aload_n hC dEv_has_36 rfl 0 rfl ?_
          refine x_get hC iEv 1 wX_1 rfl 1 (by decide) k_x2 rfl rfl dEv_has_37 ?_
          refine x_iload hC dEv_has_40 6 rfl ?_
          obtain ⟨hb_6, h⟩ := h
          refine x_iald hC 3 0 wX_3 rfl hb_6 dEv_has_42 ?_
          refine x_iload_n hC dEv_has_43 rfl 2 rfl ?_
          refine x_icmp_ne (tgt := 72) hC dEv_has_44 (by decide) (fun c_7 => ?_) (fun c_7 => ?_)
          · have h := h.1 c_7
            refine x_iinc (v := v7 + 1) (lv' := [(7, .int (v7 + 1)), (0, .ref (ad 1)), (1, .int v1), (2, .int v2), (3, .int v3), (4, .int v4), (5, .long v5)]) hC dEv_has_72 6 rfl rfl (by decide) rfl ?_
            refine x_goto (tgt := 3) hC dEv_has_75 (by decide) ?_
            refine x_lv [1, 2, 3, 4, 5, 6, 0] rfl ?_
            exact ih (v7 + 1) h
          · have h := h.2 c_7
            refine x_aload_n hC dEv_has_47 rfl 0 rfl ?_
            refine x_get hC iEv 1 wX_1 rfl 2 (by decide) k_x3 rfl rfl dEv_has_48 ?_
            refine x_iload hC dEv_has_51 6 rfl ?_
            obtain ⟨hb_8, h⟩ := h
            refine x_iald hC 4 0 wX_4 rfl hb_8 dEv_has_53 ?_
            refine x_iload_n hC dEv_has_54 rfl 3 rfl ?_
            refine x_icmp_ne (tgt := 72) hC dEv_has_55 (by decide) (fun c_9 => ?_) (fun c_9 => ?_)
            · have h := h.1 c_9
              refine x_iinc (v := v7 + 1) (lv' := [(7, .int (v7 + 1)), (0, .ref (ad 1)), (1, .int v1), (2, .int v2), (3, .int v3), (4, .int v4), (5, .long v5)]) hC dEv_has_72 6 rfl rfl (by decide) rfl ?_
              refine x_goto (tgt := 3) hC dEv_has_75 (by decide) ?_
              refine x_lv [1, 2, 3, 4, 5, 6, 0] rfl ?_
              exact ih (v7 + 1) h
            · have h := h.2 c_9
              refine x_aload_n hC dEv_has_58 rfl 0 rfl ?_
              refine x_get hC iEv 1 wX_1 rfl 3 (by decide) k_x4 rfl rfl dEv_has_59 ?_
              refine x_iload hC dEv_has_62 6 rfl ?_
              obtain ⟨hb_10, h⟩ := h
              refine x_iald hC 5 0 wX_5 rfl hb_10 dEv_has_64 ?_
              refine x_iload hC dEv_has_65 4 rfl ?_
              refine x_icmp_ne (tgt := 72) hC dEv_has_67 (by decide) (fun c_11 => ?_) (fun c_11 => ?_)
              · have h := h.1 c_11
                refine x_iinc (v := v7 + 1) (lv' := [(7, .int (v7 + 1)), (0, .ref (ad 1)), (1, .int v1), (2, .int v2), (3, .int v3), (4, .int v4), (5, .long v5)]) hC dEv_has_72 6 rfl rfl (by decide) rfl ?_
                refine x_goto (tgt := 3) hC dEv_has_75 (by decide) ?_
                refine x_lv [1, 2, 3, 4, 5, 6, 0] rfl ?_
                exact ih (v7 + 1) h
              · have h := h.2 c_11
                refine x_iconst (v := 1) hC dEv_has_70 (by decide) ?_
                exact hret 1 () (Or.inr rfl) h _ _ dEv_has_71

set_option maxHeartbeats 4000000 in
set_option maxRecDepth 100000 in
theorem c_Events_has {l : Launch} {D : va_G} {ad : Nat → Nat} {cI cL cO : ClassId} {sc : Int32} {sd : Int32} {src : (Nat → Int32)} {itm : (Nat → Int32)} {knd : (Nat → Int32)} {plc : (Nat → Int32)} {clk : (Nat → Int64)} {ec : Int32} {nf : (Nat → Int32)} {ns : (Nat → Int32)} {nc : Int32} {wt : (Nat → Nat → Int64)} {bd : (Nat → Nat → Int64)} {off : (Nat → Int64)} {row : (Nat → Int32)} {hw : (Nat → Nat → Int64)} {rl : Int32} {tm : (Nat → Int64)} {ord : (Nat → Int32)} {tc : Int32} {a1 : Int32} {a2 : Int32} {a3 : Int32} {a4 : Int32} {a5 : Int64} {Qr : Int32 → Unit → Prop} (h : Events_has_wp src itm knd plc clk ec a1 a2 a3 a4 a5 Qr) (sz : Nat) : vx_Met l yEv_has (Cond.code yEv_has bEv_has 8 (some .boolean) :: TBL) rm_Events_has (va_Pc [.ref (ad 1), .int a1, .int a2, .int a3, .int a4, .long a5] (XP D vwCl (tysX cI cL cO) (wX ad cI cL cO sc sd src itm knd plc clk ec nf ns nc wt bd off row hw rl tm ord tc) sz)) (va_Qi Qr (fun u t => XB D vwCl (tysX cI cL cO) (va_A (wX ad cI cL cO sc sd src itm knd plc clk ec nf ns nc wt bd off row hw rl tm ord tc) sz) (wX ad cI cL cO sc sd src itm knd plc clk ec nf ns nc wt bd off row hw rl tm ord tc) t) (va_A (wX ad cI cL cO sc sd src itm knd plc clk ec nf ns nc wt bd off row hw rl tm ord tc) sz)) (XT D vwCl (tysX cI cL cO) (va_A (wX ad cI cL cO sc sd src itm knd plc clk ec nf ns nc wt bd off row hw rl tm ord tc) sz) (wX ad cI cL cO sc sd src itm knd plc clk ec nf ns nc wt bd off row hw rl tm ord tc) (fun _ => False)) rm_Events_has.cells rm_Events_has.slots (va_A (wX ad cI cL cO sc sd src itm knd plc clk ec nf ns nc wt bd off row hw rl tm ord tc) sz) := by
  refine x_met [.ref (ad 1), .int a1, .int a2, .int a3, .int a4, .long a5] TBL_good (by decide) (Nat.le_of_ble_eq_true rfl) ?_
  intro p e s m args below meth c hC hr hlk hnm hnh
  have hret : ∀ (ce sl : Nat), ce ≤ rm_Events_has.cells → sl ≤ rm_Events_has.slots → ∀ (r : Int32) (u : Unit), x_bool r → Qr r u → ∀ (pc : Nat) (lv : List (Nat × Value)), decode bEv_has pc = .ok (.ireturn, 1) → XW p l e rm_Events_has s m args below meth c D vwCl (va_A (wX ad cI cL cO sc sd src itm knd plc clk ec nf ns nc wt bd off row hw rl tm ord tc) sz) 8 (vx_MQ below (va_Qi Qr (fun u t => XB D vwCl (tysX cI cL cO) (va_A (wX ad cI cL cO sc sd src itm knd plc clk ec nf ns nc wt bd off row hw rl tm ord tc) sz) (wX ad cI cL cO sc sd src itm knd plc clk ec nf ns nc wt bd off row hw rl tm ord tc) t) (va_A (wX ad cI cL cO sc sd src itm knd plc clk ec nf ns nc wt bd off row hw rl tm ord tc) sz)) (XT D vwCl (tysX cI cL cO) (va_A (wX ad cI cL cO sc sd src itm knd plc clk ec nf ns nc wt bd off row hw rl tm ord tc) sz) (wX ad cI cL cO sc sd src itm knd plc clk ec nf ns nc wt bd off row hw rl tm ord tc) (fun _ => False)) args s rm_Events_has.cells rm_Events_has.slots (va_A (wX ad cI cL cO sc sd src itm knd plc clk ec nf ns nc wt bd off row hw rl tm ord tc) sz)) ce sl (wX ad cI cL cO sc sd src itm knd plc clk ec nf ns nc wt bd off row hw rl tm ord tc) pc lv [.int r] := fun ce sl h1 h2 r u hb9 hq pc lv hd => x_zret (wf := fun u => (wX ad cI cL cO sc sd src itm knd plc clk ec nf ns nc wt bd off row hw rl tm ord tc)) hC h1 h2 hr hlk hb9 hd hq rfl
  show XW p l e rm_Events_has s m args below meth c D vwCl (va_A (wX ad cI cL cO sc sd src itm knd plc clk ec nf ns nc wt bd off row hw rl tm ord tc) sz) 8 _ 0 0 (wX ad cI cL cO sc sd src itm knd plc clk ec nf ns nc wt bd off row hw rl tm ord tc) 0 [(0, .ref (ad 1)), (1, .int a1), (2, .int a2), (3, .int a3), (4, .int a4), (5, .long a5)] []
  unfold Events_has_wp at h
  refine x_iconst (v := 1) hC dEv_has_0 (by decide) ?_
  refine x_istore (lv' := [(7, .int 1), (0, .ref (ad 1)), (1, .int a1), (2, .int a2), (3, .int a3), (4, .int a4), (5, .long a5)]) hC dEv_has_1 (by decide) rfl ?_
  obtain ⟨n_12, h⟩ := h
  refine x_lv [1, 2, 3, 4, 5, 6, 0] rfl ?_
  refine Events_has_L3_ok hC (hret _ _ (by decide) (by decide)) (fun h => ?_) n_12 1 h
  refine x_iconst (v := 0) hC dEv_has_78 (by decide) ?_
  exact hret _ _ (by decide) (by decide) 0 () (Or.inl rfl) h _ _ dEv_has_79

/-! EventOrder$Events.countIn([II)I -/
abbrev rm_Events_countIn_3 : Room := { frames := 0, cells := 0, slots := 0, locals := 0 }
def Events_countIn_3_L5 (v2 : Int32) (itm : (Nat → Int32)) (ec : Int32) (Qx : Int32 → Prop) : Nat → Int32 → Int32 → Prop
  | 0, _, _ => False
  | n + 1, v3, v4 => ((ec < v4 → Qx v3) ∧ (¬ ec < v4 → vp_in v4 301 ∧ ((¬ (itm v4.toNatClampNeg) = v2 → Events_countIn_3_L5 v2 itm ec Qx n v3 (v4 + 1)) ∧ ((itm v4.toNatClampNeg) = v2 → Events_countIn_3_L5 v2 itm ec Qx n (v3 + 1) (v4 + 1)))))

def Events_countIn_3_wp (itm : (Nat → Int32)) (ec : Int32) (a2 : Int32) (Qr : Int32 → Unit → Prop) : Prop := (∃ n_5 : Nat, Events_countIn_3_L5 a2 itm ec (fun (v3_4 : Int32) => Qr v3_4 ()) n_5 0 1)
set_option maxHeartbeats 4000000 in
set_option maxRecDepth 100000 in
theorem Events_countIn_3_L5_ok {p : Program} {l : Launch} {e : Env} {s : State} {m : MethodId} {args : Array Value} {below : List Frame} {meth : Method} {c : Code} {Q : State → Prop} {D : va_G} {A : Nat → Prop} {ad : Nat → Nat} {cI cL cO : ClassId} {sc : Int32} {sd : Int32} {src : (Nat → Int32)} {itm : (Nat → Int32)} {knd : (Nat → Int32)} {plc : (Nat → Int32)} {clk : (Nat → Int64)} {ec : Int32} {nf : (Nat → Int32)} {ns : (Nat → Int32)} {nc : Int32} {wt : (Nat → Nat → Int64)} {bd : (Nat → Nat → Int64)} {off : (Nat → Int64)} {row : (Nat → Int32)} {hw : (Nat → Nat → Int64)} {rl : Int32} {tm : (Nat → Int64)} {ord : (Nat → Int32)} {tc : Int32} {v2 : Int32} {Qx : Int32 → Prop} (hC : XC p s m args c D vwCl (tysX cI cL cO) A 5 bEv_countIn TBL REv)  (hexit : ∀ (v3 : Int32), Qx v3 → XW p l e rm_Events_countIn_3 s m args below meth c D vwCl A 5 Q 0 0 (wX ad cI cL cO sc sd src itm knd plc clk ec nf ns nc wt bd off row hw rl tm ord tc) 31 [(3, .int v3)] []) : ∀ (n : Nat) (v3 : Int32) (v4 : Int32), Events_countIn_3_L5 v2 itm ec Qx n v3 v4 → XW p l e rm_Events_countIn_3 s m args below meth c D vwCl A 5 Q 0 0 (wX ad cI cL cO sc sd src itm knd plc clk ec nf ns nc wt bd off row hw rl tm ord tc) 5 [(0, .ref (ad 1)), (1, .ref (ad 3)), (2, .int v2), (3, .int v3), (4, .int v4)] [] := by
  intro n
  induction n with
  | zero => intro v3 v4 h; exact False.elim h
  | succ n ih =>
    intro v3 v4 h
    unfold Events_countIn_3_L5 at h
    refine x_iload hC dEv_countIn_5 4 rfl ?_
    refine x_aload_n hC dEv_countIn_7 rfl 0 rfl ?_
    refine x_get hC iEv 1 wX_1 rfl 5 (by decide) k_x0 rfl rfl dEv_countIn_8 ?_
    refine x_icmp_gt (tgt := 31) hC dEv_countIn_11 (by decide) (fun c_1 => ?_) (fun c_1 => ?_)
    · have h := h.1 c_1
      refine x_lv [3] rfl ?_
      exact hexit v3 h
    · have h := h.2 c_1
      refine x_aload_n hC dEv_countIn_14 rfl 1 rfl ?_
      refine x_iload hC dEv_countIn_15 4 rfl ?_
      obtain ⟨hb_2, h⟩ := h
      refine x_iald hC 3 0 wX_3 rfl hb_2 dEv_countIn_17 ?_
      refine x_iload_n hC dEv_countIn_18 rfl 2 rfl ?_
      refine x_icmp_ne (tgt := 25) hC dEv_countIn_19 (by decide) (fun c_3 => ?_) (fun c_3 => ?_)
      · have h := h.1 c_3
        refine x_iinc (v := v4 + 1) (lv' := [(4, .int (v4 + 1)), (0, .ref (ad 1)), (1, .ref (ad 3)), (2, .int v2), (3, .int v3)]) hC dEv_countIn_25 4 rfl rfl (by decide) rfl ?_
        refine x_goto (tgt := 5) hC dEv_countIn_28 (by decide) ?_
        refine x_lv [1, 2, 3, 4, 0] rfl ?_
        exact ih v3 (v4 + 1) h
      · have h := h.2 c_3
        refine x_iinc (v := v3 + 1) (lv' := [(3, .int (v3 + 1)), (0, .ref (ad 1)), (1, .ref (ad 3)), (2, .int v2), (4, .int v4)]) hC dEv_countIn_22 3 rfl rfl (by decide) rfl ?_
        refine x_iinc (v := v4 + 1) (lv' := [(4, .int (v4 + 1)), (3, .int (v3 + 1)), (0, .ref (ad 1)), (1, .ref (ad 3)), (2, .int v2)]) hC dEv_countIn_25 4 rfl rfl (by decide) rfl ?_
        refine x_goto (tgt := 5) hC dEv_countIn_28 (by decide) ?_
        refine x_lv [2, 3, 4, 1, 0] rfl ?_
        exact ih (v3 + 1) (v4 + 1) h

set_option maxHeartbeats 4000000 in
set_option maxRecDepth 100000 in
theorem c_Events_countIn_3 {l : Launch} {D : va_G} {ad : Nat → Nat} {cI cL cO : ClassId} {sc : Int32} {sd : Int32} {src : (Nat → Int32)} {itm : (Nat → Int32)} {knd : (Nat → Int32)} {plc : (Nat → Int32)} {clk : (Nat → Int64)} {ec : Int32} {nf : (Nat → Int32)} {ns : (Nat → Int32)} {nc : Int32} {wt : (Nat → Nat → Int64)} {bd : (Nat → Nat → Int64)} {off : (Nat → Int64)} {row : (Nat → Int32)} {hw : (Nat → Nat → Int64)} {rl : Int32} {tm : (Nat → Int64)} {ord : (Nat → Int32)} {tc : Int32} {a2 : Int32} {Qr : Int32 → Unit → Prop} (h : Events_countIn_3_wp itm ec a2 Qr) (sz : Nat) : vx_Met l yEv_countIn (Cond.code yEv_countIn bEv_countIn 5 (some .int) :: TBL) rm_Events_countIn_3 (va_Pc [.ref (ad 1), .ref (ad 3), .int a2] (XP D vwCl (tysX cI cL cO) (wX ad cI cL cO sc sd src itm knd plc clk ec nf ns nc wt bd off row hw rl tm ord tc) sz)) (va_Qi Qr (fun u t => XB D vwCl (tysX cI cL cO) (va_A (wX ad cI cL cO sc sd src itm knd plc clk ec nf ns nc wt bd off row hw rl tm ord tc) sz) (wX ad cI cL cO sc sd src itm knd plc clk ec nf ns nc wt bd off row hw rl tm ord tc) t) (va_A (wX ad cI cL cO sc sd src itm knd plc clk ec nf ns nc wt bd off row hw rl tm ord tc) sz)) (XT D vwCl (tysX cI cL cO) (va_A (wX ad cI cL cO sc sd src itm knd plc clk ec nf ns nc wt bd off row hw rl tm ord tc) sz) (wX ad cI cL cO sc sd src itm knd plc clk ec nf ns nc wt bd off row hw rl tm ord tc) (fun _ => False)) rm_Events_countIn_3.cells rm_Events_countIn_3.slots (va_A (wX ad cI cL cO sc sd src itm knd plc clk ec nf ns nc wt bd off row hw rl tm ord tc) sz) := by
  refine x_met [.ref (ad 1), .ref (ad 3), .int a2] TBL_good (by decide) (Nat.le_of_ble_eq_true rfl) ?_
  intro p e s m args below meth c hC hr hlk hnm hnh
  have hret : ∀ (ce sl : Nat), ce ≤ rm_Events_countIn_3.cells → sl ≤ rm_Events_countIn_3.slots → ∀ (r : Int32) (u : Unit), Qr r u → ∀ (pc : Nat) (lv : List (Nat × Value)), decode bEv_countIn pc = .ok (.ireturn, 1) → XW p l e rm_Events_countIn_3 s m args below meth c D vwCl (va_A (wX ad cI cL cO sc sd src itm knd plc clk ec nf ns nc wt bd off row hw rl tm ord tc) sz) 5 (vx_MQ below (va_Qi Qr (fun u t => XB D vwCl (tysX cI cL cO) (va_A (wX ad cI cL cO sc sd src itm knd plc clk ec nf ns nc wt bd off row hw rl tm ord tc) sz) (wX ad cI cL cO sc sd src itm knd plc clk ec nf ns nc wt bd off row hw rl tm ord tc) t) (va_A (wX ad cI cL cO sc sd src itm knd plc clk ec nf ns nc wt bd off row hw rl tm ord tc) sz)) (XT D vwCl (tysX cI cL cO) (va_A (wX ad cI cL cO sc sd src itm knd plc clk ec nf ns nc wt bd off row hw rl tm ord tc) sz) (wX ad cI cL cO sc sd src itm knd plc clk ec nf ns nc wt bd off row hw rl tm ord tc) (fun _ => False)) args s rm_Events_countIn_3.cells rm_Events_countIn_3.slots (va_A (wX ad cI cL cO sc sd src itm knd plc clk ec nf ns nc wt bd off row hw rl tm ord tc) sz)) ce sl (wX ad cI cL cO sc sd src itm knd plc clk ec nf ns nc wt bd off row hw rl tm ord tc) pc lv [.int r] := fun ce sl h1 h2 r u hq pc lv hd => x_iret (wf := fun u => (wX ad cI cL cO sc sd src itm knd plc clk ec nf ns nc wt bd off row hw rl tm ord tc)) hC h1 h2 hr hlk hd hq rfl
  show XW p l e rm_Events_countIn_3 s m args below meth c D vwCl (va_A (wX ad cI cL cO sc sd src itm knd plc clk ec nf ns nc wt bd off row hw rl tm ord tc) sz) 5 _ 0 0 (wX ad cI cL cO sc sd src itm knd plc clk ec nf ns nc wt bd off row hw rl tm ord tc) 0 [(0, .ref (ad 1)), (1, .ref (ad 3)), (2, .int a2)] []
  unfold Events_countIn_3_wp at h
  refine x_iconst (v := 0) hC dEv_countIn_0 (by decide) ?_
  refine x_istore_n (lv' := [(3, .int 0), (0, .ref (ad 1)), (1, .ref (ad 3)), (2, .int a2)]) hC dEv_countIn_1 rfl (by decide) rfl ?_
  refine x_iconst (v := 1) hC dEv_countIn_2 (by decide) ?_
  refine x_istore (lv' := [(4, .int 1), (3, .int 0), (0, .ref (ad 1)), (1, .ref (ad 3)), (2, .int a2)]) hC dEv_countIn_3 (by decide) rfl ?_
  obtain ⟨n_5, h⟩ := h
  refine x_lv [2, 3, 4, 1, 0] rfl ?_
  refine Events_countIn_3_L5_ok hC (fun v3_4 h => ?_) n_5 0 1 h
  refine x_iload_n hC dEv_countIn_31 rfl 0 rfl ?_
  exact hret _ _ (by decide) (by decide) v3_4 () h _ _ dEv_countIn_32

/-! EventOrder$Events.countIn([II)I -/
abbrev rm_Events_countIn_5 : Room := { frames := 0, cells := 0, slots := 0, locals := 0 }
def Events_countIn_5_L5 (v2 : Int32) (plc : (Nat → Int32)) (ec : Int32) (Qx : Int32 → Prop) : Nat → Int32 → Int32 → Prop
  | 0, _, _ => False
  | n + 1, v3, v4 => ((ec < v4 → Qx v3) ∧ (¬ ec < v4 → vp_in v4 301 ∧ ((¬ (plc v4.toNatClampNeg) = v2 → Events_countIn_5_L5 v2 plc ec Qx n v3 (v4 + 1)) ∧ ((plc v4.toNatClampNeg) = v2 → Events_countIn_5_L5 v2 plc ec Qx n (v3 + 1) (v4 + 1)))))

def Events_countIn_5_wp (plc : (Nat → Int32)) (ec : Int32) (a2 : Int32) (Qr : Int32 → Unit → Prop) : Prop := (∃ n_5 : Nat, Events_countIn_5_L5 a2 plc ec (fun (v3_4 : Int32) => Qr v3_4 ()) n_5 0 1)
set_option maxHeartbeats 4000000 in
set_option maxRecDepth 100000 in
theorem Events_countIn_5_L5_ok {p : Program} {l : Launch} {e : Env} {s : State} {m : MethodId} {args : Array Value} {below : List Frame} {meth : Method} {c : Code} {Q : State → Prop} {D : va_G} {A : Nat → Prop} {ad : Nat → Nat} {cI cL cO : ClassId} {sc : Int32} {sd : Int32} {src : (Nat → Int32)} {itm : (Nat → Int32)} {knd : (Nat → Int32)} {plc : (Nat → Int32)} {clk : (Nat → Int64)} {ec : Int32} {nf : (Nat → Int32)} {ns : (Nat → Int32)} {nc : Int32} {wt : (Nat → Nat → Int64)} {bd : (Nat → Nat → Int64)} {off : (Nat → Int64)} {row : (Nat → Int32)} {hw : (Nat → Nat → Int64)} {rl : Int32} {tm : (Nat → Int64)} {ord : (Nat → Int32)} {tc : Int32} {v2 : Int32} {Qx : Int32 → Prop} (hC : XC p s m args c D vwCl (tysX cI cL cO) A 5 bEv_countIn TBL REv)  (hexit : ∀ (v3 : Int32), Qx v3 → XW p l e rm_Events_countIn_5 s m args below meth c D vwCl A 5 Q 0 0 (wX ad cI cL cO sc sd src itm knd plc clk ec nf ns nc wt bd off row hw rl tm ord tc) 31 [(3, .int v3)] []) : ∀ (n : Nat) (v3 : Int32) (v4 : Int32), Events_countIn_5_L5 v2 plc ec Qx n v3 v4 → XW p l e rm_Events_countIn_5 s m args below meth c D vwCl A 5 Q 0 0 (wX ad cI cL cO sc sd src itm knd plc clk ec nf ns nc wt bd off row hw rl tm ord tc) 5 [(0, .ref (ad 1)), (1, .ref (ad 5)), (2, .int v2), (3, .int v3), (4, .int v4)] [] := by
  intro n
  induction n with
  | zero => intro v3 v4 h; exact False.elim h
  | succ n ih =>
    intro v3 v4 h
    unfold Events_countIn_5_L5 at h
    refine x_iload hC dEv_countIn_5 4 rfl ?_
    refine x_aload_n hC dEv_countIn_7 rfl 0 rfl ?_
    refine x_get hC iEv 1 wX_1 rfl 5 (by decide) k_x0 rfl rfl dEv_countIn_8 ?_
    refine x_icmp_gt (tgt := 31) hC dEv_countIn_11 (by decide) (fun c_1 => ?_) (fun c_1 => ?_)
    · have h := h.1 c_1
      refine x_lv [3] rfl ?_
      exact hexit v3 h
    · have h := h.2 c_1
      refine x_aload_n hC dEv_countIn_14 rfl 1 rfl ?_
      refine x_iload hC dEv_countIn_15 4 rfl ?_
      obtain ⟨hb_2, h⟩ := h
      refine x_iald hC 5 0 wX_5 rfl hb_2 dEv_countIn_17 ?_
      refine x_iload_n hC dEv_countIn_18 rfl 2 rfl ?_
      refine x_icmp_ne (tgt := 25) hC dEv_countIn_19 (by decide) (fun c_3 => ?_) (fun c_3 => ?_)
      · have h := h.1 c_3
        refine x_iinc (v := v4 + 1) (lv' := [(4, .int (v4 + 1)), (0, .ref (ad 1)), (1, .ref (ad 5)), (2, .int v2), (3, .int v3)]) hC dEv_countIn_25 4 rfl rfl (by decide) rfl ?_
        refine x_goto (tgt := 5) hC dEv_countIn_28 (by decide) ?_
        refine x_lv [1, 2, 3, 4, 0] rfl ?_
        exact ih v3 (v4 + 1) h
      · have h := h.2 c_3
        refine x_iinc (v := v3 + 1) (lv' := [(3, .int (v3 + 1)), (0, .ref (ad 1)), (1, .ref (ad 5)), (2, .int v2), (4, .int v4)]) hC dEv_countIn_22 3 rfl rfl (by decide) rfl ?_
        refine x_iinc (v := v4 + 1) (lv' := [(4, .int (v4 + 1)), (3, .int (v3 + 1)), (0, .ref (ad 1)), (1, .ref (ad 5)), (2, .int v2)]) hC dEv_countIn_25 4 rfl rfl (by decide) rfl ?_
        refine x_goto (tgt := 5) hC dEv_countIn_28 (by decide) ?_
        refine x_lv [2, 3, 4, 1, 0] rfl ?_
        exact ih (v3 + 1) (v4 + 1) h

set_option maxHeartbeats 4000000 in
set_option maxRecDepth 100000 in
theorem c_Events_countIn_5 {l : Launch} {D : va_G} {ad : Nat → Nat} {cI cL cO : ClassId} {sc : Int32} {sd : Int32} {src : (Nat → Int32)} {itm : (Nat → Int32)} {knd : (Nat → Int32)} {plc : (Nat → Int32)} {clk : (Nat → Int64)} {ec : Int32} {nf : (Nat → Int32)} {ns : (Nat → Int32)} {nc : Int32} {wt : (Nat → Nat → Int64)} {bd : (Nat → Nat → Int64)} {off : (Nat → Int64)} {row : (Nat → Int32)} {hw : (Nat → Nat → Int64)} {rl : Int32} {tm : (Nat → Int64)} {ord : (Nat → Int32)} {tc : Int32} {a2 : Int32} {Qr : Int32 → Unit → Prop} (h : Events_countIn_5_wp plc ec a2 Qr) (sz : Nat) : vx_Met l yEv_countIn (Cond.code yEv_countIn bEv_countIn 5 (some .int) :: TBL) rm_Events_countIn_5 (va_Pc [.ref (ad 1), .ref (ad 5), .int a2] (XP D vwCl (tysX cI cL cO) (wX ad cI cL cO sc sd src itm knd plc clk ec nf ns nc wt bd off row hw rl tm ord tc) sz)) (va_Qi Qr (fun u t => XB D vwCl (tysX cI cL cO) (va_A (wX ad cI cL cO sc sd src itm knd plc clk ec nf ns nc wt bd off row hw rl tm ord tc) sz) (wX ad cI cL cO sc sd src itm knd plc clk ec nf ns nc wt bd off row hw rl tm ord tc) t) (va_A (wX ad cI cL cO sc sd src itm knd plc clk ec nf ns nc wt bd off row hw rl tm ord tc) sz)) (XT D vwCl (tysX cI cL cO) (va_A (wX ad cI cL cO sc sd src itm knd plc clk ec nf ns nc wt bd off row hw rl tm ord tc) sz) (wX ad cI cL cO sc sd src itm knd plc clk ec nf ns nc wt bd off row hw rl tm ord tc) (fun _ => False)) rm_Events_countIn_5.cells rm_Events_countIn_5.slots (va_A (wX ad cI cL cO sc sd src itm knd plc clk ec nf ns nc wt bd off row hw rl tm ord tc) sz) := by
  refine x_met [.ref (ad 1), .ref (ad 5), .int a2] TBL_good (by decide) (Nat.le_of_ble_eq_true rfl) ?_
  intro p e s m args below meth c hC hr hlk hnm hnh
  have hret : ∀ (ce sl : Nat), ce ≤ rm_Events_countIn_5.cells → sl ≤ rm_Events_countIn_5.slots → ∀ (r : Int32) (u : Unit), Qr r u → ∀ (pc : Nat) (lv : List (Nat × Value)), decode bEv_countIn pc = .ok (.ireturn, 1) → XW p l e rm_Events_countIn_5 s m args below meth c D vwCl (va_A (wX ad cI cL cO sc sd src itm knd plc clk ec nf ns nc wt bd off row hw rl tm ord tc) sz) 5 (vx_MQ below (va_Qi Qr (fun u t => XB D vwCl (tysX cI cL cO) (va_A (wX ad cI cL cO sc sd src itm knd plc clk ec nf ns nc wt bd off row hw rl tm ord tc) sz) (wX ad cI cL cO sc sd src itm knd plc clk ec nf ns nc wt bd off row hw rl tm ord tc) t) (va_A (wX ad cI cL cO sc sd src itm knd plc clk ec nf ns nc wt bd off row hw rl tm ord tc) sz)) (XT D vwCl (tysX cI cL cO) (va_A (wX ad cI cL cO sc sd src itm knd plc clk ec nf ns nc wt bd off row hw rl tm ord tc) sz) (wX ad cI cL cO sc sd src itm knd plc clk ec nf ns nc wt bd off row hw rl tm ord tc) (fun _ => False)) args s rm_Events_countIn_5.cells rm_Events_countIn_5.slots (va_A (wX ad cI cL cO sc sd src itm knd plc clk ec nf ns nc wt bd off row hw rl tm ord tc) sz)) ce sl (wX ad cI cL cO sc sd src itm knd plc clk ec nf ns nc wt bd off row hw rl tm ord tc) pc lv [.int r] := fun ce sl h1 h2 r u hq pc lv hd => x_iret (wf := fun u => (wX ad cI cL cO sc sd src itm knd plc clk ec nf ns nc wt bd off row hw rl tm ord tc)) hC h1 h2 hr hlk hd hq rfl
  show XW p l e rm_Events_countIn_5 s m args below meth c D vwCl (va_A (wX ad cI cL cO sc sd src itm knd plc clk ec nf ns nc wt bd off row hw rl tm ord tc) sz) 5 _ 0 0 (wX ad cI cL cO sc sd src itm knd plc clk ec nf ns nc wt bd off row hw rl tm ord tc) 0 [(0, .ref (ad 1)), (1, .ref (ad 5)), (2, .int a2)] []
  unfold Events_countIn_5_wp at h
  refine x_iconst (v := 0) hC dEv_countIn_0 (by decide) ?_
  refine x_istore_n (lv' := [(3, .int 0), (0, .ref (ad 1)), (1, .ref (ad 5)), (2, .int a2)]) hC dEv_countIn_1 rfl (by decide) rfl ?_
  refine x_iconst (v := 1) hC dEv_countIn_2 (by decide) ?_
  refine x_istore (lv' := [(4, .int 1), (3, .int 0), (0, .ref (ad 1)), (1, .ref (ad 5)), (2, .int a2)]) hC dEv_countIn_3 (by decide) rfl ?_
  obtain ⟨n_5, h⟩ := h
  refine x_lv [2, 3, 4, 1, 0] rfl ?_
  refine Events_countIn_5_L5_ok hC (fun v3_4 h => ?_) n_5 0 1 h
  refine x_iload_n hC dEv_countIn_31 rfl 0 rfl ?_
  exact hret _ _ (by decide) (by decide) v3_4 () h _ _ dEv_countIn_32

/-! EventOrder$Events.countIn([II)I -/
abbrev rm_Events_countIn_2 : Room := { frames := 0, cells := 0, slots := 0, locals := 0 }
def Events_countIn_2_L5 (v2 : Int32) (src : (Nat → Int32)) (ec : Int32) (Qx : Int32 → Prop) : Nat → Int32 → Int32 → Prop
  | 0, _, _ => False
  | n + 1, v3, v4 => ((ec < v4 → Qx v3) ∧ (¬ ec < v4 → vp_in v4 301 ∧ ((¬ (src v4.toNatClampNeg) = v2 → Events_countIn_2_L5 v2 src ec Qx n v3 (v4 + 1)) ∧ ((src v4.toNatClampNeg) = v2 → Events_countIn_2_L5 v2 src ec Qx n (v3 + 1) (v4 + 1)))))

def Events_countIn_2_wp (src : (Nat → Int32)) (ec : Int32) (a2 : Int32) (Qr : Int32 → Unit → Prop) : Prop := (∃ n_5 : Nat, Events_countIn_2_L5 a2 src ec (fun (v3_4 : Int32) => Qr v3_4 ()) n_5 0 1)
set_option maxHeartbeats 4000000 in
set_option maxRecDepth 100000 in
theorem Events_countIn_2_L5_ok {p : Program} {l : Launch} {e : Env} {s : State} {m : MethodId} {args : Array Value} {below : List Frame} {meth : Method} {c : Code} {Q : State → Prop} {D : va_G} {A : Nat → Prop} {ad : Nat → Nat} {cI cL cO : ClassId} {sc : Int32} {sd : Int32} {src : (Nat → Int32)} {itm : (Nat → Int32)} {knd : (Nat → Int32)} {plc : (Nat → Int32)} {clk : (Nat → Int64)} {ec : Int32} {nf : (Nat → Int32)} {ns : (Nat → Int32)} {nc : Int32} {wt : (Nat → Nat → Int64)} {bd : (Nat → Nat → Int64)} {off : (Nat → Int64)} {row : (Nat → Int32)} {hw : (Nat → Nat → Int64)} {rl : Int32} {tm : (Nat → Int64)} {ord : (Nat → Int32)} {tc : Int32} {v2 : Int32} {Qx : Int32 → Prop} (hC : XC p s m args c D vwCl (tysX cI cL cO) A 5 bEv_countIn TBL REv)  (hexit : ∀ (v3 : Int32), Qx v3 → XW p l e rm_Events_countIn_2 s m args below meth c D vwCl A 5 Q 0 0 (wX ad cI cL cO sc sd src itm knd plc clk ec nf ns nc wt bd off row hw rl tm ord tc) 31 [(3, .int v3)] []) : ∀ (n : Nat) (v3 : Int32) (v4 : Int32), Events_countIn_2_L5 v2 src ec Qx n v3 v4 → XW p l e rm_Events_countIn_2 s m args below meth c D vwCl A 5 Q 0 0 (wX ad cI cL cO sc sd src itm knd plc clk ec nf ns nc wt bd off row hw rl tm ord tc) 5 [(0, .ref (ad 1)), (1, .ref (ad 2)), (2, .int v2), (3, .int v3), (4, .int v4)] [] := by
  intro n
  induction n with
  | zero => intro v3 v4 h; exact False.elim h
  | succ n ih =>
    intro v3 v4 h
    unfold Events_countIn_2_L5 at h
    refine x_iload hC dEv_countIn_5 4 rfl ?_
    refine x_aload_n hC dEv_countIn_7 rfl 0 rfl ?_
    refine x_get hC iEv 1 wX_1 rfl 5 (by decide) k_x0 rfl rfl dEv_countIn_8 ?_
    refine x_icmp_gt (tgt := 31) hC dEv_countIn_11 (by decide) (fun c_1 => ?_) (fun c_1 => ?_)
    · have h := h.1 c_1
      refine x_lv [3] rfl ?_
      exact hexit v3 h
    · have h := h.2 c_1
      refine x_aload_n hC dEv_countIn_14 rfl 1 rfl ?_
      refine x_iload hC dEv_countIn_15 4 rfl ?_
      obtain ⟨hb_2, h⟩ := h
      refine x_iald hC 2 0 wX_2 rfl hb_2 dEv_countIn_17 ?_
      refine x_iload_n hC dEv_countIn_18 rfl 2 rfl ?_
      refine x_icmp_ne (tgt := 25) hC dEv_countIn_19 (by decide) (fun c_3 => ?_) (fun c_3 => ?_)
      · have h := h.1 c_3
        refine x_iinc (v := v4 + 1) (lv' := [(4, .int (v4 + 1)), (0, .ref (ad 1)), (1, .ref (ad 2)), (2, .int v2), (3, .int v3)]) hC dEv_countIn_25 4 rfl rfl (by decide) rfl ?_
        refine x_goto (tgt := 5) hC dEv_countIn_28 (by decide) ?_
        refine x_lv [1, 2, 3, 4, 0] rfl ?_
        exact ih v3 (v4 + 1) h
      · have h := h.2 c_3
        refine x_iinc (v := v3 + 1) (lv' := [(3, .int (v3 + 1)), (0, .ref (ad 1)), (1, .ref (ad 2)), (2, .int v2), (4, .int v4)]) hC dEv_countIn_22 3 rfl rfl (by decide) rfl ?_
        refine x_iinc (v := v4 + 1) (lv' := [(4, .int (v4 + 1)), (3, .int (v3 + 1)), (0, .ref (ad 1)), (1, .ref (ad 2)), (2, .int v2)]) hC dEv_countIn_25 4 rfl rfl (by decide) rfl ?_
        refine x_goto (tgt := 5) hC dEv_countIn_28 (by decide) ?_
        refine x_lv [2, 3, 4, 1, 0] rfl ?_
        exact ih (v3 + 1) (v4 + 1) h

set_option maxHeartbeats 4000000 in
set_option maxRecDepth 100000 in
theorem c_Events_countIn_2 {l : Launch} {D : va_G} {ad : Nat → Nat} {cI cL cO : ClassId} {sc : Int32} {sd : Int32} {src : (Nat → Int32)} {itm : (Nat → Int32)} {knd : (Nat → Int32)} {plc : (Nat → Int32)} {clk : (Nat → Int64)} {ec : Int32} {nf : (Nat → Int32)} {ns : (Nat → Int32)} {nc : Int32} {wt : (Nat → Nat → Int64)} {bd : (Nat → Nat → Int64)} {off : (Nat → Int64)} {row : (Nat → Int32)} {hw : (Nat → Nat → Int64)} {rl : Int32} {tm : (Nat → Int64)} {ord : (Nat → Int32)} {tc : Int32} {a2 : Int32} {Qr : Int32 → Unit → Prop} (h : Events_countIn_2_wp src ec a2 Qr) (sz : Nat) : vx_Met l yEv_countIn (Cond.code yEv_countIn bEv_countIn 5 (some .int) :: TBL) rm_Events_countIn_2 (va_Pc [.ref (ad 1), .ref (ad 2), .int a2] (XP D vwCl (tysX cI cL cO) (wX ad cI cL cO sc sd src itm knd plc clk ec nf ns nc wt bd off row hw rl tm ord tc) sz)) (va_Qi Qr (fun u t => XB D vwCl (tysX cI cL cO) (va_A (wX ad cI cL cO sc sd src itm knd plc clk ec nf ns nc wt bd off row hw rl tm ord tc) sz) (wX ad cI cL cO sc sd src itm knd plc clk ec nf ns nc wt bd off row hw rl tm ord tc) t) (va_A (wX ad cI cL cO sc sd src itm knd plc clk ec nf ns nc wt bd off row hw rl tm ord tc) sz)) (XT D vwCl (tysX cI cL cO) (va_A (wX ad cI cL cO sc sd src itm knd plc clk ec nf ns nc wt bd off row hw rl tm ord tc) sz) (wX ad cI cL cO sc sd src itm knd plc clk ec nf ns nc wt bd off row hw rl tm ord tc) (fun _ => False)) rm_Events_countIn_2.cells rm_Events_countIn_2.slots (va_A (wX ad cI cL cO sc sd src itm knd plc clk ec nf ns nc wt bd off row hw rl tm ord tc) sz) := by
  refine x_met [.ref (ad 1), .ref (ad 2), .int a2] TBL_good (by decide) (Nat.le_of_ble_eq_true rfl) ?_
  intro p e s m args below meth c hC hr hlk hnm hnh
  have hret : ∀ (ce sl : Nat), ce ≤ rm_Events_countIn_2.cells → sl ≤ rm_Events_countIn_2.slots → ∀ (r : Int32) (u : Unit), Qr r u → ∀ (pc : Nat) (lv : List (Nat × Value)), decode bEv_countIn pc = .ok (.ireturn, 1) → XW p l e rm_Events_countIn_2 s m args below meth c D vwCl (va_A (wX ad cI cL cO sc sd src itm knd plc clk ec nf ns nc wt bd off row hw rl tm ord tc) sz) 5 (vx_MQ below (va_Qi Qr (fun u t => XB D vwCl (tysX cI cL cO) (va_A (wX ad cI cL cO sc sd src itm knd plc clk ec nf ns nc wt bd off row hw rl tm ord tc) sz) (wX ad cI cL cO sc sd src itm knd plc clk ec nf ns nc wt bd off row hw rl tm ord tc) t) (va_A (wX ad cI cL cO sc sd src itm knd plc clk ec nf ns nc wt bd off row hw rl tm ord tc) sz)) (XT D vwCl (tysX cI cL cO) (va_A (wX ad cI cL cO sc sd src itm knd plc clk ec nf ns nc wt bd off row hw rl tm ord tc) sz) (wX ad cI cL cO sc sd src itm knd plc clk ec nf ns nc wt bd off row hw rl tm ord tc) (fun _ => False)) args s rm_Events_countIn_2.cells rm_Events_countIn_2.slots (va_A (wX ad cI cL cO sc sd src itm knd plc clk ec nf ns nc wt bd off row hw rl tm ord tc) sz)) ce sl (wX ad cI cL cO sc sd src itm knd plc clk ec nf ns nc wt bd off row hw rl tm ord tc) pc lv [.int r] := fun ce sl h1 h2 r u hq pc lv hd => x_iret (wf := fun u => (wX ad cI cL cO sc sd src itm knd plc clk ec nf ns nc wt bd off row hw rl tm ord tc)) hC h1 h2 hr hlk hd hq rfl
  show XW p l e rm_Events_countIn_2 s m args below meth c D vwCl (va_A (wX ad cI cL cO sc sd src itm knd plc clk ec nf ns nc wt bd off row hw rl tm ord tc) sz) 5 _ 0 0 (wX ad cI cL cO sc sd src itm knd plc clk ec nf ns nc wt bd off row hw rl tm ord tc) 0 [(0, .ref (ad 1)), (1, .ref (ad 2)), (2, .int a2)] []
  unfold Events_countIn_2_wp at h
  refine x_iconst (v := 0) hC dEv_countIn_0 (by decide) ?_
  refine x_istore_n (lv' := [(3, .int 0), (0, .ref (ad 1)), (1, .ref (ad 2)), (2, .int a2)]) hC dEv_countIn_1 rfl (by decide) rfl ?_
  refine x_iconst (v := 1) hC dEv_countIn_2 (by decide) ?_
  refine x_istore (lv' := [(4, .int 1), (3, .int 0), (0, .ref (ad 1)), (1, .ref (ad 2)), (2, .int a2)]) hC dEv_countIn_3 (by decide) rfl ?_
  obtain ⟨n_5, h⟩ := h
  refine x_lv [2, 3, 4, 1, 0] rfl ?_
  refine Events_countIn_2_L5_ok hC (fun v3_4 h => ?_) n_5 0 1 h
  refine x_iload_n hC dEv_countIn_31 rfl 0 rfl ?_
  exact hret _ _ (by decide) (by decide) v3_4 () h _ _ dEv_countIn_32

/-! EventOrder$Events.countIn([II)I -/
abbrev rm_Events_countIn_4 : Room := { frames := 0, cells := 0, slots := 0, locals := 0 }
def Events_countIn_4_L5 (v2 : Int32) (knd : (Nat → Int32)) (ec : Int32) (Qx : Int32 → Prop) : Nat → Int32 → Int32 → Prop
  | 0, _, _ => False
  | n + 1, v3, v4 => ((ec < v4 → Qx v3) ∧ (¬ ec < v4 → vp_in v4 301 ∧ ((¬ (knd v4.toNatClampNeg) = v2 → Events_countIn_4_L5 v2 knd ec Qx n v3 (v4 + 1)) ∧ ((knd v4.toNatClampNeg) = v2 → Events_countIn_4_L5 v2 knd ec Qx n (v3 + 1) (v4 + 1)))))

def Events_countIn_4_wp (knd : (Nat → Int32)) (ec : Int32) (a2 : Int32) (Qr : Int32 → Unit → Prop) : Prop := (∃ n_5 : Nat, Events_countIn_4_L5 a2 knd ec (fun (v3_4 : Int32) => Qr v3_4 ()) n_5 0 1)
set_option maxHeartbeats 4000000 in
set_option maxRecDepth 100000 in
theorem Events_countIn_4_L5_ok {p : Program} {l : Launch} {e : Env} {s : State} {m : MethodId} {args : Array Value} {below : List Frame} {meth : Method} {c : Code} {Q : State → Prop} {D : va_G} {A : Nat → Prop} {ad : Nat → Nat} {cI cL cO : ClassId} {sc : Int32} {sd : Int32} {src : (Nat → Int32)} {itm : (Nat → Int32)} {knd : (Nat → Int32)} {plc : (Nat → Int32)} {clk : (Nat → Int64)} {ec : Int32} {nf : (Nat → Int32)} {ns : (Nat → Int32)} {nc : Int32} {wt : (Nat → Nat → Int64)} {bd : (Nat → Nat → Int64)} {off : (Nat → Int64)} {row : (Nat → Int32)} {hw : (Nat → Nat → Int64)} {rl : Int32} {tm : (Nat → Int64)} {ord : (Nat → Int32)} {tc : Int32} {v2 : Int32} {Qx : Int32 → Prop} (hC : XC p s m args c D vwCl (tysX cI cL cO) A 5 bEv_countIn TBL REv)  (hexit : ∀ (v3 : Int32), Qx v3 → XW p l e rm_Events_countIn_4 s m args below meth c D vwCl A 5 Q 0 0 (wX ad cI cL cO sc sd src itm knd plc clk ec nf ns nc wt bd off row hw rl tm ord tc) 31 [(3, .int v3)] []) : ∀ (n : Nat) (v3 : Int32) (v4 : Int32), Events_countIn_4_L5 v2 knd ec Qx n v3 v4 → XW p l e rm_Events_countIn_4 s m args below meth c D vwCl A 5 Q 0 0 (wX ad cI cL cO sc sd src itm knd plc clk ec nf ns nc wt bd off row hw rl tm ord tc) 5 [(0, .ref (ad 1)), (1, .ref (ad 4)), (2, .int v2), (3, .int v3), (4, .int v4)] [] := by
  intro n
  induction n with
  | zero => intro v3 v4 h; exact False.elim h
  | succ n ih =>
    intro v3 v4 h
    unfold Events_countIn_4_L5 at h
    refine x_iload hC dEv_countIn_5 4 rfl ?_
    refine x_aload_n hC dEv_countIn_7 rfl 0 rfl ?_
    refine x_get hC iEv 1 wX_1 rfl 5 (by decide) k_x0 rfl rfl dEv_countIn_8 ?_
    refine x_icmp_gt (tgt := 31) hC dEv_countIn_11 (by decide) (fun c_1 => ?_) (fun c_1 => ?_)
    · have h := h.1 c_1
      refine x_lv [3] rfl ?_
      exact hexit v3 h
    · have h := h.2 c_1
      refine x_aload_n hC dEv_countIn_14 rfl 1 rfl ?_
      refine x_iload hC dEv_countIn_15 4 rfl ?_
      obtain ⟨hb_2, h⟩ := h
      refine x_iald hC 4 0 wX_4 rfl hb_2 dEv_countIn_17 ?_
      refine x_iload_n hC dEv_countIn_18 rfl 2 rfl ?_
      refine x_icmp_ne (tgt := 25) hC dEv_countIn_19 (by decide) (fun c_3 => ?_) (fun c_3 => ?_)
      · have h := h.1 c_3
        refine x_iinc (v := v4 + 1) (lv' := [(4, .int (v4 + 1)), (0, .ref (ad 1)), (1, .ref (ad 4)), (2, .int v2), (3, .int v3)]) hC dEv_countIn_25 4 rfl rfl (by decide) rfl ?_
        refine x_goto (tgt := 5) hC dEv_countIn_28 (by decide) ?_
        refine x_lv [1, 2, 3, 4, 0] rfl ?_
        exact ih v3 (v4 + 1) h
      · have h := h.2 c_3
        refine x_iinc (v := v3 + 1) (lv' := [(3, .int (v3 + 1)), (0, .ref (ad 1)), (1, .ref (ad 4)), (2, .int v2), (4, .int v4)]) hC dEv_countIn_22 3 rfl rfl (by decide) rfl ?_
        refine x_iinc (v := v4 + 1) (lv' := [(4, .int (v4 + 1)), (3, .int (v3 + 1)), (0, .ref (ad 1)), (1, .ref (ad 4)), (2, .int v2)]) hC dEv_countIn_25 4 rfl rfl (by decide) rfl ?_
        refine x_goto (tgt := 5) hC dEv_countIn_28 (by decide) ?_
        refine x_lv [2, 3, 4, 1, 0] rfl ?_
        exact ih (v3 + 1) (v4 + 1) h

set_option maxHeartbeats 4000000 in
set_option maxRecDepth 100000 in
theorem c_Events_countIn_4 {l : Launch} {D : va_G} {ad : Nat → Nat} {cI cL cO : ClassId} {sc : Int32} {sd : Int32} {src : (Nat → Int32)} {itm : (Nat → Int32)} {knd : (Nat → Int32)} {plc : (Nat → Int32)} {clk : (Nat → Int64)} {ec : Int32} {nf : (Nat → Int32)} {ns : (Nat → Int32)} {nc : Int32} {wt : (Nat → Nat → Int64)} {bd : (Nat → Nat → Int64)} {off : (Nat → Int64)} {row : (Nat → Int32)} {hw : (Nat → Nat → Int64)} {rl : Int32} {tm : (Nat → Int64)} {ord : (Nat → Int32)} {tc : Int32} {a2 : Int32} {Qr : Int32 → Unit → Prop} (h : Events_countIn_4_wp knd ec a2 Qr) (sz : Nat) : vx_Met l yEv_countIn (Cond.code yEv_countIn bEv_countIn 5 (some .int) :: TBL) rm_Events_countIn_4 (va_Pc [.ref (ad 1), .ref (ad 4), .int a2] (XP D vwCl (tysX cI cL cO) (wX ad cI cL cO sc sd src itm knd plc clk ec nf ns nc wt bd off row hw rl tm ord tc) sz)) (va_Qi Qr (fun u t => XB D vwCl (tysX cI cL cO) (va_A (wX ad cI cL cO sc sd src itm knd plc clk ec nf ns nc wt bd off row hw rl tm ord tc) sz) (wX ad cI cL cO sc sd src itm knd plc clk ec nf ns nc wt bd off row hw rl tm ord tc) t) (va_A (wX ad cI cL cO sc sd src itm knd plc clk ec nf ns nc wt bd off row hw rl tm ord tc) sz)) (XT D vwCl (tysX cI cL cO) (va_A (wX ad cI cL cO sc sd src itm knd plc clk ec nf ns nc wt bd off row hw rl tm ord tc) sz) (wX ad cI cL cO sc sd src itm knd plc clk ec nf ns nc wt bd off row hw rl tm ord tc) (fun _ => False)) rm_Events_countIn_4.cells rm_Events_countIn_4.slots (va_A (wX ad cI cL cO sc sd src itm knd plc clk ec nf ns nc wt bd off row hw rl tm ord tc) sz) := by
  refine x_met [.ref (ad 1), .ref (ad 4), .int a2] TBL_good (by decide) (Nat.le_of_ble_eq_true rfl) ?_
  intro p e s m args below meth c hC hr hlk hnm hnh
  have hret : ∀ (ce sl : Nat), ce ≤ rm_Events_countIn_4.cells → sl ≤ rm_Events_countIn_4.slots → ∀ (r : Int32) (u : Unit), Qr r u → ∀ (pc : Nat) (lv : List (Nat × Value)), decode bEv_countIn pc = .ok (.ireturn, 1) → XW p l e rm_Events_countIn_4 s m args below meth c D vwCl (va_A (wX ad cI cL cO sc sd src itm knd plc clk ec nf ns nc wt bd off row hw rl tm ord tc) sz) 5 (vx_MQ below (va_Qi Qr (fun u t => XB D vwCl (tysX cI cL cO) (va_A (wX ad cI cL cO sc sd src itm knd plc clk ec nf ns nc wt bd off row hw rl tm ord tc) sz) (wX ad cI cL cO sc sd src itm knd plc clk ec nf ns nc wt bd off row hw rl tm ord tc) t) (va_A (wX ad cI cL cO sc sd src itm knd plc clk ec nf ns nc wt bd off row hw rl tm ord tc) sz)) (XT D vwCl (tysX cI cL cO) (va_A (wX ad cI cL cO sc sd src itm knd plc clk ec nf ns nc wt bd off row hw rl tm ord tc) sz) (wX ad cI cL cO sc sd src itm knd plc clk ec nf ns nc wt bd off row hw rl tm ord tc) (fun _ => False)) args s rm_Events_countIn_4.cells rm_Events_countIn_4.slots (va_A (wX ad cI cL cO sc sd src itm knd plc clk ec nf ns nc wt bd off row hw rl tm ord tc) sz)) ce sl (wX ad cI cL cO sc sd src itm knd plc clk ec nf ns nc wt bd off row hw rl tm ord tc) pc lv [.int r] := fun ce sl h1 h2 r u hq pc lv hd => x_iret (wf := fun u => (wX ad cI cL cO sc sd src itm knd plc clk ec nf ns nc wt bd off row hw rl tm ord tc)) hC h1 h2 hr hlk hd hq rfl
  show XW p l e rm_Events_countIn_4 s m args below meth c D vwCl (va_A (wX ad cI cL cO sc sd src itm knd plc clk ec nf ns nc wt bd off row hw rl tm ord tc) sz) 5 _ 0 0 (wX ad cI cL cO sc sd src itm knd plc clk ec nf ns nc wt bd off row hw rl tm ord tc) 0 [(0, .ref (ad 1)), (1, .ref (ad 4)), (2, .int a2)] []
  unfold Events_countIn_4_wp at h
  refine x_iconst (v := 0) hC dEv_countIn_0 (by decide) ?_
  refine x_istore_n (lv' := [(3, .int 0), (0, .ref (ad 1)), (1, .ref (ad 4)), (2, .int a2)]) hC dEv_countIn_1 rfl (by decide) rfl ?_
  refine x_iconst (v := 1) hC dEv_countIn_2 (by decide) ?_
  refine x_istore (lv' := [(4, .int 1), (3, .int 0), (0, .ref (ad 1)), (1, .ref (ad 4)), (2, .int a2)]) hC dEv_countIn_3 (by decide) rfl ?_
  obtain ⟨n_5, h⟩ := h
  refine x_lv [2, 3, 4, 1, 0] rfl ?_
  refine Events_countIn_4_L5_ok hC (fun v3_4 h => ?_) n_5 0 1 h
  refine x_iload_n hC dEv_countIn_31 rfl 0 rfl ?_
  exact hret _ _ (by decide) (by decide) v3_4 () h _ _ dEv_countIn_32

/-! EventOrder$Needs.add(II)I -/
abbrev rm_Needs_add : Room := { frames := 0, cells := 0, slots := 0, locals := 0 }
def Needs_add_wp (nf : (Nat → Int32)) (ns : (Nat → Int32)) (nc : Int32) (a1 : Int32) (a2 : Int32) (Qr : Int32 → ((Nat → Int32) × (Nat → Int32) × Int32) → Prop) : Prop := vp_in nc 300 ∧ vp_in nc 300 ∧ Qr (nc + 1) (upd nf nc.toNatClampNeg a1, upd ns nc.toNatClampNeg a2, nc + 1)
set_option maxHeartbeats 4000000 in
set_option maxRecDepth 100000 in
theorem c_Needs_add {l : Launch} {D : va_G} {ad : Nat → Nat} {cI cL cO : ClassId} {sc : Int32} {sd : Int32} {src : (Nat → Int32)} {itm : (Nat → Int32)} {knd : (Nat → Int32)} {plc : (Nat → Int32)} {clk : (Nat → Int64)} {ec : Int32} {nf : (Nat → Int32)} {ns : (Nat → Int32)} {nc : Int32} {wt : (Nat → Nat → Int64)} {bd : (Nat → Nat → Int64)} {off : (Nat → Int64)} {row : (Nat → Int32)} {hw : (Nat → Nat → Int64)} {rl : Int32} {tm : (Nat → Int64)} {ord : (Nat → Int32)} {tc : Int32} {a1 : Int32} {a2 : Int32} {Qr : Int32 → ((Nat → Int32) × (Nat → Int32) × Int32) → Prop} (h : Needs_add_wp nf ns nc a1 a2 Qr) (sz : Nat) : vx_Met l yNd_add (Cond.code yNd_add bNd_add 3 (some .int) :: TBL) rm_Needs_add (va_Pc [.ref (ad 7), .int a1, .int a2] (XP D vwCl (tysX cI cL cO) (wX ad cI cL cO sc sd src itm knd plc clk ec nf ns nc wt bd off row hw rl tm ord tc) sz)) (va_Qi Qr (fun u t => XB D vwCl (tysX cI cL cO) (va_A (wX ad cI cL cO sc sd src itm knd plc clk ec nf ns nc wt bd off row hw rl tm ord tc) sz) (wX ad cI cL cO sc sd src itm knd plc clk ec u.1 u.2.1 u.2.2 wt bd off row hw rl tm ord tc) t) (va_A (wX ad cI cL cO sc sd src itm knd plc clk ec nf ns nc wt bd off row hw rl tm ord tc) sz)) (XT D vwCl (tysX cI cL cO) (va_A (wX ad cI cL cO sc sd src itm knd plc clk ec nf ns nc wt bd off row hw rl tm ord tc) sz) (wX ad cI cL cO sc sd src itm knd plc clk ec nf ns nc wt bd off row hw rl tm ord tc) (fun _ => False)) rm_Needs_add.cells rm_Needs_add.slots (va_A (wX ad cI cL cO sc sd src itm knd plc clk ec nf ns nc wt bd off row hw rl tm ord tc) sz) := by
  refine x_met [.ref (ad 7), .int a1, .int a2] TBL_good (by decide) (Nat.le_of_ble_eq_true rfl) ?_
  intro p e s m args below meth c hC hr hlk hnm hnh
  have hret : ∀ (ce sl : Nat), ce ≤ rm_Needs_add.cells → sl ≤ rm_Needs_add.slots → ∀ (r : Int32) (u : ((Nat → Int32) × (Nat → Int32) × Int32)), Qr r u → ∀ (pc : Nat) (lv : List (Nat × Value)), decode bNd_add pc = .ok (.ireturn, 1) → XW p l e rm_Needs_add s m args below meth c D vwCl (va_A (wX ad cI cL cO sc sd src itm knd plc clk ec nf ns nc wt bd off row hw rl tm ord tc) sz) 3 (vx_MQ below (va_Qi Qr (fun u t => XB D vwCl (tysX cI cL cO) (va_A (wX ad cI cL cO sc sd src itm knd plc clk ec nf ns nc wt bd off row hw rl tm ord tc) sz) (wX ad cI cL cO sc sd src itm knd plc clk ec u.1 u.2.1 u.2.2 wt bd off row hw rl tm ord tc) t) (va_A (wX ad cI cL cO sc sd src itm knd plc clk ec nf ns nc wt bd off row hw rl tm ord tc) sz)) (XT D vwCl (tysX cI cL cO) (va_A (wX ad cI cL cO sc sd src itm knd plc clk ec nf ns nc wt bd off row hw rl tm ord tc) sz) (wX ad cI cL cO sc sd src itm knd plc clk ec nf ns nc wt bd off row hw rl tm ord tc) (fun _ => False)) args s rm_Needs_add.cells rm_Needs_add.slots (va_A (wX ad cI cL cO sc sd src itm knd plc clk ec nf ns nc wt bd off row hw rl tm ord tc) sz)) ce sl (wX ad cI cL cO sc sd src itm knd plc clk ec u.1 u.2.1 u.2.2 wt bd off row hw rl tm ord tc) pc lv [.int r] := fun ce sl h1 h2 r u hq pc lv hd => x_iret (wf := fun u => (wX ad cI cL cO sc sd src itm knd plc clk ec u.1 u.2.1 u.2.2 wt bd off row hw rl tm ord tc)) hC h1 h2 hr hlk hd hq rfl
  show XW p l e rm_Needs_add s m args below meth c D vwCl (va_A (wX ad cI cL cO sc sd src itm knd plc clk ec nf ns nc wt bd off row hw rl tm ord tc) sz) 3 _ 0 0 (wX ad cI cL cO sc sd src itm knd plc clk ec nf ns nc wt bd off row hw rl tm ord tc) 0 [(0, .ref (ad 7)), (1, .int a1), (2, .int a2)] []
  unfold Needs_add_wp at h
  refine x_aload_n hC dNd_add_0 rfl 0 rfl ?_
  refine x_get hC iNd 7 wX_7 rfl 0 (by decide) k_x6 rfl rfl dNd_add_1 ?_
  refine x_aload_n hC dNd_add_4 rfl 0 rfl ?_
  refine x_get hC iNd 7 wX_7 rfl 2 (by decide) k_x7 rfl rfl dNd_add_5 ?_
  refine x_iload_n hC dNd_add_8 rfl 1 rfl ?_
  obtain ⟨hb_1, h⟩ := h
  refine x_iast (ws' := (wX ad cI cL cO sc sd src itm knd plc clk ec (upd nf nc.toNatClampNeg a1) ns nc wt bd off row hw rl tm ord tc)) hC 8 0 wX_8 rfl hb_1 wX_8_set dNd_add_9 ?_
  refine x_aload_n hC dNd_add_10 rfl 0 rfl ?_
  refine x_get hC iNd 7 wX_7 rfl 1 (by decide) k_x8 rfl rfl dNd_add_11 ?_
  refine x_aload_n hC dNd_add_14 rfl 0 rfl ?_
  refine x_get hC iNd 7 wX_7 rfl 2 (by decide) k_x7 rfl rfl dNd_add_15 ?_
  refine x_iload_n hC dNd_add_18 rfl 2 rfl ?_
  obtain ⟨hb_2, h⟩ := h
  refine x_iast (ws' := (wX ad cI cL cO sc sd src itm knd plc clk ec (upd nf nc.toNatClampNeg a1) (upd ns nc.toNatClampNeg a2) nc wt bd off row hw rl tm ord tc)) hC 9 0 wX_9 rfl hb_2 wX_9_set dNd_add_19 ?_
  refine x_aload_n hC dNd_add_20 rfl 0 rfl ?_
  refine x_dup hC dNd_add_21 rfl ?_
  refine x_get hC iNd 7 wX_7 rfl 2 (by decide) k_x7 rfl rfl dNd_add_22 ?_
  refine x_iconst (v := 1) hC dNd_add_25 (by decide) ?_
  refine x_iadd hC dNd_add_26 ?_
  refine x_put (ty := .int) (ws' := (wX ad cI cL cO sc sd src itm knd plc clk ec (upd nf nc.toNatClampNeg a1) (upd ns nc.toNatClampNeg a2) (nc + 1) wt bd off row hw rl tm ord tc)) hC iNd 7 wX_7 rfl 2 (by decide) k_x7 rfl tNd tNd_ok nNd rfl (by decide +kernel) rfl rfl (Nat.le_of_ble_eq_true rfl) rfl dNd_add_27 ?_
  refine x_aload_n hC dNd_add_30 rfl 0 rfl ?_
  refine x_get hC iNd 7 wX_7 rfl 2 (by decide) k_x7 rfl rfl dNd_add_31 ?_
  exact hret _ _ (by decide) (by decide) (nc + 1) (upd nf nc.toNatClampNeg a1, upd ns nc.toNatClampNeg a2, nc + 1) h _ _ dNd_add_34

