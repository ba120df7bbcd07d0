/-! EventOrder$Timeline.isLater(II[I)Z -/
abbrev rm_Timeline_isLater_5 : Room := { frames := 0, cells := 0, slots := 0, locals := 0 }
def Timeline_isLater_5_wp (plc : (Nat → Int32)) (tm : (Nat → Int64)) (a1 : Int32) (a2 : Int32) (Qr : Int32 → Unit → Prop) : Prop := vp_in a1 301 ∧ vp_in a2 301 ∧ (((tm a1.toNatClampNeg) = (tm a2.toNatClampNeg) → vp_in a1 301 ∧ vp_in a2 301 ∧ (((plc a1.toNatClampNeg) ≤ (plc a2.toNatClampNeg) → Qr 0 ()) ∧ (¬ (plc a1.toNatClampNeg) ≤ (plc a2.toNatClampNeg) → Qr 1 ()))) ∧ (¬ (tm a1.toNatClampNeg) = (tm a2.toNatClampNeg) → vp_in a1 301 ∧ vp_in a2 301 ∧ (((tm a1.toNatClampNeg) ≤ (tm a2.toNatClampNeg) → Qr 0 ()) ∧ (¬ (tm a1.toNatClampNeg) ≤ (tm a2.toNatClampNeg) → Qr 1 ()))))
set_option maxHeartbeats 4000000 in
set_option maxRecDepth 100000 in
theorem c_Timeline_isLater_5 {l : Launch} {D : va_G} {ad : Nat → Nat} {cI cL cO : ClassId} {sc : Int32} {sd : Int32} {src : (Nat → Int32)} {itm : (Nat → Int32)} {knd : (Nat → Int32)} {plc : (Nat → Int32)} {clk : (Nat → Int64)} {ec : Int32} {nf : (Nat → Int32)} {ns : (Nat → Int32)} {nc : Int32} {wt : (Nat → Nat → Int64)} {bd : (Nat → Nat → Int64)} {off : (Nat → Int64)} {row : (Nat → Int32)} {hw : (Nat → Nat → Int64)} {rl : Int32} {tm : (Nat → Int64)} {ord : (Nat → Int32)} {tc : Int32} {a1 : Int32} {a2 : Int32} {Qr : Int32 → Unit → Prop} (h : Timeline_isLater_5_wp plc tm a1 a2 Qr) (sz : Nat) : vx_Met l yTl_isLater (Cond.code yTl_isLater bTl_isLater 4 (some .boolean) :: TBL) rm_Timeline_isLater_5 (va_Pc [.ref (ad 17), .int a1, .int a2, .ref (ad 5)] (XP D vwCl (tysX cI cL cO) (wX ad cI cL cO sc sd src itm knd plc clk ec nf ns nc wt bd off row hw rl tm ord tc) sz)) (va_Qi Qr (fun u t => XB D vwCl (tysX cI cL cO) (va_A (wX ad cI cL cO sc sd src itm knd plc clk ec nf ns nc wt bd off row hw rl tm ord tc) sz) (wX ad cI cL cO sc sd src itm knd plc clk ec nf ns nc wt bd off row hw rl tm ord tc) t) (va_A (wX ad cI cL cO sc sd src itm knd plc clk ec nf ns nc wt bd off row hw rl tm ord tc) sz)) (XT D vwCl (tysX cI cL cO) (va_A (wX ad cI cL cO sc sd src itm knd plc clk ec nf ns nc wt bd off row hw rl tm ord tc) sz) (wX ad cI cL cO sc sd src itm knd plc clk ec nf ns nc wt bd off row hw rl tm ord tc) (fun _ => False)) rm_Timeline_isLater_5.cells rm_Timeline_isLater_5.slots (va_A (wX ad cI cL cO sc sd src itm knd plc clk ec nf ns nc wt bd off row hw rl tm ord tc) sz) := by
  refine x_met [.ref (ad 17), .int a1, .int a2, .ref (ad 5)] TBL_good (by decide) (Nat.le_of_ble_eq_true rfl) ?_
  intro p e s m args below meth c hC hr hlk hnm hnh
  have hret : ∀ (ce sl : Nat), ce ≤ rm_Timeline_isLater_5.cells → sl ≤ rm_Timeline_isLater_5.slots → ∀ (r : Int32) (u : Unit), x_bool r → Qr r u → ∀ (pc : Nat) (lv : List (Nat × Value)), decode bTl_isLater pc = .ok (.ireturn, 1) → XW p l e rm_Timeline_isLater_5 s m args below meth c D vwCl (va_A (wX ad cI cL cO sc sd src itm knd plc clk ec nf ns nc wt bd off row hw rl tm ord tc) sz) 4 (vx_MQ below (va_Qi Qr (fun u t => XB D vwCl (tysX cI cL cO) (va_A (wX ad cI cL cO sc sd src itm knd plc clk ec nf ns nc wt bd off row hw rl tm ord tc) sz) (wX ad cI cL cO sc sd src itm knd plc clk ec nf ns nc wt bd off row hw rl tm ord tc) t) (va_A (wX ad cI cL cO sc sd src itm knd plc clk ec nf ns nc wt bd off row hw rl tm ord tc) sz)) (XT D vwCl (tysX cI cL cO) (va_A (wX ad cI cL cO sc sd src itm knd plc clk ec nf ns nc wt bd off row hw rl tm ord tc) sz) (wX ad cI cL cO sc sd src itm knd plc clk ec nf ns nc wt bd off row hw rl tm ord tc) (fun _ => False)) args s rm_Timeline_isLater_5.cells rm_Timeline_isLater_5.slots (va_A (wX ad cI cL cO sc sd src itm knd plc clk ec nf ns nc wt bd off row hw rl tm ord tc) sz)) ce sl (wX ad cI cL cO sc sd src itm knd plc clk ec nf ns nc wt bd off row hw rl tm ord tc) pc lv [.int r] := fun ce sl h1 h2 r u hb9 hq pc lv hd => x_zret (wf := fun u => (wX ad cI cL cO sc sd src itm knd plc clk ec nf ns nc wt bd off row hw rl tm ord tc)) hC h1 h2 hr hlk hb9 hd hq rfl
  show XW p l e rm_Timeline_isLater_5 s m args below meth c D vwCl (va_A (wX ad cI cL cO sc sd src itm knd plc clk ec nf ns nc wt bd off row hw rl tm ord tc) sz) 4 _ 0 0 (wX ad cI cL cO sc sd src itm knd plc clk ec nf ns nc wt bd off row hw rl tm ord tc) 0 [(0, .ref (ad 17)), (1, .int a1), (2, .int a2), (3, .ref (ad 5))] []
  unfold Timeline_isLater_5_wp at h
  refine x_aload_n hC dTl_isLater_0 rfl 0 rfl ?_
  refine x_get hC iTl 17 wX_17 rfl 0 (by decide) k_x61 rfl rfl dTl_isLater_1 ?_
  refine x_iload_n hC dTl_isLater_4 rfl 1 rfl ?_
  obtain ⟨hb_1, h⟩ := h
  refine x_lald hC 18 1 wX_18 rfl hb_1 dTl_isLater_5 ?_
  refine x_aload_n hC dTl_isLater_6 rfl 0 rfl ?_
  refine x_get hC iTl 17 wX_17 rfl 0 (by decide) k_x61 rfl rfl dTl_isLater_7 ?_
  refine x_iload_n hC dTl_isLater_10 rfl 2 rfl ?_
  obtain ⟨hb_2, h⟩ := h
  refine x_lald hC 18 1 wX_18 rfl hb_2 dTl_isLater_11 ?_
  refine x_lcmp_eq (tgt := 38) hC dTl_isLater_12 dTl_isLater_13 (by decide) (fun c_3 => ?_) (fun c_3 => ?_)
  · have h := h.1 c_3
    refine x_aload_n hC dTl_isLater_38 rfl 3 rfl ?_
    refine x_iload_n hC dTl_isLater_39 rfl 1 rfl ?_
    obtain ⟨hb_4, h⟩ := h
    refine x_iald hC 5 0 wX_5 rfl hb_4 dTl_isLater_40 ?_
    refine x_aload_n hC dTl_isLater_41 rfl 3 rfl ?_
    refine x_iload_n hC dTl_isLater_42 rfl 2 rfl ?_
    obtain ⟨hb_5, h⟩ := h
    refine x_iald hC 5 0 wX_5 rfl hb_5 dTl_isLater_43 ?_
    refine x_icmp_le (tgt := 51) hC dTl_isLater_44 (by decide) (fun c_6 => ?_) (fun c_6 => ?_)
    · have h := h.1 c_6
      refine x_iconst (v := 0) hC dTl_isLater_51 (by decide) ?_
      exact hret _ _ (by decide) (by decide) 0 () (Or.inl rfl) h _ _ dTl_isLater_52
    · have h := h.2 c_6
      refine x_iconst (v := 1) hC dTl_isLater_47 (by decide) ?_
      refine x_goto (tgt := 52) hC dTl_isLater_48 (by decide) ?_
      exact hret _ _ (by decide) (by decide) 1 () (Or.inr rfl) h _ _ dTl_isLater_52
  · have h := h.2 c_3
    refine x_aload_n hC dTl_isLater_16 rfl 0 rfl ?_
    refine x_get hC iTl 17 wX_17 rfl 0 (by decide) k_x61 rfl rfl dTl_isLater_17 ?_
    refine x_iload_n hC dTl_isLater_20 rfl 1 rfl ?_
    obtain ⟨hb_7, h⟩ := h
    refine x_lald hC 18 1 wX_18 rfl hb_7 dTl_isLater_21 ?_
    refine x_aload_n hC dTl_isLater_22 rfl 0 rfl ?_
    refine x_get hC iTl 17 wX_17 rfl 0 (by decide) k_x61 rfl rfl dTl_isLater_23 ?_
    refine x_iload_n hC dTl_isLater_26 rfl 2 rfl ?_
    obtain ⟨hb_8, h⟩ := h
    refine x_lald hC 18 1 wX_18 rfl hb_8 dTl_isLater_27 ?_
    refine x_lcmp_le (tgt := 36) hC dTl_isLater_28 dTl_isLater_29 (by decide) (fun c_9 => ?_) (fun c_9 => ?_)
    · have h := h.1 c_9
      refine x_iconst (v := 0) hC dTl_isLater_36 (by decide) ?_
      exact hret _ _ (by decide) (by decide) 0 () (Or.inl rfl) h _ _ dTl_isLater_37
    · have h := h.2 c_9
      refine x_iconst (v := 1) hC dTl_isLater_32 (by decide) ?_
      refine x_goto (tgt := 37) hC dTl_isLater_33 (by decide) ?_
      exact hret _ _ (by decide) (by decide) 1 () (Or.inr rfl) h _ _ dTl_isLater_37

/-! EventOrder$Timeline.lay(LEventOrder$Events;[J)V -/
abbrev rm_Timeline_lay_1_13 : Room := { frames := 1, cells := 0, slots := 0, locals := 23 }
def Timeline_lay_1_13_L44 (v3 : Int32) (plc : (Nat → Int32)) (tm : (Nat → Int64)) (Qx : Int32 → (Nat → Int32) → Prop) : Nat → Int32 → (Nat → Int32) → Prop
  | 0, _, _ => False
  | n + 1, v4, ord => ((v4 ≤ 0 → Qx v4 ord) ∧ (¬ v4 ≤ 0 → vp_in (v4 - 1) 300 ∧ Timeline_isLater_5_wp plc tm (ord (v4 - 1).toNatClampNeg) v3 (fun (r_8 : Int32) (u_9 : Unit) => ((r_8 = 0 → Qx v4 ord) ∧ (¬ r_8 = 0 → vp_in (v4 - 1) 300 ∧ vp_in v4 300 ∧ Timeline_lay_1_13_L44 v3 plc tm Qx n (v4 + (-1)) (upd ord v4.toNatClampNeg (ord (v4 - 1).toNatClampNeg)))))))

def Timeline_lay_1_13_L10 (src : (Nat → Int32)) (plc : (Nat → Int32)) (clk : (Nat → Int64)) (off : (Nat → Int64)) (tc : Int32) (Qx : (Nat → Int64) → (Nat → Int32) → Prop) : Nat → Int32 → (Nat → Int64) → (Nat → Int32) → Prop
  | 0, _, _, _ => False
  | n + 1, v3, tm, ord => ((tc < v3 → Qx tm ord) ∧ (¬ tc < v3 → vp_in v3 301 ∧ vp_in v3 301 ∧ vp_in (src v3.toNatClampNeg) 16 ∧ vp_in v3 301 ∧ (∃ n_16 : Nat, Timeline_lay_1_13_L44 v3 plc (vp_updL tm v3.toNatClampNeg ((clk v3.toNatClampNeg) + (off (src v3.toNatClampNeg).toNatClampNeg))) (fun (v4_13 : Int32) (ord_14 : (Nat → Int32)) => vp_in v4_13 300 ∧ Timeline_lay_1_13_L10 src plc clk off tc Qx n (v3 + 1) (vp_updL tm v3.toNatClampNeg ((clk v3.toNatClampNeg) + (off (src v3.toNatClampNeg).toNatClampNeg))) (upd ord_14 v4_13.toNatClampNeg v3)) n_16 (v3 - 1) ord)))

def Timeline_lay_1_13_wp (src : (Nat → Int32)) (plc : (Nat → Int32)) (clk : (Nat → Int64)) (ec : Int32) (off : (Nat → Int64)) (tm : (Nat → Int64)) (ord : (Nat → Int32)) (tc : Int32) (Qr : ((Nat → Int64) × (Nat → Int32) × Int32) → Prop) : Prop := (∃ n_19 : Nat, Timeline_lay_1_13_L10 src plc clk off ec (fun (tm_17 : (Nat → Int64)) (ord_18 : (Nat → Int32)) => Qr (tm_17, ord_18, ec)) n_19 1 tm ord)
set_option maxHeartbeats 4000000 in
set_option maxRecDepth 100000 in
theorem Timeline_lay_1_13_L44_ok {p : Program} {l : Launch} {e : Env} {s : State} {m : MethodId} {args : Array Value} {below : List Frame} {meth : Method} {c : Code} {Q : State → Prop} {D : va_G} {A : Nat → Prop} {ad : Nat → Nat} {cI cL cO : ClassId} {sc : Int32} {sd : Int32} {src : (Nat → Int32)} {itm : (Nat → Int32)} {knd : (Nat → Int32)} {plc : (Nat → Int32)} {clk : (Nat → Int64)} {ec : Int32} {nf : (Nat → Int32)} {ns : (Nat → Int32)} {nc : Int32} {wt : (Nat → Nat → Int64)} {bd : (Nat → Nat → Int64)} {off : (Nat → Int64)} {row : (Nat → Int32)} {hw : (Nat → Nat → Int64)} {rl : Int32} {tm : (Nat → Int64)} {tc : Int32} {v3 : Int32} {Qx : Int32 → (Nat → Int32) → Prop} (hC : XC p s m args c D vwCl (tysX cI cL cO) A 5 bTl_lay TBL RTl)  (hexit : ∀ (v4 : Int32) (ord : (Nat → Int32)), Qx v4 ord → XW p l e rm_Timeline_lay_1_13 s m args below meth c D vwCl A 5 Q 0 0 (wX ad cI cL cO sc sd src itm knd plc clk ec nf ns nc wt bd off row hw rl tm ord tc) 92 [(0, .ref (ad 17)), (1, .ref (ad 1)), (2, .ref (ad 13)), (3, .int v3), (4, .int v4)] []) : ∀ (n : Nat) (v4 : Int32) (ord : (Nat → Int32)), Timeline_lay_1_13_L44 v3 plc tm Qx n v4 ord → XW p l e rm_Timeline_lay_1_13 s m args below meth c D vwCl A 5 Q 0 0 (wX ad cI cL cO sc sd src itm knd plc clk ec nf ns nc wt bd off row hw rl tm ord tc) 44 [(0, .ref (ad 17)), (1, .ref (ad 1)), (2, .ref (ad 13)), (3, .int v3), (4, .int v4)] [] := by
  intro n
  induction n with
  | zero => intro v4 ord h; exact False.elim h
  | succ n ih =>
    intro v4 ord h
    unfold Timeline_lay_1_13_L44 at h
    refine x_iload hC dTl_lay_44 4 rfl ?_
    refine x_if_le (tgt := 92) hC dTl_lay_46 (by decide) (fun c_6 => ?_) (fun c_6 => ?_)
    · have h := h.1 c_6
      refine x_lv [0, 1, 2, 3, 4] rfl ?_
      exact hexit v4 ord h
    · have h := h.2 c_6
      refine x_aload_n hC dTl_lay_49 rfl 0 rfl ?_
      refine x_aload_n hC dTl_lay_50 rfl 0 rfl ?_
      refine x_get hC iTl 17 wX_17 rfl 1 (by decide) k_x64 rfl rfl dTl_lay_51 ?_
      refine x_iload hC dTl_lay_54 4 rfl ?_
      refine x_iconst (v := 1) hC dTl_lay_56 (by decide) ?_
      refine x_isub hC dTl_lay_57 ?_
      obtain ⟨hb_7, h⟩ := h
      refine x_iald hC 19 0 wX_19 rfl hb_7 dTl_lay_58 ?_
      refine x_iload_n hC dTl_lay_59 rfl 3 rfl ?_
      refine x_aload_n hC dTl_lay_60 rfl 1 rfl ?_
      refine x_get hC iEv 1 wX_1 rfl 3 (by decide) k_x65 rfl rfl dTl_lay_61 ?_
      refine x_callVi (S := Unit) (wf := fun u => (wX ad cI cL cO sc sd src itm knd plc clk ec nf ns nc wt bd off row hw rl tm ord tc)) hC [.int (ord (v4 - 1).toNatClampNeg), .int v3, .ref (ad 5)] (fun sz => c_Timeline_isLater_5 h sz) (by decide) (by decide) k_x66 k_x67 k_x68 (by decide) 3 rfl (by decide +kernel) ⟨by decide, by decide⟩ (Nat.le_of_ble_eq_true rfl) k_x69 k_x70 wX_17 rfl rfl dTl_lay_64 (fun _ h9 => h9) (fun r_8 u_9 h => ?_)
      refine x_if_eq (tgt := 92) hC dTl_lay_67 (by decide) (fun c_10 => ?_) (fun c_10 => ?_)
      · have h := h.1 c_10
        refine x_lv [0, 1, 2, 3, 4] rfl ?_
        exact hexit v4 ord h
      · have h := h.2 c_10
        refine x_aload_n hC dTl_lay_70 rfl 0 rfl ?_
        refine x_get hC iTl 17 wX_17 rfl 1 (by decide) k_x64 rfl rfl dTl_lay_71 ?_
        refine x_iload hC dTl_lay_74 4 rfl ?_
        refine x_aload_n hC dTl_lay_76 rfl 0 rfl ?_
        refine x_get hC iTl 17 wX_17 rfl 1 (by decide) k_x64 rfl rfl dTl_lay_77 ?_
        refine x_iload hC dTl_lay_80 4 rfl ?_
        refine x_iconst (v := 1) hC dTl_lay_82 (by decide) ?_
        refine x_isub hC dTl_lay_83 ?_
        obtain ⟨hb_11, h⟩ := h
        refine x_iald hC 19 0 wX_19 rfl hb_11 dTl_lay_84 ?_
        obtain ⟨hb_12, h⟩ := h
        refine x_iast (ws' := (wX ad cI cL cO sc sd src itm knd plc clk ec nf ns nc wt bd off row hw rl tm (upd ord v4.toNatClampNeg (ord (v4 - 1).toNatClampNeg)) tc)) hC 19 0 wX_19 rfl hb_12 wX_19_set dTl_lay_85 ?_
        refine x_iinc (v := v4 + (-1)) (lv' := [(4, .int (v4 + (-1))), (0, .ref (ad 17)), (1, .ref (ad 1)), (2, .ref (ad 13)), (3, .int v3)]) hC dTl_lay_86 4 rfl rfl (by decide) rfl ?_
        refine x_goto (tgt := 44) hC dTl_lay_89 (by decide) ?_
        refine x_lv [1, 2, 3, 4, 0] rfl ?_
        exact ih (v4 + (-1)) (upd ord v4.toNatClampNeg (ord (v4 - 1).toNatClampNeg)) h

set_option maxHeartbeats 4000000 in
set_option maxRecDepth 100000 in
theorem Timeline_lay_1_13_L10_ok {p : Program} {l : Launch} {e : Env} {s : State} {m : MethodId} {args : Array Value} {below : List Frame} {meth : Method} {c : Code} {Q : State → Prop} {D : va_G} {A : Nat → Prop} {ad : Nat → Nat} {cI cL cO : ClassId} {sc : Int32} {sd : Int32} {src : (Nat → Int32)} {itm : (Nat → Int32)} {knd : (Nat → Int32)} {plc : (Nat → Int32)} {clk : (Nat → Int64)} {ec : Int32} {nf : (Nat → Int32)} {ns : (Nat → Int32)} {nc : Int32} {wt : (Nat → Nat → Int64)} {bd : (Nat → Nat → Int64)} {off : (Nat → Int64)} {row : (Nat → Int32)} {hw : (Nat → Nat → Int64)} {rl : Int32} {tc : Int32} {Qx : (Nat → Int64) → (Nat → Int32) → Prop} (hC : XC p s m args c D vwCl (tysX cI cL cO) A 5 bTl_lay TBL RTl)  (hexit : ∀ (tm : (Nat → Int64)) (ord : (Nat → Int32)), Qx tm ord → XW p l e rm_Timeline_lay_1_13 s m args below meth c D vwCl A 5 Q 0 0 (wX ad cI cL cO sc sd src itm knd plc clk ec nf ns nc wt bd off row hw rl tm ord tc) 106 [] []) : ∀ (n : Nat) (v3 : Int32) (tm : (Nat → Int64)) (ord : (Nat → Int32)), Timeline_lay_1_13_L10 src plc clk off tc Qx n v3 tm ord → XW p l e rm_Timeline_lay_1_13 s m args below meth c D vwCl A 5 Q 0 0 (wX ad cI cL cO sc sd src itm knd plc clk ec nf ns nc wt bd off row hw rl tm ord tc) 10 [(0, .ref (ad 17)), (1, .ref (ad 1)), (2, .ref (ad 13)), (3, .int v3)] [] := by
  intro n
  induction n with
  | zero => intro v3 tm ord h; exact False.elim h
  | succ n ih =>
    intro v3 tm ord h
    unfold Timeline_lay_1_13_L10 at h
    refine x_iload_n hC dTl_lay_10 rfl 3 rfl ?_
    refine x_aload_n hC dTl_lay_11 rfl 0 rfl ?_
    refine x_get hC iTl 17 wX_17 rfl 2 (by decide) k_x60 rfl rfl dTl_lay_12 ?_
    refine x_icmp_gt (tgt := 106) hC dTl_lay_15 (by decide) (fun c_1 => ?_) (fun c_1 => ?_)
    · have h := h.1 c_1
      refine x_lv [] rfl ?_
      exact hexit tm ord h
    · have h := h.2 c_1
      refine x_aload_n hC dTl_lay_18 rfl 0 rfl ?_
      refine x_get hC iTl 17 wX_17 rfl 0 (by decide) k_x61 rfl rfl dTl_lay_19 ?_
      refine x_iload_n hC dTl_lay_22 rfl 3 rfl ?_
      refine x_aload_n hC dTl_lay_23 rfl 1 rfl ?_
      refine x_get hC iEv 1 wX_1 rfl 4 (by decide) k_x62 rfl rfl dTl_lay_24 ?_
      refine x_iload_n hC dTl_lay_27 rfl 3 rfl ?_
      obtain ⟨hb_2, h⟩ := h
      refine x_lald hC 6 1 wX_6 rfl hb_2 dTl_lay_28 ?_
      refine x_aload_n hC dTl_lay_29 rfl 2 rfl ?_
      refine x_aload_n hC dTl_lay_30 rfl 1 rfl ?_
      refine x_get hC iEv 1 wX_1 rfl 0 (by decide) k_x63 rfl rfl dTl_lay_31 ?_
      refine x_iload_n hC dTl_lay_34 rfl 3 rfl ?_
      obtain ⟨hb_3, h⟩ := h
      refine x_iald hC 2 0 wX_2 rfl hb_3 dTl_lay_35 ?_
      obtain ⟨hb_4, h⟩ := h
      refine x_lald hC 13 1 wX_13 rfl hb_4 dTl_lay_36 ?_
      refine x_ladd hC dTl_lay_37 ?_
      obtain ⟨hb_5, h⟩ := h
      refine x_last (ws' := (wX ad cI cL cO sc sd src itm knd plc clk ec nf ns nc wt bd off row hw rl (vp_updL tm v3.toNatClampNeg ((clk v3.toNatClampNeg) + (off (src v3.toNatClampNeg).toNatClampNeg))) ord tc)) hC 18 1 wX_18 rfl hb_5 wX_18_set dTl_lay_38 ?_
      refine x_iload_n hC dTl_lay_39 rfl 3 rfl ?_
      refine x_iconst (v := 1) hC dTl_lay_40 (by decide) ?_
      refine x_isub hC dTl_lay_41 ?_
      refine x_istore (lv' := [(4, .int (v3 - 1)), (0, .ref (ad 17)), (1, .ref (ad 1)), (2, .ref (ad 13)), (3, .int v3)]) hC dTl_lay_42 (by decide) rfl ?_
      obtain ⟨n_16, h⟩ := h
      refine x_lv [1, 2, 3, 4, 0] rfl ?_
      refine Timeline_lay_1_13_L44_ok hC (fun v4_13 ord_14 h => ?_) n_16 (v3 - 1) ord h
      refine x_aload_n hC dTl_lay_92 rfl 0 rfl ?_
      refine x_get hC iTl 17 wX_17 rfl 1 (by decide) k_x64 rfl rfl dTl_lay_93 ?_
      refine x_iload hC dTl_lay_96 4 rfl ?_
      refine x_iload_n hC dTl_lay_98 rfl 3 rfl ?_
      obtain ⟨hb_15, h⟩ := h
      refine x_iast (ws' := (wX ad cI cL cO sc sd src itm knd plc clk ec nf ns nc wt bd off row hw rl (vp_updL tm v3.toNatClampNeg ((clk v3.toNatClampNeg) + (off (src v3.toNatClampNeg).toNatClampNeg))) (upd ord_14 v4_13.toNatClampNeg v3) tc)) hC 19 0 wX_19 rfl hb_15 wX_19_set dTl_lay_99 ?_
      refine x_iinc (v := v3 + 1) (lv' := [(3, .int (v3 + 1)), (0, .ref (ad 17)), (1, .ref (ad 1)), (2, .ref (ad 13)), (4, .int v4_13)]) hC dTl_lay_100 3 rfl rfl (by decide) rfl ?_
      refine x_goto (tgt := 10) hC dTl_lay_103 (by decide) ?_
      refine x_lv [1, 2, 3, 0] rfl ?_
      exact ih (v3 + 1) (vp_updL tm v3.toNatClampNeg ((clk v3.toNatClampNeg) + (off (src v3.toNatClampNeg).toNatClampNeg))) (upd ord_14 v4_13.toNatClampNeg v3) h

set_option maxHeartbeats 4000000 in
set_option maxRecDepth 100000 in
theorem c_Timeline_lay_1_13 {l : Launch} {D : va_G} {ad : Nat → Nat} {cI cL cO : ClassId} {sc : Int32} {sd : Int32} {src : (Nat → Int32)} {itm : (Nat → Int32)} {knd : (Nat → Int32)} {plc : (Nat → Int32)} {clk : (Nat → Int64)} {ec : Int32} {nf : (Nat → Int32)} {ns : (Nat → Int32)} {nc : Int32} {wt : (Nat → Nat → Int64)} {bd : (Nat → Nat → Int64)} {off : (Nat → Int64)} {row : (Nat → Int32)} {hw : (Nat → Nat → Int64)} {rl : Int32} {tm : (Nat → Int64)} {ord : (Nat → Int32)} {tc : Int32} {Qr : ((Nat → Int64) × (Nat → Int32) × Int32) → Prop} (h : Timeline_lay_1_13_wp src plc clk ec off tm ord tc Qr) (sz : Nat) : vx_Met l yTl_lay (Cond.code yTl_lay bTl_lay 5 none :: TBL) rm_Timeline_lay_1_13 (va_Pc [.ref (ad 17), .ref (ad 1), .ref (ad 13)] (XP D vwCl (tysX cI cL cO) (wX ad cI cL cO sc sd src itm knd plc clk ec nf ns nc wt bd off row hw rl tm ord tc) sz)) (va_Qv Qr (fun u t => XB D vwCl (tysX cI cL cO) (va_A (wX ad cI cL cO sc sd src itm knd plc clk ec nf ns nc wt bd off row hw rl tm ord tc) sz) (wX ad cI cL cO sc sd src itm knd plc clk ec nf ns nc wt bd off row hw rl u.1 u.2.1 u.2.2) t) (va_A (wX ad cI cL cO sc sd src itm knd plc clk ec nf ns nc wt bd off row hw rl tm ord tc) sz)) (XT D vwCl (tysX cI cL cO) (va_A (wX ad cI cL cO sc sd src itm knd plc clk ec nf ns nc wt bd off row hw rl tm ord tc) sz) (wX ad cI cL cO sc sd src itm knd plc clk ec nf ns nc wt bd off row hw rl tm ord tc) (fun _ => False)) rm_Timeline_lay_1_13.cells rm_Timeline_lay_1_13.slots (va_A (wX ad cI cL cO sc sd src itm knd plc clk ec nf ns nc wt bd off row hw rl tm ord tc) sz) := by
  refine x_met [.ref (ad 17), .ref (ad 1), .ref (ad 13)] TBL_good (by decide) (Nat.le_of_ble_eq_true rfl) ?_
  intro p e s m args below meth c hC hr hlk hnm hnh
  have hret : ∀ (ce sl : Nat), ce ≤ rm_Timeline_lay_1_13.cells → sl ≤ rm_Timeline_lay_1_13.slots → ∀ (u : ((Nat → Int64) × (Nat → Int32) × Int32)), Qr u → ∀ (pc : Nat) (lv : List (Nat × Value)), decode bTl_lay pc = .ok (.return_, 1) → XW p l e rm_Timeline_lay_1_13 s m args below meth c D vwCl (va_A (wX ad cI cL cO sc sd src itm knd plc clk ec nf ns nc wt bd off row hw rl tm ord tc) sz) 5 (vx_MQ below (va_Qv Qr (fun u t => XB D vwCl (tysX cI cL cO) (va_A (wX ad cI cL cO sc sd src itm knd plc clk ec nf ns nc wt bd off row hw rl tm ord tc) sz) (wX ad cI cL cO sc sd src itm knd plc clk ec nf ns nc wt bd off row hw rl u.1 u.2.1 u.2.2) t) (va_A (wX ad cI cL cO sc sd src itm knd plc clk ec nf ns nc wt bd off row hw rl tm ord tc) sz)) (XT D vwCl (tysX cI cL cO) (va_A (wX ad cI cL cO sc sd src itm knd plc clk ec nf ns nc wt bd off row hw rl tm ord tc) sz) (wX ad cI cL cO sc sd src itm knd plc clk ec nf ns nc wt bd off row hw rl tm ord tc) (fun _ => False)) args s rm_Timeline_lay_1_13.cells rm_Timeline_lay_1_13.slots (va_A (wX ad cI cL cO sc sd src itm knd plc clk ec nf ns nc wt bd off row hw rl tm ord tc) sz)) ce sl (wX ad cI cL cO sc sd src itm knd plc clk ec nf ns nc wt bd off row hw rl u.1 u.2.1 u.2.2) pc lv [] := fun ce sl h1 h2 u hq pc lv hd => x_vret (wf := fun u => (wX ad cI cL cO sc sd src itm knd plc clk ec nf ns nc wt bd off row hw rl u.1 u.2.1 u.2.2)) hC h1 h2 hr hlk hd hq rfl
  show XW p l e rm_Timeline_lay_1_13 s m args below meth c D vwCl (va_A (wX ad cI cL cO sc sd src itm knd plc clk ec nf ns nc wt bd off row hw rl tm ord tc) sz) 5 _ 0 0 (wX ad cI cL cO sc sd src itm knd plc clk ec nf ns nc wt bd off row hw rl tm ord tc) 0 [(0, .ref (ad 17)), (1, .ref (ad 1)), (2, .ref (ad 13))] []
  unfold Timeline_lay_1_13_wp at h
  refine x_aload_n hC dTl_lay_0 rfl 0 rfl ?_
  refine x_aload_n hC dTl_lay_1 rfl 1 rfl ?_
  refine x_get hC iEv 1 wX_1 rfl 5 (by decide) k_x59 rfl rfl dTl_lay_2 ?_
  refine x_put (ty := .int) (ws' := (wX ad cI cL cO sc sd src itm knd plc clk ec nf ns nc wt bd off row hw rl tm ord ec)) hC iTl 17 wX_17 rfl 2 (by decide) k_x60 rfl tTl tTl_ok nTl rfl (by decide +kernel) rfl rfl (Nat.le_of_ble_eq_true rfl) rfl dTl_lay_5 ?_
  refine x_iconst (v := 1) hC dTl_lay_8 (by decide) ?_
  refine x_istore_n (lv' := [(3, .int 1), (0, .ref (ad 17)), (1, .ref (ad 1)), (2, .ref (ad 13))]) hC dTl_lay_9 rfl (by decide) rfl ?_
  obtain ⟨n_19, h⟩ := h
  refine x_lv [1, 2, 3, 0] rfl ?_
  refine Timeline_lay_1_13_L10_ok hC (fun tm_17 ord_18 h => ?_) n_19 1 tm ord h
  exact hret _ _ (by decide) (by decide) (tm_17, ord_18, ec) h _ _ dTl_lay_106

/-! EventOrder$Timeline.eventOf(LEventOrder$Events;II)I -/
abbrev rm_Timeline_eventOf_1 : Room := { frames := 0, cells := 0, slots := 0, locals := 0 }
def Timeline_eventOf_1_L6 (v2 : Int32) (v3 : Int32) (itm : (Nat → Int32)) (ord : (Nat → Int32)) (tc : Int32) (Qr : Int32 → Unit → Prop) (Qx : Prop) : Nat → Int32 → Int32 → Prop
  | 0, _, _ => False
  | n + 1, v4, v5 => ((tc ≤ v5 → Qx) ∧ (¬ tc ≤ v5 → vp_in v5 300 ∧ vp_in (ord v5.toNatClampNeg) 301 ∧ ((¬ (itm (ord v5.toNatClampNeg).toNatClampNeg) = v2 → Timeline_eventOf_1_L6 v2 v3 itm ord tc Qr Qx n v4 (v5 + 1)) ∧ ((itm (ord v5.toNatClampNeg).toNatClampNeg) = v2 → ((¬ v4 = v3 → Timeline_eventOf_1_L6 v2 v3 itm ord tc Qr Qx n (v4 + 1) (v5 + 1)) ∧ (v4 = v3 → vp_in v5 300 ∧ Qr (ord v5.toNatClampNeg) ()))))))

def Timeline_eventOf_1_wp (itm : (Nat → Int32)) (ord : (Nat → Int32)) (tc : Int32) (a2 : Int32) (a3 : Int32) (Qr : Int32 → Unit → Prop) : Prop := (∃ n_7 : Nat, Timeline_eventOf_1_L6 a2 a3 itm ord tc Qr (Qr 0 ()) n_7 0 0)
set_option maxHeartbeats 4000000 in
set_option maxRecDepth 100000 in
theorem Timeline_eventOf_1_L6_ok {p : Program} {l : Launch} {e : Env} {s : State} {m : MethodId} {args : Array Value} {below : List Frame} {meth : Method} {c : Code} {Q : State → Prop} {D : va_G} {A : Nat → Prop} {ad : Nat → Nat} {cI cL cO : ClassId} {sc : Int32} {sd : Int32} {src : (Nat → Int32)} {itm : (Nat → Int32)} {knd : (Nat → Int32)} {plc : (Nat → Int32)} {clk : (Nat → Int64)} {ec : Int32} {nf : (Nat → Int32)} {ns : (Nat → Int32)} {nc : Int32} {wt : (Nat → Nat → Int64)} {bd : (Nat → Nat → Int64)} {off : (Nat → Int64)} {row : (Nat → Int32)} {hw : (Nat → Nat → Int64)} {rl : Int32} {tm : (Nat → Int64)} {ord : (Nat → Int32)} {tc : Int32} {v2 : Int32} {v3 : Int32} {Qr : Int32 → Unit → Prop} {Qx : Prop} (hC : XC p s m args c D vwCl (tysX cI cL cO) A 6 bTl_eventOf TBL RTl) (hret : ∀ (r : Int32) (u : Unit), Qr r u → ∀ (pc : Nat) (lv : List (Nat × Value)), decode bTl_eventOf pc = .ok (.ireturn, 1) → XW p l e rm_Timeline_eventOf_1 s m args below meth c D vwCl A 6 Q 0 0 (wX ad cI cL cO sc sd src itm knd plc clk ec nf ns nc wt bd off row hw rl tm ord tc) pc lv [.int r]) (hexit : Qx → XW p l e rm_Timeline_eventOf_1 s m args below meth c D vwCl A 6 Q 0 0 (wX ad cI cL cO sc sd src itm knd plc clk ec nf ns nc wt bd off row hw rl tm ord tc) 54 [] []) : ∀ (n : Nat) (v4 : Int32) (v5 : Int32), Timeline_eventOf_1_L6 v2 v3 itm ord tc Qr Qx n v4 v5 → XW p l e rm_Timeline_eventOf_1 s m args below meth c D vwCl A 6 Q 0 0 (wX ad cI cL cO sc sd src itm knd plc clk ec nf ns nc wt bd off row hw rl tm ord tc) 6 [(0, .ref (ad 17)), (1, .ref (ad 1)), (2, .int v2), (3, .int v3), (4, .int v4), (5, .int v5)] [] := by
  intro n
  induction n with
  | zero => intro v4 v5 h; exact False.elim h
  | succ n ih =>
    intro v4 v5 h
    unfold Timeline_eventOf_1_L6 at h
    refine x_iload hC dTl_eventOf_6 5 rfl ?_
    refine x_aload_n hC dTl_eventOf_8 rfl 0 rfl ?_
    refine x_get hC iTl 17 wX_17 rfl 2 (by decide) k_x60 rfl rfl dTl_eventOf_9 ?_
    refine x_icmp_ge (tgt := 54) hC dTl_eventOf_12 (by decide) (fun c_1 => ?_) (fun c_1 => ?_)
    · have h := h.1 c_1
      refine x_lv [] rfl ?_
      exact hexit  h
    · have h := h.2 c_1
      refine x_aload_n hC dTl_eventOf_15 rfl 1 rfl ?_
      refine x_get hC iEv 1 wX_1 rfl 1 (by decide) k_x71 rfl rfl dTl_eventOf_16 ?_
      refine x_aload_n hC dTl_eventOf_19 rfl 0 rfl ?_
      refine x_get hC iTl 17 wX_17 rfl 1 (by decide) k_x64 rfl rfl dTl_eventOf_20 ?_
      refine x_iload hC dTl_eventOf_23 5 rfl ?_
      obtain ⟨hb_2, h⟩ := h
      refine x_iald hC 19 0 wX_19 rfl hb_2 dTl_eventOf_25 ?_
      obtain ⟨hb_3, h⟩ := h
      refine x_iald hC 3 0 wX_3 rfl hb_3 dTl_eventOf_26 ?_
      refine x_iload_n hC dTl_eventOf_27 rfl 2 rfl ?_
      refine x_icmp_ne (tgt := 48) hC dTl_eventOf_28 (by decide) (fun c_4 => ?_) (fun c_4 => ?_)
      · have h := h.1 c_4
        refine x_iinc (v := v5 + 1) (lv' := [(5, .int (v5 + 1)), (0, .ref (ad 17)), (1, .ref (ad 1)), (2, .int v2), (3, .int v3), (4, .int v4)]) hC dTl_eventOf_48 5 rfl rfl (by decide) rfl ?_
        refine x_goto (tgt := 6) hC dTl_eventOf_51 (by decide) ?_
        refine x_lv [1, 2, 3, 4, 5, 0] rfl ?_
        exact ih v4 (v5 + 1) h
      · have h := h.2 c_4
        refine x_iload hC dTl_eventOf_31 4 rfl ?_
        refine x_iload_n hC dTl_eventOf_33 rfl 3 rfl ?_
        refine x_icmp_ne (tgt := 45) hC dTl_eventOf_34 (by decide) (fun c_5 => ?_) (fun c_5 => ?_)
        · have h := h.1 c_5
          refine x_iinc (v := v4 + 1) (lv' := [(4, .int (v4 + 1)), (0, .ref (ad 17)), (1, .ref (ad 1)), (2, .int v2), (3, .int v3), (5, .int v5)]) hC dTl_eventOf_45 4 rfl rfl (by decide) rfl ?_
          refine x_iinc (v := v5 + 1) (lv' := [(5, .int (v5 + 1)), (4, .int (v4 + 1)), (0, .ref (ad 17)), (1, .ref (ad 1)), (2, .int v2), (3, .int v3)]) hC dTl_eventOf_48 5 rfl rfl (by decide) rfl ?_
          refine x_goto (tgt := 6) hC dTl_eventOf_51 (by decide) ?_
          refine x_lv [2, 3, 4, 5, 1, 0] rfl ?_
          exact ih (v4 + 1) (v5 + 1) h
        · have h := h.2 c_5
          refine x_aload_n hC dTl_eventOf_37 rfl 0 rfl ?_
          refine x_get hC iTl 17 wX_17 rfl 1 (by decide) k_x64 rfl rfl dTl_eventOf_38 ?_
          refine x_iload hC dTl_eventOf_41 5 rfl ?_
          obtain ⟨hb_6, h⟩ := h
          refine x_iald hC 19 0 wX_19 rfl hb_6 dTl_eventOf_43 ?_
          exact hret (ord v5.toNatClampNeg) () h _ _ dTl_eventOf_44

set_option maxHeartbeats 4000000 in
set_option maxRecDepth 100000 in
theorem c_Timeline_eventOf_1 {l : Launch} {D : va_G} {ad : Nat → Nat} {cI cL cO : ClassId} {sc : Int32} {sd : Int32} {src : (Nat → Int32)} {itm : (Nat → Int32)} {knd : (Nat → Int32)} {plc : (Nat → Int32)} {clk : (Nat → Int64)} {ec : Int32} {nf : (Nat → Int32)} {ns : (Nat → Int32)} {nc : Int32} {wt : (Nat → Nat → Int64)} {bd : (Nat → Nat → Int64)} {off : (Nat → Int64)} {row : (Nat → Int32)} {hw : (Nat → Nat → Int64)} {rl : Int32} {tm : (Nat → Int64)} {ord : (Nat → Int32)} {tc : Int32} {a2 : Int32} {a3 : Int32} {Qr : Int32 → Unit → Prop} (h : Timeline_eventOf_1_wp itm ord tc a2 a3 Qr) (sz : Nat) : vx_Met l yTl_eventOf (Cond.code yTl_eventOf bTl_eventOf 6 (some .int) :: TBL) rm_Timeline_eventOf_1 (va_Pc [.ref (ad 17), .ref (ad 1), .int a2, .int a3] (XP D vwCl (tysX cI cL cO) (wX ad cI cL cO sc sd src itm knd plc clk ec nf ns nc wt bd off row hw rl tm ord tc) sz)) (va_Qi Qr (fun u t => XB D vwCl (tysX cI cL cO) (va_A (wX ad cI cL cO sc sd src itm knd plc clk ec nf ns nc wt bd off row hw rl tm ord tc) sz) (wX ad cI cL cO sc sd src itm knd plc clk ec nf ns nc wt bd off row hw rl tm ord tc) t) (va_A (wX ad cI cL cO sc sd src itm knd plc clk ec nf ns nc wt bd off row hw rl tm ord tc) sz)) (XT D vwCl (tysX cI cL cO) (va_A (wX ad cI cL cO sc sd src itm knd plc clk ec nf ns nc wt bd off row hw rl tm ord tc) sz) (wX ad cI cL cO sc sd src itm knd plc clk ec nf ns nc wt bd off row hw rl tm ord tc) (fun _ => False)) rm_Timeline_eventOf_1.cells rm_Timeline_eventOf_1.slots (va_A (wX ad cI cL cO sc sd src itm knd plc clk ec nf ns nc wt bd off row hw rl tm ord tc) sz) := by
  refine x_met [.ref (ad 17), .ref (ad 1), .int a2, .int a3] TBL_good (by decide) (Nat.le_of_ble_eq_true rfl) ?_
  intro p e s m args below meth c hC hr hlk hnm hnh
  have hret : ∀ (ce sl : Nat), ce ≤ rm_Timeline_eventOf_1.cells → sl ≤ rm_Timeline_eventOf_1.slots → ∀ (r : Int32) (u : Unit), Qr r u → ∀ (pc : Nat) (lv : List (Nat × Value)), decode bTl_eventOf pc = .ok (.ireturn, 1) → XW p l e rm_Timeline_eventOf_1 s m args below meth c D vwCl (va_A (wX ad cI cL cO sc sd src itm knd plc clk ec nf ns nc wt bd off row hw rl tm ord tc) sz) 6 (vx_MQ below (va_Qi Qr (fun u t => XB D vwCl (tysX cI cL cO) (va_A (wX ad cI cL cO sc sd src itm knd plc clk ec nf ns nc wt bd off row hw rl tm ord tc) sz) (wX ad cI cL cO sc sd src itm knd plc clk ec nf ns nc wt bd off row hw rl tm ord tc) t) (va_A (wX ad cI cL cO sc sd src itm knd plc clk ec nf ns nc wt bd off row hw rl tm ord tc) sz)) (XT D vwCl (tysX cI cL cO) (va_A (wX ad cI cL cO sc sd src itm knd plc clk ec nf ns nc wt bd off row hw rl tm ord tc) sz) (wX ad cI cL cO sc sd src itm knd plc clk ec nf ns nc wt bd off row hw rl tm ord tc) (fun _ => False)) args s rm_Timeline_eventOf_1.cells rm_Timeline_eventOf_1.slots (va_A (wX ad cI cL cO sc sd src itm knd plc clk ec nf ns nc wt bd off row hw rl tm ord tc) sz)) ce sl (wX ad cI cL cO sc sd src itm knd plc clk ec nf ns nc wt bd off row hw rl tm ord tc) pc lv [.int r] := fun ce sl h1 h2 r u hq pc lv hd => x_iret (wf := fun u => (wX ad cI cL cO sc sd src itm knd plc clk ec nf ns nc wt bd off row hw rl tm ord tc)) hC h1 h2 hr hlk hd hq rfl
  show XW p l e rm_Timeline_eventOf_1 s m args below meth c D vwCl (va_A (wX ad cI cL cO sc sd src itm knd plc clk ec nf ns nc wt bd off row hw rl tm ord tc) sz) 6 _ 0 0 (wX ad cI cL cO sc sd src itm knd plc clk ec nf ns nc wt bd off row hw rl tm ord tc) 0 [(0, .ref (ad 17)), (1, .ref (ad 1)), (2, .int a2), (3, .int a3)] []
  unfold Timeline_eventOf_1_wp at h
  refine x_iconst (v := 0) hC dTl_eventOf_0 (by decide) ?_
  refine x_istore (lv' := [(4, .int 0), (0, .ref (ad 17)), (1, .ref (ad 1)), (2, .int a2), (3, .int a3)]) hC dTl_eventOf_1 (by decide) rfl ?_
  refine x_iconst (v := 0) hC dTl_eventOf_3 (by decide) ?_
  refine x_istore (lv' := [(5, .int 0), (4, .int 0), (0, .ref (ad 17)), (1, .ref (ad 1)), (2, .int a2), (3, .int a3)]) hC dTl_eventOf_4 (by decide) rfl ?_
  obtain ⟨n_7, h⟩ := h
  refine x_lv [2, 3, 4, 5, 1, 0] rfl ?_
  refine Timeline_eventOf_1_L6_ok hC (hret _ _ (by decide) (by decide)) (fun h => ?_) n_7 0 0 h
  refine x_iconst (v := 0) hC dTl_eventOf_54 (by decide) ?_
  exact hret _ _ (by decide) (by decide) 0 () h _ _ dTl_eventOf_55

/-! EventOrder$Timeline.isInsideAfter(IZ)Z -/
abbrev rm_Timeline_isInsideAfter : Room := { frames := 0, cells := 0, slots := 0, locals := 0 }
def Timeline_isInsideAfter_wp (a0 : Int32) (a1 : Int32) (Qr : Int32 → Unit → Prop) : Prop := ((¬ a0 = 1 → ((a0 = 2 → Qr 0 ()) ∧ (¬ a0 = 2 → ((a1 = 0 → Qr 0 ()) ∧ (¬ a1 = 0 → Qr 1 ()))))) ∧ (a0 = 1 → Qr 1 ()))
set_option maxHeartbeats 4000000 in
set_option maxRecDepth 100000 in
theorem c_Timeline_isInsideAfter {l : Launch} {D : va_G} {ad : Nat → Nat} {cI cL cO : ClassId} {sc : Int32} {sd : Int32} {src : (Nat → Int32)} {itm : (Nat → Int32)} {knd : (Nat → Int32)} {plc : (Nat → Int32)} {clk : (Nat → Int64)} {ec : Int32} {nf : (Nat → Int32)} {ns : (Nat → Int32)} {nc : Int32} {wt : (Nat → Nat → Int64)} {bd : (Nat → Nat → Int64)} {off : (Nat → Int64)} {row : (Nat → Int32)} {hw : (Nat → Nat → Int64)} {rl : Int32} {tm : (Nat → Int64)} {ord : (Nat → Int32)} {tc : Int32} {a0 : Int32} {a1 : Int32} {Qr : Int32 → Unit → Prop} (h : Timeline_isInsideAfter_wp a0 a1 Qr) (sz : Nat) : vx_Met l yTl_isInsideAfter (Cond.code yTl_isInsideAfter bTl_isInsideAfter 2 (some .boolean) :: TBL) rm_Timeline_isInsideAfter (va_Pc [.int a0, .int a1] (XP D vwCl (tysX cI cL cO) (wX ad cI cL cO sc sd src itm knd plc clk ec nf ns nc wt bd off row hw rl tm ord tc) sz)) (va_Qi Qr (fun u t => XB D vwCl (tysX cI cL cO) (va_A (wX ad cI cL cO sc sd src itm knd plc clk ec nf ns nc wt bd off row hw rl tm ord tc) sz) (wX ad cI cL cO sc sd src itm knd plc clk ec nf ns nc wt bd off row hw rl tm ord tc) t) (va_A (wX ad cI cL cO sc sd src itm knd plc clk ec nf ns nc wt bd off row hw rl tm ord tc) sz)) (XT D vwCl (tysX cI cL cO) (va_A (wX ad cI cL cO sc sd src itm knd plc clk ec nf ns nc wt bd off row hw rl tm ord tc) sz) (wX ad cI cL cO sc sd src itm knd plc clk ec nf ns nc wt bd off row hw rl tm ord tc) (fun _ => False)) rm_Timeline_isInsideAfter.cells rm_Timeline_isInsideAfter.slots (va_A (wX ad cI cL cO sc sd src itm knd plc clk ec nf ns nc wt bd off row hw rl tm ord tc) sz) := by
  refine x_met [.int a0, .int a1] TBL_good (by decide) (Nat.le_of_ble_eq_true rfl) ?_
  intro p e s m args below meth c hC hr hlk hnm hnh
  have hret : ∀ (ce sl : Nat), ce ≤ rm_Timeline_isInsideAfter.cells → sl ≤ rm_Timeline_isInsideAfter.slots → ∀ (r : Int32) (u : Unit), x_bool r → Qr r u → ∀ (pc : Nat) (lv : List (Nat × Value)), decode bTl_isInsideAfter pc = .ok (.ireturn, 1) → XW p l e rm_Timeline_isInsideAfter s m args below meth c D vwCl (va_A (wX ad cI cL cO sc sd src itm knd plc clk ec nf ns nc wt bd off row hw rl tm ord tc) sz) 2 (vx_MQ below (va_Qi Qr (fun u t => XB D vwCl (tysX cI cL cO) (va_A (wX ad cI cL cO sc sd src itm knd plc clk ec nf ns nc wt bd off row hw rl tm ord tc) sz) (wX ad cI cL cO sc sd src itm knd plc clk ec nf ns nc wt bd off row hw rl tm ord tc) t) (va_A (wX ad cI cL cO sc sd src itm knd plc clk ec nf ns nc wt bd off row hw rl tm ord tc) sz)) (XT D vwCl (tysX cI cL cO) (va_A (wX ad cI cL cO sc sd src itm knd plc clk ec nf ns nc wt bd off row hw rl tm ord tc) sz) (wX ad cI cL cO sc sd src itm knd plc clk ec nf ns nc wt bd off row hw rl tm ord tc) (fun _ => False)) args s rm_Timeline_isInsideAfter.cells rm_Timeline_isInsideAfter.slots (va_A (wX ad cI cL cO sc sd src itm knd plc clk ec nf ns nc wt bd off row hw rl tm ord tc) sz)) ce sl (wX ad cI cL cO sc sd src itm knd plc clk ec nf ns nc wt bd off row hw rl tm ord tc) pc lv [.int r] := fun ce sl h1 h2 r u hb9 hq pc lv hd => x_zret (wf := fun u => (wX ad cI cL cO sc sd src itm knd plc clk ec nf ns nc wt bd off row hw rl tm ord tc)) hC h1 h2 hr hlk hb9 hd hq rfl
  show XW p l e rm_Timeline_isInsideAfter s m args below meth c D vwCl (va_A (wX ad cI cL cO sc sd src itm knd plc clk ec nf ns nc wt bd off row hw rl tm ord tc) sz) 2 _ 0 0 (wX ad cI cL cO sc sd src itm knd plc clk ec nf ns nc wt bd off row hw rl tm ord tc) 0 [(0, .int a0), (1, .int a1)] []
  unfold Timeline_isInsideAfter_wp at h
  refine x_iload_n hC dTl_isInsideAfter_0 rfl 0 rfl ?_
  refine x_iconst (v := 1) hC dTl_isInsideAfter_1 (by decide) ?_
  refine x_icmp_ne (tgt := 7) hC dTl_isInsideAfter_2 (by decide) (fun c_1 => ?_) (fun c_1 => ?_)
  · have h := h.1 c_1
    refine x_iload_n hC dTl_isInsideAfter_7 rfl 0 rfl ?_
    refine x_iconst (v := 2) hC dTl_isInsideAfter_8 (by decide) ?_
    refine x_icmp_eq (tgt := 20) hC dTl_isInsideAfter_9 (by decide) (fun c_2 => ?_) (fun c_2 => ?_)
    · have h := h.1 c_2
      refine x_iconst (v := 0) hC dTl_isInsideAfter_20 (by decide) ?_
      exact hret _ _ (by decide) (by decide) 0 () (Or.inl rfl) h _ _ dTl_isInsideAfter_21
    · have h := h.2 c_2
      refine x_iload_n hC dTl_isInsideAfter_12 rfl 1 rfl ?_
      refine x_if_eq (tgt := 20) hC dTl_isInsideAfter_13 (by decide) (fun c_3 => ?_) (fun c_3 => ?_)
      · have h := h.1 c_3
        refine x_iconst (v := 0) hC dTl_isInsideAfter_20 (by decide) ?_
        exact hret _ _ (by decide) (by decide) 0 () (Or.inl rfl) h _ _ dTl_isInsideAfter_21
      · have h := h.2 c_3
        refine x_iconst (v := 1) hC dTl_isInsideAfter_16 (by decide) ?_
        refine x_goto (tgt := 21) hC dTl_isInsideAfter_17 (by decide) ?_
        exact hret _ _ (by decide) (by decide) 1 () (Or.inr rfl) h _ _ dTl_isInsideAfter_21
  · have h := h.2 c_1
    refine x_iconst (v := 1) hC dTl_isInsideAfter_5 (by decide) ?_
    exact hret _ _ (by decide) (by decide) 1 () (Or.inr rfl) h _ _ dTl_isInsideAfter_6

/-! EventOrder$Timeline.countImplied(LEventOrder$Events;II)I -/
abbrev rm_Timeline_countImplied_1 : Room := { frames := 1, cells := 0, slots := 0, locals := 21 }
def Timeline_countImplied_1_L12 (v2 : Int32) (v3 : Int32) (itm : (Nat → Int32)) (knd : (Nat → Int32)) (plc : (Nat → Int32)) (tm : (Nat → Int64)) (ord : (Nat → Int32)) (tc : Int32) (Qx : Int32 → Prop) : Nat → Int32 → Int32 → Int32 → Int32 → Prop
  | 0, _, _, _, _ => False
  | n + 1, v4, v5, v6, v7 => ((tc ≤ v7 → Qx v4) ∧ (¬ tc ≤ v7 → vp_in v7 300 ∧ ((v7 ≤ 0 → vp_in (ord v7.toNatClampNeg) 301 ∧ ((¬ (itm (ord v7.toNatClampNeg).toNatClampNeg) = v2 → vp_in (ord v7.toNatClampNeg) 301 ∧ ((¬ (itm (ord v7.toNatClampNeg).toNatClampNeg) = v3 → Timeline_countImplied_1_L12 v2 v3 itm knd plc tm ord tc Qx n v4 v5 v6 (v7 + 1)) ∧ ((itm (ord v7.toNatClampNeg).toNatClampNeg) = v3 → vp_in (ord v7.toNatClampNeg) 301 ∧ ((¬ (plc (ord v7.toNatClampNeg).toNatClampNeg) = v2 → Timeline_countImplied_1_L12 v2 v3 itm knd plc tm ord tc Qx n v4 v5 v6 (v7 + 1)) ∧ ((plc (ord v7.toNatClampNeg).toNatClampNeg) = v2 → vp_in (ord v7.toNatClampNeg) 301 ∧ Timeline_isInsideAfter_wp (knd (ord v7.toNatClampNeg).toNatClampNeg) v6 (fun (r_11 : Int32) (u_12 : Unit) => Timeline_countImplied_1_L12 v2 v3 itm knd plc tm ord tc Qx n v4 v5 r_11 (v7 + 1))))))) ∧ ((itm (ord v7.toNatClampNeg).toNatClampNeg) = v2 → ((v5 = 0 → Timeline_countImplied_1_L12 v2 v3 itm knd plc tm ord tc Qx n v4 v5 v6 (v7 + 1)) ∧ (¬ v5 = 0 → Timeline_countImplied_1_L12 v2 v3 itm knd plc tm ord tc Qx n (v4 + 1) v5 v6 (v7 + 1)))))) ∧ (¬ v7 ≤ 0 → vp_in (ord v7.toNatClampNeg) 301 ∧ vp_in (v7 - 1) 300 ∧ vp_in (ord (v7 - 1).toNatClampNeg) 301 ∧ (((tm (ord v7.toNatClampNeg).toNatClampNeg) = (tm (ord (v7 - 1).toNatClampNeg).toNatClampNeg) → vp_in (ord v7.toNatClampNeg) 301 ∧ ((¬ (itm (ord v7.toNatClampNeg).toNatClampNeg) = v2 → vp_in (ord v7.toNatClampNeg) 301 ∧ ((¬ (itm (ord v7.toNatClampNeg).toNatClampNeg) = v3 → Timeline_countImplied_1_L12 v2 v3 itm knd plc tm ord tc Qx n v4 v5 v6 (v7 + 1)) ∧ ((itm (ord v7.toNatClampNeg).toNatClampNeg) = v3 → vp_in (ord v7.toNatClampNeg) 301 ∧ ((¬ (plc (ord v7.toNatClampNeg).toNatClampNeg) = v2 → Timeline_countImplied_1_L12 v2 v3 itm knd plc tm ord tc Qx n v4 v5 v6 (v7 + 1)) ∧ ((plc (ord v7.toNatClampNeg).toNatClampNeg) = v2 → vp_in (ord v7.toNatClampNeg) 301 ∧ Timeline_isInsideAfter_wp (knd (ord v7.toNatClampNeg).toNatClampNeg) v6 (fun (r_25 : Int32) (u_26 : Unit) => Timeline_countImplied_1_L12 v2 v3 itm knd plc tm ord tc Qx n v4 v5 r_25 (v7 + 1))))))) ∧ ((itm (ord v7.toNatClampNeg).toNatClampNeg) = v2 → ((v5 = 0 → Timeline_countImplied_1_L12 v2 v3 itm knd plc tm ord tc Qx n v4 v5 v6 (v7 + 1)) ∧ (¬ v5 = 0 → Timeline_countImplied_1_L12 v2 v3 itm knd plc tm ord tc Qx n (v4 + 1) v5 v6 (v7 + 1)))))) ∧ (¬ (tm (ord v7.toNatClampNeg).toNatClampNeg) = (tm (ord (v7 - 1).toNatClampNeg).toNatClampNeg) → vp_in (ord v7.toNatClampNeg) 301 ∧ ((¬ (itm (ord v7.toNatClampNeg).toNatClampNeg) = v2 → vp_in (ord v7.toNatClampNeg) 301 ∧ ((¬ (itm (ord v7.toNatClampNeg).toNatClampNeg) = v3 → Timeline_countImplied_1_L12 v2 v3 itm knd plc tm ord tc Qx n v4 v6 v6 (v7 + 1)) ∧ ((itm (ord v7.toNatClampNeg).toNatClampNeg) = v3 → vp_in (ord v7.toNatClampNeg) 301 ∧ ((¬ (plc (ord v7.toNatClampNeg).toNatClampNeg) = v2 → Timeline_countImplied_1_L12 v2 v3 itm knd plc tm ord tc Qx n v4 v6 v6 (v7 + 1)) ∧ ((plc (ord v7.toNatClampNeg).toNatClampNeg) = v2 → vp_in (ord v7.toNatClampNeg) 301 ∧ Timeline_isInsideAfter_wp (knd (ord v7.toNatClampNeg).toNatClampNeg) v6 (fun (r_35 : Int32) (u_36 : Unit) => Timeline_countImplied_1_L12 v2 v3 itm knd plc tm ord tc Qx n v4 v6 r_35 (v7 + 1))))))) ∧ ((itm (ord v7.toNatClampNeg).toNatClampNeg) = v2 → ((v6 = 0 → Timeline_countImplied_1_L12 v2 v3 itm knd plc tm ord tc Qx n v4 v6 v6 (v7 + 1)) ∧ (¬ v6 = 0 → Timeline_countImplied_1_L12 v2 v3 itm knd plc tm ord tc Qx n (v4 + 1) v6 v6 (v7 + 1)))))))))))

def Timeline_countImplied_1_wp (itm : (Nat → Int32)) (knd : (Nat → Int32)) (plc : (Nat → Int32)) (tm : (Nat → Int64)) (ord : (Nat → Int32)) (tc : Int32) (a2 : Int32) (a3 : Int32) (Qr : Int32 → Unit → Prop) : Prop := (∃ n_39 : Nat, Timeline_countImplied_1_L12 a2 a3 itm knd plc tm ord tc (fun (v4_38 : Int32) => Qr v4_38 ()) n_39 0 0 0 0)
set_option maxHeartbeats 4000000 in
set_option maxRecDepth 100000 in
theorem Timeline_countImplied_1_L12_ok {p : Program} {l : Launch} {e : Env} {s : State} {m : MethodId} {args : Array Value} {below : List Frame} {meth : Method} {c : Code} {Q : State → Prop} {D : va_G} {A : Nat → Prop} {ad : Nat → Nat} {cI cL cO : ClassId} {sc : Int32} {sd : Int32} {src : (Nat → Int32)} {itm : (Nat → Int32)} {knd : (Nat → Int32)} {plc : (Nat → Int32)} {clk : (Nat → Int64)} {ec : Int32} {nf : (Nat → Int32)} {ns : (Nat → Int32)} {nc : Int32} {wt : (Nat → Nat → Int64)} {bd : (Nat → Nat → Int64)} {off : (Nat → Int64)} {row : (Nat → Int32)} {hw : (Nat → Nat → Int64)} {rl : Int32} {tm : (Nat → Int64)} {ord : (Nat → Int32)} {tc : Int32} {v2 : Int32} {v3 : Int32} {Qx : Int32 → Prop} (hC : XC p s m args c D vwCl (tysX cI cL cO) A 9 bTl_countImplied TBL RTl)  (hexit : ∀ (v4 : Int32), Qx v4 → XW p l e rm_Timeline_countImplied_1 s m args below meth c D vwCl A 9 Q 0 0 (wX ad cI cL cO sc sd src itm knd plc clk ec nf ns nc wt bd off row hw rl tm ord tc) 128 [(4, .int v4)] []) : ∀ (n : Nat) (v4 : Int32) (v5 : Int32) (v6 : Int32) (v7 : Int32), Timeline_countImplied_1_L12 v2 v3 itm knd plc tm ord tc Qx n v4 v5 v6 v7 → XW p l e rm_Timeline_countImplied_1 s m args below meth c D vwCl A 9 Q 0 0 (wX ad cI cL cO sc sd src itm knd plc clk ec nf ns nc wt bd off row hw rl tm ord tc) 12 [(0, .ref (ad 17)), (1, .ref (ad 1)), (2, .int v2), (3, .int v3), (4, .int v4), (5, .int v5), (6, .int v6), (7, .int v7)] [] := by
  intro n
  induction n with
  | zero => intro v4 v5 v6 v7 h; exact False.elim h
  | succ n ih =>
    intro v4 v5 v6 v7 h
    unfold Timeline_countImplied_1_L12 at h
    refine x_iload hC dTl_countImplied_12 7 rfl ?_
    refine x_aload_n hC dTl_countImplied_14 rfl 0 rfl ?_
    refine x_get hC iTl 17 wX_17 rfl 2 (by decide) k_x60 rfl rfl dTl_countImplied_15 ?_
    refine x_icmp_ge (tgt := 128) hC dTl_countImplied_18 (by decide) (fun c_1 => ?_) (fun c_1 => ?_)
    · have h := h.1 c_1
      refine x_lv [4] rfl ?_
      exact hexit v4 h
    · have h := h.2 c_1
      refine x_aload_n hC dTl_countImplied_21 rfl 0 rfl ?_
      refine x_get hC iTl 17 wX_17 rfl 1 (by decide) k_x64 rfl rfl dTl_countImplied_22 ?_
      refine x_iload hC dTl_countImplied_25 7 rfl ?_
      obtain ⟨hb_2, h⟩ := h
      refine x_iald hC 19 0 wX_19 rfl hb_2 dTl_countImplied_27 ?_
      refine x_istore (lv' := [(8, .int (ord v7.toNatClampNeg)), (0, .ref (ad 17)), (1, .ref (ad 1)), (2, .int v2), (3, .int v3), (4, .int v4), (5, .int v5), (6, .int v6), (7, .int v7)]) hC dTl_countImplied_28 (by decide) rfl ?_
      refine x_iload hC dTl_countImplied_30 8 rfl ?_
      refine x_if_le (tgt := 64) hC dTl_countImplied_32 (by decide) (fun c_3 => ?_) (fun c_3 => ?_)
      · have h := h.1 c_3
        refine x_aload_n hC dTl_countImplied_64 rfl 2 rfl ?_
        refine x_get hC iEv 1 wX_1 rfl 1 (by decide) k_x71 rfl rfl dTl_countImplied_65 ?_
        refine x_iload hC dTl_countImplied_68 0 rfl ?_
        obtain ⟨hb_4, h⟩ := h
        refine x_iald hC 3 0 wX_3 rfl hb_4 dTl_countImplied_70 ?_
        refine x_iload_n hC dTl_countImplied_71 rfl 3 rfl ?_
        refine x_icmp_ne (tgt := 86) hC dTl_countImplied_72 (by decide) (fun c_5 => ?_) (fun c_5 => ?_)
        · have h := h.1 c_5
          refine x_aload_n hC dTl_countImplied_86 rfl 2 rfl ?_
          refine x_get hC iEv 1 wX_1 rfl 1 (by decide) k_x71 rfl rfl dTl_countImplied_87 ?_
          refine x_iload hC dTl_countImplied_90 0 rfl ?_
          obtain ⟨hb_6, h⟩ := h
          refine x_iald hC 3 0 wX_3 rfl hb_6 dTl_countImplied_92 ?_
          refine x_iload_n hC dTl_countImplied_93 rfl 4 rfl ?_
          refine x_icmp_ne (tgt := 122) hC dTl_countImplied_94 (by decide) (fun c_7 => ?_) (fun c_7 => ?_)
          · have h := h.1 c_7
            refine x_iinc (v := v7 + 1) (lv' := [(7, .int (v7 + 1)), (8, .int (ord v7.toNatClampNeg)), (0, .ref (ad 17)), (1, .ref (ad 1)), (2, .int v2), (3, .int v3), (4, .int v4), (5, .int v5), (6, .int v6)]) hC dTl_countImplied_122 8 rfl rfl (by decide) rfl ?_
            refine x_goto (tgt := 12) hC dTl_countImplied_125 (by decide) ?_
            refine x_lv [2, 3, 4, 5, 6, 7, 8, 0] rfl ?_
            exact ih v4 v5 v6 (v7 + 1) h
          · have h := h.2 c_7
            refine x_aload_n hC dTl_countImplied_97 rfl 2 rfl ?_
            refine x_get hC iEv 1 wX_1 rfl 3 (by decide) k_x65 rfl rfl dTl_countImplied_98 ?_
            refine x_iload hC dTl_countImplied_101 0 rfl ?_
            obtain ⟨hb_8, h⟩ := h
            refine x_iald hC 5 0 wX_5 rfl hb_8 dTl_countImplied_103 ?_
            refine x_iload_n hC dTl_countImplied_104 rfl 3 rfl ?_
            refine x_icmp_ne (tgt := 122) hC dTl_countImplied_105 (by decide) (fun c_9 => ?_) (fun c_9 => ?_)
            · have h := h.1 c_9
              refine x_iinc (v := v7 + 1) (lv' := [(7, .int (v7 + 1)), (8, .int (ord v7.toNatClampNeg)), (0, .ref (ad 17)), (1, .ref (ad 1)), (2, .int v2), (3, .int v3), (4, .int v4), (5, .int v5), (6, .int v6)]) hC dTl_countImplied_122 8 rfl rfl (by decide) rfl ?_
              refine x_goto (tgt := 12) hC dTl_countImplied_125 (by decide) ?_
              refine x_lv [2, 3, 4, 5, 6, 7, 8, 0] rfl ?_
              exact ih v4 v5 v6 (v7 + 1) h
            · have h := h.2 c_9
              refine x_aload_n hC dTl_countImplied_108 rfl 2 rfl ?_
              refine x_get hC iEv 1 wX_1 rfl 2 (by decide) k_x72 rfl rfl dTl_countImplied_109 ?_
              refine x_iload hC dTl_countImplied_112 0 rfl ?_
              obtain ⟨hb_10, h⟩ := h
              refine x_iald hC 4 0 wX_4 rfl hb_10 dTl_countImplied_114 ?_
              refine x_iload hC dTl_countImplied_115 7 rfl ?_
              refine x_callSi (S := Unit) (wf := fun u => (wX ad cI cL cO sc sd src itm knd plc clk ec nf ns nc wt bd off row hw rl tm ord tc)) hC [.int (knd (ord v7.toNatClampNeg).toNatClampNeg), .int v6] (fun sz => c_Timeline_isInsideAfter h sz) (by decide) (by decide) k_x73 k_x74 k_x75 (by decide) 2 rfl (by decide +kernel) ⟨by decide, by decide⟩ (Nat.le_of_ble_eq_true rfl) k_x76 rfl dTl_countImplied_117 (fun _ h9 => h9) (fun r_11 u_12 h => ?_)
              refine x_istore (lv' := [(6, .int r_11), (8, .int (ord v7.toNatClampNeg)), (0, .ref (ad 17)), (1, .ref (ad 1)), (2, .int v2), (3, .int v3), (4, .int v4), (5, .int v5), (7, .int v7)]) hC dTl_countImplied_120 (by decide) rfl ?_
              refine x_iinc (v := v7 + 1) (lv' := [(7, .int (v7 + 1)), (6, .int r_11), (8, .int (ord v7.toNatClampNeg)), (0, .ref (ad 17)), (1, .ref (ad 1)), (2, .int v2), (3, .int v3), (4, .int v4), (5, .int v5)]) hC dTl_countImplied_122 8 rfl rfl (by decide) rfl ?_
              refine x_goto (tgt := 12) hC dTl_countImplied_125 (by decide) ?_
              refine x_lv [3, 4, 5, 6, 7, 8, 1, 0] rfl ?_
              exact ih v4 v5 r_11 (v7 + 1) h
        · have h := h.2 c_5
          refine x_iload hC dTl_countImplied_75 6 rfl ?_
          refine x_if_eq (tgt := 122) hC dTl_countImplied_77 (by decide) (fun c_13 => ?_) (fun c_13 => ?_)
          · have h := h.1 c_13
            refine x_iinc (v := v7 + 1) (lv' := [(7, .int (v7 + 1)), (8, .int (ord v7.toNatClampNeg)), (0, .ref (ad 17)), (1, .ref (ad 1)), (2, .int v2), (3, .int v3), (4, .int v4), (5, .int v5), (6, .int v6)]) hC dTl_countImplied_122 8 rfl rfl (by decide) rfl ?_
            refine x_goto (tgt := 12) hC dTl_countImplied_125 (by decide) ?_
            refine x_lv [2, 3, 4, 5, 6, 7, 8, 0] rfl ?_
            exact ih v4 v5 v6 (v7 + 1) h
          · have h := h.2 c_13
            refine x_iinc (v := v4 + 1) (lv' := [(4, .int (v4 + 1)), (8, .int (ord v7.toNatClampNeg)), (0, .ref (ad 17)), (1, .ref (ad 1)), (2, .int v2), (3, .int v3), (5, .int v5), (6, .int v6), (7, .int v7)]) hC dTl_countImplied_80 5 rfl rfl (by decide) rfl ?_
            refine x_goto (tgt := 122) hC dTl_countImplied_83 (by decide) ?_
            refine x_iinc (v := v7 + 1) (lv' := [(7, .int (v7 + 1)), (4, .int (v4 + 1)), (8, .int (ord v7.toNatClampNeg)), (0, .ref (ad 17)), (1, .ref (ad 1)), (2, .int v2), (3, .int v3), (5, .int v5), (6, .int v6)]) hC dTl_countImplied_122 8 rfl rfl (by decide) rfl ?_
            refine x_goto (tgt := 12) hC dTl_countImplied_125 (by decide) ?_
            refine x_lv [3, 4, 5, 6, 1, 7, 8, 0] rfl ?_
            exact ih (v4 + 1) v5 v6 (v7 + 1) h
      · have h := h.2 c_3
        refine x_aload_n hC dTl_countImplied_35 rfl 1 rfl ?_
        refine x_get hC iTl 17 wX_17 rfl 0 (by decide) k_x61 rfl rfl dTl_countImplied_36 ?_
        refine x_iload hC dTl_countImplied_39 0 rfl ?_
        obtain ⟨hb_14, h⟩ := h
        refine x_lald hC 18 1 wX_18 rfl hb_14 dTl_countImplied_41 ?_
        refine x_aload_n hC dTl_countImplied_42 rfl 1 rfl ?_
        refine x_get hC iTl 17 wX_17 rfl 0 (by decide) k_x61 rfl rfl dTl_countImplied_43 ?_
        refine x_aload_n hC dTl_countImplied_46 rfl 1 rfl ?_
        refine x_get hC iTl 17 wX_17 rfl 1 (by decide) k_x64 rfl rfl dTl_countImplied_47 ?_
        refine x_iload hC dTl_countImplied_50 8 rfl ?_
        refine x_iconst (v := 1) hC dTl_countImplied_52 (by decide) ?_
        refine x_isub hC dTl_countImplied_53 ?_
        obtain ⟨hb_15, h⟩ := h
        refine x_iald hC 19 0 wX_19 rfl hb_15 dTl_countImplied_54 ?_
        obtain ⟨hb_16, h⟩ := h
        refine x_lald hC 18 1 wX_18 rfl hb_16 dTl_countImplied_55 ?_
        refine x_lcmp_eq (tgt := 64) hC dTl_countImplied_56 dTl_countImplied_57 (by decide) (fun c_17 => ?_) (fun c_17 => ?_)
        · have h := h.1 c_17
          refine x_aload_n hC dTl_countImplied_64 rfl 2 rfl ?_
          refine x_get hC iEv 1 wX_1 rfl 1 (by decide) k_x71 rfl rfl dTl_countImplied_65 ?_
          refine x_iload hC dTl_countImplied_68 0 rfl ?_
          obtain ⟨hb_18, h⟩ := h
          refine x_iald hC 3 0 wX_3 rfl hb_18 dTl_countImplied_70 ?_
          refine x_iload_n hC dTl_countImplied_71 rfl 3 rfl ?_
          refine x_icmp_ne (tgt := 86) hC dTl_countImplied_72 (by decide) (fun c_19 => ?_) (fun c_19 => ?_)
          · have h := h.1 c_19
            refine x_aload_n hC dTl_countImplied_86 rfl 2 rfl ?_
            refine x_get hC iEv 1 wX_1 rfl 1 (by decide) k_x71 rfl rfl dTl_countImplied_87 ?_
            refine x_iload hC dTl_countImplied_90 0 rfl ?_
            obtain ⟨hb_20, h⟩ := h
            refine x_iald hC 3 0 wX_3 rfl hb_20 dTl_countImplied_92 ?_
            refine x_iload_n hC dTl_countImplied_93 rfl 4 rfl ?_
            refine x_icmp_ne (tgt := 122) hC dTl_countImplied_94 (by decide) (fun c_21 => ?_) (fun c_21 => ?_)
            · have h := h.1 c_21
              refine x_iinc (v := v7 + 1) (lv' := [(7, .int (v7 + 1)), (8, .int (ord v7.toNatClampNeg)), (0, .ref (ad 17)), (1, .ref (ad 1)), (2, .int v2), (3, .int v3), (4, .int v4), (5, .int v5), (6, .int v6)]) hC dTl_countImplied_122 8 rfl rfl (by decide) rfl ?_
              refine x_goto (tgt := 12) hC dTl_countImplied_125 (by decide) ?_
              refine x_lv [2, 3, 4, 5, 6, 7, 8, 0] rfl ?_
              exact ih v4 v5 v6 (v7 + 1) h
            · have h := h.2 c_21
              refine x_aload_n hC dTl_countImplied_97 rfl 2 rfl ?_
              refine x_get hC iEv 1 wX_1 rfl 3 (by decide) k_x65 rfl rfl dTl_countImplied_98 ?_
              refine x_iload hC dTl_countImplied_101 0 rfl ?_
              obtain ⟨hb_22, h⟩ := h
              refine x_iald hC 5 0 wX_5 rfl hb_22 dTl_countImplied_103 ?_
              refine x_iload_n hC dTl_countImplied_104 rfl 3 rfl ?_
              refine x_icmp_ne (tgt := 122) hC dTl_countImplied_105 (by decide) (fun c_23 => ?_) (fun c_23 => ?_)
              · have h := h.1 c_23
                refine x_iinc (v := v7 + 1) (lv' := [(7, .int (v7 + 1)), (8, .int (ord v7.toNatClampNeg)), (0, .ref (ad 17)), (1, .ref (ad 1)), (2, .int v2), (3, .int v3), (4, .int v4), (5, .int v5), (6, .int v6)]) hC dTl_countImplied_122 8 rfl rfl (by decide) rfl ?_
                refine x_goto (tgt := 12) hC dTl_countImplied_125 (by decide) ?_
                refine x_lv [2, 3, 4, 5, 6, 7, 8, 0] rfl ?_
                exact ih v4 v5 v6 (v7 + 1) h
              · have h := h.2 c_23
                refine x_aload_n hC dTl_countImplied_108 rfl 2 rfl ?_
                refine x_get hC iEv 1 wX_1 rfl 2 (by decide) k_x72 rfl rfl dTl_countImplied_109 ?_
                refine x_iload hC dTl_countImplied_112 0 rfl ?_
                obtain ⟨hb_24, h⟩ := h
                refine x_iald hC 4 0 wX_4 rfl hb_24 dTl_countImplied_114 ?_
                refine x_iload hC dTl_countImplied_115 7 rfl ?_
                refine x_callSi (S := Unit) (wf := fun u => (wX ad cI cL cO sc sd src itm knd plc clk ec nf ns nc wt bd off row hw rl tm ord tc)) hC [.int (knd (ord v7.toNatClampNeg).toNatClampNeg), .int v6] (fun sz => c_Timeline_isInsideAfter h sz) (by decide) (by decide) k_x73 k_x74 k_x75 (by decide) 2 rfl (by decide +kernel) ⟨by decide, by decide⟩ (Nat.le_of_ble_eq_true rfl) k_x76 rfl dTl_countImplied_117 (fun _ h9 => h9) (fun r_25 u_26 h => ?_)
                refine x_istore (lv' := [(6, .int r_25), (8, .int (ord v7.toNatClampNeg)), (0, .ref (ad 17)), (1, .ref (ad 1)), (2, .int v2), (3, .int v3), (4, .int v4), (5, .int v5), (7, .int v7)]) hC dTl_countImplied_120 (by decide) rfl ?_
                refine x_iinc (v := v7 + 1) (lv' := [(7, .int (v7 + 1)), (6, .int r_25), (8, .int (ord v7.toNatClampNeg)), (0, .ref (ad 17)), (1, .ref (ad 1)), (2, .int v2), (3, .int v3), (4, .int v4), (5, .int v5)]) hC dTl_countImplied_122 8 rfl rfl (by decide) rfl ?_
                refine x_goto (tgt := 12) hC dTl_countImplied_125 (by decide) ?_
                refine x_lv [3, 4, 5, 6, 7, 8, 1, 0] rfl ?_
                exact ih v4 v5 r_25 (v7 + 1) h
          · have h := h.2 c_19
            refine x_iload hC dTl_countImplied_75 6 rfl ?_
            refine x_if_eq (tgt := 122) hC dTl_countImplied_77 (by decide) (fun c_27 => ?_) (fun c_27 => ?_)
            · have h := h.1 c_27
              refine x_iinc (v := v7 + 1) (lv' := [(7, .int (v7 + 1)), (8, .int (ord v7.toNatClampNeg)), (0, .ref (ad 17)), (1, .ref (ad 1)), (2, .int v2), (3, .int v3), (4, .int v4), (5, .int v5), (6, .int v6)]) hC dTl_countImplied_122 8 rfl rfl (by decide) rfl ?_
              refine x_goto (tgt := 12) hC dTl_countImplied_125 (by decide) ?_
              refine x_lv [2, 3, 4, 5, 6, 7, 8, 0] rfl ?_
              exact ih v4 v5 v6 (v7 + 1) h
            · have h := h.2 c_27
              refine x_iinc (v := v4 + 1) (lv' := [(4, .int (v4 + 1)), (8, .int (ord v7.toNatClampNeg)), (0, .ref (ad 17)), (1, .ref (ad 1)), (2, .int v2), (3, .int v3), (5, .int v5), (6, .int v6), (7, .int v7)]) hC dTl_countImplied_80 5 rfl rfl (by decide) rfl ?_
              refine x_goto (tgt := 122) hC dTl_countImplied_83 (by decide) ?_
              refine x_iinc (v := v7 + 1) (lv' := [(7, .int (v7 + 1)), (4, .int (v4 + 1)), (8, .int (ord v7.toNatClampNeg)), (0, .ref (ad 17)), (1, .ref (ad 1)), (2, .int v2), (3, .int v3), (5, .int v5), (6, .int v6)]) hC dTl_countImplied_122 8 rfl rfl (by decide) rfl ?_
              refine x_goto (tgt := 12) hC dTl_countImplied_125 (by decide) ?_
              refine x_lv [3, 4, 5, 6, 1, 7, 8, 0] rfl ?_
              exact ih (v4 + 1) v5 v6 (v7 + 1) h
        · have h := h.2 c_17
          refine x_iload hC dTl_countImplied_60 7 rfl ?_
          refine x_istore (lv' := [(5, .int v6), (8, .int (ord v7.toNatClampNeg)), (0, .ref (ad 17)), (1, .ref (ad 1)), (2, .int v2), (3, .int v3), (4, .int v4), (6, .int v6), (7, .int v7)]) hC dTl_countImplied_62 (by decide) rfl ?_
          refine x_aload_n hC dTl_countImplied_64 rfl 3 rfl ?_
          refine x_get hC iEv 1 wX_1 rfl 1 (by decide) k_x71 rfl rfl dTl_countImplied_65 ?_
          refine x_iload hC dTl_countImplied_68 1 rfl ?_
          obtain ⟨hb_28, h⟩ := h
          refine x_iald hC 3 0 wX_3 rfl hb_28 dTl_countImplied_70 ?_
          refine x_iload_n hC dTl_countImplied_71 rfl 4 rfl ?_
          refine x_icmp_ne (tgt := 86) hC dTl_countImplied_72 (by decide) (fun c_29 => ?_) (fun c_29 => ?_)
          · have h := h.1 c_29
            refine x_aload_n hC dTl_countImplied_86 rfl 3 rfl ?_
            refine x_get hC iEv 1 wX_1 rfl 1 (by decide) k_x71 rfl rfl dTl_countImplied_87 ?_
            refine x_iload hC dTl_countImplied_90 1 rfl ?_
            obtain ⟨hb_30, h⟩ := h
            refine x_iald hC 3 0 wX_3 rfl hb_30 dTl_countImplied_92 ?_
            refine x_iload_n hC dTl_countImplied_93 rfl 5 rfl ?_
            refine x_icmp_ne (tgt := 122) hC dTl_countImplied_94 (by decide) (fun c_31 => ?_) (fun c_31 => ?_)
            · have h := h.1 c_31
              refine x_iinc (v := v7 + 1) (lv' := [(7, .int (v7 + 1)), (5, .int v6), (8, .int (ord v7.toNatClampNeg)), (0, .ref (ad 17)), (1, .ref (ad 1)), (2, .int v2), (3, .int v3), (4, .int v4), (6, .int v6)]) hC dTl_countImplied_122 8 rfl rfl (by decide) rfl ?_
              refine x_goto (tgt := 12) hC dTl_countImplied_125 (by decide) ?_
              refine x_lv [3, 4, 5, 6, 7, 1, 8, 0] rfl ?_
              exact ih v4 v6 v6 (v7 + 1) h
            · have h := h.2 c_31
              refine x_aload_n hC dTl_countImplied_97 rfl 3 rfl ?_
              refine x_get hC iEv 1 wX_1 rfl 3 (by decide) k_x65 rfl rfl dTl_countImplied_98 ?_
              refine x_iload hC dTl_countImplied_101 1 rfl ?_
              obtain ⟨hb_32, h⟩ := h
              refine x_iald hC 5 0 wX_5 rfl hb_32 dTl_countImplied_103 ?_
              refine x_iload_n hC dTl_countImplied_104 rfl 4 rfl ?_
              refine x_icmp_ne (tgt := 122) hC dTl_countImplied_105 (by decide) (fun c_33 => ?_) (fun c_33 => ?_)
              · have h := h.1 c_33
                refine x_iinc (v := v7 + 1) (lv' := [(7, .int (v7 + 1)), (5, .int v6), (8, .int (ord v7.toNatClampNeg)), (0, .ref (ad 17)), (1, .ref (ad 1)), (2, .int v2), (3, .int v3), (4, .int v4), (6, .int v6)]) hC dTl_countImplied_122 8 rfl rfl (by decide) rfl ?_
                refine x_goto (tgt := 12) hC dTl_countImplied_125 (by decide) ?_
                refine x_lv [3, 4, 5, 6, 7, 1, 8, 0] rfl ?_
                exact ih v4 v6 v6 (v7 + 1) h
              · have h := h.2 c_33
                refine x_aload_n hC dTl_countImplied_108 rfl 3 rfl ?_
                refine x_get hC iEv 1 wX_1 rfl 2 (by decide) k_x72 rfl rfl dTl_countImplied_109 ?_
                refine x_iload hC dTl_countImplied_112 1 rfl ?_
                obtain ⟨hb_34, h⟩ := h
                refine x_iald hC 4 0 wX_4 rfl hb_34 dTl_countImplied_114 ?_
                refine x_iload hC dTl_countImplied_115 7 rfl ?_
                refine x_callSi (S := Unit) (wf := fun u => (wX ad cI cL cO sc sd src itm knd plc clk ec nf ns nc wt bd off row hw rl tm ord tc)) hC [.int (knd (ord v7.toNatClampNeg).toNatClampNeg), .int v6] (fun sz => c_Timeline_isInsideAfter h sz) (by decide) (by decide) k_x73 k_x74 k_x75 (by decide) 2 rfl (by decide +kernel) ⟨by decide, by decide⟩ (Nat.le_of_ble_eq_true rfl) k_x76 rfl dTl_countImplied_117 (fun _ h9 => h9) (fun r_35 u_36 h => ?_)
                refine x_istore (lv' := [(6, .int r_35), (5, .int v6), (8, .int (ord v7.toNatClampNeg)), (0, .ref (ad 17)), (1, .ref (ad 1)), (2, .int v2), (3, .int v3), (4, .int v4), (7, .int v7)]) hC dTl_countImplied_120 (by decide) rfl ?_
                refine x_iinc (v := v7 + 1) (lv' := [(7, .int (v7 + 1)), (6, .int r_35), (5, .int v6), (8, .int (ord v7.toNatClampNeg)), (0, .ref (ad 17)), (1, .ref (ad 1)), (2, .int v2), (3, .int v3), (4, .int v4)]) hC dTl_countImplied_122 8 rfl rfl (by decide) rfl ?_
                refine x_goto (tgt := 12) hC dTl_countImplied_125 (by decide) ?_
                refine x_lv [4, 5, 6, 7, 8, 2, 1, 0] rfl ?_
                exact ih v4 v6 r_35 (v7 + 1) h
          · have h := h.2 c_29
            refine x_iload hC dTl_countImplied_75 0 rfl ?_
            refine x_if_eq (tgt := 122) hC dTl_countImplied_77 (by decide) (fun c_37 => ?_) (fun c_37 => ?_)
            · have h := h.1 c_37
              refine x_iinc (v := v7 + 1) (lv' := [(7, .int (v7 + 1)), (5, .int v6), (8, .int (ord v7.toNatClampNeg)), (0, .ref (ad 17)), (1, .ref (ad 1)), (2, .int v2), (3, .int v3), (4, .int v4), (6, .int v6)]) hC dTl_countImplied_122 8 rfl rfl (by decide) rfl ?_
              refine x_goto (tgt := 12) hC dTl_countImplied_125 (by decide) ?_
              refine x_lv [3, 4, 5, 6, 7, 1, 8, 0] rfl ?_
              exact ih v4 v6 v6 (v7 + 1) h
            · have h := h.2 c_37
              refine x_iinc (v := v4 + 1) (lv' := [(4, .int (v4 + 1)), (5, .int v6), (8, .int (ord v7.toNatClampNeg)), (0, .ref (ad 17)), (1, .ref (ad 1)), (2, .int v2), (3, .int v3), (6, .int v6), (7, .int v7)]) hC dTl_countImplied_80 6 rfl rfl (by decide) rfl ?_
              refine x_goto (tgt := 122) hC dTl_countImplied_83 (by decide) ?_
              refine x_iinc (v := v7 + 1) (lv' := [(7, .int (v7 + 1)), (4, .int (v4 + 1)), (5, .int v6), (8, .int (ord v7.toNatClampNeg)), (0, .ref (ad 17)), (1, .ref (ad 1)), (2, .int v2), (3, .int v3), (6, .int v6)]) hC dTl_countImplied_122 8 rfl rfl (by decide) rfl ?_
              refine x_goto (tgt := 12) hC dTl_countImplied_125 (by decide) ?_
              refine x_lv [4, 5, 6, 7, 1, 2, 8, 0] rfl ?_
              exact ih (v4 + 1) v6 v6 (v7 + 1) h

set_option maxHeartbeats 4000000 in
set_option maxRecDepth 100000 in
theorem c_Timeline_countImplied_1 {l : Launch} {D : va_G} {ad : Nat → Nat} {cI cL cO : ClassId} {sc : Int32} {sd : Int32} {src : (Nat → Int32)} {itm : (Nat → Int32)} {knd : (Nat → Int32)} {plc : (Nat → Int32)} {clk : (Nat → Int64)} {ec : Int32} {nf : (Nat → Int32)} {ns : (Nat → Int32)} {nc : Int32} {wt : (Nat → Nat → Int64)} {bd : (Nat → Nat → Int64)} {off : (Nat → Int64)} {row : (Nat → Int32)} {hw : (Nat → Nat → Int64)} {rl : Int32} {tm : (Nat → Int64)} {ord : (Nat → Int32)} {tc : Int32} {a2 : Int32} {a3 : Int32} {Qr : Int32 → Unit → Prop} (h : Timeline_countImplied_1_wp itm knd plc tm ord tc a2 a3 Qr) (sz : Nat) : vx_Met l yTl_countImplied (Cond.code yTl_countImplied bTl_countImplied 9 (some .int) :: TBL) rm_Timeline_countImplied_1 (va_Pc [.ref (ad 17), .ref (ad 1), .int a2, .int a3] (XP D vwCl (tysX cI cL cO) (wX ad cI cL cO sc sd src itm knd plc clk ec nf ns nc wt bd off row hw rl tm ord tc) sz)) (va_Qi Qr (fun u t => XB D vwCl (tysX cI cL cO) (va_A (wX ad cI cL cO sc sd src itm knd plc clk ec nf ns nc wt bd off row hw rl tm ord tc) sz) (wX ad cI cL cO sc sd src itm knd plc clk ec nf ns nc wt bd off row hw rl tm ord tc) t) (va_A (wX ad cI cL cO sc sd src itm knd plc clk ec nf ns nc wt bd off row hw rl tm ord tc) sz)) (XT D vwCl (tysX cI cL cO) (va_A (wX ad cI cL cO sc sd src itm knd plc clk ec nf ns nc wt bd off row hw rl tm ord tc) sz) (wX ad cI cL cO sc sd src itm knd plc clk ec nf ns nc wt bd off row hw rl tm ord tc) (fun _ => False)) rm_Timeline_countImplied_1.cells rm_Timeline_countImplied_1.slots (va_A (wX ad cI cL cO sc sd src itm knd plc clk ec nf ns nc wt bd off row hw rl tm ord tc) sz) := by
  refine x_met [.ref (ad 17), .ref (ad 1), .int a2, .int a3] TBL_good (by decide) (Nat.le_of_ble_eq_true rfl) ?_
  intro p e s m args below meth c hC hr hlk hnm hnh
  have hret : ∀ (ce sl : Nat), ce ≤ rm_Timeline_countImplied_1.cells → sl ≤ rm_Timeline_countImplied_1.slots → ∀ (r : Int32) (u : Unit), Qr r u → ∀ (pc : Nat) (lv : List (Nat × Value)), decode bTl_countImplied pc = .ok (.ireturn, 1) → XW p l e rm_Timeline_countImplied_1 s m args below meth c D vwCl (va_A (wX ad cI cL cO sc sd src itm knd plc clk ec nf ns nc wt bd off row hw rl tm ord tc) sz) 9 (vx_MQ below (va_Qi Qr (fun u t => XB D vwCl (tysX cI cL cO) (va_A (wX ad cI cL cO sc sd src itm knd plc clk ec nf ns nc wt bd off row hw rl tm ord tc) sz) (wX ad cI cL cO sc sd src itm knd plc clk ec nf ns nc wt bd off row hw rl tm ord tc) t) (va_A (wX ad cI cL cO sc sd src itm knd plc clk ec nf ns nc wt bd off row hw rl tm ord tc) sz)) (XT D vwCl (tysX cI cL cO) (va_A (wX ad cI cL cO sc sd src itm knd plc clk ec nf ns nc wt bd off row hw rl tm ord tc) sz) (wX ad cI cL cO sc sd src itm knd plc clk ec nf ns nc wt bd off row hw rl tm ord tc) (fun _ => False)) args s rm_Timeline_countImplied_1.cells rm_Timeline_countImplied_1.slots (va_A (wX ad cI cL cO sc sd src itm knd plc clk ec nf ns nc wt bd off row hw rl tm ord tc) sz)) ce sl (wX ad cI cL cO sc sd src itm knd plc clk ec nf ns nc wt bd off row hw rl tm ord tc) pc lv [.int r] := fun ce sl h1 h2 r u hq pc lv hd => x_iret (wf := fun u => (wX ad cI cL cO sc sd src itm knd plc clk ec nf ns nc wt bd off row hw rl tm ord tc)) hC h1 h2 hr hlk hd hq rfl
  show XW p l e rm_Timeline_countImplied_1 s m args below meth c D vwCl (va_A (wX ad cI cL cO sc sd src itm knd plc clk ec nf ns nc wt bd off row hw rl tm ord tc) sz) 9 _ 0 0 (wX ad cI cL cO sc sd src itm knd plc clk ec nf ns nc wt bd off row hw rl tm ord tc) 0 [(0, .ref (ad 17)), (1, .ref (ad 1)), (2, .int a2), (3, .int a3)] []
  unfold Timeline_countImplied_1_wp at h
  refine x_iconst (v := 0) hC dTl_countImplied_0 (by decide) ?_
  refine x_istore (lv' := [(4, .int 0), (0, .ref (ad 17)), (1, .ref (ad 1)), (2, .int a2), (3, .int a3)]) hC dTl_countImplied_1 (by decide) rfl ?_
  refine x_iconst (v := 0) hC dTl_countImplied_3 (by decide) ?_
  refine x_istore (lv' := [(5, .int 0), (4, .int 0), (0, .ref (ad 17)), (1, .ref (ad 1)), (2, .int a2), (3, .int a3)]) hC dTl_countImplied_4 (by decide) rfl ?_
  refine x_iconst (v := 0) hC dTl_countImplied_6 (by decide) ?_
  refine x_istore (lv' := [(6, .int 0), (5, .int 0), (4, .int 0), (0, .ref (ad 17)), (1, .ref (ad 1)), (2, .int a2), (3, .int a3)]) hC dTl_countImplied_7 (by decide) rfl ?_
  refine x_iconst (v := 0) hC dTl_countImplied_9 (by decide) ?_
  refine x_istore (lv' := [(7, .int 0), (6, .int 0), (5, .int 0), (4, .int 0), (0, .ref (ad 17)), (1, .ref (ad 1)), (2, .int a2), (3, .int a3)]) hC dTl_countImplied_10 (by decide) rfl ?_
  obtain ⟨n_39, h⟩ := h
  refine x_lv [4, 5, 6, 7, 3, 2, 1, 0] rfl ?_
  refine Timeline_countImplied_1_L12_ok hC (fun v4_38 h => ?_) n_39 0 0 0 0 h
  refine x_iload hC dTl_countImplied_128 0 rfl ?_
  exact hret _ _ (by decide) (by decide) v4_38 () h _ _ dTl_countImplied_130

