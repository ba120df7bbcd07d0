/-! EventOrderModel.weigh()V -/
abbrev rm_M_weigh : Room := { frames := 0, cells := 0, slots := 0, locals := 0 }
def M_weigh_L2 (Qx : (Nat → Int64) → Prop) : Nat → Int32 → (Nat → Int64) → Prop
  | 0, _, _ => False
  | n + 1, v1, mw => ((256 ≤ v1 → Qx mw) ∧ (¬ 256 ≤ v1 → vp_in v1 256 ∧ M_weigh_L2 Qx n (v1 + 1) (vp_updL mw v1.toNatClampNeg 9223372036854775807)))

def M_weigh_L26 (msrc : (Nat → Int32)) (mclk : (Nat → Int64)) (mnc : Int32) (mnf : (Nat → Int32)) (mns : (Nat → Int32)) (Qx : (Nat → Int64) → Prop) : Nat → Int32 → (Nat → Int64) → Prop
  | 0, _, _ => False
  | n + 1, v1, mw => ((mnc ≤ v1 → Qx mw) ∧ (¬ mnc ≤ v1 → vp_in v1 300 ∧ vp_in (mnf v1.toNatClampNeg) 301 ∧ vp_in v1 300 ∧ vp_in (mns v1.toNatClampNeg) 301 ∧ vp_in v1 300 ∧ vp_in (mns v1.toNatClampNeg) 301 ∧ vp_in v1 300 ∧ vp_in (mnf v1.toNatClampNeg) 301 ∧ vp_in ((16 * (msrc (mnf v1.toNatClampNeg).toNatClampNeg)) + (msrc (mns v1.toNatClampNeg).toNatClampNeg)) 256 ∧ (((mw ((16 * (msrc (mnf v1.toNatClampNeg).toNatClampNeg)) + (msrc (mns v1.toNatClampNeg).toNatClampNeg)).toNatClampNeg) ≤ (((mclk (mns v1.toNatClampNeg).toNatClampNeg) - (mclk (mnf v1.toNatClampNeg).toNatClampNeg)) - 1) → vp_in ((16 * (msrc (mnf v1.toNatClampNeg).toNatClampNeg)) + (msrc (mns v1.toNatClampNeg).toNatClampNeg)) 256 ∧ vp_in ((16 * (msrc (mnf v1.toNatClampNeg).toNatClampNeg)) + (msrc (mns v1.toNatClampNeg).toNatClampNeg)) 256 ∧ M_weigh_L26 msrc mclk mnc mnf mns Qx n (v1 + 1) (vp_updL mw ((16 * (msrc (mnf v1.toNatClampNeg).toNatClampNeg)) + (msrc (mns v1.toNatClampNeg).toNatClampNeg)).toNatClampNeg (mw ((16 * (msrc (mnf v1.toNatClampNeg).toNatClampNeg)) + (msrc (mns v1.toNatClampNeg).toNatClampNeg)).toNatClampNeg))) ∧ (¬ (mw ((16 * (msrc (mnf v1.toNatClampNeg).toNatClampNeg)) + (msrc (mns v1.toNatClampNeg).toNatClampNeg)).toNatClampNeg) ≤ (((mclk (mns v1.toNatClampNeg).toNatClampNeg) - (mclk (mnf v1.toNatClampNeg).toNatClampNeg)) - 1) → vp_in ((16 * (msrc (mnf v1.toNatClampNeg).toNatClampNeg)) + (msrc (mns v1.toNatClampNeg).toNatClampNeg)) 256 ∧ M_weigh_L26 msrc mclk mnc mnf mns Qx n (v1 + 1) (vp_updL mw ((16 * (msrc (mnf v1.toNatClampNeg).toNatClampNeg)) + (msrc (mns v1.toNatClampNeg).toNatClampNeg)).toNatClampNeg (((mclk (mns v1.toNatClampNeg).toNatClampNeg) - (mclk (mnf v1.toNatClampNeg).toNatClampNeg)) - 1))))))

def M_weigh_wp (msrc : (Nat → Int32)) (mclk : (Nat → Int64)) (mnc : Int32) (mnf : (Nat → Int32)) (mns : (Nat → Int32)) (mw : (Nat → Int64)) (Qr : (Nat → Int64) → Prop) : Prop := (∃ n_20 : Nat, M_weigh_L2  (fun (mw_3 : (Nat → Int64)) => (∃ n_19 : Nat, M_weigh_L26 msrc mclk mnc mnf mns (fun (mw_18 : (Nat → Int64)) => Qr mw_18) n_19 0 mw_3)) n_20 0 mw)
set_option maxHeartbeats 4000000 in
set_option maxRecDepth 100000 in
theorem M_weigh_L2_ok {p : Program} {l : Launch} {e : Env} {s : State} {m : MethodId} {args : Array Value} {below : List Frame} {meth : Method} {c : Code} {Q : State → Prop} {D : va_G} {A : Nat → Prop} {ad : Nat → Nat} {cI cL cO : ClassId} {mth : Int32} {msc : Int32} {mec : Int32} {msrc : (Nat → Int32)} {mitm : (Nat → Int32)} {mknd : (Nat → Int32)} {mplc : (Nat → Int32)} {mclk : (Nat → Int64)} {mnc : Int32} {mnf : (Nat → Int32)} {mns : (Nat → Int32)} {msd : Int32} {mrl : Int32} {mrow : (Nat → Int32)} {mb : (Nat → Int64)} {mway : (Nat → Int64)} {moff : (Nat → Int64)} {Qx : (Nat → Int64) → Prop} (hC : XC p s m args c D vwCl (tysX cI cL cO) A 5 bM_weigh TBL RM)  (hexit : ∀ (mw : (Nat → Int64)), Qx mw → XW p l e rm_M_weigh s m args below meth c D vwCl A 5 Q 0 0 (wM ad cI cL cO mth msc mec msrc mitm mknd mplc mclk mnc mnf mns msd mrl mrow mw mb mway moff) 24 [(0, .ref (ad 0))] []) : ∀ (n : Nat) (v1 : Int32) (mw : (Nat → Int64)), M_weigh_L2 Qx n v1 mw → XW p l e rm_M_weigh s m args below meth c D vwCl A 5 Q 0 0 (wM ad cI cL cO mth msc mec msrc mitm mknd mplc mclk mnc mnf mns msd mrl mrow mw mb mway moff) 2 [(0, .ref (ad 0)), (1, .int v1)] [] := by
  intro n
  induction n with
  | zero => intro v1 mw h; exact False.elim h
  | succ n ih =>
    intro v1 mw h
    unfold M_weigh_L2 at h
    refine x_iload_n hC dM_weigh_2 rfl 1 rfl ?_
    refine x_sipush (v := 256) hC dM_weigh_3 (by decide) ?_
    refine x_icmp_ge (tgt := 24) hC dM_weigh_6 (by decide) (fun c_1 => ?_) (fun c_1 => ?_)
    · have h := h.1 c_1
      refine x_lv [0] rfl ?_
      exact hexit mw h
    · have h := h.2 c_1
      refine x_aload_n hC dM_weigh_9 rfl 0 rfl ?_
      refine x_get hC iM 0 wM_0 rfl 14 (by decide) k_m43 rfl rfl dM_weigh_10 ?_
      refine x_iload_n hC dM_weigh_13 rfl 1 rfl ?_
      refine x_ldc2 (v := 9223372036854775807) hC k_m44 dM_weigh_14 ?_
      obtain ⟨hb_2, h⟩ := h
      refine x_last (ws' := (wM ad cI cL cO mth msc mec msrc mitm mknd mplc mclk mnc mnf mns msd mrl mrow (vp_updL mw v1.toNatClampNeg 9223372036854775807) mb mway moff)) hC 9 1 wM_9 rfl hb_2 wM_9_set dM_weigh_17 ?_
      refine x_iinc (v := v1 + 1) (lv' := [(1, .int (v1 + 1)), (0, .ref (ad 0))]) hC dM_weigh_18 1 rfl rfl (by decide) rfl ?_
      refine x_goto (tgt := 2) hC dM_weigh_21 (by decide) ?_
      refine x_lv [1, 0] rfl ?_
      exact ih (v1 + 1) (vp_updL mw v1.toNatClampNeg 9223372036854775807) h

set_option maxHeartbeats 4000000 in
set_option maxRecDepth 100000 in
theorem M_weigh_L26_ok {p : Program} {l : Launch} {e : Env} {s : State} {m : MethodId} {args : Array Value} {below : List Frame} {meth : Method} {c : Code} {Q : State → Prop} {D : va_G} {A : Nat → Prop} {ad : Nat → Nat} {cI cL cO : ClassId} {mth : Int32} {msc : Int32} {mec : Int32} {msrc : (Nat → Int32)} {mitm : (Nat → Int32)} {mknd : (Nat → Int32)} {mplc : (Nat → Int32)} {mclk : (Nat → Int64)} {mnc : Int32} {mnf : (Nat → Int32)} {mns : (Nat → Int32)} {msd : Int32} {mrl : Int32} {mrow : (Nat → Int32)} {mb : (Nat → Int64)} {mway : (Nat → Int64)} {moff : (Nat → Int64)} {Qx : (Nat → Int64) → Prop} (hC : XC p s m args c D vwCl (tysX cI cL cO) A 5 bM_weigh TBL RM)  (hexit : ∀ (mw : (Nat → Int64)), Qx mw → XW p l e rm_M_weigh s m args below meth c D vwCl A 5 Q 0 0 (wM ad cI cL cO mth msc mec msrc mitm mknd mplc mclk mnc mnf mns msd mrl mrow mw mb mway moff) 120 [] []) : ∀ (n : Nat) (v1 : Int32) (mw : (Nat → Int64)), M_weigh_L26 msrc mclk mnc mnf mns Qx n v1 mw → XW p l e rm_M_weigh s m args below meth c D vwCl A 5 Q 0 0 (wM ad cI cL cO mth msc mec msrc mitm mknd mplc mclk mnc mnf mns msd mrl mrow mw mb mway moff) 26 [(0, .ref (ad 0)), (1, .int v1)] [] := by
  intro n
  induction n with
  | zero => intro v1 mw h; exact False.elim h
  | succ n ih =>
    intro v1 mw h
    unfold M_weigh_L26 at h
    refine x_iload_n hC dM_weigh_26 rfl 1 rfl ?_
    refine x_aload_n hC dM_weigh_27 rfl 0 rfl ?_
    refine x_get hC iM 0 wM_0 rfl 8 (by decide) k_m32 rfl rfl dM_weigh_28 ?_
    refine x_icmp_ge (tgt := 120) hC dM_weigh_31 (by decide) (fun c_4 => ?_) (fun c_4 => ?_)
    · have h := h.1 c_4
      refine x_lv [] rfl ?_
      exact hexit mw h
    · have h := h.2 c_4
      refine x_bipush (v := 16) hC dM_weigh_34 (by decide) ?_
      refine x_aload_n hC dM_weigh_36 rfl 0 rfl ?_
      refine x_get hC iM 0 wM_0 rfl 3 (by decide) k_m14 rfl rfl dM_weigh_37 ?_
      refine x_aload_n hC dM_weigh_40 rfl 0 rfl ?_
      refine x_get hC iM 0 wM_0 rfl 9 (by decide) k_m33 rfl rfl dM_weigh_41 ?_
      refine x_iload_n hC dM_weigh_44 rfl 1 rfl ?_
      obtain ⟨hb_5, h⟩ := h
      refine x_iald hC 6 0 wM_6 rfl hb_5 dM_weigh_45 ?_
      obtain ⟨hb_6, h⟩ := h
      refine x_iald hC 1 0 wM_1 rfl hb_6 dM_weigh_46 ?_
      refine x_imul hC dM_weigh_47 ?_
      refine x_aload_n hC dM_weigh_48 rfl 0 rfl ?_
      refine x_get hC iM 0 wM_0 rfl 3 (by decide) k_m14 rfl rfl dM_weigh_49 ?_
      refine x_aload_n hC dM_weigh_52 rfl 0 rfl ?_
      refine x_get hC iM 0 wM_0 rfl 10 (by decide) k_m34 rfl rfl dM_weigh_53 ?_
      refine x_iload_n hC dM_weigh_56 rfl 1 rfl ?_
      obtain ⟨hb_7, h⟩ := h
      refine x_iald hC 7 0 wM_7 rfl hb_7 dM_weigh_57 ?_
      obtain ⟨hb_8, h⟩ := h
      refine x_iald hC 1 0 wM_1 rfl hb_8 dM_weigh_58 ?_
      refine x_iadd hC dM_weigh_59 ?_
      refine x_istore_n (lv' := [(2, .int ((16 * (msrc (mnf v1.toNatClampNeg).toNatClampNeg)) + (msrc (mns v1.toNatClampNeg).toNatClampNeg))), (0, .ref (ad 0)), (1, .int v1)]) hC dM_weigh_60 rfl (by decide) rfl ?_
      refine x_aload_n hC dM_weigh_61 rfl 1 rfl ?_
      refine x_get hC iM 0 wM_0 rfl 7 (by decide) k_m18 rfl rfl dM_weigh_62 ?_
      refine x_aload_n hC dM_weigh_65 rfl 1 rfl ?_
      refine x_get hC iM 0 wM_0 rfl 10 (by decide) k_m34 rfl rfl dM_weigh_66 ?_
      refine x_iload_n hC dM_weigh_69 rfl 2 rfl ?_
      obtain ⟨hb_9, h⟩ := h
      refine x_iald hC 7 0 wM_7 rfl hb_9 dM_weigh_70 ?_
      obtain ⟨hb_10, h⟩ := h
      refine x_lald hC 5 1 wM_5 rfl hb_10 dM_weigh_71 ?_
      refine x_aload_n hC dM_weigh_72 rfl 1 rfl ?_
      refine x_get hC iM 0 wM_0 rfl 7 (by decide) k_m18 rfl rfl dM_weigh_73 ?_
      refine x_aload_n hC dM_weigh_76 rfl 1 rfl ?_
      refine x_get hC iM 0 wM_0 rfl 9 (by decide) k_m33 rfl rfl dM_weigh_77 ?_
      refine x_iload_n hC dM_weigh_80 rfl 2 rfl ?_
      obtain ⟨hb_11, h⟩ := h
      refine x_iald hC 6 0 wM_6 rfl hb_11 dM_weigh_81 ?_
      obtain ⟨hb_12, h⟩ := h
      refine x_lald hC 5 1 wM_5 rfl hb_12 dM_weigh_82 ?_
      refine x_lsub hC dM_weigh_83 ?_
      refine x_lconst (v := 1) hC dM_weigh_84 (by decide) ?_
      refine x_lsub hC dM_weigh_85 ?_
      refine x_lstore_n (lv' := [(3, .long (((mclk (mns v1.toNatClampNeg).toNatClampNeg) - (mclk (mnf v1.toNatClampNeg).toNatClampNeg)) - 1)), (2, .int ((16 * (msrc (mnf v1.toNatClampNeg).toNatClampNeg)) + (msrc (mns v1.toNatClampNeg).toNatClampNeg))), (0, .ref (ad 0)), (1, .int v1)]) hC dM_weigh_86 rfl (by decide) rfl ?_
      refine x_aload_n hC dM_weigh_87 rfl 2 rfl ?_
      refine x_get hC iM 0 wM_0 rfl 14 (by decide) k_m43 rfl rfl dM_weigh_88 ?_
      refine x_iload_n hC dM_weigh_91 rfl 1 rfl ?_
      refine x_lload_n hC dM_weigh_92 rfl 0 rfl ?_
      refine x_aload_n hC dM_weigh_93 rfl 2 rfl ?_
      refine x_get hC iM 0 wM_0 rfl 14 (by decide) k_m43 rfl rfl dM_weigh_94 ?_
      refine x_iload_n hC dM_weigh_97 rfl 1 rfl ?_
      obtain ⟨hb_13, h⟩ := h
      refine x_lald hC 9 1 wM_9 rfl hb_13 dM_weigh_98 ?_
      refine x_lcmp_ge (tgt := 107) hC dM_weigh_99 dM_weigh_100 (by decide) (fun c_14 => ?_) (fun c_14 => ?_)
      · have h := h.1 c_14
        refine x_aload_n hC dM_weigh_107 rfl 2 rfl ?_
        refine x_get hC iM 0 wM_0 rfl 14 (by decide) k_m43 rfl rfl dM_weigh_108 ?_
        refine x_iload_n hC dM_weigh_111 rfl 1 rfl ?_
        obtain ⟨hb_15, h⟩ := h
        refine x_lald hC 9 1 wM_9 rfl hb_15 dM_weigh_112 ?_
        obtain ⟨hb_16, h⟩ := h
        refine x_last (ws' := (wM ad cI cL cO mth msc mec msrc mitm mknd mplc mclk mnc mnf mns msd mrl mrow (vp_updL mw ((16 * (msrc (mnf v1.toNatClampNeg).toNatClampNeg)) + (msrc (mns v1.toNatClampNeg).toNatClampNeg)).toNatClampNeg (mw ((16 * (msrc (mnf v1.toNatClampNeg).toNatClampNeg)) + (msrc (mns v1.toNatClampNeg).toNatClampNeg)).toNatClampNeg)) mb mway moff)) hC 9 1 wM_9 rfl hb_16 wM_9_set dM_weigh_113 ?_
        refine x_iinc (v := v1 + 1) (lv' := [(1, .int (v1 + 1)), (3, .long (((mclk (mns v1.toNatClampNeg).toNatClampNeg) - (mclk (mnf v1.toNatClampNeg).toNatClampNeg)) - 1)), (2, .int ((16 * (msrc (mnf v1.toNatClampNeg).toNatClampNeg)) + (msrc (mns v1.toNatClampNeg).toNatClampNeg))), (0, .ref (ad 0))]) hC dM_weigh_114 3 rfl rfl (by decide) rfl ?_
        refine x_goto (tgt := 26) hC dM_weigh_117 (by decide) ?_
        refine x_lv [3, 0] rfl ?_
        exact ih (v1 + 1) (vp_updL mw ((16 * (msrc (mnf v1.toNatClampNeg).toNatClampNeg)) + (msrc (mns v1.toNatClampNeg).toNatClampNeg)).toNatClampNeg (mw ((16 * (msrc (mnf v1.toNatClampNeg).toNatClampNeg)) + (msrc (mns v1.toNatClampNeg).toNatClampNeg)).toNatClampNeg)) h
      · have h := h.2 c_14
        refine x_lload_n hC dM_weigh_103 rfl 0 rfl ?_
        refine x_goto (tgt := 113) hC dM_weigh_104 (by decide) ?_
        obtain ⟨hb_17, h⟩ := h
        refine x_last (ws' := (wM ad cI cL cO mth msc mec msrc mitm mknd mplc mclk mnc mnf mns msd mrl mrow (vp_updL mw ((16 * (msrc (mnf v1.toNatClampNeg).toNatClampNeg)) + (msrc (mns v1.toNatClampNeg).toNatClampNeg)).toNatClampNeg (((mclk (mns v1.toNatClampNeg).toNatClampNeg) - (mclk (mnf v1.toNatClampNeg).toNatClampNeg)) - 1)) mb mway moff)) hC 9 1 wM_9 rfl hb_17 wM_9_set dM_weigh_113 ?_
        refine x_iinc (v := v1 + 1) (lv' := [(1, .int (v1 + 1)), (3, .long (((mclk (mns v1.toNatClampNeg).toNatClampNeg) - (mclk (mnf v1.toNatClampNeg).toNatClampNeg)) - 1)), (2, .int ((16 * (msrc (mnf v1.toNatClampNeg).toNatClampNeg)) + (msrc (mns v1.toNatClampNeg).toNatClampNeg))), (0, .ref (ad 0))]) hC dM_weigh_114 3 rfl rfl (by decide) rfl ?_
        refine x_goto (tgt := 26) hC dM_weigh_117 (by decide) ?_
        refine x_lv [3, 0] rfl ?_
        exact ih (v1 + 1) (vp_updL mw ((16 * (msrc (mnf v1.toNatClampNeg).toNatClampNeg)) + (msrc (mns v1.toNatClampNeg).toNatClampNeg)).toNatClampNeg (((mclk (mns v1.toNatClampNeg).toNatClampNeg) - (mclk (mnf v1.toNatClampNeg).toNatClampNeg)) - 1)) h

set_option maxHeartbeats 4000000 in
set_option maxRecDepth 100000 in
theorem c_M_weigh {l : Launch} {D : va_G} {ad : Nat → Nat} {cI cL cO : ClassId} {mth : Int32} {msc : Int32} {mec : Int32} {msrc : (Nat → Int32)} {mitm : (Nat → Int32)} {mknd : (Nat → Int32)} {mplc : (Nat → Int32)} {mclk : (Nat → Int64)} {mnc : Int32} {mnf : (Nat → Int32)} {mns : (Nat → Int32)} {msd : Int32} {mrl : Int32} {mrow : (Nat → Int32)} {mw : (Nat → Int64)} {mb : (Nat → Int64)} {mway : (Nat → Int64)} {moff : (Nat → Int64)} {Qr : (Nat → Int64) → Prop} (h : M_weigh_wp msrc mclk mnc mnf mns mw Qr) (sz : Nat) : vx_Met l yM_weigh (Cond.code yM_weigh bM_weigh 5 none :: TBL) rm_M_weigh (va_Pc [.ref (ad 0)] (XP D vwCl (tysX cI cL cO) (wM ad cI cL cO mth msc mec msrc mitm mknd mplc mclk mnc mnf mns msd mrl mrow mw mb mway moff) sz)) (va_Qv Qr (fun u t => XB D vwCl (tysX cI cL cO) (va_A (wM ad cI cL cO mth msc mec msrc mitm mknd mplc mclk mnc mnf mns msd mrl mrow mw mb mway moff) sz) (wM ad cI cL cO mth msc mec msrc mitm mknd mplc mclk mnc mnf mns msd mrl mrow u mb mway moff) t) (va_A (wM ad cI cL cO mth msc mec msrc mitm mknd mplc mclk mnc mnf mns msd mrl mrow mw mb mway moff) sz)) (XT D vwCl (tysX cI cL cO) (va_A (wM ad cI cL cO mth msc mec msrc mitm mknd mplc mclk mnc mnf mns msd mrl mrow mw mb mway moff) sz) (wM ad cI cL cO mth msc mec msrc mitm mknd mplc mclk mnc mnf mns msd mrl mrow mw mb mway moff) (fun _ => False)) rm_M_weigh.cells rm_M_weigh.slots (va_A (wM ad cI cL cO mth msc mec msrc mitm mknd mplc mclk mnc mnf mns msd mrl mrow mw mb mway moff) sz) := by
  refine x_met [.ref (ad 0)] TBL_good (by decide) (Nat.le_of_ble_eq_true rfl) ?_
  intro p e s m args below meth c hC hr hlk hnm hnh
  have hret : ∀ (ce sl : Nat), ce ≤ rm_M_weigh.cells → sl ≤ rm_M_weigh.slots → ∀ (u : (Nat → Int64)), Qr u → ∀ (pc : Nat) (lv : List (Nat × Value)), decode bM_weigh pc = .ok (.return_, 1) → XW p l e rm_M_weigh s m args below meth c D vwCl (va_A (wM ad cI cL cO mth msc mec msrc mitm mknd mplc mclk mnc mnf mns msd mrl mrow mw mb mway moff) sz) 5 (vx_MQ below (va_Qv Qr (fun u t => XB D vwCl (tysX cI cL cO) (va_A (wM ad cI cL cO mth msc mec msrc mitm mknd mplc mclk mnc mnf mns msd mrl mrow mw mb mway moff) sz) (wM ad cI cL cO mth msc mec msrc mitm mknd mplc mclk mnc mnf mns msd mrl mrow u mb mway moff) t) (va_A (wM ad cI cL cO mth msc mec msrc mitm mknd mplc mclk mnc mnf mns msd mrl mrow mw mb mway moff) sz)) (XT D vwCl (tysX cI cL cO) (va_A (wM ad cI cL cO mth msc mec msrc mitm mknd mplc mclk mnc mnf mns msd mrl mrow mw mb mway moff) sz) (wM ad cI cL cO mth msc mec msrc mitm mknd mplc mclk mnc mnf mns msd mrl mrow mw mb mway moff) (fun _ => False)) args s rm_M_weigh.cells rm_M_weigh.slots (va_A (wM ad cI cL cO mth msc mec msrc mitm mknd mplc mclk mnc mnf mns msd mrl mrow mw mb mway moff) sz)) ce sl (wM ad cI cL cO mth msc mec msrc mitm mknd mplc mclk mnc mnf mns msd mrl mrow u mb mway moff) pc lv [] := fun ce sl h1 h2 u hq pc lv hd => x_vret (wf := fun u => (wM ad cI cL cO mth msc mec msrc mitm mknd mplc mclk mnc mnf mns msd mrl mrow u mb mway moff)) hC h1 h2 hr hlk hd hq rfl
  show XW p l e rm_M_weigh s m args below meth c D vwCl (va_A (wM ad cI cL cO mth msc mec msrc mitm mknd mplc mclk mnc mnf mns msd mrl mrow mw mb mway moff) sz) 5 _ 0 0 (wM ad cI cL cO mth msc mec msrc mitm mknd mplc mclk mnc mnf mns msd mrl mrow mw mb mway moff) 0 [(0, .ref (ad 0))] []
  unfold M_weigh_wp at h
  refine x_iconst (v := 0) hC dM_weigh_0 (by decide) ?_
  refine x_istore_n (lv' := [(1, .int 0), (0, .ref (ad 0))]) hC dM_weigh_1 rfl (by decide) rfl ?_
  obtain ⟨n_20, h⟩ := h
  refine x_lv [1, 0] rfl ?_
  refine M_weigh_L2_ok hC (fun mw_3 h => ?_) n_20 0 mw h
  refine x_iconst (v := 0) hC dM_weigh_24 (by decide) ?_
  refine x_istore_n (lv' := [(1, .int 0), (0, .ref (ad 0))]) hC dM_weigh_25 rfl (by decide) rfl ?_
  obtain ⟨n_19, h⟩ := h
  refine x_lv [1, 0] rfl ?_
  refine M_weigh_L26_ok hC (fun mw_18 h => ?_) n_19 0 mw_3 h
  exact hret _ _ (by decide) (by decide) mw_18 h _ _ dM_weigh_120

/-! EventOrderModel.plus(JJ)J -/
abbrev rm_M_plus : Room := { frames := 0, cells := 0, slots := 0, locals := 0 }
def M_plus_wp (a0 : Int64) (a2 : Int64) (Qr : Int64 → Unit → Prop) : Prop := ((a0 = 9223372036854775807 → Qr 9223372036854775807 ()) ∧ (¬ a0 = 9223372036854775807 → ((¬ a2 = 9223372036854775807 → Qr (a0 + a2) ()) ∧ (a2 = 9223372036854775807 → Qr 9223372036854775807 ()))))
set_option maxHeartbeats 4000000 in
set_option maxRecDepth 100000 in
theorem c_M_plus {l : Launch} {D : va_G} {ad : Nat → Nat} {cI cL cO : ClassId} {mth : Int32} {msc : Int32} {mec : Int32} {msrc : (Nat → Int32)} {mitm : (Nat → Int32)} {mknd : (Nat → Int32)} {mplc : (Nat → Int32)} {mclk : (Nat → Int64)} {mnc : Int32} {mnf : (Nat → Int32)} {mns : (Nat → Int32)} {msd : Int32} {mrl : Int32} {mrow : (Nat → Int32)} {mw : (Nat → Int64)} {mb : (Nat → Int64)} {mway : (Nat → Int64)} {moff : (Nat → Int64)} {a0 : Int64} {a2 : Int64} {Qr : Int64 → Unit → Prop} (h : M_plus_wp a0 a2 Qr) (sz : Nat) : vx_Met l yM_plus (Cond.code yM_plus bM_plus 4 (some .long) :: TBL) rm_M_plus (va_Pc [.long a0, .long a2] (XP D vwCl (tysX cI cL cO) (wM ad cI cL cO mth msc mec msrc mitm mknd mplc mclk mnc mnf mns msd mrl mrow mw mb mway moff) sz)) (va_Ql Qr (fun u t => XB D vwCl (tysX cI cL cO) (va_A (wM ad cI cL cO mth msc mec msrc mitm mknd mplc mclk mnc mnf mns msd mrl mrow mw mb mway moff) sz) (wM ad cI cL cO mth msc mec msrc mitm mknd mplc mclk mnc mnf mns msd mrl mrow mw mb mway moff) t) (va_A (wM ad cI cL cO mth msc mec msrc mitm mknd mplc mclk mnc mnf mns msd mrl mrow mw mb mway moff) sz)) (XT D vwCl (tysX cI cL cO) (va_A (wM ad cI cL cO mth msc mec msrc mitm mknd mplc mclk mnc mnf mns msd mrl mrow mw mb mway moff) sz) (wM ad cI cL cO mth msc mec msrc mitm mknd mplc mclk mnc mnf mns msd mrl mrow mw mb mway moff) (fun _ => False)) rm_M_plus.cells rm_M_plus.slots (va_A (wM ad cI cL cO mth msc mec msrc mitm mknd mplc mclk mnc mnf mns msd mrl mrow mw mb mway moff) sz) := by
  refine x_met [.long a0, .long a2] TBL_good (by decide) (Nat.le_of_ble_eq_true rfl) ?_
  intro p e s m args below meth c hC hr hlk hnm hnh
  have hret : ∀ (ce sl : Nat), ce ≤ rm_M_plus.cells → sl ≤ rm_M_plus.slots → ∀ (r : Int64) (u : Unit), Qr r u → ∀ (pc : Nat) (lv : List (Nat × Value)), decode bM_plus pc = .ok (.lreturn, 1) → XW p l e rm_M_plus s m args below meth c D vwCl (va_A (wM ad cI cL cO mth msc mec msrc mitm mknd mplc mclk mnc mnf mns msd mrl mrow mw mb mway moff) sz) 4 (vx_MQ below (va_Ql Qr (fun u t => XB D vwCl (tysX cI cL cO) (va_A (wM ad cI cL cO mth msc mec msrc mitm mknd mplc mclk mnc mnf mns msd mrl mrow mw mb mway moff) sz) (wM ad cI cL cO mth msc mec msrc mitm mknd mplc mclk mnc mnf mns msd mrl mrow mw mb mway moff) t) (va_A (wM ad cI cL cO mth msc mec msrc mitm mknd mplc mclk mnc mnf mns msd mrl mrow mw mb mway moff) sz)) (XT D vwCl (tysX cI cL cO) (va_A (wM ad cI cL cO mth msc mec msrc mitm mknd mplc mclk mnc mnf mns msd mrl mrow mw mb mway moff) sz) (wM ad cI cL cO mth msc mec msrc mitm mknd mplc mclk mnc mnf mns msd mrl mrow mw mb mway moff) (fun _ => False)) args s rm_M_plus.cells rm_M_plus.slots (va_A (wM ad cI cL cO mth msc mec msrc mitm mknd mplc mclk mnc mnf mns msd mrl mrow mw mb mway moff) sz)) ce sl (wM ad cI cL cO mth msc mec msrc mitm mknd mplc mclk mnc mnf mns msd mrl mrow mw mb mway moff) pc lv [.long r] := fun ce sl h1 h2 r u hq pc lv hd => x_lret (wf := fun u => (wM ad cI cL cO mth msc mec msrc mitm mknd mplc mclk mnc mnf mns msd mrl mrow mw mb mway moff)) hC h1 h2 hr hlk hd hq rfl
  show XW p l e rm_M_plus s m args below meth c D vwCl (va_A (wM ad cI cL cO mth msc mec msrc mitm mknd mplc mclk mnc mnf mns msd mrl mrow mw mb mway moff) sz) 4 _ 0 0 (wM ad cI cL cO mth msc mec msrc mitm mknd mplc mclk mnc mnf mns msd mrl mrow mw mb mway moff) 0 [(0, .long a0), (2, .long a2)] []
  unfold M_plus_wp at h
  refine x_lload_n hC dM_plus_0 rfl 0 rfl ?_
  refine x_ldc2 (v := 9223372036854775807) hC k_m44 dM_plus_1 ?_
  refine x_lcmp_eq (tgt := 16) hC dM_plus_4 dM_plus_5 (by decide) (fun c_1 => ?_) (fun c_1 => ?_)
  · have h := h.1 c_1
    refine x_ldc2 (v := 9223372036854775807) hC k_m44 dM_plus_16 ?_
    refine x_goto (tgt := 25) hC dM_plus_19 (by decide) ?_
    exact hret _ _ (by decide) (by decide) 9223372036854775807 () h _ _ dM_plus_25
  · have h := h.2 c_1
    refine x_lload_n hC dM_plus_8 rfl 1 rfl ?_
    refine x_ldc2 (v := 9223372036854775807) hC k_m44 dM_plus_9 ?_
    refine x_lcmp_ne (tgt := 22) hC dM_plus_12 dM_plus_13 (by decide) (fun c_2 => ?_) (fun c_2 => ?_)
    · have h := h.1 c_2
      refine x_lload_n hC dM_plus_22 rfl 0 rfl ?_
      refine x_lload_n hC dM_plus_23 rfl 1 rfl ?_
      refine x_ladd hC dM_plus_24 ?_
      exact hret _ _ (by decide) (by decide) (a0 + a2) () h _ _ dM_plus_25
    · have h := h.2 c_2
      refine x_ldc2 (v := 9223372036854775807) hC k_m44 dM_plus_16 ?_
      refine x_goto (tgt := 25) hC dM_plus_19 (by decide) ?_
      exact hret _ _ (by decide) (by decide) 9223372036854775807 () h _ _ dM_plus_25

/-! EventOrderModel.step(I)V -/
abbrev rm_M_step : Room := { frames := 1, cells := 0, slots := 0, locals := 23 }
def M_step_L24 (v1 : Int32) (v2 : Int32) (v3 : Int32) (mw : (Nat → Int64)) (mway : (Nat → Int64)) (Qx : Int64 → Prop) : Nat → Int64 → Int32 → Prop
  | 0, _, _ => False
  | n + 1, v4, v6 => ((16 ≤ v6 → Qx v4) ∧ (¬ 16 ≤ v6 → vp_in ((16 * v2) + v6) 256 ∧ vp_in (((256 * (v1 - 1)) + (16 * v6)) + v3) 4352 ∧ M_plus_wp (mw ((16 * v2) + v6).toNatClampNeg) (mway (((256 * (v1 - 1)) + (16 * v6)) + v3).toNatClampNeg) (fun (r_6 : Int64) (u_7 : Unit) => ((v4 ≤ r_6 → M_step_L24 v1 v2 v3 mw mway Qx n v4 (v6 + 1)) ∧ (¬ v4 ≤ r_6 → M_step_L24 v1 v2 v3 mw mway Qx n r_6 (v6 + 1))))))

def M_step_L10 (v1 : Int32) (v2 : Int32) (mw : (Nat → Int64)) (Qx : (Nat → Int64) → Prop) : Nat → Int32 → (Nat → Int64) → Prop
  | 0, _, _ => False
  | n + 1, v3, mway => ((16 ≤ v3 → Qx mway) ∧ (¬ 16 ≤ v3 → (∃ n_11 : Nat, M_step_L24 v1 v2 v3 mw mway (fun (v4_9 : Int64) => vp_in (((256 * v1) + (16 * v2)) + v3) 4352 ∧ M_step_L10 v1 v2 mw Qx n (v3 + 1) (vp_updL mway (((256 * v1) + (16 * v2)) + v3).toNatClampNeg v4_9)) n_11 9223372036854775807 0)))

def M_step_L2 (v1 : Int32) (mw : (Nat → Int64)) (Qx : (Nat → Int64) → Prop) : Nat → Int32 → (Nat → Int64) → Prop
  | 0, _, _ => False
  | n + 1, v2, mway => ((16 ≤ v2 → Qx mway) ∧ (¬ 16 ≤ v2 → (∃ n_13 : Nat, M_step_L10 v1 v2 mw (fun (mway_12 : (Nat → Int64)) => M_step_L2 v1 mw Qx n (v2 + 1) mway_12) n_13 0 mway)))

def M_step_wp (mw : (Nat → Int64)) (mway : (Nat → Int64)) (a1 : Int32) (Qr : (Nat → Int64) → Prop) : Prop := (∃ n_15 : Nat, M_step_L2 a1 mw (fun (mway_14 : (Nat → Int64)) => Qr mway_14) n_15 0 mway)
set_option maxHeartbeats 4000000 in
set_option maxRecDepth 100000 in
theorem M_step_L24_ok {p : Program} {l : Launch} {e : Env} {s : State} {m : MethodId} {args : Array Value} {below : List Frame} {meth : Method} {c : Code} {Q : State → Prop} {D : va_G} {A : Nat → Prop} {ad : Nat → Nat} {cI cL cO : ClassId} {mth : Int32} {msc : Int32} {mec : Int32} {msrc : (Nat → Int32)} {mitm : (Nat → Int32)} {mknd : (Nat → Int32)} {mplc : (Nat → Int32)} {mclk : (Nat → Int64)} {mnc : Int32} {mnf : (Nat → Int32)} {mns : (Nat → Int32)} {msd : Int32} {mrl : Int32} {mrow : (Nat → Int32)} {mw : (Nat → Int64)} {mb : (Nat → Int64)} {mway : (Nat → Int64)} {moff : (Nat → Int64)} {v1 : Int32} {v2 : Int32} {v3 : Int32} {Qx : Int64 → Prop} (hC : XC p s m args c D vwCl (tysX cI cL cO) A 9 bM_step TBL RM)  (hexit : ∀ (v4 : Int64), Qx v4 → XW p l e rm_M_step s m args below meth c D vwCl A 9 Q 0 0 (wM ad cI cL cO mth msc mec msrc mitm mknd mplc mclk mnc mnf mns msd mrl mrow mw mb mway moff) 91 [(0, .ref (ad 0)), (1, .int v1), (2, .int v2), (3, .int v3), (4, .long v4)] []) : ∀ (n : Nat) (v4 : Int64) (v6 : Int32), M_step_L24 v1 v2 v3 mw mway Qx n v4 v6 → XW p l e rm_M_step s m args below meth c D vwCl A 9 Q 0 0 (wM ad cI cL cO mth msc mec msrc mitm mknd mplc mclk mnc mnf mns msd mrl mrow mw mb mway moff) 24 [(0, .ref (ad 0)), (1, .int v1), (2, .int v2), (3, .int v3), (4, .long v4), (6, .int v6)] [] := by
  intro n
  induction n with
  | zero => intro v4 v6 h; exact False.elim h
  | succ n ih =>
    intro v4 v6 h
    unfold M_step_L24 at h
    refine x_iload hC dM_step_24 5 rfl ?_
    refine x_bipush (v := 16) hC dM_step_26 (by decide) ?_
    refine x_icmp_ge (tgt := 91) hC dM_step_28 (by decide) (fun c_3 => ?_) (fun c_3 => ?_)
    · have h := h.1 c_3
      refine x_lv [0, 1, 2, 3, 4] rfl ?_
      exact hexit v4 h
    · have h := h.2 c_3
      refine x_aload_n hC dM_step_31 rfl 0 rfl ?_
      refine x_get hC iM 0 wM_0 rfl 14 (by decide) k_m43 rfl rfl dM_step_32 ?_
      refine x_bipush (v := 16) hC dM_step_35 (by decide) ?_
      refine x_iload_n hC dM_step_37 rfl 2 rfl ?_
      refine x_imul hC dM_step_38 ?_
      refine x_iload hC dM_step_39 5 rfl ?_
      refine x_iadd hC dM_step_41 ?_
      obtain ⟨hb_4, h⟩ := h
      refine x_lald hC 9 1 wM_9 rfl hb_4 dM_step_42 ?_
      refine x_aload_n hC dM_step_43 rfl 0 rfl ?_
      refine x_get hC iM 0 wM_0 rfl 16 (by decide) k_m45 rfl rfl dM_step_44 ?_
      refine x_sipush (v := 256) hC dM_step_47 (by decide) ?_
      refine x_iload_n hC dM_step_50 rfl 1 rfl ?_
      refine x_iconst (v := 1) hC dM_step_51 (by decide) ?_
      refine x_isub hC dM_step_52 ?_
      refine x_imul hC dM_step_53 ?_
      refine x_bipush (v := 16) hC dM_step_54 (by decide) ?_
      refine x_iload hC dM_step_56 5 rfl ?_
      refine x_imul hC dM_step_58 ?_
      refine x_iadd hC dM_step_59 ?_
      refine x_iload_n hC dM_step_60 rfl 3 rfl ?_
      refine x_iadd hC dM_step_61 ?_
      obtain ⟨hb_5, h⟩ := h
      refine x_lald hC 11 1 wM_11 rfl hb_5 dM_step_62 ?_
      refine x_callSl (S := Unit) (wf := fun u => (wM ad cI cL cO mth msc mec msrc mitm mknd mplc mclk mnc mnf mns msd mrl mrow mw mb mway moff)) hC [.long (mw ((16 * v2) + v6).toNatClampNeg), .long (mway (((256 * (v1 - 1)) + (16 * v6)) + v3).toNatClampNeg)] (fun sz => c_M_plus h sz) (by decide) (by decide) k_m46 k_m47 k_m48 (by decide) 2 rfl (by decide +kernel) ⟨by decide, by decide⟩ (Nat.le_of_ble_eq_true rfl) k_m49 rfl dM_step_63 (fun _ h9 => h9) (fun r_6 u_7 h => ?_)
      refine x_lstore (lv' := [(7, .long r_6), (0, .ref (ad 0)), (1, .int v1), (2, .int v2), (3, .int v3), (4, .long v4), (6, .int v6)]) hC dM_step_66 (by decide) rfl ?_
      refine x_lload hC dM_step_68 0 rfl ?_
      refine x_lload hC dM_step_70 5 rfl ?_
      refine x_lcmp_ge (tgt := 81) hC dM_step_72 dM_step_73 (by decide) (fun c_8 => ?_) (fun c_8 => ?_)
      · have h := h.1 c_8
        refine x_lload hC dM_step_81 5 rfl ?_
        refine x_lstore (lv' := [(4, .long v4), (7, .long r_6), (0, .ref (ad 0)), (1, .int v1), (2, .int v2), (3, .int v3), (6, .int v6)]) hC dM_step_83 (by decide) rfl ?_
        refine x_iinc (v := v6 + 1) (lv' := [(6, .int (v6 + 1)), (4, .long v4), (7, .long r_6), (0, .ref (ad 0)), (1, .int v1), (2, .int v2), (3, .int v3)]) hC dM_step_85 6 rfl rfl (by decide) rfl ?_
        refine x_goto (tgt := 24) hC dM_step_88 (by decide) ?_
        refine x_lv [3, 4, 5, 6, 1, 0] rfl ?_
        exact ih v4 (v6 + 1) h
      · have h := h.2 c_8
        refine x_lload hC dM_step_76 0 rfl ?_
        refine x_goto (tgt := 83) hC dM_step_78 (by decide) ?_
        refine x_lstore (lv' := [(4, .long r_6), (7, .long r_6), (0, .ref (ad 0)), (1, .int v1), (2, .int v2), (3, .int v3), (6, .int v6)]) hC dM_step_83 (by decide) rfl ?_
        refine x_iinc (v := v6 + 1) (lv' := [(6, .int (v6 + 1)), (4, .long r_6), (7, .long r_6), (0, .ref (ad 0)), (1, .int v1), (2, .int v2), (3, .int v3)]) hC dM_step_85 6 rfl rfl (by decide) rfl ?_
        refine x_goto (tgt := 24) hC dM_step_88 (by decide) ?_
        refine x_lv [3, 4, 5, 6, 1, 0] rfl ?_
        exact ih r_6 (v6 + 1) h

set_option maxHeartbeats 4000000 in
set_option maxRecDepth 100000 in
theorem M_step_L10_ok {p : Program} {l : Launch} {e : Env} {s : State} {m : MethodId} {args : Array Value} {below : List Frame} {meth : Method} {c : Code} {Q : State → Prop} {D : va_G} {A : Nat → Prop} {ad : Nat → Nat} {cI cL cO : ClassId} {mth : Int32} {msc : Int32} {mec : Int32} {msrc : (Nat → Int32)} {mitm : (Nat → Int32)} {mknd : (Nat → Int32)} {mplc : (Nat → Int32)} {mclk : (Nat → Int64)} {mnc : Int32} {mnf : (Nat → Int32)} {mns : (Nat → Int32)} {msd : Int32} {mrl : Int32} {mrow : (Nat → Int32)} {mw : (Nat → Int64)} {mb : (Nat → Int64)} {moff : (Nat → Int64)} {v1 : Int32} {v2 : Int32} {Qx : (Nat → Int64) → Prop} (hC : XC p s m args c D vwCl (tysX cI cL cO) A 9 bM_step TBL RM)  (hexit : ∀ (mway : (Nat → Int64)), Qx mway → XW p l e rm_M_step s m args below meth c D vwCl A 9 Q 0 0 (wM ad cI cL cO mth msc mec msrc mitm mknd mplc mclk mnc mnf mns msd mrl mrow mw mb mway moff) 116 [(0, .ref (ad 0)), (1, .int v1), (2, .int v2)] []) : ∀ (n : Nat) (v3 : Int32) (mway : (Nat → Int64)), M_step_L10 v1 v2 mw Qx n v3 mway → XW p l e rm_M_step s m args below meth c D vwCl A 9 Q 0 0 (wM ad cI cL cO mth msc mec msrc mitm mknd mplc mclk mnc mnf mns msd mrl mrow mw mb mway moff) 10 [(0, .ref (ad 0)), (1, .int v1), (2, .int v2), (3, .int v3)] [] := by
  intro n
  induction n with
  | zero => intro v3 mway h; exact False.elim h
  | succ n ih =>
    intro v3 mway h
    unfold M_step_L10 at h
    refine x_iload_n hC dM_step_10 rfl 3 rfl ?_
    refine x_bipush (v := 16) hC dM_step_11 (by decide) ?_
    refine x_icmp_ge (tgt := 116) hC dM_step_13 (by decide) (fun c_2 => ?_) (fun c_2 => ?_)
    · have h := h.1 c_2
      refine x_lv [0, 1, 2] rfl ?_
      exact hexit mway h
    · have h := h.2 c_2
      refine x_ldc2 (v := 9223372036854775807) hC k_m44 dM_step_16 ?_
      refine x_lstore (lv' := [(4, .long 9223372036854775807), (0, .ref (ad 0)), (1, .int v1), (2, .int v2), (3, .int v3)]) hC dM_step_19 (by decide) rfl ?_
      refine x_iconst (v := 0) hC dM_step_21 (by decide) ?_
      refine x_istore (lv' := [(6, .int 0), (4, .long 9223372036854775807), (0, .ref (ad 0)), (1, .int v1), (2, .int v2), (3, .int v3)]) hC dM_step_22 (by decide) rfl ?_
      obtain ⟨n_11, h⟩ := h
      refine x_lv [2, 3, 4, 5, 1, 0] rfl ?_
      refine M_step_L24_ok hC (fun v4_9 h => ?_) n_11 9223372036854775807 0 h
      refine x_aload_n hC dM_step_91 rfl 0 rfl ?_
      refine x_get hC iM 0 wM_0 rfl 16 (by decide) k_m45 rfl rfl dM_step_92 ?_
      refine x_sipush (v := 256) hC dM_step_95 (by decide) ?_
      refine x_iload_n hC dM_step_98 rfl 1 rfl ?_
      refine x_imul hC dM_step_99 ?_
      refine x_bipush (v := 16) hC dM_step_100 (by decide) ?_
      refine x_iload_n hC dM_step_102 rfl 2 rfl ?_
      refine x_imul hC dM_step_103 ?_
      refine x_iadd hC dM_step_104 ?_
      refine x_iload_n hC dM_step_105 rfl 3 rfl ?_
      refine x_iadd hC dM_step_106 ?_
      refine x_lload hC dM_step_107 4 rfl ?_
      obtain ⟨hb_10, h⟩ := h
      refine x_last (ws' := (wM ad cI cL cO mth msc mec msrc mitm mknd mplc mclk mnc mnf mns msd mrl mrow mw mb (vp_updL mway (((256 * v1) + (16 * v2)) + v3).toNatClampNeg v4_9) moff)) hC 11 1 wM_11 rfl hb_10 wM_11_set dM_step_109 ?_
      refine x_iinc (v := v3 + 1) (lv' := [(3, .int (v3 + 1)), (0, .ref (ad 0)), (1, .int v1), (2, .int v2), (4, .long v4_9)]) hC dM_step_110 3 rfl rfl (by decide) rfl ?_
      refine x_goto (tgt := 10) hC dM_step_113 (by decide) ?_
      refine x_lv [1, 2, 3, 0] rfl ?_
      exact ih (v3 + 1) (vp_updL mway (((256 * v1) + (16 * v2)) + v3).toNatClampNeg v4_9) h

set_option maxHeartbeats 4000000 in
set_option maxRecDepth 100000 in
theorem M_step_L2_ok {p : Program} {l : Launch} {e : Env} {s : State} {m : MethodId} {args : Array Value} {below : List Frame} {meth : Method} {c : Code} {Q : State → Prop} {D : va_G} {A : Nat → Prop} {ad : Nat → Nat} {cI cL cO : ClassId} {mth : Int32} {msc : Int32} {mec : Int32} {msrc : (Nat → Int32)} {mitm : (Nat → Int32)} {mknd : (Nat → Int32)} {mplc : (Nat → Int32)} {mclk : (Nat → Int64)} {mnc : Int32} {mnf : (Nat → Int32)} {mns : (Nat → Int32)} {msd : Int32} {mrl : Int32} {mrow : (Nat → Int32)} {mw : (Nat → Int64)} {mb : (Nat → Int64)} {moff : (Nat → Int64)} {v1 : Int32} {Qx : (Nat → Int64) → Prop} (hC : XC p s m args c D vwCl (tysX cI cL cO) A 9 bM_step TBL RM)  (hexit : ∀ (mway : (Nat → Int64)), Qx mway → XW p l e rm_M_step s m args below meth c D vwCl A 9 Q 0 0 (wM ad cI cL cO mth msc mec msrc mitm mknd mplc mclk mnc mnf mns msd mrl mrow mw mb mway moff) 122 [] []) : ∀ (n : Nat) (v2 : Int32) (mway : (Nat → Int64)), M_step_L2 v1 mw Qx n v2 mway → XW p l e rm_M_step s m args below meth c D vwCl A 9 Q 0 0 (wM ad cI cL cO mth msc mec msrc mitm mknd mplc mclk mnc mnf mns msd mrl mrow mw mb mway moff) 2 [(0, .ref (ad 0)), (1, .int v1), (2, .int v2)] [] := by
  intro n
  induction n with
  | zero => intro v2 mway h; exact False.elim h
  | succ n ih =>
    intro v2 mway h
    unfold M_step_L2 at h
    refine x_iload_n hC dM_step_2 rfl 2 rfl ?_
    refine x_bipush (v := 16) hC dM_step_3 (by decide) ?_
    refine x_icmp_ge (tgt := 122) hC dM_step_5 (by decide) (fun c_1 => ?_) (fun c_1 => ?_)
    · have h := h.1 c_1
      refine x_lv [] rfl ?_
      exact hexit mway h
    · have h := h.2 c_1
      refine x_iconst (v := 0) hC dM_step_8 (by decide) ?_
      refine x_istore_n (lv' := [(3, .int 0), (0, .ref (ad 0)), (1, .int v1), (2, .int v2)]) hC dM_step_9 rfl (by decide) rfl ?_
      obtain ⟨n_13, h⟩ := h
      refine x_lv [1, 2, 3, 0] rfl ?_
      refine M_step_L10_ok hC (fun mway_12 h => ?_) n_13 0 mway h
      refine x_iinc (v := v2 + 1) (lv' := [(2, .int (v2 + 1)), (0, .ref (ad 0)), (1, .int v1)]) hC dM_step_116 2 rfl rfl (by decide) rfl ?_
      refine x_goto (tgt := 2) hC dM_step_119 (by decide) ?_
      refine x_lv [1, 2, 0] rfl ?_
      exact ih (v2 + 1) mway_12 h

set_option maxHeartbeats 4000000 in
set_option maxRecDepth 100000 in
theorem c_M_step {l : Launch} {D : va_G} {ad : Nat → Nat} {cI cL cO : ClassId} {mth : Int32} {msc : Int32} {mec : Int32} {msrc : (Nat → Int32)} {mitm : (Nat → Int32)} {mknd : (Nat → Int32)} {mplc : (Nat → Int32)} {mclk : (Nat → Int64)} {mnc : Int32} {mnf : (Nat → Int32)} {mns : (Nat → Int32)} {msd : Int32} {mrl : Int32} {mrow : (Nat → Int32)} {mw : (Nat → Int64)} {mb : (Nat → Int64)} {mway : (Nat → Int64)} {moff : (Nat → Int64)} {a1 : Int32} {Qr : (Nat → Int64) → Prop} (h : M_step_wp mw mway a1 Qr) (sz : Nat) : vx_Met l yM_step (Cond.code yM_step bM_step 9 none :: TBL) rm_M_step (va_Pc [.ref (ad 0), .int a1] (XP D vwCl (tysX cI cL cO) (wM ad cI cL cO mth msc mec msrc mitm mknd mplc mclk mnc mnf mns msd mrl mrow mw mb mway moff) sz)) (va_Qv Qr (fun u t => XB D vwCl (tysX cI cL cO) (va_A (wM ad cI cL cO mth msc mec msrc mitm mknd mplc mclk mnc mnf mns msd mrl mrow mw mb mway moff) sz) (wM ad cI cL cO mth msc mec msrc mitm mknd mplc mclk mnc mnf mns msd mrl mrow mw mb u moff) t) (va_A (wM ad cI cL cO mth msc mec msrc mitm mknd mplc mclk mnc mnf mns msd mrl mrow mw mb mway moff) sz)) (XT D vwCl (tysX cI cL cO) (va_A (wM ad cI cL cO mth msc mec msrc mitm mknd mplc mclk mnc mnf mns msd mrl mrow mw mb mway moff) sz) (wM ad cI cL cO mth msc mec msrc mitm mknd mplc mclk mnc mnf mns msd mrl mrow mw mb mway moff) (fun _ => False)) rm_M_step.cells rm_M_step.slots (va_A (wM ad cI cL cO mth msc mec msrc mitm mknd mplc mclk mnc mnf mns msd mrl mrow mw mb mway moff) sz) := by
  refine x_met [.ref (ad 0), .int a1] TBL_good (by decide) (Nat.le_of_ble_eq_true rfl) ?_
  intro p e s m args below meth c hC hr hlk hnm hnh
  have hret : ∀ (ce sl : Nat), ce ≤ rm_M_step.cells → sl ≤ rm_M_step.slots → ∀ (u : (Nat → Int64)), Qr u → ∀ (pc : Nat) (lv : List (Nat × Value)), decode bM_step pc = .ok (.return_, 1) → XW p l e rm_M_step s m args below meth c D vwCl (va_A (wM ad cI cL cO mth msc mec msrc mitm mknd mplc mclk mnc mnf mns msd mrl mrow mw mb mway moff) sz) 9 (vx_MQ below (va_Qv Qr (fun u t => XB D vwCl (tysX cI cL cO) (va_A (wM ad cI cL cO mth msc mec msrc mitm mknd mplc mclk mnc mnf mns msd mrl mrow mw mb mway moff) sz) (wM ad cI cL cO mth msc mec msrc mitm mknd mplc mclk mnc mnf mns msd mrl mrow mw mb u moff) t) (va_A (wM ad cI cL cO mth msc mec msrc mitm mknd mplc mclk mnc mnf mns msd mrl mrow mw mb mway moff) sz)) (XT D vwCl (tysX cI cL cO) (va_A (wM ad cI cL cO mth msc mec msrc mitm mknd mplc mclk mnc mnf mns msd mrl mrow mw mb mway moff) sz) (wM ad cI cL cO mth msc mec msrc mitm mknd mplc mclk mnc mnf mns msd mrl mrow mw mb mway moff) (fun _ => False)) args s rm_M_step.cells rm_M_step.slots (va_A (wM ad cI cL cO mth msc mec msrc mitm mknd mplc mclk mnc mnf mns msd mrl mrow mw mb mway moff) sz)) ce sl (wM ad cI cL cO mth msc mec msrc mitm mknd mplc mclk mnc mnf mns msd mrl mrow mw mb u moff) pc lv [] := fun ce sl h1 h2 u hq pc lv hd => x_vret (wf := fun u => (wM ad cI cL cO mth msc mec msrc mitm mknd mplc mclk mnc mnf mns msd mrl mrow mw mb u moff)) hC h1 h2 hr hlk hd hq rfl
  show XW p l e rm_M_step s m args below meth c D vwCl (va_A (wM ad cI cL cO mth msc mec msrc mitm mknd mplc mclk mnc mnf mns msd mrl mrow mw mb mway moff) sz) 9 _ 0 0 (wM ad cI cL cO mth msc mec msrc mitm mknd mplc mclk mnc mnf mns msd mrl mrow mw mb mway moff) 0 [(0, .ref (ad 0)), (1, .int a1)] []
  unfold M_step_wp at h
  refine x_iconst (v := 0) hC dM_step_0 (by decide) ?_
  refine x_istore_n (lv' := [(2, .int 0), (0, .ref (ad 0)), (1, .int a1)]) hC dM_step_1 rfl (by decide) rfl ?_
  obtain ⟨n_15, h⟩ := h
  refine x_lv [1, 2, 0] rfl ?_
  refine M_step_L2_ok hC (fun mway_14 h => ?_) n_15 0 mway h
  exact hret _ _ (by decide) (by decide) mway_14 h _ _ dM_step_122

/-! EventOrderModel.isOn(JIIII)Z -/
abbrev rm_M_isOn : Room := { frames := 1, cells := 0, slots := 0, locals := 23 }
def M_isOn_wp (mw : (Nat → Int64)) (mway : (Nat → Int64)) (a1 : Int64) (a3 : Int32) (a4 : Int32) (a5 : Int32) (a6 : Int32) (Qr : Int32 → Unit → Prop) : Prop := vp_in ((16 * a3) + a4) 256 ∧ vp_in (((256 * a5) + (16 * a4)) + a6) 4352 ∧ M_plus_wp (mw ((16 * a3) + a4).toNatClampNeg) (mway (((256 * a5) + (16 * a4)) + a6).toNatClampNeg) (fun (r_3 : Int64) (u_4 : Unit) => ((r_3 = 9223372036854775807 → Qr 0 ()) ∧ (¬ r_3 = 9223372036854775807 → ((0 ≤ (a1 + r_3) → Qr 0 ()) ∧ (¬ 0 ≤ (a1 + r_3) → Qr 1 ())))))
set_option maxHeartbeats 4000000 in
set_option maxRecDepth 100000 in
theorem c_M_isOn {l : Launch} {D : va_G} {ad : Nat → Nat} {cI cL cO : ClassId} {mth : Int32} {msc : Int32} {mec : Int32} {msrc : (Nat → Int32)} {mitm : (Nat → Int32)} {mknd : (Nat → Int32)} {mplc : (Nat → Int32)} {mclk : (Nat → Int64)} {mnc : Int32} {mnf : (Nat → Int32)} {mns : (Nat → Int32)} {msd : Int32} {mrl : Int32} {mrow : (Nat → Int32)} {mw : (Nat → Int64)} {mb : (Nat → Int64)} {mway : (Nat → Int64)} {moff : (Nat → Int64)} {a1 : Int64} {a3 : Int32} {a4 : Int32} {a5 : Int32} {a6 : Int32} {Qr : Int32 → Unit → Prop} (h : M_isOn_wp mw mway a1 a3 a4 a5 a6 Qr) (sz : Nat) : vx_Met l yM_isOn (Cond.code yM_isOn bM_isOn 9 (some .boolean) :: TBL) rm_M_isOn (va_Pc [.ref (ad 0), .long a1, .int a3, .int a4, .int a5, .int a6] (XP D vwCl (tysX cI cL cO) (wM ad cI cL cO mth msc mec msrc mitm mknd mplc mclk mnc mnf mns msd mrl mrow mw mb mway moff) sz)) (va_Qi Qr (fun u t => XB D vwCl (tysX cI cL cO) (va_A (wM ad cI cL cO mth msc mec msrc mitm mknd mplc mclk mnc mnf mns msd mrl mrow mw mb mway moff) sz) (wM ad cI cL cO mth msc mec msrc mitm mknd mplc mclk mnc mnf mns msd mrl mrow mw mb mway moff) t) (va_A (wM ad cI cL cO mth msc mec msrc mitm mknd mplc mclk mnc mnf mns msd mrl mrow mw mb mway moff) sz)) (XT D vwCl (tysX cI cL cO) (va_A (wM ad cI cL cO mth msc mec msrc mitm mknd mplc mclk mnc mnf mns msd mrl mrow mw mb mway moff) sz) (wM ad cI cL cO mth msc mec msrc mitm mknd mplc mclk mnc mnf mns msd mrl mrow mw mb mway moff) (fun _ => False)) rm_M_isOn.cells rm_M_isOn.slots (va_A (wM ad cI cL cO mth msc mec msrc mitm mknd mplc mclk mnc mnf mns msd mrl mrow mw mb mway moff) sz) := by
  refine x_met [.ref (ad 0), .long a1, .int a3, .int a4, .int a5, .int a6] TBL_good (by decide) (Nat.le_of_ble_eq_true rfl) ?_
  intro p e s m args below meth c hC hr hlk hnm hnh
  have hret : ∀ (ce sl : Nat), ce ≤ rm_M_isOn.cells → sl ≤ rm_M_isOn.slots → ∀ (r : Int32) (u : Unit), x_bool r → Qr r u → ∀ (pc : Nat) (lv : List (Nat × Value)), decode bM_isOn pc = .ok (.ireturn, 1) → XW p l e rm_M_isOn s m args below meth c D vwCl (va_A (wM ad cI cL cO mth msc mec msrc mitm mknd mplc mclk mnc mnf mns msd mrl mrow mw mb mway moff) sz) 9 (vx_MQ below (va_Qi Qr (fun u t => XB D vwCl (tysX cI cL cO) (va_A (wM ad cI cL cO mth msc mec msrc mitm mknd mplc mclk mnc mnf mns msd mrl mrow mw mb mway moff) sz) (wM ad cI cL cO mth msc mec msrc mitm mknd mplc mclk mnc mnf mns msd mrl mrow mw mb mway moff) t) (va_A (wM ad cI cL cO mth msc mec msrc mitm mknd mplc mclk mnc mnf mns msd mrl mrow mw mb mway moff) sz)) (XT D vwCl (tysX cI cL cO) (va_A (wM ad cI cL cO mth msc mec msrc mitm mknd mplc mclk mnc mnf mns msd mrl mrow mw mb mway moff) sz) (wM ad cI cL cO mth msc mec msrc mitm mknd mplc mclk mnc mnf mns msd mrl mrow mw mb mway moff) (fun _ => False)) args s rm_M_isOn.cells rm_M_isOn.slots (va_A (wM ad cI cL cO mth msc mec msrc mitm mknd mplc mclk mnc mnf mns msd mrl mrow mw mb mway moff) sz)) ce sl (wM ad cI cL cO mth msc mec msrc mitm mknd mplc mclk mnc mnf mns msd mrl mrow mw mb mway moff) pc lv [.int r] := fun ce sl h1 h2 r u hb9 hq pc lv hd => x_zret (wf := fun u => (wM ad cI cL cO mth msc mec msrc mitm mknd mplc mclk mnc mnf mns msd mrl mrow mw mb mway moff)) hC h1 h2 hr hlk hb9 hd hq rfl
  show XW p l e rm_M_isOn s m args below meth c D vwCl (va_A (wM ad cI cL cO mth msc mec msrc mitm mknd mplc mclk mnc mnf mns msd mrl mrow mw mb mway moff) sz) 9 _ 0 0 (wM ad cI cL cO mth msc mec msrc mitm mknd mplc mclk mnc mnf mns msd mrl mrow mw mb mway moff) 0 [(0, .ref (ad 0)), (1, .long a1), (3, .int a3), (4, .int a4), (5, .int a5), (6, .int a6)] []
  unfold M_isOn_wp at h
  refine x_aload_n hC dM_isOn_0 rfl 0 rfl ?_
  refine x_get hC iM 0 wM_0 rfl 14 (by decide) k_m43 rfl rfl dM_isOn_1 ?_
  refine x_bipush (v := 16) hC dM_isOn_4 (by decide) ?_
  refine x_iload_n hC dM_isOn_6 rfl 2 rfl ?_
  refine x_imul hC dM_isOn_7 ?_
  refine x_iload hC dM_isOn_8 3 rfl ?_
  refine x_iadd hC dM_isOn_10 ?_
  obtain ⟨hb_1, h⟩ := h
  refine x_lald hC 9 1 wM_9 rfl hb_1 dM_isOn_11 ?_
  refine x_aload_n hC dM_isOn_12 rfl 0 rfl ?_
  refine x_get hC iM 0 wM_0 rfl 16 (by decide) k_m45 rfl rfl dM_isOn_13 ?_
  refine x_sipush (v := 256) hC dM_isOn_16 (by decide) ?_
  refine x_iload hC dM_isOn_19 4 rfl ?_
  refine x_imul hC dM_isOn_21 ?_
  refine x_bipush (v := 16) hC dM_isOn_22 (by decide) ?_
  refine x_iload hC dM_isOn_24 3 rfl ?_
  refine x_imul hC dM_isOn_26 ?_
  refine x_iadd hC dM_isOn_27 ?_
  refine x_iload hC dM_isOn_28 5 rfl ?_
  refine x_iadd hC dM_isOn_30 ?_
  obtain ⟨hb_2, h⟩ := h
  refine x_lald hC 11 1 wM_11 rfl hb_2 dM_isOn_31 ?_
  refine x_callSl (S := Unit) (wf := fun u => (wM ad cI cL cO mth msc mec msrc mitm mknd mplc mclk mnc mnf mns msd mrl mrow mw mb mway moff)) hC [.long (mw ((16 * a3) + a4).toNatClampNeg), .long (mway (((256 * a5) + (16 * a4)) + a6).toNatClampNeg)] (fun sz => c_M_plus h sz) (by decide) (by decide) k_m46 k_m47 k_m48 (by decide) 2 rfl (by decide +kernel) ⟨by decide, by decide⟩ (Nat.le_of_ble_eq_true rfl) k_m49 rfl dM_isOn_32 (fun _ h9 => h9) (fun r_3 u_4 h => ?_)
  refine x_lstore (lv' := [(7, .long r_3), (0, .ref (ad 0)), (1, .long a1), (3, .int a3), (4, .int a4), (5, .int a5), (6, .int a6)]) hC dM_isOn_35 (by decide) rfl ?_
  refine x_lload hC dM_isOn_37 0 rfl ?_
  refine x_ldc2 (v := 9223372036854775807) hC k_m44 dM_isOn_39 ?_
  refine x_lcmp_eq (tgt := 59) hC dM_isOn_42 dM_isOn_43 (by decide) (fun c_5 => ?_) (fun c_5 => ?_)
  · have h := h.1 c_5
    refine x_iconst (v := 0) hC dM_isOn_59 (by decide) ?_
    exact hret _ _ (by decide) (by decide) 0 () (Or.inl rfl) h _ _ dM_isOn_60
  · have h := h.2 c_5
    refine x_lload_n hC dM_isOn_46 rfl 2 rfl ?_
    refine x_lload hC dM_isOn_47 0 rfl ?_
    refine x_ladd hC dM_isOn_49 ?_
    refine x_lconst (v := 0) hC dM_isOn_50 (by decide) ?_
    refine x_lcmp_ge (tgt := 59) hC dM_isOn_51 dM_isOn_52 (by decide) (fun c_6 => ?_) (fun c_6 => ?_)
    · have h := h.1 c_6
      refine x_iconst (v := 0) hC dM_isOn_59 (by decide) ?_
      exact hret _ _ (by decide) (by decide) 0 () (Or.inl rfl) h _ _ dM_isOn_60
    · have h := h.2 c_6
      refine x_iconst (v := 1) hC dM_isOn_55 (by decide) ?_
      refine x_goto (tgt := 60) hC dM_isOn_56 (by decide) ?_
      exact hret _ _ (by decide) (by decide) 1 () (Or.inr rfl) h _ _ dM_isOn_60

/-! EventOrderModel.tellRing(II)V -/
abbrev rm_M_tellRing : Room := { frames := 2, cells := 0, slots := 0, locals := 51 }
def M_tellRing_L26 (v1 : Int32) (v2 : Int32) (v3 : Int64) (v5 : Int32) (mrow : (Nat → Int32)) (mw : (Nat → Int64)) (mway : (Nat → Int64)) (Qx : Int32 → Prop) : Nat → Int32 → Prop
  | 0, _ => False
  | n + 1, v6 => vp_in (v5 - 1) 16 ∧ M_isOn_wp mw mway v3 (mrow (v5 - 1).toNatClampNeg) v6 (v1 - v5) v2 (fun (r_4 : Int32) (u_5 : Unit) => ((¬ r_4 = 0 → Qx v6) ∧ (r_4 = 0 → M_tellRing_L26 v1 v2 v3 v5 mrow mw mway Qx n (v6 + 1))))

def M_tellRing_L17 (v1 : Int32) (v2 : Int32) (mw : (Nat → Int64)) (mway : (Nat → Int64)) (Qx : (Nat → Int32) → Prop) : Nat → Int64 → Int32 → (Nat → Int32) → Prop
  | 0, _, _, _ => False
  | n + 1, v3, v5, mrow => ((v1 ≤ v5 → Qx mrow) ∧ (¬ v1 ≤ v5 → (∃ n_11 : Nat, M_tellRing_L26 v1 v2 v3 v5 mrow mw mway (fun (v6_7 : Int32) => vp_in (v5 - 1) 16 ∧ vp_in ((16 * (mrow (v5 - 1).toNatClampNeg)) + v6_7) 256 ∧ vp_in v5 16 ∧ M_tellRing_L17 v1 v2 mw mway Qx n (v3 + (mw ((16 * (mrow (v5 - 1).toNatClampNeg)) + v6_7).toNatClampNeg)) (v5 + 1) (upd mrow v5.toNatClampNeg v6_7)) n_11 0)))

def M_tellRing_wp (mrl : Int32) (mrow : (Nat → Int32)) (mw : (Nat → Int64)) (mway : (Nat → Int64)) (a1 : Int32) (a2 : Int32) (Qr : (Int32 × (Nat → Int32)) → Prop) : Prop := vp_in 0 16 ∧ (∃ n_13 : Nat, M_tellRing_L17 a1 a2 mw mway (fun (mrow_12 : (Nat → Int32)) => Qr (a1, mrow_12)) n_13 0 1 (upd mrow (0 : Int32).toNatClampNeg a2))
set_option maxHeartbeats 4000000 in
set_option maxRecDepth 100000 in
theorem M_tellRing_L26_ok {p : Program} {l : Launch} {e : Env} {s : State} {m : MethodId} {args : Array Value} {below : List Frame} {meth : Method} {c : Code} {Q : State → Prop} {D : va_G} {A : Nat → Prop} {ad : Nat → Nat} {cI cL cO : ClassId} {mth : Int32} {msc : Int32} {mec : Int32} {msrc : (Nat → Int32)} {mitm : (Nat → Int32)} {mknd : (Nat → Int32)} {mplc : (Nat → Int32)} {mclk : (Nat → Int64)} {mnc : Int32} {mnf : (Nat → Int32)} {mns : (Nat → Int32)} {msd : Int32} {mrl : Int32} {mrow : (Nat → Int32)} {mw : (Nat → Int64)} {mb : (Nat → Int64)} {mway : (Nat → Int64)} {moff : (Nat → Int64)} {v1 : Int32} {v2 : Int32} {v3 : Int64} {v5 : Int32} {Qx : Int32 → Prop} (hC : XC p s m args c D vwCl (tysX cI cL cO) A 7 bM_tellRing TBL RM)  (hexit : ∀ (v6 : Int32), Qx v6 → XW p l e rm_M_tellRing s m args below meth c D vwCl A 7 Q 0 0 (wM ad cI cL cO mth msc mec msrc mitm mknd mplc mclk mnc mnf mns msd mrl mrow mw mb mway moff) 56 [(0, .ref (ad 0)), (1, .int v1), (2, .int v2), (3, .long v3), (5, .int v5), (6, .int v6)] []) : ∀ (n : Nat) (v6 : Int32), M_tellRing_L26 v1 v2 v3 v5 mrow mw mway Qx n v6 → XW p l e rm_M_tellRing s m args below meth c D vwCl A 7 Q 0 0 (wM ad cI cL cO mth msc mec msrc mitm mknd mplc mclk mnc mnf mns msd mrl mrow mw mb mway moff) 26 [(0, .ref (ad 0)), (1, .int v1), (2, .int v2), (3, .long v3), (5, .int v5), (6, .int v6)] [] := by
  intro n
  induction n with
  | zero => intro v6 h; exact False.elim h
  | succ n ih =>
    intro v6 h
    unfold M_tellRing_L26 at h
    refine x_aload_n hC dM_tellRing_26 rfl 0 rfl ?_
    refine x_lload_n hC dM_tellRing_27 rfl 3 rfl ?_
    refine x_aload_n hC dM_tellRing_28 rfl 0 rfl ?_
    refine x_get hC iM 0 wM_0 rfl 13 (by decide) k_m41 rfl rfl dM_tellRing_29 ?_
    refine x_iload hC dM_tellRing_32 4 rfl ?_
    refine x_iconst (v := 1) hC dM_tellRing_34 (by decide) ?_
    refine x_isub hC dM_tellRing_35 ?_
    obtain ⟨hb_3, h⟩ := h
    refine x_iald hC 8 0 wM_8 rfl hb_3 dM_tellRing_36 ?_
    refine x_iload hC dM_tellRing_37 5 rfl ?_
    refine x_iload_n hC dM_tellRing_39 rfl 1 rfl ?_
    refine x_iload hC dM_tellRing_40 4 rfl ?_
    refine x_isub hC dM_tellRing_42 ?_
    refine x_iload_n hC dM_tellRing_43 rfl 2 rfl ?_
    refine x_callVi (S := Unit) (wf := fun u => (wM ad cI cL cO mth msc mec msrc mitm mknd mplc mclk mnc mnf mns msd mrl mrow mw mb mway moff)) hC [.long v3, .int (mrow (v5 - 1).toNatClampNeg), .int v6, .int (v1 - v5), .int v2] (fun sz => c_M_isOn h sz) (by decide) (by decide) k_m50 k_m51 k_m52 (by decide) 5 rfl (by decide +kernel) ⟨by decide, by decide⟩ (Nat.le_of_ble_eq_true rfl) k_m53 k_m54 wM_0 rfl rfl dM_tellRing_44 (fun _ h9 => h9) (fun r_4 u_5 h => ?_)
    refine x_if_ne (tgt := 56) hC dM_tellRing_47 (by decide) (fun c_6 => ?_) (fun c_6 => ?_)
    · have h := h.1 c_6
      refine x_lv [0, 1, 2, 3, 4, 5] rfl ?_
      exact hexit v6 h
    · have h := h.2 c_6
      refine x_iinc (v := v6 + 1) (lv' := [(6, .int (v6 + 1)), (0, .ref (ad 0)), (1, .int v1), (2, .int v2), (3, .long v3), (5, .int v5)]) hC dM_tellRing_50 5 rfl rfl (by decide) rfl ?_
      refine x_goto (tgt := 26) hC dM_tellRing_53 (by decide) ?_
      refine x_lv [1, 2, 3, 4, 5, 0] rfl ?_
      exact ih (v6 + 1) h

set_option maxHeartbeats 4000000 in
set_option maxRecDepth 100000 in
theorem M_tellRing_L17_ok {p : Program} {l : Launch} {e : Env} {s : State} {m : MethodId} {args : Array Value} {below : List Frame} {meth : Method} {c : Code} {Q : State → Prop} {D : va_G} {A : Nat → Prop} {ad : Nat → Nat} {cI cL cO : ClassId} {mth : Int32} {msc : Int32} {mec : Int32} {msrc : (Nat → Int32)} {mitm : (Nat → Int32)} {mknd : (Nat → Int32)} {mplc : (Nat → Int32)} {mclk : (Nat → Int64)} {mnc : Int32} {mnf : (Nat → Int32)} {mns : (Nat → Int32)} {msd : Int32} {mrl : Int32} {mw : (Nat → Int64)} {mb : (Nat → Int64)} {mway : (Nat → Int64)} {moff : (Nat → Int64)} {v1 : Int32} {v2 : Int32} {Qx : (Nat → Int32) → Prop} (hC : XC p s m args c D vwCl (tysX cI cL cO) A 7 bM_tellRing TBL RM)  (hexit : ∀ (mrow : (Nat → Int32)), Qx mrow → XW p l e rm_M_tellRing s m args below meth c D vwCl A 7 Q 0 0 (wM ad cI cL cO mth msc mec msrc mitm mknd mplc mclk mnc mnf mns msd mrl mrow mw mb mway moff) 94 [] []) : ∀ (n : Nat) (v3 : Int64) (v5 : Int32) (mrow : (Nat → Int32)), M_tellRing_L17 v1 v2 mw mway Qx n v3 v5 mrow → XW p l e rm_M_tellRing s m args below meth c D vwCl A 7 Q 0 0 (wM ad cI cL cO mth msc mec msrc mitm mknd mplc mclk mnc mnf mns msd mrl mrow mw mb mway moff) 17 [(0, .ref (ad 0)), (1, .int v1), (2, .int v2), (3, .long v3), (5, .int v5)] [] := by
  intro n
  induction n with
  | zero => intro v3 v5 mrow h; exact False.elim h
  | succ n ih =>
    intro v3 v5 mrow h
    unfold M_tellRing_L17 at h
    refine x_iload hC dM_tellRing_17 4 rfl ?_
    refine x_iload_n hC dM_tellRing_19 rfl 1 rfl ?_
    refine x_icmp_ge (tgt := 94) hC dM_tellRing_20 (by decide) (fun c_2 => ?_) (fun c_2 => ?_)
    · have h := h.1 c_2
      refine x_lv [] rfl ?_
      exact hexit mrow h
    · have h := h.2 c_2
      refine x_iconst (v := 0) hC dM_tellRing_23 (by decide) ?_
      refine x_istore (lv' := [(6, .int 0), (0, .ref (ad 0)), (1, .int v1), (2, .int v2), (3, .long v3), (5, .int v5)]) hC dM_tellRing_24 (by decide) rfl ?_
      obtain ⟨n_11, h⟩ := h
      refine x_lv [1, 2, 3, 4, 5, 0] rfl ?_
      refine M_tellRing_L26_ok hC (fun v6_7 h => ?_) n_11 0 h
      refine x_lload_n hC dM_tellRing_56 rfl 3 rfl ?_
      refine x_aload_n hC dM_tellRing_57 rfl 0 rfl ?_
      refine x_get hC iM 0 wM_0 rfl 14 (by decide) k_m43 rfl rfl dM_tellRing_58 ?_
      refine x_bipush (v := 16) hC dM_tellRing_61 (by decide) ?_
      refine x_aload_n hC dM_tellRing_63 rfl 0 rfl ?_
      refine x_get hC iM 0 wM_0 rfl 13 (by decide) k_m41 rfl rfl dM_tellRing_64 ?_
      refine x_iload hC dM_tellRing_67 4 rfl ?_
      refine x_iconst (v := 1) hC dM_tellRing_69 (by decide) ?_
      refine x_isub hC dM_tellRing_70 ?_
      obtain ⟨hb_8, h⟩ := h
      refine x_iald hC 8 0 wM_8 rfl hb_8 dM_tellRing_71 ?_
      refine x_imul hC dM_tellRing_72 ?_
      refine x_iload hC dM_tellRing_73 5 rfl ?_
      refine x_iadd hC dM_tellRing_75 ?_
      obtain ⟨hb_9, h⟩ := h
      refine x_lald hC 9 1 wM_9 rfl hb_9 dM_tellRing_76 ?_
      refine x_ladd hC dM_tellRing_77 ?_
      refine x_lstore_n (lv' := [(3, .long (v3 + (mw ((16 * (mrow (v5 - 1).toNatClampNeg)) + v6_7).toNatClampNeg))), (0, .ref (ad 0)), (1, .int v1), (2, .int v2), (5, .int v5), (6, .int v6_7)]) hC dM_tellRing_78 rfl (by decide) rfl ?_
      refine x_aload_n hC dM_tellRing_79 rfl 1 rfl ?_
      refine x_get hC iM 0 wM_0 rfl 13 (by decide) k_m41 rfl rfl dM_tellRing_80 ?_
      refine x_iload hC dM_tellRing_83 4 rfl ?_
      refine x_iload hC dM_tellRing_85 5 rfl ?_
      obtain ⟨hb_10, h⟩ := h
      refine x_iast (ws' := (wM ad cI cL cO mth msc mec msrc mitm mknd mplc mclk mnc mnf mns msd mrl (upd mrow v5.toNatClampNeg v6_7) mw mb mway moff)) hC 8 0 wM_8 rfl hb_10 wM_8_set dM_tellRing_87 ?_
      refine x_iinc (v := v5 + 1) (lv' := [(5, .int (v5 + 1)), (3, .long (v3 + (mw ((16 * (mrow (v5 - 1).toNatClampNeg)) + v6_7).toNatClampNeg))), (0, .ref (ad 0)), (1, .int v1), (2, .int v2), (6, .int v6_7)]) hC dM_tellRing_88 4 rfl rfl (by decide) rfl ?_
      refine x_goto (tgt := 17) hC dM_tellRing_91 (by decide) ?_
      refine x_lv [2, 3, 4, 1, 0] rfl ?_
      exact ih (v3 + (mw ((16 * (mrow (v5 - 1).toNatClampNeg)) + v6_7).toNatClampNeg)) (v5 + 1) (upd mrow v5.toNatClampNeg v6_7) h

set_option maxHeartbeats 4000000 in
set_option maxRecDepth 100000 in
theorem c_M_tellRing {l : Launch} {D : va_G} {ad : Nat → Nat} {cI cL cO : ClassId} {mth : Int32} {msc : Int32} {mec : Int32} {msrc : (Nat → Int32)} {mitm : (Nat → Int32)} {mknd : (Nat → Int32)} {mplc : (Nat → Int32)} {mclk : (Nat → Int64)} {mnc : Int32} {mnf : (Nat → Int32)} {mns : (Nat → Int32)} {msd : Int32} {mrl : Int32} {mrow : (Nat → Int32)} {mw : (Nat → Int64)} {mb : (Nat → Int64)} {mway : (Nat → Int64)} {moff : (Nat → Int64)} {a1 : Int32} {a2 : Int32} {Qr : (Int32 × (Nat → Int32)) → Prop} (h : M_tellRing_wp mrl mrow mw mway a1 a2 Qr) (sz : Nat) : vx_Met l yM_tellRing (Cond.code yM_tellRing bM_tellRing 7 none :: TBL) rm_M_tellRing (va_Pc [.ref (ad 0), .int a1, .int a2] (XP D vwCl (tysX cI cL cO) (wM ad cI cL cO mth msc mec msrc mitm mknd mplc mclk mnc mnf mns msd mrl mrow mw mb mway moff) sz)) (va_Qv Qr (fun u t => XB D vwCl (tysX cI cL cO) (va_A (wM ad cI cL cO mth msc mec msrc mitm mknd mplc mclk mnc mnf mns msd mrl mrow mw mb mway moff) sz) (wM ad cI cL cO mth msc mec msrc mitm mknd mplc mclk mnc mnf mns msd u.1 u.2 mw mb mway moff) t) (va_A (wM ad cI cL cO mth msc mec msrc mitm mknd mplc mclk mnc mnf mns msd mrl mrow mw mb mway moff) sz)) (XT D vwCl (tysX cI cL cO) (va_A (wM ad cI cL cO mth msc mec msrc mitm mknd mplc mclk mnc mnf mns msd mrl mrow mw mb mway moff) sz) (wM ad cI cL cO mth msc mec msrc mitm mknd mplc mclk mnc mnf mns msd mrl mrow mw mb mway moff) (fun _ => False)) rm_M_tellRing.cells rm_M_tellRing.slots (va_A (wM ad cI cL cO mth msc mec msrc mitm mknd mplc mclk mnc mnf mns msd mrl mrow mw mb mway moff) sz) := by
  refine x_met [.ref (ad 0), .int a1, .int a2] TBL_good (by decide) (Nat.le_of_ble_eq_true rfl) ?_
  intro p e s m args below meth c hC hr hlk hnm hnh
  have hret : ∀ (ce sl : Nat), ce ≤ rm_M_tellRing.cells → sl ≤ rm_M_tellRing.slots → ∀ (u : (Int32 × (Nat → Int32))), Qr u → ∀ (pc : Nat) (lv : List (Nat × Value)), decode bM_tellRing pc = .ok (.return_, 1) → XW p l e rm_M_tellRing s m args below meth c D vwCl (va_A (wM ad cI cL cO mth msc mec msrc mitm mknd mplc mclk mnc mnf mns msd mrl mrow mw mb mway moff) sz) 7 (vx_MQ below (va_Qv Qr (fun u t => XB D vwCl (tysX cI cL cO) (va_A (wM ad cI cL cO mth msc mec msrc mitm mknd mplc mclk mnc mnf mns msd mrl mrow mw mb mway moff) sz) (wM ad cI cL cO mth msc mec msrc mitm mknd mplc mclk mnc mnf mns msd u.1 u.2 mw mb mway moff) t) (va_A (wM ad cI cL cO mth msc mec msrc mitm mknd mplc mclk mnc mnf mns msd mrl mrow mw mb mway moff) sz)) (XT D vwCl (tysX cI cL cO) (va_A (wM ad cI cL cO mth msc mec msrc mitm mknd mplc mclk mnc mnf mns msd mrl mrow mw mb mway moff) sz) (wM ad cI cL cO mth msc mec msrc mitm mknd mplc mclk mnc mnf mns msd mrl mrow mw mb mway moff) (fun _ => False)) args s rm_M_tellRing.cells rm_M_tellRing.slots (va_A (wM ad cI cL cO mth msc mec msrc mitm mknd mplc mclk mnc mnf mns msd mrl mrow mw mb mway moff) sz)) ce sl (wM ad cI cL cO mth msc mec msrc mitm mknd mplc mclk mnc mnf mns msd u.1 u.2 mw mb mway moff) pc lv [] := fun ce sl h1 h2 u hq pc lv hd => x_vret (wf := fun u => (wM ad cI cL cO mth msc mec msrc mitm mknd mplc mclk mnc mnf mns msd u.1 u.2 mw mb mway moff)) hC h1 h2 hr hlk hd hq rfl
  show XW p l e rm_M_tellRing s m args below meth c D vwCl (va_A (wM ad cI cL cO mth msc mec msrc mitm mknd mplc mclk mnc mnf mns msd mrl mrow mw mb mway moff) sz) 7 _ 0 0 (wM ad cI cL cO mth msc mec msrc mitm mknd mplc mclk mnc mnf mns msd mrl mrow mw mb mway moff) 0 [(0, .ref (ad 0)), (1, .int a1), (2, .int a2)] []
  unfold M_tellRing_wp at h
  refine x_aload_n hC dM_tellRing_0 rfl 0 rfl ?_
  refine x_iload_n hC dM_tellRing_1 rfl 1 rfl ?_
  refine x_put (ty := .int) (ws' := (wM ad cI cL cO mth msc mec msrc mitm mknd mplc mclk mnc mnf mns msd a1 mrow mw mb mway moff)) hC iM 0 wM_0 rfl 12 (by decide) k_m40 rfl tM tM_ok nM rfl (by decide +kernel) rfl rfl (Nat.le_of_ble_eq_true rfl) rfl dM_tellRing_2 ?_
  refine x_aload_n hC dM_tellRing_5 rfl 0 rfl ?_
  refine x_get hC iM 0 wM_0 rfl 13 (by decide) k_m41 rfl rfl dM_tellRing_6 ?_
  refine x_iconst (v := 0) hC dM_tellRing_9 (by decide) ?_
  refine x_iload_n hC dM_tellRing_10 rfl 2 rfl ?_
  obtain ⟨hb_1, h⟩ := h
  refine x_iast (ws' := (wM ad cI cL cO mth msc mec msrc mitm mknd mplc mclk mnc mnf mns msd a1 (upd mrow (0 : Int32).toNatClampNeg a2) mw mb mway moff)) hC 8 0 wM_8 rfl hb_1 wM_8_set dM_tellRing_11 ?_
  refine x_lconst (v := 0) hC dM_tellRing_12 (by decide) ?_
  refine x_lstore_n (lv' := [(3, .long 0), (0, .ref (ad 0)), (1, .int a1), (2, .int a2)]) hC dM_tellRing_13 rfl (by decide) rfl ?_
  refine x_iconst (v := 1) hC dM_tellRing_14 (by decide) ?_
  refine x_istore (lv' := [(5, .int 1), (3, .long 0), (0, .ref (ad 0)), (1, .int a1), (2, .int a2)]) hC dM_tellRing_15 (by decide) rfl ?_
  obtain ⟨n_13, h⟩ := h
  refine x_lv [2, 3, 4, 1, 0] rfl ?_
  refine M_tellRing_L17_ok hC (fun mrow_12 h => ?_) n_13 0 1 (upd mrow (0 : Int32).toNatClampNeg a2) h
  exact hret _ _ (by decide) (by decide) (a1, mrow_12) h _ _ dM_tellRing_94

/-! EventOrderModel.bind()V -/
abbrev rm_M_bind : Room := { frames := 1, cells := 0, slots := 0, locals := 23 }
def M_bind_L2 (Qx : (Nat → Int64) → Prop) : Nat → Int32 → (Nat → Int64) → Prop
  | 0, _, _ => False
  | n + 1, v1, mb => ((256 ≤ v1 → Qx mb) ∧ (¬ 256 ≤ v1 → ((¬ (v1 / 16) = (v1 - v1 / 16 * 16) → vp_in v1 256 ∧ M_bind_L2 Qx n (v1 + 1) (vp_updL mb v1.toNatClampNeg 9223372036854775807)) ∧ ((v1 / 16) = (v1 - v1 / 16 * 16) → vp_in v1 256 ∧ M_bind_L2 Qx n (v1 + 1) (vp_updL mb v1.toNatClampNeg 0)))))

def M_bind_L49 (mw : (Nat → Int64)) (Qx : Int32 → (Nat → Int64) → Prop) : Nat → Int32 → Int32 → (Nat → Int64) → Prop
  | 0, _, _, _ => False
  | n + 1, v1, v2, mb => ((4096 ≤ v2 → Qx v1 mb) ∧ (¬ 4096 ≤ v2 → vp_in ((16 * (v2 / 256)) + ((v2 / 16) - (v2 / 16) / 16 * 16)) 256 ∧ vp_in ((16 * ((v2 / 16) - (v2 / 16) / 16 * 16)) + (v2 - v2 / 16 * 16)) 256 ∧ M_plus_wp (mw ((16 * (v2 / 256)) + ((v2 / 16) - (v2 / 16) / 16 * 16)).toNatClampNeg) (mb ((16 * ((v2 / 16) - (v2 / 16) / 16 * 16)) + (v2 - v2 / 16 * 16)).toNatClampNeg) (fun (r_10 : Int64) (u_11 : Unit) => vp_in ((16 * (v2 / 256)) + (v2 - v2 / 16 * 16)) 256 ∧ (((mb ((16 * (v2 / 256)) + (v2 - v2 / 16 * 16)).toNatClampNeg) ≤ r_10 → M_bind_L49 mw Qx n v1 (v2 + 1) mb) ∧ (¬ (mb ((16 * (v2 / 256)) + (v2 - v2 / 16 * 16)).toNatClampNeg) ≤ r_10 → vp_in ((16 * (v2 / 256)) + (v2 - v2 / 16 * 16)) 256 ∧ M_bind_L49 mw Qx n 1 (v2 + 1) (vp_updL mb ((16 * (v2 / 256)) + (v2 - v2 / 16 * 16)).toNatClampNeg r_10))))))

def M_bind_L41 (mw : (Nat → Int64)) (Qx : (Nat → Int64) → Prop) : Nat → Int32 → (Nat → Int64) → Prop
  | 0, _, _ => False
  | n + 1, v1, mb => ((v1 = 0 → Qx mb) ∧ (¬ v1 = 0 → (∃ n_17 : Nat, M_bind_L49 mw (fun (v1_15 : Int32) (mb_16 : (Nat → Int64)) => M_bind_L41 mw Qx n v1_15 mb_16) n_17 0 0 mb)))

def M_bind_L170 (v2 : Int32) (mb : (Nat → Int64)) (moff : (Nat → Int64)) (Qx : Int64 → Int64 → Prop) : Nat → Int64 → Int64 → Int32 → Prop
  | 0, _, _, _ => False
  | n + 1, v3, v5, v7 => ((v2 ≤ v7 → Qx v3 v5) ∧ (¬ v2 ≤ v7 → vp_in ((16 * v2) + v7) 256 ∧ vp_in ((16 * v7) + v2) 256 ∧ (((mb ((16 * v2) + v7).toNatClampNeg) = 9223372036854775807 → (((mb ((16 * v7) + v2).toNatClampNeg) = 9223372036854775807 → M_bind_L170 v2 mb moff Qx n v3 v5 (v7 + 1)) ∧ (¬ (mb ((16 * v7) + v2).toNatClampNeg) = 9223372036854775807 → vp_in v7 16 ∧ ((((moff v7.toNatClampNeg) - (mb ((16 * v7) + v2).toNatClampNeg)) ≤ v3 → M_bind_L170 v2 mb moff Qx n v3 v5 (v7 + 1)) ∧ (¬ ((moff v7.toNatClampNeg) - (mb ((16 * v7) + v2).toNatClampNeg)) ≤ v3 → vp_in v7 16 ∧ M_bind_L170 v2 mb moff Qx n ((moff v7.toNatClampNeg) - (mb ((16 * v7) + v2).toNatClampNeg)) v5 (v7 + 1)))))) ∧ (¬ (mb ((16 * v2) + v7).toNatClampNeg) = 9223372036854775807 → vp_in v7 16 ∧ ((v5 ≤ ((mb ((16 * v2) + v7).toNatClampNeg) + (moff v7.toNatClampNeg)) → (((mb ((16 * v7) + v2).toNatClampNeg) = 9223372036854775807 → M_bind_L170 v2 mb moff Qx n v3 v5 (v7 + 1)) ∧ (¬ (mb ((16 * v7) + v2).toNatClampNeg) = 9223372036854775807 → vp_in v7 16 ∧ ((((moff v7.toNatClampNeg) - (mb ((16 * v7) + v2).toNatClampNeg)) ≤ v3 → M_bind_L170 v2 mb moff Qx n v3 v5 (v7 + 1)) ∧ (¬ ((moff v7.toNatClampNeg) - (mb ((16 * v7) + v2).toNatClampNeg)) ≤ v3 → vp_in v7 16 ∧ M_bind_L170 v2 mb moff Qx n ((moff v7.toNatClampNeg) - (mb ((16 * v7) + v2).toNatClampNeg)) v5 (v7 + 1)))))) ∧ (¬ v5 ≤ ((mb ((16 * v2) + v7).toNatClampNeg) + (moff v7.toNatClampNeg)) → vp_in v7 16 ∧ (((mb ((16 * v7) + v2).toNatClampNeg) = 9223372036854775807 → M_bind_L170 v2 mb moff Qx n v3 ((mb ((16 * v2) + v7).toNatClampNeg) + (moff v7.toNatClampNeg)) (v7 + 1)) ∧ (¬ (mb ((16 * v7) + v2).toNatClampNeg) = 9223372036854775807 → vp_in v7 16 ∧ ((((moff v7.toNatClampNeg) - (mb ((16 * v7) + v2).toNatClampNeg)) ≤ v3 → M_bind_L170 v2 mb moff Qx n v3 ((mb ((16 * v2) + v7).toNatClampNeg) + (moff v7.toNatClampNeg)) (v7 + 1)) ∧ (¬ ((moff v7.toNatClampNeg) - (mb ((16 * v7) + v2).toNatClampNeg)) ≤ v3 → vp_in v7 16 ∧ M_bind_L170 v2 mb moff Qx n ((moff v7.toNatClampNeg) - (mb ((16 * v7) + v2).toNatClampNeg)) ((mb ((16 * v2) + v7).toNatClampNeg) + (moff v7.toNatClampNeg)) (v7 + 1)))))))))))

def M_bind_L152 (mb : (Nat → Int64)) (Qx : (Nat → Int64) → Prop) : Nat → Int32 → (Nat → Int64) → Prop
  | 0, _, _ => False
  | n + 1, v2, moff => ((16 ≤ v2 → Qx moff) ∧ (¬ 16 ≤ v2 → (∃ n_46 : Nat, M_bind_L170 v2 mb moff (fun (v3_39 : Int64) (v5_40 : Int64) => ((v3_39 ≤ 0 → ((0 ≤ v5_40 → vp_in v2 16 ∧ M_bind_L152 mb Qx n (v2 + 1) (vp_updL moff v2.toNatClampNeg 0)) ∧ (¬ 0 ≤ v5_40 → vp_in v2 16 ∧ M_bind_L152 mb Qx n (v2 + 1) (vp_updL moff v2.toNatClampNeg v5_40)))) ∧ (¬ v3_39 ≤ 0 → vp_in v2 16 ∧ M_bind_L152 mb Qx n (v2 + 1) (vp_updL moff v2.toNatClampNeg v3_39)))) n_46 (-9223372036854775807) 9223372036854775807 0)))

def M_bind_wp (mw : (Nat → Int64)) (mb : (Nat → Int64)) (moff : (Nat → Int64)) (Qr : ((Nat → Int64) × (Nat → Int64)) → Prop) : Prop := (∃ n_50 : Nat, M_bind_L2  (fun (mb_5 : (Nat → Int64)) => (∃ n_49 : Nat, M_bind_L41 mw (fun (mb_18 : (Nat → Int64)) => (∃ n_48 : Nat, M_bind_L152 mb_18 (fun (moff_47 : (Nat → Int64)) => Qr (mb_18, moff_47)) n_48 0 moff)) n_49 1 mb_5)) n_50 0 mb)
set_option maxHeartbeats 4000000 in
set_option maxRecDepth 100000 in
theorem M_bind_L2_ok {p : Program} {l : Launch} {e : Env} {s : State} {m : MethodId} {args : Array Value} {below : List Frame} {meth : Method} {c : Code} {Q : State → Prop} {D : va_G} {A : Nat → Prop} {ad : Nat → Nat} {cI cL cO : ClassId} {mth : Int32} {msc : Int32} {mec : Int32} {msrc : (Nat → Int32)} {mitm : (Nat → Int32)} {mknd : (Nat → Int32)} {mplc : (Nat → Int32)} {mclk : (Nat → Int64)} {mnc : Int32} {mnf : (Nat → Int32)} {mns : (Nat → Int32)} {msd : Int32} {mrl : Int32} {mrow : (Nat → Int32)} {mw : (Nat → Int64)} {mway : (Nat → Int64)} {moff : (Nat → Int64)} {Qx : (Nat → Int64) → Prop} (hC : XC p s m args c D vwCl (tysX cI cL cO) A 12 bM_bind TBL RM)  (hexit : ∀ (mb : (Nat → Int64)), Qx mb → XW p l e rm_M_bind s m args below meth c D vwCl A 12 Q 0 0 (wM ad cI cL cO mth msc mec msrc mitm mknd mplc mclk mnc mnf mns msd mrl mrow mw mb mway moff) 39 [(0, .ref (ad 0))] []) : ∀ (n : Nat) (v1 : Int32) (mb : (Nat → Int64)), M_bind_L2 Qx n v1 mb → XW p l e rm_M_bind s m args below meth c D vwCl A 12 Q 0 0 (wM ad cI cL cO mth msc mec msrc mitm mknd mplc mclk mnc mnf mns msd mrl mrow mw mb mway moff) 2 [(0, .ref (ad 0)), (1, .int v1)] [] := by
  intro n
  induction n with
  | zero => intro v1 mb h; exact False.elim h
  | succ n ih =>
    intro v1 mb h
    unfold M_bind_L2 at h
    refine x_iload_n hC dM_bind_2 rfl 1 rfl ?_
    refine x_sipush (v := 256) hC dM_bind_3 (by decide) ?_
    refine x_icmp_ge (tgt := 39) hC dM_bind_6 (by decide) (fun c_1 => ?_) (fun c_1 => ?_)
    · have h := h.1 c_1
      refine x_lv [0] rfl ?_
      exact hexit mb h
    · have h := h.2 c_1
      refine x_aload_n hC dM_bind_9 rfl 0 rfl ?_
      refine x_get hC iM 0 wM_0 rfl 15 (by decide) k_m65 rfl rfl dM_bind_10 ?_
      refine x_iload_n hC dM_bind_13 rfl 1 rfl ?_
      refine x_iload_n hC dM_bind_14 rfl 1 rfl ?_
      refine x_bipush (v := 16) hC dM_bind_15 (by decide) ?_
      refine x_idiv hC dM_bind_17 (by decide) ?_
      refine x_iload_n hC dM_bind_18 rfl 1 rfl ?_
      refine x_bipush (v := 16) hC dM_bind_19 (by decide) ?_
      refine x_irem hC dM_bind_21 (by decide) ?_
      refine x_icmp_ne (tgt := 29) hC dM_bind_22 (by decide) (fun c_2 => ?_) (fun c_2 => ?_)
      · have h := h.1 c_2
        refine x_ldc2 (v := 9223372036854775807) hC k_m44 dM_bind_29 ?_
        obtain ⟨hb_3, h⟩ := h
        refine x_last (ws' := (wM ad cI cL cO mth msc mec msrc mitm mknd mplc mclk mnc mnf mns msd mrl mrow mw (vp_updL mb v1.toNatClampNeg 9223372036854775807) mway moff)) hC 10 1 wM_10 rfl hb_3 wM_10_set dM_bind_32 ?_
        refine x_iinc (v := v1 + 1) (lv' := [(1, .int (v1 + 1)), (0, .ref (ad 0))]) hC dM_bind_33 1 rfl rfl (by decide) rfl ?_
        refine x_goto (tgt := 2) hC dM_bind_36 (by decide) ?_
        refine x_lv [1, 0] rfl ?_
        exact ih (v1 + 1) (vp_updL mb v1.toNatClampNeg 9223372036854775807) h
      · have h := h.2 c_2
        refine x_lconst (v := 0) hC dM_bind_25 (by decide) ?_
        refine x_goto (tgt := 32) hC dM_bind_26 (by decide) ?_
        obtain ⟨hb_4, h⟩ := h
        refine x_last (ws' := (wM ad cI cL cO mth msc mec msrc mitm mknd mplc mclk mnc mnf mns msd mrl mrow mw (vp_updL mb v1.toNatClampNeg 0) mway moff)) hC 10 1 wM_10 rfl hb_4 wM_10_set dM_bind_32 ?_
        refine x_iinc (v := v1 + 1) (lv' := [(1, .int (v1 + 1)), (0, .ref (ad 0))]) hC dM_bind_33 1 rfl rfl (by decide) rfl ?_
        refine x_goto (tgt := 2) hC dM_bind_36 (by decide) ?_
        refine x_lv [1, 0] rfl ?_
        exact ih (v1 + 1) (vp_updL mb v1.toNatClampNeg 0) h

set_option maxHeartbeats 4000000 in
set_option maxRecDepth 100000 in
theorem M_bind_L49_ok {p : Program} {l : Launch} {e : Env} {s : State} {m : MethodId} {args : Array Value} {below : List Frame} {meth : Method} {c : Code} {Q : State → Prop} {D : va_G} {A : Nat → Prop} {ad : Nat → Nat} {cI cL cO : ClassId} {mth : Int32} {msc : Int32} {mec : Int32} {msrc : (Nat → Int32)} {mitm : (Nat → Int32)} {mknd : (Nat → Int32)} {mplc : (Nat → Int32)} {mclk : (Nat → Int64)} {mnc : Int32} {mnf : (Nat → Int32)} {mns : (Nat → Int32)} {msd : Int32} {mrl : Int32} {mrow : (Nat → Int32)} {mw : (Nat → Int64)} {mway : (Nat → Int64)} {moff : (Nat → Int64)} {Qx : Int32 → (Nat → Int64) → Prop} (hC : XC p s m args c D vwCl (tysX cI cL cO) A 12 bM_bind TBL RM)  (hexit : ∀ (v1 : Int32) (mb : (Nat → Int64)), Qx v1 mb → XW p l e rm_M_bind s m args below meth c D vwCl A 12 Q 0 0 (wM ad cI cL cO mth msc mec msrc mitm mknd mplc mclk mnc mnf mns msd mrl mrow mw mb mway moff) 147 [(0, .ref (ad 0)), (1, .int v1)] []) : ∀ (n : Nat) (v1 : Int32) (v2 : Int32) (mb : (Nat → Int64)), M_bind_L49 mw Qx n v1 v2 mb → XW p l e rm_M_bind s m args below meth c D vwCl A 12 Q 0 0 (wM ad cI cL cO mth msc mec msrc mitm mknd mplc mclk mnc mnf mns msd mrl mrow mw mb mway moff) 49 [(0, .ref (ad 0)), (1, .int v1), (2, .int v2)] [] := by
  intro n
  induction n with
  | zero => intro v1 v2 mb h; exact False.elim h
  | succ n ih =>
    intro v1 v2 mb h
    unfold M_bind_L49 at h
    refine x_iload_n hC dM_bind_49 rfl 2 rfl ?_
    refine x_sipush (v := 4096) hC dM_bind_50 (by decide) ?_
    refine x_icmp_ge (tgt := 147) hC dM_bind_53 (by decide) (fun c_7 => ?_) (fun c_7 => ?_)
    · have h := h.1 c_7
      refine x_lv [0, 1] rfl ?_
      exact hexit v1 mb h
    · have h := h.2 c_7
      refine x_iload_n hC dM_bind_56 rfl 2 rfl ?_
      refine x_sipush (v := 256) hC dM_bind_57 (by decide) ?_
      refine x_idiv hC dM_bind_60 (by decide) ?_
      refine x_istore_n (lv' := [(3, .int (v2 / 256)), (0, .ref (ad 0)), (1, .int v1), (2, .int v2)]) hC dM_bind_61 rfl (by decide) rfl ?_
      refine x_iload_n hC dM_bind_62 rfl 3 rfl ?_
      refine x_bipush (v := 16) hC dM_bind_63 (by decide) ?_
      refine x_idiv hC dM_bind_65 (by decide) ?_
      refine x_bipush (v := 16) hC dM_bind_66 (by decide) ?_
      refine x_irem hC dM_bind_68 (by decide) ?_
      refine x_istore (lv' := [(4, .int ((v2 / 16) - (v2 / 16) / 16 * 16)), (3, .int (v2 / 256)), (0, .ref (ad 0)), (1, .int v1), (2, .int v2)]) hC dM_bind_69 (by decide) rfl ?_
      refine x_iload_n hC dM_bind_71 rfl 4 rfl ?_
      refine x_bipush (v := 16) hC dM_bind_72 (by decide) ?_
      refine x_irem hC dM_bind_74 (by decide) ?_
      refine x_istore (lv' := [(5, .int (v2 - v2 / 16 * 16)), (4, .int ((v2 / 16) - (v2 / 16) / 16 * 16)), (3, .int (v2 / 256)), (0, .ref (ad 0)), (1, .int v1), (2, .int v2)]) hC dM_bind_75 (by decide) rfl ?_
      refine x_aload_n hC dM_bind_77 rfl 3 rfl ?_
      refine x_get hC iM 0 wM_0 rfl 14 (by decide) k_m43 rfl rfl dM_bind_78 ?_
      refine x_bipush (v := 16) hC dM_bind_81 (by decide) ?_
      refine x_iload_n hC dM_bind_83 rfl 2 rfl ?_
      refine x_imul hC dM_bind_84 ?_
      refine x_iload hC dM_bind_85 1 rfl ?_
      refine x_iadd hC dM_bind_87 ?_
      obtain ⟨hb_8, h⟩ := h
      refine x_lald hC 9 1 wM_9 rfl hb_8 dM_bind_88 ?_
      refine x_aload_n hC dM_bind_89 rfl 3 rfl ?_
      refine x_get hC iM 0 wM_0 rfl 15 (by decide) k_m65 rfl rfl dM_bind_90 ?_
      refine x_bipush (v := 16) hC dM_bind_93 (by decide) ?_
      refine x_iload hC dM_bind_95 1 rfl ?_
      refine x_imul hC dM_bind_97 ?_
      refine x_iload hC dM_bind_98 0 rfl ?_
      refine x_iadd hC dM_bind_100 ?_
      obtain ⟨hb_9, h⟩ := h
      refine x_lald hC 10 1 wM_10 rfl hb_9 dM_bind_101 ?_
      refine x_callSl (S := Unit) (wf := fun u => (wM ad cI cL cO mth msc mec msrc mitm mknd mplc mclk mnc mnf mns msd mrl mrow mw mb mway moff)) hC [.long (mw ((16 * (v2 / 256)) + ((v2 / 16) - (v2 / 16) / 16 * 16)).toNatClampNeg), .long (mb ((16 * ((v2 / 16) - (v2 / 16) / 16 * 16)) + (v2 - v2 / 16 * 16)).toNatClampNeg)] (fun sz => c_M_plus h sz) (by decide) (by decide) k_m46 k_m47 k_m48 (by decide) 2 rfl (by decide +kernel) ⟨by decide, by decide⟩ (Nat.le_of_ble_eq_true rfl) k_m49 rfl dM_bind_102 (fun _ h9 => h9) (fun r_10 u_11 h => ?_)
      refine x_lstore (lv' := [(6, .long r_10), (5, .int (v2 - v2 / 16 * 16)), (4, .int ((v2 / 16) - (v2 / 16) / 16 * 16)), (3, .int (v2 / 256)), (0, .ref (ad 0)), (1, .int v1), (2, .int v2)]) hC dM_bind_105 (by decide) rfl ?_
      refine x_lload hC dM_bind_107 0 rfl ?_
      refine x_aload_n hC dM_bind_109 rfl 4 rfl ?_
      refine x_get hC iM 0 wM_0 rfl 15 (by decide) k_m65 rfl rfl dM_bind_110 ?_
      refine x_bipush (v := 16) hC dM_bind_113 (by decide) ?_
      refine x_iload_n hC dM_bind_115 rfl 3 rfl ?_
      refine x_imul hC dM_bind_116 ?_
      refine x_iload hC dM_bind_117 1 rfl ?_
      refine x_iadd hC dM_bind_119 ?_
      obtain ⟨hb_12, h⟩ := h
      refine x_lald hC 10 1 wM_10 rfl hb_12 dM_bind_120 ?_
      refine x_lcmp_ge (tgt := 141) hC dM_bind_121 dM_bind_122 (by decide) (fun c_13 => ?_) (fun c_13 => ?_)
      · have h := h.1 c_13
        refine x_iinc (v := v2 + 1) (lv' := [(2, .int (v2 + 1)), (6, .long r_10), (5, .int (v2 - v2 / 16 * 16)), (4, .int ((v2 / 16) - (v2 / 16) / 16 * 16)), (3, .int (v2 / 256)), (0, .ref (ad 0)), (1, .int v1)]) hC dM_bind_141 6 rfl rfl (by decide) rfl ?_
        refine x_goto (tgt := 49) hC dM_bind_144 (by decide) ?_
        refine x_lv [5, 6, 0] rfl ?_
        exact ih v1 (v2 + 1) mb h
      · have h := h.2 c_13
        refine x_aload_n hC dM_bind_125 rfl 4 rfl ?_
        refine x_get hC iM 0 wM_0 rfl 15 (by decide) k_m65 rfl rfl dM_bind_126 ?_
        refine x_bipush (v := 16) hC dM_bind_129 (by decide) ?_
        refine x_iload_n hC dM_bind_131 rfl 3 rfl ?_
        refine x_imul hC dM_bind_132 ?_
        refine x_iload hC dM_bind_133 1 rfl ?_
        refine x_iadd hC dM_bind_135 ?_
        refine x_lload hC dM_bind_136 0 rfl ?_
        obtain ⟨hb_14, h⟩ := h
        refine x_last (ws' := (wM ad cI cL cO mth msc mec msrc mitm mknd mplc mclk mnc mnf mns msd mrl mrow mw (vp_updL mb ((16 * (v2 / 256)) + (v2 - v2 / 16 * 16)).toNatClampNeg r_10) mway moff)) hC 10 1 wM_10 rfl hb_14 wM_10_set dM_bind_138 ?_
        refine x_iconst (v := 1) hC dM_bind_139 (by decide) ?_
        refine x_istore_n (lv' := [(1, .int 1), (6, .long r_10), (5, .int (v2 - v2 / 16 * 16)), (4, .int ((v2 / 16) - (v2 / 16) / 16 * 16)), (3, .int (v2 / 256)), (0, .ref (ad 0)), (2, .int v2)]) hC dM_bind_140 rfl (by decide) rfl ?_
        refine x_iinc (v := v2 + 1) (lv' := [(2, .int (v2 + 1)), (1, .int 1), (6, .long r_10), (5, .int (v2 - v2 / 16 * 16)), (4, .int ((v2 / 16) - (v2 / 16) / 16 * 16)), (3, .int (v2 / 256)), (0, .ref (ad 0))]) hC dM_bind_141 6 rfl rfl (by decide) rfl ?_
        refine x_goto (tgt := 49) hC dM_bind_144 (by decide) ?_
        refine x_lv [6, 1, 0] rfl ?_
        exact ih 1 (v2 + 1) (vp_updL mb ((16 * (v2 / 256)) + (v2 - v2 / 16 * 16)).toNatClampNeg r_10) h

set_option maxHeartbeats 4000000 in
set_option maxRecDepth 100000 in
theorem M_bind_L41_ok {p : Program} {l : Launch} {e : Env} {s : State} {m : MethodId} {args : Array Value} {below : List Frame} {meth : Method} {c : Code} {Q : State → Prop} {D : va_G} {A : Nat → Prop} {ad : Nat → Nat} {cI cL cO : ClassId} {mth : Int32} {msc : Int32} {mec : Int32} {msrc : (Nat → Int32)} {mitm : (Nat → Int32)} {mknd : (Nat → Int32)} {mplc : (Nat → Int32)} {mclk : (Nat → Int64)} {mnc : Int32} {mnf : (Nat → Int32)} {mns : (Nat → Int32)} {msd : Int32} {mrl : Int32} {mrow : (Nat → Int32)} {mw : (Nat → Int64)} {mway : (Nat → Int64)} {moff : (Nat → Int64)} {Qx : (Nat → Int64) → Prop} (hC : XC p s m args c D vwCl (tysX cI cL cO) A 12 bM_bind TBL RM)  (hexit : ∀ (mb : (Nat → Int64)), Qx mb → XW p l e rm_M_bind s m args below meth c D vwCl A 12 Q 0 0 (wM ad cI cL cO mth msc mec msrc mitm mknd mplc mclk mnc mnf mns msd mrl mrow mw mb mway moff) 150 [(0, .ref (ad 0))] []) : ∀ (n : Nat) (v1 : Int32) (mb : (Nat → Int64)), M_bind_L41 mw Qx n v1 mb → XW p l e rm_M_bind s m args below meth c D vwCl A 12 Q 0 0 (wM ad cI cL cO mth msc mec msrc mitm mknd mplc mclk mnc mnf mns msd mrl mrow mw mb mway moff) 41 [(0, .ref (ad 0)), (1, .int v1)] [] := by
  intro n
  induction n with
  | zero => intro v1 mb h; exact False.elim h
  | succ n ih =>
    intro v1 mb h
    unfold M_bind_L41 at h
    refine x_iload_n hC dM_bind_41 rfl 1 rfl ?_
    refine x_if_eq (tgt := 150) hC dM_bind_42 (by decide) (fun c_6 => ?_) (fun c_6 => ?_)
    · have h := h.1 c_6
      refine x_lv [0] rfl ?_
      exact hexit mb h
    · have h := h.2 c_6
      refine x_iconst (v := 0) hC dM_bind_45 (by decide) ?_
      refine x_istore_n (lv' := [(1, .int 0), (0, .ref (ad 0))]) hC dM_bind_46 rfl (by decide) rfl ?_
      refine x_iconst (v := 0) hC dM_bind_47 (by decide) ?_
      refine x_istore_n (lv' := [(2, .int 0), (1, .int 0), (0, .ref (ad 0))]) hC dM_bind_48 rfl (by decide) rfl ?_
      obtain ⟨n_17, h⟩ := h
      refine x_lv [2, 1, 0] rfl ?_
      refine M_bind_L49_ok hC (fun v1_15 mb_16 h => ?_) n_17 0 0 mb h
      refine x_goto (tgt := 41) hC dM_bind_147 (by decide) ?_
      refine x_lv [0, 1] rfl ?_
      exact ih v1_15 mb_16 h

set_option maxHeartbeats 4000000 in
set_option maxRecDepth 100000 in
theorem M_bind_L170_ok {p : Program} {l : Launch} {e : Env} {s : State} {m : MethodId} {args : Array Value} {below : List Frame} {meth : Method} {c : Code} {Q : State → Prop} {D : va_G} {A : Nat → Prop} {ad : Nat → Nat} {cI cL cO : ClassId} {mth : Int32} {msc : Int32} {mec : Int32} {msrc : (Nat → Int32)} {mitm : (Nat → Int32)} {mknd : (Nat → Int32)} {mplc : (Nat → Int32)} {mclk : (Nat → Int64)} {mnc : Int32} {mnf : (Nat → Int32)} {mns : (Nat → Int32)} {msd : Int32} {mrl : Int32} {mrow : (Nat → Int32)} {mw : (Nat → Int64)} {mb : (Nat → Int64)} {mway : (Nat → Int64)} {moff : (Nat → Int64)} {v2 : Int32} {Qx : Int64 → Int64 → Prop} (hC : XC p s m args c D vwCl (tysX cI cL cO) A 12 bM_bind TBL RM)  (hexit : ∀ (v3 : Int64) (v5 : Int64), Qx v3 v5 → XW p l e rm_M_bind s m args below meth c D vwCl A 12 Q 0 0 (wM ad cI cL cO mth msc mec msrc mitm mknd mplc mclk mnc mnf mns msd mrl mrow mw mb mway moff) 291 [(0, .ref (ad 0)), (2, .int v2), (3, .long v3), (5, .long v5)] []) : ∀ (n : Nat) (v3 : Int64) (v5 : Int64) (v7 : Int32), M_bind_L170 v2 mb moff Qx n v3 v5 v7 → XW p l e rm_M_bind s m args below meth c D vwCl A 12 Q 0 0 (wM ad cI cL cO mth msc mec msrc mitm mknd mplc mclk mnc mnf mns msd mrl mrow mw mb mway moff) 170 [(0, .ref (ad 0)), (2, .int v2), (3, .long v3), (5, .long v5), (7, .int v7)] [] := by
  intro n
  induction n with
  | zero => intro v3 v5 v7 h; exact False.elim h
  | succ n ih =>
    intro v3 v5 v7 h
    unfold M_bind_L170 at h
    refine x_iload hC dM_bind_170 4 rfl ?_
    refine x_iload_n hC dM_bind_172 rfl 1 rfl ?_
    refine x_icmp_ge (tgt := 291) hC dM_bind_173 (by decide) (fun c_20 => ?_) (fun c_20 => ?_)
    · have h := h.1 c_20
      refine x_lv [0, 1, 2, 3] rfl ?_
      exact hexit v3 v5 h
    · have h := h.2 c_20
      refine x_aload_n hC dM_bind_176 rfl 0 rfl ?_
      refine x_get hC iM 0 wM_0 rfl 15 (by decide) k_m65 rfl rfl dM_bind_177 ?_
      refine x_bipush (v := 16) hC dM_bind_180 (by decide) ?_
      refine x_iload_n hC dM_bind_182 rfl 1 rfl ?_
      refine x_imul hC dM_bind_183 ?_
      refine x_iload hC dM_bind_184 4 rfl ?_
      refine x_iadd hC dM_bind_186 ?_
      obtain ⟨hb_21, h⟩ := h
      refine x_lald hC 10 1 wM_10 rfl hb_21 dM_bind_187 ?_
      refine x_lstore (lv' := [(8, .long (mb ((16 * v2) + v7).toNatClampNeg)), (0, .ref (ad 0)), (2, .int v2), (3, .long v3), (5, .long v5), (7, .int v7)]) hC dM_bind_188 (by decide) rfl ?_
      refine x_aload_n hC dM_bind_190 rfl 1 rfl ?_
      refine x_get hC iM 0 wM_0 rfl 15 (by decide) k_m65 rfl rfl dM_bind_191 ?_
      refine x_bipush (v := 16) hC dM_bind_194 (by decide) ?_
      refine x_iload hC dM_bind_196 5 rfl ?_
      refine x_imul hC dM_bind_198 ?_
      refine x_iload_n hC dM_bind_199 rfl 2 rfl ?_
      refine x_iadd hC dM_bind_200 ?_
      obtain ⟨hb_22, h⟩ := h
      refine x_lald hC 10 1 wM_10 rfl hb_22 dM_bind_201 ?_
      refine x_lstore (lv' := [(10, .long (mb ((16 * v7) + v2).toNatClampNeg)), (8, .long (mb ((16 * v2) + v7).toNatClampNeg)), (0, .ref (ad 0)), (2, .int v2), (3, .long v3), (5, .long v5), (7, .int v7)]) hC dM_bind_202 (by decide) rfl ?_
      refine x_lload hC dM_bind_204 1 rfl ?_
      refine x_ldc2 (v := 9223372036854775807) hC k_m44 dM_bind_206 ?_
      refine x_lcmp_eq (tgt := 242) hC dM_bind_209 dM_bind_210 (by decide) (fun c_23 => ?_) (fun c_23 => ?_)
      · have h := h.1 c_23
        refine x_lload hC dM_bind_242 5 rfl ?_
        refine x_lstore (lv' := [(5, .long v5), (10, .long (mb ((16 * v7) + v2).toNatClampNeg)), (8, .long (mb ((16 * v2) + v7).toNatClampNeg)), (0, .ref (ad 0)), (2, .int v2), (3, .long v3), (7, .int v7)]) hC dM_bind_244 (by decide) rfl ?_
        refine x_lload hC dM_bind_246 1 rfl ?_
        refine x_ldc2 (v := 9223372036854775807) hC k_m44 dM_bind_248 ?_
        refine x_lcmp_eq (tgt := 283) hC dM_bind_251 dM_bind_252 (by decide) (fun c_24 => ?_) (fun c_24 => ?_)
        · have h := h.1 c_24
          refine x_lload_n hC dM_bind_283 rfl 5 rfl ?_
          refine x_lstore_n (lv' := [(3, .long v3), (5, .long v5), (10, .long (mb ((16 * v7) + v2).toNatClampNeg)), (8, .long (mb ((16 * v2) + v7).toNatClampNeg)), (0, .ref (ad 0)), (2, .int v2), (7, .int v7)]) hC dM_bind_284 rfl (by decide) rfl ?_
          refine x_iinc (v := v7 + 1) (lv' := [(7, .int (v7 + 1)), (3, .long v3), (5, .long v5), (10, .long (mb ((16 * v7) + v2).toNatClampNeg)), (8, .long (mb ((16 * v2) + v7).toNatClampNeg)), (0, .ref (ad 0)), (2, .int v2)]) hC dM_bind_285 6 rfl rfl (by decide) rfl ?_
          refine x_goto (tgt := 170) hC dM_bind_288 (by decide) ?_
          refine x_lv [5, 6, 1, 2, 0] rfl ?_
          exact ih v3 v5 (v7 + 1) h
        · have h := h.2 c_24
          refine x_aload_n hC dM_bind_255 rfl 3 rfl ?_
          refine x_get hC iM 0 wM_0 rfl 17 (by decide) k_m67 rfl rfl dM_bind_256 ?_
          refine x_iload hC dM_bind_259 6 rfl ?_
          obtain ⟨hb_25, h⟩ := h
          refine x_lald hC 12 1 wM_12 rfl hb_25 dM_bind_261 ?_
          refine x_lload hC dM_bind_262 1 rfl ?_
          refine x_lsub hC dM_bind_264 ?_
          refine x_lload_n hC dM_bind_265 rfl 5 rfl ?_
          refine x_lcmp_le (tgt := 283) hC dM_bind_266 dM_bind_267 (by decide) (fun c_26 => ?_) (fun c_26 => ?_)
          · have h := h.1 c_26
            refine x_lload_n hC dM_bind_283 rfl 5 rfl ?_
            refine x_lstore_n (lv' := [(3, .long v3), (5, .long v5), (10, .long (mb ((16 * v7) + v2).toNatClampNeg)), (8, .long (mb ((16 * v2) + v7).toNatClampNeg)), (0, .ref (ad 0)), (2, .int v2), (7, .int v7)]) hC dM_bind_284 rfl (by decide) rfl ?_
            refine x_iinc (v := v7 + 1) (lv' := [(7, .int (v7 + 1)), (3, .long v3), (5, .long v5), (10, .long (mb ((16 * v7) + v2).toNatClampNeg)), (8, .long (mb ((16 * v2) + v7).toNatClampNeg)), (0, .ref (ad 0)), (2, .int v2)]) hC dM_bind_285 6 rfl rfl (by decide) rfl ?_
            refine x_goto (tgt := 170) hC dM_bind_288 (by decide) ?_
            refine x_lv [5, 6, 1, 2, 0] rfl ?_
            exact ih v3 v5 (v7 + 1) h
          · have h := h.2 c_26
            refine x_aload_n hC dM_bind_270 rfl 3 rfl ?_
            refine x_get hC iM 0 wM_0 rfl 17 (by decide) k_m67 rfl rfl dM_bind_271 ?_
            refine x_iload hC dM_bind_274 6 rfl ?_
            obtain ⟨hb_27, h⟩ := h
            refine x_lald hC 12 1 wM_12 rfl hb_27 dM_bind_276 ?_
            refine x_lload hC dM_bind_277 1 rfl ?_
            refine x_lsub hC dM_bind_279 ?_
            refine x_goto (tgt := 284) hC dM_bind_280 (by decide) ?_
            refine x_lstore_n (lv' := [(3, .long ((moff v7.toNatClampNeg) - (mb ((16 * v7) + v2).toNatClampNeg))), (5, .long v5), (10, .long (mb ((16 * v7) + v2).toNatClampNeg)), (8, .long (mb ((16 * v2) + v7).toNatClampNeg)), (0, .ref (ad 0)), (2, .int v2), (7, .int v7)]) hC dM_bind_284 rfl (by decide) rfl ?_
            refine x_iinc (v := v7 + 1) (lv' := [(7, .int (v7 + 1)), (3, .long ((moff v7.toNatClampNeg) - (mb ((16 * v7) + v2).toNatClampNeg))), (5, .long v5), (10, .long (mb ((16 * v7) + v2).toNatClampNeg)), (8, .long (mb ((16 * v2) + v7).toNatClampNeg)), (0, .ref (ad 0)), (2, .int v2)]) hC dM_bind_285 6 rfl rfl (by decide) rfl ?_
            refine x_goto (tgt := 170) hC dM_bind_288 (by decide) ?_
            refine x_lv [5, 6, 1, 2, 0] rfl ?_
            exact ih ((moff v7.toNatClampNeg) - (mb ((16 * v7) + v2).toNatClampNeg)) v5 (v7 + 1) h
      · have h := h.2 c_23
        refine x_lload hC dM_bind_213 1 rfl ?_
        refine x_aload_n hC dM_bind_215 rfl 2 rfl ?_
        refine x_get hC iM 0 wM_0 rfl 17 (by decide) k_m67 rfl rfl dM_bind_216 ?_
        refine x_iload hC dM_bind_219 6 rfl ?_
        obtain ⟨hb_28, h⟩ := h
        refine x_lald hC 12 1 wM_12 rfl hb_28 dM_bind_221 ?_
        refine x_ladd hC dM_bind_222 ?_
        refine x_lload hC dM_bind_223 5 rfl ?_
        refine x_lcmp_ge (tgt := 242) hC dM_bind_225 dM_bind_226 (by decide) (fun c_29 => ?_) (fun c_29 => ?_)
        · have h := h.1 c_29
          refine x_lload hC dM_bind_242 5 rfl ?_
          refine x_lstore (lv' := [(5, .long v5), (10, .long (mb ((16 * v7) + v2).toNatClampNeg)), (8, .long (mb ((16 * v2) + v7).toNatClampNeg)), (0, .ref (ad 0)), (2, .int v2), (3, .long v3), (7, .int v7)]) hC dM_bind_244 (by decide) rfl ?_
          refine x_lload hC dM_bind_246 1 rfl ?_
          refine x_ldc2 (v := 9223372036854775807) hC k_m44 dM_bind_248 ?_
          refine x_lcmp_eq (tgt := 283) hC dM_bind_251 dM_bind_252 (by decide) (fun c_30 => ?_) (fun c_30 => ?_)
          · have h := h.1 c_30
            refine x_lload_n hC dM_bind_283 rfl 5 rfl ?_
            refine x_lstore_n (lv' := [(3, .long v3), (5, .long v5), (10, .long (mb ((16 * v7) + v2).toNatClampNeg)), (8, .long (mb ((16 * v2) + v7).toNatClampNeg)), (0, .ref (ad 0)), (2, .int v2), (7, .int v7)]) hC dM_bind_284 rfl (by decide) rfl ?_
            refine x_iinc (v := v7 + 1) (lv' := [(7, .int (v7 + 1)), (3, .long v3), (5, .long v5), (10, .long (mb ((16 * v7) + v2).toNatClampNeg)), (8, .long (mb ((16 * v2) + v7).toNatClampNeg)), (0, .ref (ad 0)), (2, .int v2)]) hC dM_bind_285 6 rfl rfl (by decide) rfl ?_
            refine x_goto (tgt := 170) hC dM_bind_288 (by decide) ?_
            refine x_lv [5, 6, 1, 2, 0] rfl ?_
            exact ih v3 v5 (v7 + 1) h
          · have h := h.2 c_30
            refine x_aload_n hC dM_bind_255 rfl 3 rfl ?_
            refine x_get hC iM 0 wM_0 rfl 17 (by decide) k_m67 rfl rfl dM_bind_256 ?_
            refine x_iload hC dM_bind_259 6 rfl ?_
            obtain ⟨hb_31, h⟩ := h
            refine x_lald hC 12 1 wM_12 rfl hb_31 dM_bind_261 ?_
            refine x_lload hC dM_bind_262 1 rfl ?_
            refine x_lsub hC dM_bind_264 ?_
            refine x_lload_n hC dM_bind_265 rfl 5 rfl ?_
            refine x_lcmp_le (tgt := 283) hC dM_bind_266 dM_bind_267 (by decide) (fun c_32 => ?_) (fun c_32 => ?_)
            · have h := h.1 c_32
              refine x_lload_n hC dM_bind_283 rfl 5 rfl ?_
              refine x_lstore_n (lv' := [(3, .long v3), (5, .long v5), (10, .long (mb ((16 * v7) + v2).toNatClampNeg)), (8, .long (mb ((16 * v2) + v7).toNatClampNeg)), (0, .ref (ad 0)), (2, .int v2), (7, .int v7)]) hC dM_bind_284 rfl (by decide) rfl ?_
              refine x_iinc (v := v7 + 1) (lv' := [(7, .int (v7 + 1)), (3, .long v3), (5, .long v5), (10, .long (mb ((16 * v7) + v2).toNatClampNeg)), (8, .long (mb ((16 * v2) + v7).toNatClampNeg)), (0, .ref (ad 0)), (2, .int v2)]) hC dM_bind_285 6 rfl rfl (by decide) rfl ?_
              refine x_goto (tgt := 170) hC dM_bind_288 (by decide) ?_
              refine x_lv [5, 6, 1, 2, 0] rfl ?_
              exact ih v3 v5 (v7 + 1) h
            · have h := h.2 c_32
              refine x_aload_n hC dM_bind_270 rfl 3 rfl ?_
              refine x_get hC iM 0 wM_0 rfl 17 (by decide) k_m67 rfl rfl dM_bind_271 ?_
              refine x_iload hC dM_bind_274 6 rfl ?_
              obtain ⟨hb_33, h⟩ := h
              refine x_lald hC 12 1 wM_12 rfl hb_33 dM_bind_276 ?_
              refine x_lload hC dM_bind_277 1 rfl ?_
              refine x_lsub hC dM_bind_279 ?_
              refine x_goto (tgt := 284) hC dM_bind_280 (by decide) ?_
              refine x_lstore_n (lv' := [(3, .long ((moff v7.toNatClampNeg) - (mb ((16 * v7) + v2).toNatClampNeg))), (5, .long v5), (10, .long (mb ((16 * v7) + v2).toNatClampNeg)), (8, .long (mb ((16 * v2) + v7).toNatClampNeg)), (0, .ref (ad 0)), (2, .int v2), (7, .int v7)]) hC dM_bind_284 rfl (by decide) rfl ?_
              refine x_iinc (v := v7 + 1) (lv' := [(7, .int (v7 + 1)), (3, .long ((moff v7.toNatClampNeg) - (mb ((16 * v7) + v2).toNatClampNeg))), (5, .long v5), (10, .long (mb ((16 * v7) + v2).toNatClampNeg)), (8, .long (mb ((16 * v2) + v7).toNatClampNeg)), (0, .ref (ad 0)), (2, .int v2)]) hC dM_bind_285 6 rfl rfl (by decide) rfl ?_
              refine x_goto (tgt := 170) hC dM_bind_288 (by decide) ?_
              refine x_lv [5, 6, 1, 2, 0] rfl ?_
              exact ih ((moff v7.toNatClampNeg) - (mb ((16 * v7) + v2).toNatClampNeg)) v5 (v7 + 1) h
        · have h := h.2 c_29
          refine x_lload hC dM_bind_229 1 rfl ?_
          refine x_aload_n hC dM_bind_231 rfl 2 rfl ?_
          refine x_get hC iM 0 wM_0 rfl 17 (by decide) k_m67 rfl rfl dM_bind_232 ?_
          refine x_iload hC dM_bind_235 6 rfl ?_
          obtain ⟨hb_34, h⟩ := h
          refine x_lald hC 12 1 wM_12 rfl hb_34 dM_bind_237 ?_
          refine x_ladd hC dM_bind_238 ?_
          refine x_goto (tgt := 244) hC dM_bind_239 (by decide) ?_
          refine x_lstore (lv' := [(5, .long ((mb ((16 * v2) + v7).toNatClampNeg) + (moff v7.toNatClampNeg))), (10, .long (mb ((16 * v7) + v2).toNatClampNeg)), (8, .long (mb ((16 * v2) + v7).toNatClampNeg)), (0, .ref (ad 0)), (2, .int v2), (3, .long v3), (7, .int v7)]) hC dM_bind_244 (by decide) rfl ?_
          refine x_lload hC dM_bind_246 1 rfl ?_
          refine x_ldc2 (v := 9223372036854775807) hC k_m44 dM_bind_248 ?_
          refine x_lcmp_eq (tgt := 283) hC dM_bind_251 dM_bind_252 (by decide) (fun c_35 => ?_) (fun c_35 => ?_)
          · have h := h.1 c_35
            refine x_lload_n hC dM_bind_283 rfl 5 rfl ?_
            refine x_lstore_n (lv' := [(3, .long v3), (5, .long ((mb ((16 * v2) + v7).toNatClampNeg) + (moff v7.toNatClampNeg))), (10, .long (mb ((16 * v7) + v2).toNatClampNeg)), (8, .long (mb ((16 * v2) + v7).toNatClampNeg)), (0, .ref (ad 0)), (2, .int v2), (7, .int v7)]) hC dM_bind_284 rfl (by decide) rfl ?_
            refine x_iinc (v := v7 + 1) (lv' := [(7, .int (v7 + 1)), (3, .long v3), (5, .long ((mb ((16 * v2) + v7).toNatClampNeg) + (moff v7.toNatClampNeg))), (10, .long (mb ((16 * v7) + v2).toNatClampNeg)), (8, .long (mb ((16 * v2) + v7).toNatClampNeg)), (0, .ref (ad 0)), (2, .int v2)]) hC dM_bind_285 6 rfl rfl (by decide) rfl ?_
            refine x_goto (tgt := 170) hC dM_bind_288 (by decide) ?_
            refine x_lv [5, 6, 1, 2, 0] rfl ?_
            exact ih v3 ((mb ((16 * v2) + v7).toNatClampNeg) + (moff v7.toNatClampNeg)) (v7 + 1) h
          · have h := h.2 c_35
            refine x_aload_n hC dM_bind_255 rfl 3 rfl ?_
            refine x_get hC iM 0 wM_0 rfl 17 (by decide) k_m67 rfl rfl dM_bind_256 ?_
            refine x_iload hC dM_bind_259 6 rfl ?_
            obtain ⟨hb_36, h⟩ := h
            refine x_lald hC 12 1 wM_12 rfl hb_36 dM_bind_261 ?_
            refine x_lload hC dM_bind_262 1 rfl ?_
            refine x_lsub hC dM_bind_264 ?_
            refine x_lload_n hC dM_bind_265 rfl 5 rfl ?_
            refine x_lcmp_le (tgt := 283) hC dM_bind_266 dM_bind_267 (by decide) (fun c_37 => ?_) (fun c_37 => ?_)
            · have h := h.1 c_37
              refine x_lload_n hC dM_bind_283 rfl 5 rfl ?_
              refine x_lstore_n (lv' := [(3, .long v3), (5, .long ((mb ((16 * v2) + v7).toNatClampNeg) + (moff v7.toNatClampNeg))), (10, .long (mb ((16 * v7) + v2).toNatClampNeg)), (8, .long (mb ((16 * v2) + v7).toNatClampNeg)), (0, .ref (ad 0)), (2, .int v2), (7, .int v7)]) hC dM_bind_284 rfl (by decide) rfl ?_
              refine x_iinc (v := v7 + 1) (lv' := [(7, .int (v7 + 1)), (3, .long v3), (5, .long ((mb ((16 * v2) + v7).toNatClampNeg) + (moff v7.toNatClampNeg))), (10, .long (mb ((16 * v7) + v2).toNatClampNeg)), (8, .long (mb ((16 * v2) + v7).toNatClampNeg)), (0, .ref (ad 0)), (2, .int v2)]) hC dM_bind_285 6 rfl rfl (by decide) rfl ?_
              refine x_goto (tgt := 170) hC dM_bind_288 (by decide) ?_
              refine x_lv [5, 6, 1, 2, 0] rfl ?_
              exact ih v3 ((mb ((16 * v2) + v7).toNatClampNeg) + (moff v7.toNatClampNeg)) (v7 + 1) h
            · have h := h.2 c_37
              refine x_aload_n hC dM_bind_270 rfl 3 rfl ?_
              refine x_get hC iM 0 wM_0 rfl 17 (by decide) k_m67 rfl rfl dM_bind_271 ?_
              refine x_iload hC dM_bind_274 6 rfl ?_
              obtain ⟨hb_38, h⟩ := h
              refine x_lald hC 12 1 wM_12 rfl hb_38 dM_bind_276 ?_
              refine x_lload hC dM_bind_277 1 rfl ?_
              refine x_lsub hC dM_bind_279 ?_
              refine x_goto (tgt := 284) hC dM_bind_280 (by decide) ?_
              refine x_lstore_n (lv' := [(3, .long ((moff v7.toNatClampNeg) - (mb ((16 * v7) + v2).toNatClampNeg))), (5, .long ((mb ((16 * v2) + v7).toNatClampNeg) + (moff v7.toNatClampNeg))), (10, .long (mb ((16 * v7) + v2).toNatClampNeg)), (8, .long (mb ((16 * v2) + v7).toNatClampNeg)), (0, .ref (ad 0)), (2, .int v2), (7, .int v7)]) hC dM_bind_284 rfl (by decide) rfl ?_
              refine x_iinc (v := v7 + 1) (lv' := [(7, .int (v7 + 1)), (3, .long ((moff v7.toNatClampNeg) - (mb ((16 * v7) + v2).toNatClampNeg))), (5, .long ((mb ((16 * v2) + v7).toNatClampNeg) + (moff v7.toNatClampNeg))), (10, .long (mb ((16 * v7) + v2).toNatClampNeg)), (8, .long (mb ((16 * v2) + v7).toNatClampNeg)), (0, .ref (ad 0)), (2, .int v2)]) hC dM_bind_285 6 rfl rfl (by decide) rfl ?_
              refine x_goto (tgt := 170) hC dM_bind_288 (by decide) ?_
              refine x_lv [5, 6, 1, 2, 0] rfl ?_
              exact ih ((moff v7.toNatClampNeg) - (mb ((16 * v7) + v2).toNatClampNeg)) ((mb ((16 * v2) + v7).toNatClampNeg) + (moff v7.toNatClampNeg)) (v7 + 1) h

set_option maxHeartbeats 4000000 in
set_option maxRecDepth 100000 in
theorem M_bind_L152_ok {p : Program} {l : Launch} {e : Env} {s : State} {m : MethodId} {args : Array Value} {below : List Frame} {meth : Method} {c : Code} {Q : State → Prop} {D : va_G} {A : Nat → Prop} {ad : Nat → Nat} {cI cL cO : ClassId} {mth : Int32} {msc : Int32} {mec : Int32} {msrc : (Nat → Int32)} {mitm : (Nat → Int32)} {mknd : (Nat → Int32)} {mplc : (Nat → Int32)} {mclk : (Nat → Int64)} {mnc : Int32} {mnf : (Nat → Int32)} {mns : (Nat → Int32)} {msd : Int32} {mrl : Int32} {mrow : (Nat → Int32)} {mw : (Nat → Int64)} {mb : (Nat → Int64)} {mway : (Nat → Int64)} {Qx : (Nat → Int64) → Prop} (hC : XC p s m args c D vwCl (tysX cI cL cO) A 12 bM_bind TBL RM)  (hexit : ∀ (moff : (Nat → Int64)), Qx moff → XW p l e rm_M_bind s m args below meth c D vwCl A 12 Q 0 0 (wM ad cI cL cO mth msc mec msrc mitm mknd mplc mclk mnc mnf mns msd mrl mrow mw mb mway moff) 326 [] []) : ∀ (n : Nat) (v2 : Int32) (moff : (Nat → Int64)), M_bind_L152 mb Qx n v2 moff → XW p l e rm_M_bind s m args below meth c D vwCl A 12 Q 0 0 (wM ad cI cL cO mth msc mec msrc mitm mknd mplc mclk mnc mnf mns msd mrl mrow mw mb mway moff) 152 [(0, .ref (ad 0)), (2, .int v2)] [] := by
  intro n
  induction n with
  | zero => intro v2 moff h; exact False.elim h
  | succ n ih =>
    intro v2 moff h
    unfold M_bind_L152 at h
    refine x_iload_n hC dM_bind_152 rfl 1 rfl ?_
    refine x_bipush (v := 16) hC dM_bind_153 (by decide) ?_
    refine x_icmp_ge (tgt := 326) hC dM_bind_155 (by decide) (fun c_19 => ?_) (fun c_19 => ?_)
    · have h := h.1 c_19
      refine x_lv [] rfl ?_
      exact hexit moff h
    · have h := h.2 c_19
      refine x_ldc2 (v := -9223372036854775807) hC k_m66 dM_bind_158 ?_
      refine x_lstore_n (lv' := [(3, .long (-9223372036854775807)), (0, .ref (ad 0)), (2, .int v2)]) hC dM_bind_161 rfl (by decide) rfl ?_
      refine x_ldc2 (v := 9223372036854775807) hC k_m44 dM_bind_162 ?_
      refine x_lstore (lv' := [(5, .long 9223372036854775807), (3, .long (-9223372036854775807)), (0, .ref (ad 0)), (2, .int v2)]) hC dM_bind_165 (by decide) rfl ?_
      refine x_iconst (v := 0) hC dM_bind_167 (by decide) ?_
      refine x_istore (lv' := [(7, .int 0), (5, .long 9223372036854775807), (3, .long (-9223372036854775807)), (0, .ref (ad 0)), (2, .int v2)]) hC dM_bind_168 (by decide) rfl ?_
      obtain ⟨n_46, h⟩ := h
      refine x_lv [3, 4, 2, 1, 0] rfl ?_
      refine M_bind_L170_ok hC (fun v3_39 v5_40 h => ?_) n_46 (-9223372036854775807) 9223372036854775807 0 h
      refine x_aload_n hC dM_bind_291 rfl 0 rfl ?_
      refine x_get hC iM 0 wM_0 rfl 17 (by decide) k_m67 rfl rfl dM_bind_292 ?_
      refine x_iload_n hC dM_bind_295 rfl 1 rfl ?_
      refine x_lload_n hC dM_bind_296 rfl 2 rfl ?_
      refine x_lconst (v := 0) hC dM_bind_297 (by decide) ?_
      refine x_lcmp_le (tgt := 306) hC dM_bind_298 dM_bind_299 (by decide) (fun c_41 => ?_) (fun c_41 => ?_)
      · have h := h.1 c_41
        refine x_lload hC dM_bind_306 3 rfl ?_
        refine x_lconst (v := 0) hC dM_bind_308 (by decide) ?_
        refine x_lcmp_ge (tgt := 318) hC dM_bind_309 dM_bind_310 (by decide) (fun c_42 => ?_) (fun c_42 => ?_)
        · have h := h.1 c_42
          refine x_lconst (v := 0) hC dM_bind_318 (by decide) ?_
          obtain ⟨hb_43, h⟩ := h
          refine x_last (ws' := (wM ad cI cL cO mth msc mec msrc mitm mknd mplc mclk mnc mnf mns msd mrl mrow mw mb mway (vp_updL moff v2.toNatClampNeg 0))) hC 12 1 wM_12 rfl hb_43 wM_12_set dM_bind_319 ?_
          refine x_iinc (v := v2 + 1) (lv' := [(2, .int (v2 + 1)), (0, .ref (ad 0)), (3, .long v3_39), (5, .long v5_40)]) hC dM_bind_320 1 rfl rfl (by decide) rfl ?_
          refine x_goto (tgt := 152) hC dM_bind_323 (by decide) ?_
          refine x_lv [1, 0] rfl ?_
          exact ih (v2 + 1) (vp_updL moff v2.toNatClampNeg 0) h
        · have h := h.2 c_42
          refine x_lload hC dM_bind_313 3 rfl ?_
          refine x_goto (tgt := 319) hC dM_bind_315 (by decide) ?_
          obtain ⟨hb_44, h⟩ := h
          refine x_last (ws' := (wM ad cI cL cO mth msc mec msrc mitm mknd mplc mclk mnc mnf mns msd mrl mrow mw mb mway (vp_updL moff v2.toNatClampNeg v5_40))) hC 12 1 wM_12 rfl hb_44 wM_12_set dM_bind_319 ?_
          refine x_iinc (v := v2 + 1) (lv' := [(2, .int (v2 + 1)), (0, .ref (ad 0)), (3, .long v3_39), (5, .long v5_40)]) hC dM_bind_320 1 rfl rfl (by decide) rfl ?_
          refine x_goto (tgt := 152) hC dM_bind_323 (by decide) ?_
          refine x_lv [1, 0] rfl ?_
          exact ih (v2 + 1) (vp_updL moff v2.toNatClampNeg v5_40) h
      · have h := h.2 c_41
        refine x_lload_n hC dM_bind_302 rfl 2 rfl ?_
        refine x_goto (tgt := 319) hC dM_bind_303 (by decide) ?_
        obtain ⟨hb_45, h⟩ := h
        refine x_last (ws' := (wM ad cI cL cO mth msc mec msrc mitm mknd mplc mclk mnc mnf mns msd mrl mrow mw mb mway (vp_updL moff v2.toNatClampNeg v3_39))) hC 12 1 wM_12 rfl hb_45 wM_12_set dM_bind_319 ?_
        refine x_iinc (v := v2 + 1) (lv' := [(2, .int (v2 + 1)), (0, .ref (ad 0)), (3, .long v3_39), (5, .long v5_40)]) hC dM_bind_320 1 rfl rfl (by decide) rfl ?_
        refine x_goto (tgt := 152) hC dM_bind_323 (by decide) ?_
        refine x_lv [1, 0] rfl ?_
        exact ih (v2 + 1) (vp_updL moff v2.toNatClampNeg v3_39) h

set_option maxHeartbeats 4000000 in
set_option maxRecDepth 100000 in
theorem c_M_bind {l : Launch} {D : va_G} {ad : Nat → Nat} {cI cL cO : ClassId} {mth : Int32} {msc : Int32} {mec : Int32} {msrc : (Nat → Int32)} {mitm : (Nat → Int32)} {mknd : (Nat → Int32)} {mplc : (Nat → Int32)} {mclk : (Nat → Int64)} {mnc : Int32} {mnf : (Nat → Int32)} {mns : (Nat → Int32)} {msd : Int32} {mrl : Int32} {mrow : (Nat → Int32)} {mw : (Nat → Int64)} {mb : (Nat → Int64)} {mway : (Nat → Int64)} {moff : (Nat → Int64)} {Qr : ((Nat → Int64) × (Nat → Int64)) → Prop} (h : M_bind_wp mw mb moff Qr) (sz : Nat) : vx_Met l yM_bind (Cond.code yM_bind bM_bind 12 none :: TBL) rm_M_bind (va_Pc [.ref (ad 0)] (XP D vwCl (tysX cI cL cO) (wM ad cI cL cO mth msc mec msrc mitm mknd mplc mclk mnc mnf mns msd mrl mrow mw mb mway moff) sz)) (va_Qv Qr (fun u t => XB D vwCl (tysX cI cL cO) (va_A (wM ad cI cL cO mth msc mec msrc mitm mknd mplc mclk mnc mnf mns msd mrl mrow mw mb mway moff) sz) (wM ad cI cL cO mth msc mec msrc mitm mknd mplc mclk mnc mnf mns msd mrl mrow mw u.1 mway u.2) t) (va_A (wM ad cI cL cO mth msc mec msrc mitm mknd mplc mclk mnc mnf mns msd mrl mrow mw mb mway moff) sz)) (XT D vwCl (tysX cI cL cO) (va_A (wM ad cI cL cO mth msc mec msrc mitm mknd mplc mclk mnc mnf mns msd mrl mrow mw mb mway moff) sz) (wM ad cI cL cO mth msc mec msrc mitm mknd mplc mclk mnc mnf mns msd mrl mrow mw mb mway moff) (fun _ => False)) rm_M_bind.cells rm_M_bind.slots (va_A (wM ad cI cL cO mth msc mec msrc mitm mknd mplc mclk mnc mnf mns msd mrl mrow mw mb mway moff) sz) := by
  refine x_met [.ref (ad 0)] TBL_good (by decide) (Nat.le_of_ble_eq_true rfl) ?_
  intro p e s m args below meth c hC hr hlk hnm hnh
  have hret : ∀ (ce sl : Nat), ce ≤ rm_M_bind.cells → sl ≤ rm_M_bind.slots → ∀ (u : ((Nat → Int64) × (Nat → Int64))), Qr u → ∀ (pc : Nat) (lv : List (Nat × Value)), decode bM_bind pc = .ok (.return_, 1) → XW p l e rm_M_bind s m args below meth c D vwCl (va_A (wM ad cI cL cO mth msc mec msrc mitm mknd mplc mclk mnc mnf mns msd mrl mrow mw mb mway moff) sz) 12 (vx_MQ below (va_Qv Qr (fun u t => XB D vwCl (tysX cI cL cO) (va_A (wM ad cI cL cO mth msc mec msrc mitm mknd mplc mclk mnc mnf mns msd mrl mrow mw mb mway moff) sz) (wM ad cI cL cO mth msc mec msrc mitm mknd mplc mclk mnc mnf mns msd mrl mrow mw u.1 mway u.2) t) (va_A (wM ad cI cL cO mth msc mec msrc mitm mknd mplc mclk mnc mnf mns msd mrl mrow mw mb mway moff) sz)) (XT D vwCl (tysX cI cL cO) (va_A (wM ad cI cL cO mth msc mec msrc mitm mknd mplc mclk mnc mnf mns msd mrl mrow mw mb mway moff) sz) (wM ad cI cL cO mth msc mec msrc mitm mknd mplc mclk mnc mnf mns msd mrl mrow mw mb mway moff) (fun _ => False)) args s rm_M_bind.cells rm_M_bind.slots (va_A (wM ad cI cL cO mth msc mec msrc mitm mknd mplc mclk mnc mnf mns msd mrl mrow mw mb mway moff) sz)) ce sl (wM ad cI cL cO mth msc mec msrc mitm mknd mplc mclk mnc mnf mns msd mrl mrow mw u.1 mway u.2) pc lv [] := fun ce sl h1 h2 u hq pc lv hd => x_vret (wf := fun u => (wM ad cI cL cO mth msc mec msrc mitm mknd mplc mclk mnc mnf mns msd mrl mrow mw u.1 mway u.2)) hC h1 h2 hr hlk hd hq rfl
  show XW p l e rm_M_bind s m args below meth c D vwCl (va_A (wM ad cI cL cO mth msc mec msrc mitm mknd mplc mclk mnc mnf mns msd mrl mrow mw mb mway moff) sz) 12 _ 0 0 (wM ad cI cL cO mth msc mec msrc mitm mknd mplc mclk mnc mnf mns msd mrl mrow mw mb mway moff) 0 [(0, .ref (ad 0))] []
  unfold M_bind_wp at h
  refine x_iconst (v := 0) hC dM_bind_0 (by decide) ?_
  refine x_istore_n (lv' := [(1, .int 0), (0, .ref (ad 0))]) hC dM_bind_1 rfl (by decide) rfl ?_
  obtain ⟨n_50, h⟩ := h
  refine x_lv [1, 0] rfl ?_
  refine M_bind_L2_ok hC (fun mb_5 h => ?_) n_50 0 mb h
  refine x_iconst (v := 1) hC dM_bind_39 (by decide) ?_
  refine x_istore_n (lv' := [(1, .int 1), (0, .ref (ad 0))]) hC dM_bind_40 rfl (by decide) rfl ?_
  obtain ⟨n_49, h⟩ := h
  refine x_lv [1, 0] rfl ?_
  refine M_bind_L41_ok hC (fun mb_18 h => ?_) n_49 1 mb_5 h
  refine x_iconst (v := 0) hC dM_bind_150 (by decide) ?_
  refine x_istore_n (lv' := [(2, .int 0), (0, .ref (ad 0))]) hC dM_bind_151 rfl (by decide) rfl ?_
  obtain ⟨n_48, h⟩ := h
  refine x_lv [1, 0] rfl ?_
  refine M_bind_L152_ok hC (fun moff_47 h => ?_) n_48 0 moff h
  exact hret _ _ (by decide) (by decide) (mb_18, moff_47) h _ _ dM_bind_326

/-! EventOrderModel.settle()I -/
abbrev rm_M_settle : Room := { frames := 3, cells := 0, slots := 0, locals := 77 }
def M_settle_L21 (Qx : (Nat → Int64) → Prop) : Nat → Int32 → (Nat → Int64) → Prop
  | 0, _, _ => False
  | n + 1, v1, mway => ((256 ≤ v1 → Qx mway) ∧ (¬ 256 ≤ v1 → ((¬ (v1 / 16) = (v1 - v1 / 16 * 16) → vp_in v1 4352 ∧ M_settle_L21 Qx n (v1 + 1) (vp_updL mway v1.toNatClampNeg 9223372036854775807)) ∧ ((v1 / 16) = (v1 - v1 / 16 * 16) → vp_in v1 4352 ∧ M_settle_L21 Qx n (v1 + 1) (vp_updL mway v1.toNatClampNeg 0)))))

def M_settle_L73 (v1 : Int32) (mth : Int32) (msd : Int32) (mw : (Nat → Int64)) (mb : (Nat → Int64)) (mway : (Nat → Int64)) (moff : (Nat → Int64)) (Qr : Int32 → (Int32 × Int32 × Int32 × (Nat → Int32) × (Nat → Int64) × (Nat → Int64) × (Nat → Int64) × (Nat → Int64)) → Prop) (Qx : Int32 → (Nat → Int32) → Prop) : Nat → Int32 → Int32 → (Nat → Int32) → Prop
  | 0, _, _, _ => False
  | n + 1, v2, mrl, mrow => ((16 ≤ v2 → Qx mrl mrow) ∧ (¬ 16 ≤ v2 → vp_in (((256 * v1) + (16 * v2)) + v2) 4352 ∧ ((0 ≤ (mway (((256 * v1) + (16 * v2)) + v2).toNatClampNeg) → M_settle_L73 v1 mth msd mw mb mway moff Qr Qx n (v2 + 1) mrl mrow) ∧ (¬ 0 ≤ (mway (((256 * v1) + (16 * v2)) + v2).toNatClampNeg) → M_tellRing_wp mrl mrow mw mway v1 v2 (fun (u_15 : (Int32 × (Nat → Int32))) => Qr (-v1) (mth, msd, u_15.1, u_15.2, mw, mb, mway, moff))))))

def M_settle_L60 (mth : Int32) (msd : Int32) (mw : (Nat → Int64)) (mb : (Nat → Int64)) (moff : (Nat → Int64)) (Qr : Int32 → (Int32 × Int32 × Int32 × (Nat → Int32) × (Nat → Int64) × (Nat → Int64) × (Nat → Int64) × (Nat → Int64)) → Prop) (Qx : Int32 → (Nat → Int32) → (Nat → Int64) → Prop) : Nat → Int32 → Int32 → (Nat → Int32) → (Nat → Int64) → Prop
  | 0, _, _, _, _ => False
  | n + 1, v1, mrl, mrow, mway => ((16 < v1 → Qx mrl mrow mway) ∧ (¬ 16 < v1 → M_step_wp mw mway v1 (fun (u_10 : (Nat → Int64)) => (∃ n_18 : Nat, M_settle_L73 v1 mth msd mw mb u_10 moff Qr (fun (mrl_16 : Int32) (mrow_17 : (Nat → Int32)) => M_settle_L60 mth msd mw mb moff Qr Qx n (v1 + 1) mrl_16 mrow_17 u_10) n_18 0 mrl mrow))))

def M_settle_wp (mth : Int32) (msrc : (Nat → Int32)) (mclk : (Nat → Int64)) (mnc : Int32) (mnf : (Nat → Int32)) (mns : (Nat → Int32)) (msd : Int32) (mrl : Int32) (mrow : (Nat → Int32)) (mw : (Nat → Int64)) (mb : (Nat → Int64)) (mway : (Nat → Int64)) (moff : (Nat → Int64)) (Qr : Int32 → (Int32 × Int32 × Int32 × (Nat → Int32) × (Nat → Int64) × (Nat → Int64) × (Nat → Int64) × (Nat → Int64)) → Prop) : Prop := M_weigh_wp msrc mclk mnc mnf mns mw (fun (u_2 : (Nat → Int64)) => (∃ n_25 : Nat, M_settle_L21  (fun (mway_7 : (Nat → Int64)) => (∃ n_24 : Nat, M_settle_L60 0 0 u_2 mb moff Qr (fun (mrl_19 : Int32) (mrow_20 : (Nat → Int32)) (mway_21 : (Nat → Int64)) => M_bind_wp u_2 mb moff (fun (u_23 : ((Nat → Int64) × (Nat → Int64))) => Qr 1 (0, 1, mrl_19, mrow_20, u_2, u_23.1, mway_21, u_23.2))) n_24 1 0 mrow mway_7)) n_25 0 mway))
set_option maxHeartbeats 4000000 in
set_option maxRecDepth 100000 in
theorem M_settle_L21_ok {p : Program} {l : Launch} {e : Env} {s : State} {m : MethodId} {args : Array Value} {below : List Frame} {meth : Method} {c : Code} {Q : State → Prop} {D : va_G} {A : Nat → Prop} {ad : Nat → Nat} {cI cL cO : ClassId} {mth : Int32} {msc : Int32} {mec : Int32} {msrc : (Nat → Int32)} {mitm : (Nat → Int32)} {mknd : (Nat → Int32)} {mplc : (Nat → Int32)} {mclk : (Nat → Int64)} {mnc : Int32} {mnf : (Nat → Int32)} {mns : (Nat → Int32)} {msd : Int32} {mrl : Int32} {mrow : (Nat → Int32)} {mw : (Nat → Int64)} {mb : (Nat → Int64)} {moff : (Nat → Int64)} {Qx : (Nat → Int64) → Prop} (hC : XC p s m args c D vwCl (tysX cI cL cO) A 3 bM_settle TBL RM)  (hexit : ∀ (mway : (Nat → Int64)), Qx mway → XW p l e rm_M_settle s m args below meth c D vwCl A 3 Q 0 0 (wM ad cI cL cO mth msc mec msrc mitm mknd mplc mclk mnc mnf mns msd mrl mrow mw mb mway moff) 58 [(0, .ref (ad 0))] []) : ∀ (n : Nat) (v1 : Int32) (mway : (Nat → Int64)), M_settle_L21 Qx n v1 mway → XW p l e rm_M_settle s m args below meth c D vwCl A 3 Q 0 0 (wM ad cI cL cO mth msc mec msrc mitm mknd mplc mclk mnc mnf mns msd mrl mrow mw mb mway moff) 21 [(0, .ref (ad 0)), (1, .int v1)] [] := by
  intro n
  induction n with
  | zero => intro v1 mway h; exact False.elim h
  | succ n ih =>
    intro v1 mway h
    unfold M_settle_L21 at h
    refine x_iload_n hC dM_settle_21 rfl 1 rfl ?_
    refine x_sipush (v := 256) hC dM_settle_22 (by decide) ?_
    refine x_icmp_ge (tgt := 58) hC dM_settle_25 (by decide) (fun c_3 => ?_) (fun c_3 => ?_)
    · have h := h.1 c_3
      refine x_lv [0] rfl ?_
      exact hexit mway h
    · have h := h.2 c_3
      refine x_aload_n hC dM_settle_28 rfl 0 rfl ?_
      refine x_get hC iM 0 wM_0 rfl 16 (by decide) k_m45 rfl rfl dM_settle_29 ?_
      refine x_iload_n hC dM_settle_32 rfl 1 rfl ?_
      refine x_iload_n hC dM_settle_33 rfl 1 rfl ?_
      refine x_bipush (v := 16) hC dM_settle_34 (by decide) ?_
      refine x_idiv hC dM_settle_36 (by decide) ?_
      refine x_iload_n hC dM_settle_37 rfl 1 rfl ?_
      refine x_bipush (v := 16) hC dM_settle_38 (by decide) ?_
      refine x_irem hC dM_settle_40 (by decide) ?_
      refine x_icmp_ne (tgt := 48) hC dM_settle_41 (by decide) (fun c_4 => ?_) (fun c_4 => ?_)
      · have h := h.1 c_4
        refine x_ldc2 (v := 9223372036854775807) hC k_m44 dM_settle_48 ?_
        obtain ⟨hb_5, h⟩ := h
        refine x_last (ws' := (wM ad cI cL cO mth msc mec msrc mitm mknd mplc mclk mnc mnf mns msd mrl mrow mw mb (vp_updL mway v1.toNatClampNeg 9223372036854775807) moff)) hC 11 1 wM_11 rfl hb_5 wM_11_set dM_settle_51 ?_
        refine x_iinc (v := v1 + 1) (lv' := [(1, .int (v1 + 1)), (0, .ref (ad 0))]) hC dM_settle_52 1 rfl rfl (by decide) rfl ?_
        refine x_goto (tgt := 21) hC dM_settle_55 (by decide) ?_
        refine x_lv [1, 0] rfl ?_
        exact ih (v1 + 1) (vp_updL mway v1.toNatClampNeg 9223372036854775807) h
      · have h := h.2 c_4
        refine x_lconst (v := 0) hC dM_settle_44 (by decide) ?_
        refine x_goto (tgt := 51) hC dM_settle_45 (by decide) ?_
        obtain ⟨hb_6, h⟩ := h
        refine x_last (ws' := (wM ad cI cL cO mth msc mec msrc mitm mknd mplc mclk mnc mnf mns msd mrl mrow mw mb (vp_updL mway v1.toNatClampNeg 0) moff)) hC 11 1 wM_11 rfl hb_6 wM_11_set dM_settle_51 ?_
        refine x_iinc (v := v1 + 1) (lv' := [(1, .int (v1 + 1)), (0, .ref (ad 0))]) hC dM_settle_52 1 rfl rfl (by decide) rfl ?_
        refine x_goto (tgt := 21) hC dM_settle_55 (by decide) ?_
        refine x_lv [1, 0] rfl ?_
        exact ih (v1 + 1) (vp_updL mway v1.toNatClampNeg 0) h

set_option maxHeartbeats 4000000 in
set_option maxRecDepth 100000 in
theorem M_settle_L73_ok {p : Program} {l : Launch} {e : Env} {s : State} {m : MethodId} {args : Array Value} {below : List Frame} {meth : Method} {c : Code} {Q : State → Prop} {D : va_G} {A : Nat → Prop} {ad : Nat → Nat} {cI cL cO : ClassId} {mth : Int32} {msc : Int32} {mec : Int32} {msrc : (Nat → Int32)} {mitm : (Nat → Int32)} {mknd : (Nat → Int32)} {mplc : (Nat → Int32)} {mclk : (Nat → Int64)} {mnc : Int32} {mnf : (Nat → Int32)} {mns : (Nat → Int32)} {msd : Int32} {mw : (Nat → Int64)} {mb : (Nat → Int64)} {mway : (Nat → Int64)} {moff : (Nat → Int64)} {v1 : Int32} {Qr : Int32 → (Int32 × Int32 × Int32 × (Nat → Int32) × (Nat → Int64) × (Nat → Int64) × (Nat → Int64) × (Nat → Int64)) → Prop} {Qx : Int32 → (Nat → Int32) → Prop} (hC : XC p s m args c D vwCl (tysX cI cL cO) A 3 bM_settle TBL RM) (hret : ∀ (r : Int32) (u : (Int32 × Int32 × Int32 × (Nat → Int32) × (Nat → Int64) × (Nat → Int64) × (Nat → Int64) × (Nat → Int64))), Qr r u → ∀ (pc : Nat) (lv : List (Nat × Value)), decode bM_settle pc = .ok (.ireturn, 1) → XW p l e rm_M_settle s m args below meth c D vwCl A 3 Q 0 0 (wM ad cI cL cO u.1 msc mec msrc mitm mknd mplc mclk mnc mnf mns u.2.1 u.2.2.1 u.2.2.2.1 u.2.2.2.2.1 u.2.2.2.2.2.1 u.2.2.2.2.2.2.1 u.2.2.2.2.2.2.2) pc lv [.int r]) (hexit : ∀ (mrl : Int32) (mrow : (Nat → Int32)), Qx mrl mrow → XW p l e rm_M_settle s m args below meth c D vwCl A 3 Q 0 0 (wM ad cI cL cO mth msc mec msrc mitm mknd mplc mclk mnc mnf mns msd mrl mrow mw mb mway moff) 116 [(0, .ref (ad 0)), (1, .int v1)] []) : ∀ (n : Nat) (v2 : Int32) (mrl : Int32) (mrow : (Nat → Int32)), M_settle_L73 v1 mth msd mw mb mway moff Qr Qx n v2 mrl mrow → XW p l e rm_M_settle s m args below meth c D vwCl A 3 Q 0 0 (wM ad cI cL cO mth msc mec msrc mitm mknd mplc mclk mnc mnf mns msd mrl mrow mw mb mway moff) 73 [(0, .ref (ad 0)), (1, .int v1), (2, .int v2)] [] := by
  intro n
  induction n with
  | zero => intro v2 mrl mrow h; exact False.elim h
  | succ n ih =>
    intro v2 mrl mrow h
    unfold M_settle_L73 at h
    refine x_iload_n hC dM_settle_73 rfl 2 rfl ?_
    refine x_bipush (v := 16) hC dM_settle_74 (by decide) ?_
    refine x_icmp_ge (tgt := 116) hC dM_settle_76 (by decide) (fun c_11 => ?_) (fun c_11 => ?_)
    · have h := h.1 c_11
      refine x_lv [0, 1] rfl ?_
      exact hexit mrl mrow h
    · have h := h.2 c_11
      refine x_aload_n hC dM_settle_79 rfl 0 rfl ?_
      refine x_get hC iM 0 wM_0 rfl 16 (by decide) k_m45 rfl rfl dM_settle_80 ?_
      refine x_sipush (v := 256) hC dM_settle_83 (by decide) ?_
      refine x_iload_n hC dM_settle_86 rfl 1 rfl ?_
      refine x_imul hC dM_settle_87 ?_
      refine x_bipush (v := 16) hC dM_settle_88 (by decide) ?_
      refine x_iload_n hC dM_settle_90 rfl 2 rfl ?_
      refine x_imul hC dM_settle_91 ?_
      refine x_iadd hC dM_settle_92 ?_
      refine x_iload_n hC dM_settle_93 rfl 2 rfl ?_
      refine x_iadd hC dM_settle_94 ?_
      obtain ⟨hb_12, h⟩ := h
      refine x_lald hC 11 1 wM_11 rfl hb_12 dM_settle_95 ?_
      refine x_lconst (v := 0) hC dM_settle_96 (by decide) ?_
      refine x_lcmp_ge (tgt := 110) hC dM_settle_97 dM_settle_98 (by decide) (fun c_13 => ?_) (fun c_13 => ?_)
      · have h := h.1 c_13
        refine x_iinc (v := v2 + 1) (lv' := [(2, .int (v2 + 1)), (0, .ref (ad 0)), (1, .int v1)]) hC dM_settle_110 2 rfl rfl (by decide) rfl ?_
        refine x_goto (tgt := 73) hC dM_settle_113 (by decide) ?_
        refine x_lv [1, 2, 0] rfl ?_
        exact ih (v2 + 1) mrl mrow h
      · have h := h.2 c_13
        refine x_aload_n hC dM_settle_101 rfl 0 rfl ?_
        refine x_iload_n hC dM_settle_102 rfl 1 rfl ?_
        refine x_iload_n hC dM_settle_103 rfl 2 rfl ?_
        refine x_callVv (S := (Int32 × (Nat → Int32))) (wf := fun u => (wM ad cI cL cO mth msc mec msrc mitm mknd mplc mclk mnc mnf mns msd u.1 u.2 mw mb mway moff)) hC [.int v1, .int v2] (fun sz => c_M_tellRing h sz) (by decide) (by decide) k_m55 k_m56 k_m57 (by decide) 2 rfl (by decide +kernel) ⟨by decide, by decide⟩ (Nat.le_of_ble_eq_true rfl) k_m58 k_m59 wM_0 rfl rfl dM_settle_104 (fun _ h9 => h9) (fun u_15 h => ?_)
        refine x_iload_n hC dM_settle_107 rfl 1 rfl ?_
        refine x_ineg hC dM_settle_108 ?_
        exact hret (-v1) (mth, msd, u_15.1, u_15.2, mw, mb, mway, moff) h _ _ dM_settle_109

set_option maxHeartbeats 4000000 in
set_option maxRecDepth 100000 in
theorem M_settle_L60_ok {p : Program} {l : Launch} {e : Env} {s : State} {m : MethodId} {args : Array Value} {below : List Frame} {meth : Method} {c : Code} {Q : State → Prop} {D : va_G} {A : Nat → Prop} {ad : Nat → Nat} {cI cL cO : ClassId} {mth : Int32} {msc : Int32} {mec : Int32} {msrc : (Nat → Int32)} {mitm : (Nat → Int32)} {mknd : (Nat → Int32)} {mplc : (Nat → Int32)} {mclk : (Nat → Int64)} {mnc : Int32} {mnf : (Nat → Int32)} {mns : (Nat → Int32)} {msd : Int32} {mw : (Nat → Int64)} {mb : (Nat → Int64)} {moff : (Nat → Int64)} {Qr : Int32 → (Int32 × Int32 × Int32 × (Nat → Int32) × (Nat → Int64) × (Nat → Int64) × (Nat → Int64) × (Nat → Int64)) → Prop} {Qx : Int32 → (Nat → Int32) → (Nat → Int64) → Prop} (hC : XC p s m args c D vwCl (tysX cI cL cO) A 3 bM_settle TBL RM) (hret : ∀ (r : Int32) (u : (Int32 × Int32 × Int32 × (Nat → Int32) × (Nat → Int64) × (Nat → Int64) × (Nat → Int64) × (Nat → Int64))), Qr r u → ∀ (pc : Nat) (lv : List (Nat × Value)), decode bM_settle pc = .ok (.ireturn, 1) → XW p l e rm_M_settle s m args below meth c D vwCl A 3 Q 0 0 (wM ad cI cL cO u.1 msc mec msrc mitm mknd mplc mclk mnc mnf mns u.2.1 u.2.2.1 u.2.2.2.1 u.2.2.2.2.1 u.2.2.2.2.2.1 u.2.2.2.2.2.2.1 u.2.2.2.2.2.2.2) pc lv [.int r]) (hexit : ∀ (mrl : Int32) (mrow : (Nat → Int32)) (mway : (Nat → Int64)), Qx mrl mrow mway → XW p l e rm_M_settle s m args below meth c D vwCl A 3 Q 0 0 (wM ad cI cL cO mth msc mec msrc mitm mknd mplc mclk mnc mnf mns msd mrl mrow mw mb mway moff) 122 [(0, .ref (ad 0))] []) : ∀ (n : Nat) (v1 : Int32) (mrl : Int32) (mrow : (Nat → Int32)) (mway : (Nat → Int64)), M_settle_L60 mth msd mw mb moff Qr Qx n v1 mrl mrow mway → XW p l e rm_M_settle s m args below meth c D vwCl A 3 Q 0 0 (wM ad cI cL cO mth msc mec msrc mitm mknd mplc mclk mnc mnf mns msd mrl mrow mw mb mway moff) 60 [(0, .ref (ad 0)), (1, .int v1)] [] := by
  intro n
  induction n with
  | zero => intro v1 mrl mrow mway h; exact False.elim h
  | succ n ih =>
    intro v1 mrl mrow mway h
    unfold M_settle_L60 at h
    refine x_iload_n hC dM_settle_60 rfl 1 rfl ?_
    refine x_bipush (v := 16) hC dM_settle_61 (by decide) ?_
    refine x_icmp_gt (tgt := 122) hC dM_settle_63 (by decide) (fun c_8 => ?_) (fun c_8 => ?_)
    · have h := h.1 c_8
      refine x_lv [0] rfl ?_
      exact hexit mrl mrow mway h
    · have h := h.2 c_8
      refine x_aload_n hC dM_settle_66 rfl 0 rfl ?_
      refine x_iload_n hC dM_settle_67 rfl 1 rfl ?_
      refine x_callVv (S := (Nat → Int64)) (wf := fun u => (wM ad cI cL cO mth msc mec msrc mitm mknd mplc mclk mnc mnf mns msd mrl mrow mw mb u moff)) hC [.int v1] (fun sz => c_M_step h sz) (by decide) (by decide) k_m60 k_m61 k_m62 (by decide) 1 rfl (by decide +kernel) ⟨by decide, by decide⟩ (Nat.le_of_ble_eq_true rfl) k_m63 k_m64 wM_0 rfl rfl dM_settle_68 (fun _ h9 => h9) (fun u_10 h => ?_)
      refine x_iconst (v := 0) hC dM_settle_71 (by decide) ?_
      refine x_istore_n (lv' := [(2, .int 0), (0, .ref (ad 0)), (1, .int v1)]) hC dM_settle_72 rfl (by decide) rfl ?_
      obtain ⟨n_18, h⟩ := h
      refine x_lv [1, 2, 0] rfl ?_
      refine M_settle_L73_ok hC hret (fun mrl_16 mrow_17 h => ?_) n_18 0 mrl mrow h
      refine x_iinc (v := v1 + 1) (lv' := [(1, .int (v1 + 1)), (0, .ref (ad 0))]) hC dM_settle_116 1 rfl rfl (by decide) rfl ?_
      refine x_goto (tgt := 60) hC dM_settle_119 (by decide) ?_
      refine x_lv [1, 0] rfl ?_
      exact ih (v1 + 1) mrl_16 mrow_17 u_10 h

set_option maxHeartbeats 4000000 in
set_option maxRecDepth 100000 in
theorem c_M_settle {l : Launch} {D : va_G} {ad : Nat → Nat} {cI cL cO : ClassId} {mth : Int32} {msc : Int32} {mec : Int32} {msrc : (Nat → Int32)} {mitm : (Nat → Int32)} {mknd : (Nat → Int32)} {mplc : (Nat → Int32)} {mclk : (Nat → Int64)} {mnc : Int32} {mnf : (Nat → Int32)} {mns : (Nat → Int32)} {msd : Int32} {mrl : Int32} {mrow : (Nat → Int32)} {mw : (Nat → Int64)} {mb : (Nat → Int64)} {mway : (Nat → Int64)} {moff : (Nat → Int64)} {Qr : Int32 → (Int32 × Int32 × Int32 × (Nat → Int32) × (Nat → Int64) × (Nat → Int64) × (Nat → Int64) × (Nat → Int64)) → Prop} (h : M_settle_wp mth msrc mclk mnc mnf mns msd mrl mrow mw mb mway moff Qr) (sz : Nat) : vx_Met l yM_settle (Cond.code yM_settle bM_settle 3 (some .int) :: TBL) rm_M_settle (va_Pc [.ref (ad 0)] (XP D vwCl (tysX cI cL cO) (wM ad cI cL cO mth msc mec msrc mitm mknd mplc mclk mnc mnf mns msd mrl mrow mw mb mway moff) sz)) (va_Qi Qr (fun u t => XB D vwCl (tysX cI cL cO) (va_A (wM ad cI cL cO mth msc mec msrc mitm mknd mplc mclk mnc mnf mns msd mrl mrow mw mb mway moff) sz) (wM ad cI cL cO u.1 msc mec msrc mitm mknd mplc mclk mnc mnf mns u.2.1 u.2.2.1 u.2.2.2.1 u.2.2.2.2.1 u.2.2.2.2.2.1 u.2.2.2.2.2.2.1 u.2.2.2.2.2.2.2) t) (va_A (wM ad cI cL cO mth msc mec msrc mitm mknd mplc mclk mnc mnf mns msd mrl mrow mw mb mway moff) sz)) (XT D vwCl (tysX cI cL cO) (va_A (wM ad cI cL cO mth msc mec msrc mitm mknd mplc mclk mnc mnf mns msd mrl mrow mw mb mway moff) sz) (wM ad cI cL cO mth msc mec msrc mitm mknd mplc mclk mnc mnf mns msd mrl mrow mw mb mway moff) (fun _ => False)) rm_M_settle.cells rm_M_settle.slots (va_A (wM ad cI cL cO mth msc mec msrc mitm mknd mplc mclk mnc mnf mns msd mrl mrow mw mb mway moff) sz) := by
  refine x_met [.ref (ad 0)] TBL_good (by decide) (Nat.le_of_ble_eq_true rfl) ?_
  intro p e s m args below meth c hC hr hlk hnm hnh
  have hret : ∀ (ce sl : Nat), ce ≤ rm_M_settle.cells → sl ≤ rm_M_settle.slots → ∀ (r : Int32) (u : (Int32 × Int32 × Int32 × (Nat → Int32) × (Nat → Int64) × (Nat → Int64) × (Nat → Int64) × (Nat → Int64))), Qr r u → ∀ (pc : Nat) (lv : List (Nat × Value)), decode bM_settle pc = .ok (.ireturn, 1) → XW p l e rm_M_settle s m args below meth c D vwCl (va_A (wM ad cI cL cO mth msc mec msrc mitm mknd mplc mclk mnc mnf mns msd mrl mrow mw mb mway moff) sz) 3 (vx_MQ below (va_Qi Qr (fun u t => XB D vwCl (tysX cI cL cO) (va_A (wM ad cI cL cO mth msc mec msrc mitm mknd mplc mclk mnc mnf mns msd mrl mrow mw mb mway moff) sz) (wM ad cI cL cO u.1 msc mec msrc mitm mknd mplc mclk mnc mnf mns u.2.1 u.2.2.1 u.2.2.2.1 u.2.2.2.2.1 u.2.2.2.2.2.1 u.2.2.2.2.2.2.1 u.2.2.2.2.2.2.2) t) (va_A (wM ad cI cL cO mth msc mec msrc mitm mknd mplc mclk mnc mnf mns msd mrl mrow mw mb mway moff) sz)) (XT D vwCl (tysX cI cL cO) (va_A (wM ad cI cL cO mth msc mec msrc mitm mknd mplc mclk mnc mnf mns msd mrl mrow mw mb mway moff) sz) (wM ad cI cL cO mth msc mec msrc mitm mknd mplc mclk mnc mnf mns msd mrl mrow mw mb mway moff) (fun _ => False)) args s rm_M_settle.cells rm_M_settle.slots (va_A (wM ad cI cL cO mth msc mec msrc mitm mknd mplc mclk mnc mnf mns msd mrl mrow mw mb mway moff) sz)) ce sl (wM ad cI cL cO u.1 msc mec msrc mitm mknd mplc mclk mnc mnf mns u.2.1 u.2.2.1 u.2.2.2.1 u.2.2.2.2.1 u.2.2.2.2.2.1 u.2.2.2.2.2.2.1 u.2.2.2.2.2.2.2) pc lv [.int r] := fun ce sl h1 h2 r u hq pc lv hd => x_iret (wf := fun u => (wM ad cI cL cO u.1 msc mec msrc mitm mknd mplc mclk mnc mnf mns u.2.1 u.2.2.1 u.2.2.2.1 u.2.2.2.2.1 u.2.2.2.2.2.1 u.2.2.2.2.2.2.1 u.2.2.2.2.2.2.2)) hC h1 h2 hr hlk hd hq rfl
  show XW p l e rm_M_settle s m args below meth c D vwCl (va_A (wM ad cI cL cO mth msc mec msrc mitm mknd mplc mclk mnc mnf mns msd mrl mrow mw mb mway moff) sz) 3 _ 0 0 (wM ad cI cL cO mth msc mec msrc mitm mknd mplc mclk mnc mnf mns msd mrl mrow mw mb mway moff) 0 [(0, .ref (ad 0))] []
  unfold M_settle_wp at h
  refine x_aload_n hC dM_settle_0 rfl 0 rfl ?_
  refine x_iconst (v := 0) hC dM_settle_1 (by decide) ?_
  refine x_put (ty := .int) (ws' := (wM ad cI cL cO 0 msc mec msrc mitm mknd mplc mclk mnc mnf mns msd mrl mrow mw mb mway moff)) hC iM 0 wM_0 rfl 0 (by decide) k_m0 rfl tM tM_ok nM rfl (by decide +kernel) rfl rfl (Nat.le_of_ble_eq_true rfl) rfl dM_settle_2 ?_
  refine x_aload_n hC dM_settle_5 rfl 0 rfl ?_
  refine x_callVv (S := (Nat → Int64)) (wf := fun u => (wM ad cI cL cO 0 msc mec msrc mitm mknd mplc mclk mnc mnf mns msd mrl mrow u mb mway moff)) hC [] (fun sz => c_M_weigh h sz) (by decide) (by decide) k_m73 k_m74 k_m75 (by decide) 0 rfl (by decide +kernel) ⟨by decide, by decide⟩ (Nat.le_of_ble_eq_true rfl) k_m76 k_m77 wM_0 rfl rfl dM_settle_6 (fun _ h9 => h9) (fun u_2 h => ?_)
  refine x_aload_n hC dM_settle_9 rfl 0 rfl ?_
  refine x_iconst (v := 0) hC dM_settle_10 (by decide) ?_
  refine x_put (ty := .int) (ws' := (wM ad cI cL cO 0 msc mec msrc mitm mknd mplc mclk mnc mnf mns msd 0 mrow u_2 mb mway moff)) hC iM 0 wM_0 rfl 12 (by decide) k_m40 rfl tM tM_ok nM rfl (by decide +kernel) rfl rfl (Nat.le_of_ble_eq_true rfl) rfl dM_settle_11 ?_
  refine x_aload_n hC dM_settle_14 rfl 0 rfl ?_
  refine x_iconst (v := 0) hC dM_settle_15 (by decide) ?_
  refine x_put (ty := .boolean) (ws' := (wM ad cI cL cO 0 msc mec msrc mitm mknd mplc mclk mnc mnf mns 0 0 mrow u_2 mb mway moff)) hC iM 0 wM_0 rfl 11 (by decide) k_m2 rfl tM tM_ok nM rfl (by decide +kernel) rfl rfl (Nat.le_of_ble_eq_true rfl) rfl dM_settle_16 ?_
  refine x_iconst (v := 0) hC dM_settle_19 (by decide) ?_
  refine x_istore_n (lv' := [(1, .int 0), (0, .ref (ad 0))]) hC dM_settle_20 rfl (by decide) rfl ?_
  obtain ⟨n_25, h⟩ := h
  refine x_lv [1, 0] rfl ?_
  refine M_settle_L21_ok hC (fun mway_7 h => ?_) n_25 0 mway h
  refine x_iconst (v := 1) hC dM_settle_58 (by decide) ?_
  refine x_istore_n (lv' := [(1, .int 1), (0, .ref (ad 0))]) hC dM_settle_59 rfl (by decide) rfl ?_
  obtain ⟨n_24, h⟩ := h
  refine x_lv [1, 0] rfl ?_
  refine M_settle_L60_ok hC (hret _ _ (by decide) (by decide)) (fun mrl_19 mrow_20 mway_21 h => ?_) n_24 1 0 mrow mway_7 h
  refine x_aload_n hC dM_settle_122 rfl 0 rfl ?_
  refine x_callVv (S := ((Nat → Int64) × (Nat → Int64))) (wf := fun u => (wM ad cI cL cO 0 msc mec msrc mitm mknd mplc mclk mnc mnf mns 0 mrl_19 mrow_20 u_2 u.1 mway_21 u.2)) hC [] (fun sz => c_M_bind h sz) (by decide) (by decide) k_m68 k_m69 k_m70 (by decide) 0 rfl (by decide +kernel) ⟨by decide, by decide⟩ (Nat.le_of_ble_eq_true rfl) k_m71 k_m72 wM_0 rfl rfl dM_settle_123 (fun _ h9 => h9) (fun u_23 h => ?_)
  refine x_aload_n hC dM_settle_126 rfl 0 rfl ?_
  refine x_iconst (v := 1) hC dM_settle_127 (by decide) ?_
  refine x_put (ty := .boolean) (ws' := (wM ad cI cL cO 0 msc mec msrc mitm mknd mplc mclk mnc mnf mns 1 mrl_19 mrow_20 u_2 u_23.1 mway_21 u_23.2)) hC iM 0 wM_0 rfl 11 (by decide) k_m2 rfl tM tM_ok nM rfl (by decide +kernel) rfl rfl (Nat.le_of_ble_eq_true rfl) rfl dM_settle_128 ?_
  refine x_iconst (v := 1) hC dM_settle_131 (by decide) ?_
  exact hret _ _ (by decide) (by decide) 1 (0, 1, mrl_19, mrow_20, u_2, u_23.1, mway_21, u_23.2) h _ _ dM_settle_132

