/-! EventOrder$Limits.weigh(ILEventOrder$Events;LEventOrder$Needs;)V -/
abbrev rm_Limits_weigh_1_7 : Room := { frames := 1, cells := 0, slots := 0, locals := 40 }
def Limits_weigh_1_7_L12 (v1 : Int32) (v4 : Int32) (Qx : (Nat → Nat → Int64) → Prop) : Nat → Int32 → (Nat → Nat → Int64) → Prop
  | 0, _, _ => False
  | n + 1, v5, wt => ((v1 ≤ v5 → Qx wt) ∧ (¬ v1 ≤ v5 → vp_in v4 16 ∧ vp_in v5 16 ∧ Limits_weigh_1_7_L12 v1 v4 Qx n (v5 + 1) (va_up wt v4.toNatClampNeg (vp_updL (wt v4.toNatClampNeg) v5.toNatClampNeg 9223372036854775807))))

def Limits_weigh_1_7_L3 (v1 : Int32) (Qx : (Nat → Nat → Int64) → Prop) : Nat → Int32 → (Nat → Nat → Int64) → Prop
  | 0, _, _ => False
  | n + 1, v4, wt => ((v1 ≤ v4 → Qx wt) ∧ (¬ v1 ≤ v4 → (∃ n_6 : Nat, Limits_weigh_1_7_L12 v1 v4 (fun (wt_5 : (Nat → Nat → Int64)) => Limits_weigh_1_7_L3 v1 Qx n (v4 + 1) wt_5) n_6 0 wt)))

def Limits_weigh_1_7_L46 (src : (Nat → Int32)) (clk : (Nat → Int64)) (nf : (Nat → Int32)) (ns : (Nat → Int32)) (nc : Int32) (Qx : (Nat → Nat → Int64) → Prop) : Nat → Int32 → (Nat → Nat → Int64) → Prop
  | 0, _, _ => False
  | n + 1, v4, wt => ((nc ≤ v4 → Qx wt) ∧ (¬ nc ≤ v4 → vp_in v4 300 ∧ vp_in v4 300 ∧ vp_in (nf v4.toNatClampNeg) 301 ∧ vp_in (ns v4.toNatClampNeg) 301 ∧ vp_in (ns v4.toNatClampNeg) 301 ∧ vp_in (nf v4.toNatClampNeg) 301 ∧ vp_in (src (nf v4.toNatClampNeg).toNatClampNeg) 16 ∧ vp_in (src (nf v4.toNatClampNeg).toNatClampNeg) 16 ∧ vp_in (src (ns v4.toNatClampNeg).toNatClampNeg) 16 ∧ vp_in (src (ns v4.toNatClampNeg).toNatClampNeg) 16 ∧ Limits_weigh_1_7_L46 src clk nf ns nc Qx n (v4 + 1) (va_up wt ((src (nf v4.toNatClampNeg).toNatClampNeg).toNatClampNeg) (vp_updL (wt ((src (nf v4.toNatClampNeg).toNatClampNeg).toNatClampNeg)) (src (ns v4.toNatClampNeg).toNatClampNeg).toNatClampNeg (if (((clk (ns v4.toNatClampNeg).toNatClampNeg) - (clk (nf v4.toNatClampNeg).toNatClampNeg)) - 1) < ((wt ((src (nf v4.toNatClampNeg).toNatClampNeg).toNatClampNeg)) (src (ns v4.toNatClampNeg).toNatClampNeg).toNatClampNeg) then (((clk (ns v4.toNatClampNeg).toNatClampNeg) - (clk (nf v4.toNatClampNeg).toNatClampNeg)) - 1) else ((wt ((src (nf v4.toNatClampNeg).toNatClampNeg).toNatClampNeg)) (src (ns v4.toNatClampNeg).toNatClampNeg).toNatClampNeg))))))

def Limits_weigh_1_7_wp (src : (Nat → Int32)) (clk : (Nat → Int64)) (nf : (Nat → Int32)) (ns : (Nat → Int32)) (nc : Int32) (wt : (Nat → Nat → Int64)) (a1 : Int32) (Qr : (Nat → Nat → Int64) → Prop) : Prop := (∃ n_21 : Nat, Limits_weigh_1_7_L3 a1 (fun (wt_7 : (Nat → Nat → Int64)) => (∃ n_20 : Nat, Limits_weigh_1_7_L46 src clk nf ns nc (fun (wt_19 : (Nat → Nat → Int64)) => Qr wt_19) n_20 0 wt_7)) n_21 0 wt)
set_option maxHeartbeats 4000000 in
set_option maxRecDepth 100000 in
theorem Limits_weigh_1_7_L12_ok {p : Program} {l : Launch} {e : Env} {s : State} {m : MethodId} {args : Array Value} {below : List Frame} {meth : Method} {c : Code} {Q : State → Prop} {D : va_G} {A : Nat → Prop} {ad : Nat → Nat} {cI cL cO : ClassId} {sc : Int32} {sd : Int32} {src : (Nat → Int32)} {itm : (Nat → Int32)} {knd : (Nat → Int32)} {plc : (Nat → Int32)} {clk : (Nat → Int64)} {ec : Int32} {nf : (Nat → Int32)} {ns : (Nat → Int32)} {nc : Int32} {bd : (Nat → Nat → Int64)} {off : (Nat → Int64)} {row : (Nat → Int32)} {hw : (Nat → Nat → Int64)} {rl : Int32} {tm : (Nat → Int64)} {ord : (Nat → Int32)} {tc : Int32} {v1 : Int32} {v4 : Int32} {Qx : (Nat → Nat → Int64) → Prop} (hC : XC p s m args c D vwCl (tysX cI cL cO) A 11 bLi_weigh TBL RLi)  (hexit : ∀ (wt : (Nat → Nat → Int64)), Qx wt → XW p l e rm_Limits_weigh_1_7 s m args below meth c D vwCl A 11 Q 0 0 (wX ad cI cL cO sc sd src itm knd plc clk ec nf ns nc wt bd off row hw rl tm ord tc) 37 [(0, .ref (ad 10)), (1, .int v1), (2, .ref (ad 1)), (3, .ref (ad 7)), (4, .int v4)] []) : ∀ (n : Nat) (v5 : Int32) (wt : (Nat → Nat → Int64)), Limits_weigh_1_7_L12 v1 v4 Qx n v5 wt → XW p l e rm_Limits_weigh_1_7 s m args below meth c D vwCl A 11 Q 0 0 (wX ad cI cL cO sc sd src itm knd plc clk ec nf ns nc wt bd off row hw rl tm ord tc) 12 [(0, .ref (ad 10)), (1, .int v1), (2, .ref (ad 1)), (3, .ref (ad 7)), (4, .int v4), (5, .int v5)] [] := by
  intro n
  induction n with
  | zero => intro v5 wt h; exact False.elim h
  | succ n ih =>
    intro v5 wt h
    unfold Limits_weigh_1_7_L12 at h
    refine x_iload hC dLi_weigh_12 5 rfl ?_
    refine x_iload_n hC dLi_weigh_14 rfl 1 rfl ?_
    refine x_icmp_ge (tgt := 37) hC dLi_weigh_15 (by decide) (fun c_2 => ?_) (fun c_2 => ?_)
    · have h := h.1 c_2
      refine x_lv [0, 1, 2, 3, 4] rfl ?_
      exact hexit wt h
    · have h := h.2 c_2
      refine x_aload_n hC dLi_weigh_18 rfl 0 rfl ?_
      refine x_get hC iLi 10 wX_10 rfl 0 (by decide) k_x9 rfl rfl dLi_weigh_19 ?_
      refine x_iload hC dLi_weigh_22 4 rfl ?_
      obtain ⟨hb_3, h⟩ := h
      refine x_aald (y := ad (20 + v4.toNatClampNeg)) hC 11 2 wX_11 rfl rfl hb_3 rfl dLi_weigh_24 ?_
      refine x_iload hC dLi_weigh_25 5 rfl ?_
      refine x_ldc2 (v := 9223372036854775807) hC k_x10 dLi_weigh_27 ?_
      obtain ⟨hb_4, h⟩ := h
      refine x_last (ws' := (wX ad cI cL cO sc sd src itm knd plc clk ec nf ns nc (va_up wt v4.toNatClampNeg (vp_updL (wt v4.toNatClampNeg) v5.toNatClampNeg 9223372036854775807)) bd off row hw rl tm ord tc)) hC (20 + v4.toNatClampNeg) 1 (wX_wt (x_in_lt hb_3)) rfl hb_4 (wX_wt_set (x_in_lt hb_3)) dLi_weigh_30 ?_
      refine x_iinc (v := v5 + 1) (lv' := [(5, .int (v5 + 1)), (0, .ref (ad 10)), (1, .int v1), (2, .ref (ad 1)), (3, .ref (ad 7)), (4, .int v4)]) hC dLi_weigh_31 5 rfl rfl (by decide) rfl ?_
      refine x_goto (tgt := 12) hC dLi_weigh_34 (by decide) ?_
      refine x_lv [1, 2, 3, 4, 5, 0] rfl ?_
      exact ih (v5 + 1) (va_up wt v4.toNatClampNeg (vp_updL (wt v4.toNatClampNeg) v5.toNatClampNeg 9223372036854775807)) h

set_option maxHeartbeats 4000000 in
set_option maxRecDepth 100000 in
theorem Limits_weigh_1_7_L3_ok {p : Program} {l : Launch} {e : Env} {s : State} {m : MethodId} {args : Array Value} {below : List Frame} {meth : Method} {c : Code} {Q : State → Prop} {D : va_G} {A : Nat → Prop} {ad : Nat → Nat} {cI cL cO : ClassId} {sc : Int32} {sd : Int32} {src : (Nat → Int32)} {itm : (Nat → Int32)} {knd : (Nat → Int32)} {plc : (Nat → Int32)} {clk : (Nat → Int64)} {ec : Int32} {nf : (Nat → Int32)} {ns : (Nat → Int32)} {nc : Int32} {bd : (Nat → Nat → Int64)} {off : (Nat → Int64)} {row : (Nat → Int32)} {hw : (Nat → Nat → Int64)} {rl : Int32} {tm : (Nat → Int64)} {ord : (Nat → Int32)} {tc : Int32} {v1 : Int32} {Qx : (Nat → Nat → Int64) → Prop} (hC : XC p s m args c D vwCl (tysX cI cL cO) A 11 bLi_weigh TBL RLi)  (hexit : ∀ (wt : (Nat → Nat → Int64)), Qx wt → XW p l e rm_Limits_weigh_1_7 s m args below meth c D vwCl A 11 Q 0 0 (wX ad cI cL cO sc sd src itm knd plc clk ec nf ns nc wt bd off row hw rl tm ord tc) 43 [(0, .ref (ad 10)), (2, .ref (ad 1)), (3, .ref (ad 7))] []) : ∀ (n : Nat) (v4 : Int32) (wt : (Nat → Nat → Int64)), Limits_weigh_1_7_L3 v1 Qx n v4 wt → XW p l e rm_Limits_weigh_1_7 s m args below meth c D vwCl A 11 Q 0 0 (wX ad cI cL cO sc sd src itm knd plc clk ec nf ns nc wt bd off row hw rl tm ord tc) 3 [(0, .ref (ad 10)), (1, .int v1), (2, .ref (ad 1)), (3, .ref (ad 7)), (4, .int v4)] [] := by
  intro n
  induction n with
  | zero => intro v4 wt h; exact False.elim h
  | succ n ih =>
    intro v4 wt h
    unfold Limits_weigh_1_7_L3 at h
    refine x_iload hC dLi_weigh_3 4 rfl ?_
    refine x_iload_n hC dLi_weigh_5 rfl 1 rfl ?_
    refine x_icmp_ge (tgt := 43) hC dLi_weigh_6 (by decide) (fun c_1 => ?_) (fun c_1 => ?_)
    · have h := h.1 c_1
      refine x_lv [0, 2, 3] rfl ?_
      exact hexit wt h
    · have h := h.2 c_1
      refine x_iconst (v := 0) hC dLi_weigh_9 (by decide) ?_
      refine x_istore (lv' := [(5, .int 0), (0, .ref (ad 10)), (1, .int v1), (2, .ref (ad 1)), (3, .ref (ad 7)), (4, .int v4)]) hC dLi_weigh_10 (by decide) rfl ?_
      obtain ⟨n_6, h⟩ := h
      refine x_lv [1, 2, 3, 4, 5, 0] rfl ?_
      refine Limits_weigh_1_7_L12_ok hC (fun wt_5 h => ?_) n_6 0 wt h
      refine x_iinc (v := v4 + 1) (lv' := [(4, .int (v4 + 1)), (0, .ref (ad 10)), (1, .int v1), (2, .ref (ad 1)), (3, .ref (ad 7))]) hC dLi_weigh_37 4 rfl rfl (by decide) rfl ?_
      refine x_goto (tgt := 3) hC dLi_weigh_40 (by decide) ?_
      refine x_lv [1, 2, 3, 4, 0] rfl ?_
      exact ih (v4 + 1) wt_5 h

set_option maxHeartbeats 4000000 in
set_option maxRecDepth 100000 in
theorem Limits_weigh_1_7_L46_ok {p : Program} {l : Launch} {e : Env} {s : State} {m : MethodId} {args : Array Value} {below : List Frame} {meth : Method} {c : Code} {Q : State → Prop} {D : va_G} {A : Nat → Prop} {ad : Nat → Nat} {cI cL cO : ClassId} {sc : Int32} {sd : Int32} {src : (Nat → Int32)} {itm : (Nat → Int32)} {knd : (Nat → Int32)} {plc : (Nat → Int32)} {clk : (Nat → Int64)} {ec : Int32} {nf : (Nat → Int32)} {ns : (Nat → Int32)} {nc : Int32} {bd : (Nat → Nat → Int64)} {off : (Nat → Int64)} {row : (Nat → Int32)} {hw : (Nat → Nat → Int64)} {rl : Int32} {tm : (Nat → Int64)} {ord : (Nat → Int32)} {tc : Int32} {Qx : (Nat → Nat → Int64) → Prop} (hC : XC p s m args c D vwCl (tysX cI cL cO) A 11 bLi_weigh TBL RLi)  (hexit : ∀ (wt : (Nat → Nat → Int64)), Qx wt → XW p l e rm_Limits_weigh_1_7 s m args below meth c D vwCl A 11 Q 0 0 (wX ad cI cL cO sc sd src itm knd plc clk ec nf ns nc wt bd off row hw rl tm ord tc) 141 [] []) : ∀ (n : Nat) (v4 : Int32) (wt : (Nat → Nat → Int64)), Limits_weigh_1_7_L46 src clk nf ns nc Qx n v4 wt → XW p l e rm_Limits_weigh_1_7 s m args below meth c D vwCl A 11 Q 0 0 (wX ad cI cL cO sc sd src itm knd plc clk ec nf ns nc wt bd off row hw rl tm ord tc) 46 [(0, .ref (ad 10)), (2, .ref (ad 1)), (3, .ref (ad 7)), (4, .int v4)] [] := by
  intro n
  induction n with
  | zero => intro v4 wt h; exact False.elim h
  | succ n ih =>
    intro v4 wt h
    unfold Limits_weigh_1_7_L46 at h
    refine x_iload hC dLi_weigh_46 3 rfl ?_
    refine x_aload_n hC dLi_weigh_48 rfl 2 rfl ?_
    refine x_get hC iNd 7 wX_7 rfl 2 (by decide) k_x11 rfl rfl dLi_weigh_49 ?_
    refine x_icmp_ge (tgt := 141) hC dLi_weigh_52 (by decide) (fun c_8 => ?_) (fun c_8 => ?_)
    · have h := h.1 c_8
      refine x_lv [] rfl ?_
      exact hexit wt h
    · have h := h.2 c_8
      refine x_aload_n hC dLi_weigh_55 rfl 2 rfl ?_
      refine x_get hC iNd 7 wX_7 rfl 0 (by decide) k_x12 rfl rfl dLi_weigh_56 ?_
      refine x_iload hC dLi_weigh_59 3 rfl ?_
      obtain ⟨hb_9, h⟩ := h
      refine x_iald hC 8 0 wX_8 rfl hb_9 dLi_weigh_61 ?_
      refine x_istore (lv' := [(5, .int (nf v4.toNatClampNeg)), (0, .ref (ad 10)), (2, .ref (ad 1)), (3, .ref (ad 7)), (4, .int v4)]) hC dLi_weigh_62 (by decide) rfl ?_
      refine x_aload_n hC dLi_weigh_64 rfl 3 rfl ?_
      refine x_get hC iNd 7 wX_7 rfl 1 (by decide) k_x13 rfl rfl dLi_weigh_65 ?_
      refine x_iload hC dLi_weigh_68 4 rfl ?_
      obtain ⟨hb_10, h⟩ := h
      refine x_iald hC 9 0 wX_9 rfl hb_10 dLi_weigh_70 ?_
      refine x_istore (lv' := [(6, .int (ns v4.toNatClampNeg)), (5, .int (nf v4.toNatClampNeg)), (0, .ref (ad 10)), (2, .ref (ad 1)), (3, .ref (ad 7)), (4, .int v4)]) hC dLi_weigh_71 (by decide) rfl ?_
      refine x_aload_n hC dLi_weigh_73 rfl 3 rfl ?_
      refine x_get hC iEv 1 wX_1 rfl 0 (by decide) k_x14 rfl rfl dLi_weigh_74 ?_
      refine x_iload hC dLi_weigh_77 1 rfl ?_
      obtain ⟨hb_11, h⟩ := h
      refine x_iald hC 2 0 wX_2 rfl hb_11 dLi_weigh_79 ?_
      refine x_istore (lv' := [(7, .int (src (nf v4.toNatClampNeg).toNatClampNeg)), (6, .int (ns v4.toNatClampNeg)), (5, .int (nf v4.toNatClampNeg)), (0, .ref (ad 10)), (2, .ref (ad 1)), (3, .ref (ad 7)), (4, .int v4)]) hC dLi_weigh_80 (by decide) rfl ?_
      refine x_aload_n hC dLi_weigh_82 rfl 4 rfl ?_
      refine x_get hC iEv 1 wX_1 rfl 0 (by decide) k_x14 rfl rfl dLi_weigh_83 ?_
      refine x_iload hC dLi_weigh_86 1 rfl ?_
      obtain ⟨hb_12, h⟩ := h
      refine x_iald hC 2 0 wX_2 rfl hb_12 dLi_weigh_88 ?_
      refine x_istore (lv' := [(8, .int (src (ns v4.toNatClampNeg).toNatClampNeg)), (7, .int (src (nf v4.toNatClampNeg).toNatClampNeg)), (6, .int (ns v4.toNatClampNeg)), (5, .int (nf v4.toNatClampNeg)), (0, .ref (ad 10)), (2, .ref (ad 1)), (3, .ref (ad 7)), (4, .int v4)]) hC dLi_weigh_89 (by decide) rfl ?_
      refine x_aload_n hC dLi_weigh_91 rfl 5 rfl ?_
      refine x_get hC iEv 1 wX_1 rfl 4 (by decide) k_x15 rfl rfl dLi_weigh_92 ?_
      refine x_iload hC dLi_weigh_95 2 rfl ?_
      obtain ⟨hb_13, h⟩ := h
      refine x_lald hC 6 1 wX_6 rfl hb_13 dLi_weigh_97 ?_
      refine x_aload_n hC dLi_weigh_98 rfl 5 rfl ?_
      refine x_get hC iEv 1 wX_1 rfl 4 (by decide) k_x15 rfl rfl dLi_weigh_99 ?_
      refine x_iload hC dLi_weigh_102 3 rfl ?_
      obtain ⟨hb_14, h⟩ := h
      refine x_lald hC 6 1 wX_6 rfl hb_14 dLi_weigh_104 ?_
      refine x_lsub hC dLi_weigh_105 ?_
      refine x_lconst (v := 1) hC dLi_weigh_106 (by decide) ?_
      refine x_lsub hC dLi_weigh_107 ?_
      refine x_lstore (lv' := [(9, .long (((clk (ns v4.toNatClampNeg).toNatClampNeg) - (clk (nf v4.toNatClampNeg).toNatClampNeg)) - 1)), (8, .int (src (ns v4.toNatClampNeg).toNatClampNeg)), (7, .int (src (nf v4.toNatClampNeg).toNatClampNeg)), (6, .int (ns v4.toNatClampNeg)), (5, .int (nf v4.toNatClampNeg)), (0, .ref (ad 10)), (2, .ref (ad 1)), (3, .ref (ad 7)), (4, .int v4)]) hC dLi_weigh_108 (by decide) rfl ?_
      refine x_aload_n hC dLi_weigh_110 rfl 5 rfl ?_
      refine x_get hC iLi 10 wX_10 rfl 0 (by decide) k_x9 rfl rfl dLi_weigh_111 ?_
      refine x_iload hC dLi_weigh_114 2 rfl ?_
      obtain ⟨hb_15, h⟩ := h
      refine x_aald (y := ad (20 + (src (nf v4.toNatClampNeg).toNatClampNeg).toNatClampNeg)) hC 11 2 wX_11 rfl rfl hb_15 rfl dLi_weigh_116 ?_
      refine x_iload hC dLi_weigh_117 1 rfl ?_
      refine x_aload_n hC dLi_weigh_119 rfl 5 rfl ?_
      refine x_get hC iLi 10 wX_10 rfl 0 (by decide) k_x9 rfl rfl dLi_weigh_120 ?_
      refine x_iload hC dLi_weigh_123 2 rfl ?_
      obtain ⟨hb_16, h⟩ := h
      refine x_aald (y := ad (20 + (src (nf v4.toNatClampNeg).toNatClampNeg).toNatClampNeg)) hC 11 2 wX_11 rfl rfl hb_16 rfl dLi_weigh_125 ?_
      refine x_iload hC dLi_weigh_126 1 rfl ?_
      obtain ⟨hb_17, h⟩ := h
      refine x_lald hC (20 + ((src (nf v4.toNatClampNeg).toNatClampNeg).toNatClampNeg)) 1 (wX_wt (x_in_lt hb_16)) rfl hb_17 dLi_weigh_128 ?_
      refine x_lload hC dLi_weigh_129 0 rfl ?_
      refine x_mminl hC k_x16 k_x17 k_x18 k_x19 (by decide) (Nat.le_of_ble_eq_true rfl) (by decide) (by decide) dLi_weigh_131 ?_
      obtain ⟨hb_18, h⟩ := h
      refine x_last (ws' := (wX ad cI cL cO sc sd src itm knd plc clk ec nf ns nc (va_up wt ((src (nf v4.toNatClampNeg).toNatClampNeg).toNatClampNeg) (vp_updL (wt ((src (nf v4.toNatClampNeg).toNatClampNeg).toNatClampNeg)) (src (ns v4.toNatClampNeg).toNatClampNeg).toNatClampNeg (if (((clk (ns v4.toNatClampNeg).toNatClampNeg) - (clk (nf v4.toNatClampNeg).toNatClampNeg)) - 1) < ((wt ((src (nf v4.toNatClampNeg).toNatClampNeg).toNatClampNeg)) (src (ns v4.toNatClampNeg).toNatClampNeg).toNatClampNeg) then (((clk (ns v4.toNatClampNeg).toNatClampNeg) - (clk (nf v4.toNatClampNeg).toNatClampNeg)) - 1) else ((wt ((src (nf v4.toNatClampNeg).toNatClampNeg).toNatClampNeg)) (src (ns v4.toNatClampNeg).toNatClampNeg).toNatClampNeg)))) bd off row hw rl tm ord tc)) hC (20 + ((src (nf v4.toNatClampNeg).toNatClampNeg).toNatClampNeg)) 1 (wX_wt (x_in_lt hb_15)) rfl hb_18 (wX_wt_set (x_in_lt hb_15)) dLi_weigh_134 ?_
      refine x_iinc (v := v4 + 1) (lv' := [(4, .int (v4 + 1)), (9, .long (((clk (ns v4.toNatClampNeg).toNatClampNeg) - (clk (nf v4.toNatClampNeg).toNatClampNeg)) - 1)), (8, .int (src (ns v4.toNatClampNeg).toNatClampNeg)), (7, .int (src (nf v4.toNatClampNeg).toNatClampNeg)), (6, .int (ns v4.toNatClampNeg)), (5, .int (nf v4.toNatClampNeg)), (0, .ref (ad 10)), (2, .ref (ad 1)), (3, .ref (ad 7))]) hC dLi_weigh_135 8 rfl rfl (by decide) rfl ?_
      refine x_goto (tgt := 46) hC dLi_weigh_138 (by decide) ?_
      refine x_lv [6, 7, 8, 0] rfl ?_
      exact ih (v4 + 1) (va_up wt ((src (nf v4.toNatClampNeg).toNatClampNeg).toNatClampNeg) (vp_updL (wt ((src (nf v4.toNatClampNeg).toNatClampNeg).toNatClampNeg)) (src (ns v4.toNatClampNeg).toNatClampNeg).toNatClampNeg (if (((clk (ns v4.toNatClampNeg).toNatClampNeg) - (clk (nf v4.toNatClampNeg).toNatClampNeg)) - 1) < ((wt ((src (nf v4.toNatClampNeg).toNatClampNeg).toNatClampNeg)) (src (ns v4.toNatClampNeg).toNatClampNeg).toNatClampNeg) then (((clk (ns v4.toNatClampNeg).toNatClampNeg) - (clk (nf v4.toNatClampNeg).toNatClampNeg)) - 1) else ((wt ((src (nf v4.toNatClampNeg).toNatClampNeg).toNatClampNeg)) (src (ns v4.toNatClampNeg).toNatClampNeg).toNatClampNeg)))) h

set_option maxHeartbeats 4000000 in
set_option maxRecDepth 100000 in
theorem c_Limits_weigh_1_7 {l : Launch} {D : va_G} {ad : Nat → Nat} {cI cL cO : ClassId} {sc : Int32} {sd : Int32} {src : (Nat → Int32)} {itm : (Nat → Int32)} {knd : (Nat → Int32)} {plc : (Nat → Int32)} {clk : (Nat → Int64)} {ec : Int32} {nf : (Nat → Int32)} {ns : (Nat → Int32)} {nc : Int32} {wt : (Nat → Nat → Int64)} {bd : (Nat → Nat → Int64)} {off : (Nat → Int64)} {row : (Nat → Int32)} {hw : (Nat → Nat → Int64)} {rl : Int32} {tm : (Nat → Int64)} {ord : (Nat → Int32)} {tc : Int32} {a1 : Int32} {Qr : (Nat → Nat → Int64) → Prop} (h : Limits_weigh_1_7_wp src clk nf ns nc wt a1 Qr) (sz : Nat) : vx_Met l yLi_weigh (Cond.code yLi_weigh bLi_weigh 11 none :: TBL) rm_Limits_weigh_1_7 (va_Pc [.ref (ad 10), .int a1, .ref (ad 1), .ref (ad 7)] (XP D vwCl (tysX cI cL cO) (wX ad cI cL cO sc sd src itm knd plc clk ec nf ns nc wt bd off row hw rl tm ord tc) sz)) (va_Qv Qr (fun u t => XB D vwCl (tysX cI cL cO) (va_A (wX ad cI cL cO sc sd src itm knd plc clk ec nf ns nc wt bd off row hw rl tm ord tc) sz) (wX ad cI cL cO sc sd src itm knd plc clk ec nf ns nc u bd off row hw rl tm ord tc) t) (va_A (wX ad cI cL cO sc sd src itm knd plc clk ec nf ns nc wt bd off row hw rl tm ord tc) sz)) (XT D vwCl (tysX cI cL cO) (va_A (wX ad cI cL cO sc sd src itm knd plc clk ec nf ns nc wt bd off row hw rl tm ord tc) sz) (wX ad cI cL cO sc sd src itm knd plc clk ec nf ns nc wt bd off row hw rl tm ord tc) (fun _ => False)) rm_Limits_weigh_1_7.cells rm_Limits_weigh_1_7.slots (va_A (wX ad cI cL cO sc sd src itm knd plc clk ec nf ns nc wt bd off row hw rl tm ord tc) sz) := by
  refine x_met [.ref (ad 10), .int a1, .ref (ad 1), .ref (ad 7)] TBL_good (by decide) (Nat.le_of_ble_eq_true rfl) ?_
  intro p e s m args below meth c hC hr hlk hnm hnh
  have hret : ∀ (ce sl : Nat), ce ≤ rm_Limits_weigh_1_7.cells → sl ≤ rm_Limits_weigh_1_7.slots → ∀ (u : (Nat → Nat → Int64)), Qr u → ∀ (pc : Nat) (lv : List (Nat × Value)), decode bLi_weigh pc = .ok (.return_, 1) → XW p l e rm_Limits_weigh_1_7 s m args below meth c D vwCl (va_A (wX ad cI cL cO sc sd src itm knd plc clk ec nf ns nc wt bd off row hw rl tm ord tc) sz) 11 (vx_MQ below (va_Qv Qr (fun u t => XB D vwCl (tysX cI cL cO) (va_A (wX ad cI cL cO sc sd src itm knd plc clk ec nf ns nc wt bd off row hw rl tm ord tc) sz) (wX ad cI cL cO sc sd src itm knd plc clk ec nf ns nc u bd off row hw rl tm ord tc) t) (va_A (wX ad cI cL cO sc sd src itm knd plc clk ec nf ns nc wt bd off row hw rl tm ord tc) sz)) (XT D vwCl (tysX cI cL cO) (va_A (wX ad cI cL cO sc sd src itm knd plc clk ec nf ns nc wt bd off row hw rl tm ord tc) sz) (wX ad cI cL cO sc sd src itm knd plc clk ec nf ns nc wt bd off row hw rl tm ord tc) (fun _ => False)) args s rm_Limits_weigh_1_7.cells rm_Limits_weigh_1_7.slots (va_A (wX ad cI cL cO sc sd src itm knd plc clk ec nf ns nc wt bd off row hw rl tm ord tc) sz)) ce sl (wX ad cI cL cO sc sd src itm knd plc clk ec nf ns nc u bd off row hw rl tm ord tc) pc lv [] := fun ce sl h1 h2 u hq pc lv hd => x_vret (wf := fun u => (wX ad cI cL cO sc sd src itm knd plc clk ec nf ns nc u bd off row hw rl tm ord tc)) hC h1 h2 hr hlk hd hq rfl
  show XW p l e rm_Limits_weigh_1_7 s m args below meth c D vwCl (va_A (wX ad cI cL cO sc sd src itm knd plc clk ec nf ns nc wt bd off row hw rl tm ord tc) sz) 11 _ 0 0 (wX ad cI cL cO sc sd src itm knd plc clk ec nf ns nc wt bd off row hw rl tm ord tc) 0 [(0, .ref (ad 10)), (1, .int a1), (2, .ref (ad 1)), (3, .ref (ad 7))] []
  unfold Limits_weigh_1_7_wp at h
  refine x_iconst (v := 0) hC dLi_weigh_0 (by decide) ?_
  refine x_istore (lv' := [(4, .int 0), (0, .ref (ad 10)), (1, .int a1), (2, .ref (ad 1)), (3, .ref (ad 7))]) hC dLi_weigh_1 (by decide) rfl ?_
  obtain ⟨n_21, h⟩ := h
  refine x_lv [1, 2, 3, 4, 0] rfl ?_
  refine Limits_weigh_1_7_L3_ok hC (fun wt_7 h => ?_) n_21 0 wt h
  refine x_iconst (v := 0) hC dLi_weigh_43 (by decide) ?_
  refine x_istore (lv' := [(4, .int 0), (0, .ref (ad 10)), (2, .ref (ad 1)), (3, .ref (ad 7))]) hC dLi_weigh_44 (by decide) rfl ?_
  obtain ⟨n_20, h⟩ := h
  refine x_lv [1, 2, 3, 0] rfl ?_
  refine Limits_weigh_1_7_L46_ok hC (fun wt_19 h => ?_) n_20 0 wt_7 h
  exact hret _ _ (by decide) (by decide) wt_19 h _ _ dLi_weigh_141

/-! EventOrder$Limits.closesBelowZero(I)Z -/
abbrev rm_Limits_closesBelowZero : Room := { frames := 0, cells := 0, slots := 0, locals := 0 }
def Limits_closesBelowZero_L2 (v1 : Int32) (bd : (Nat → Nat → Int64)) (Qr : Int32 → Unit → Prop) (Qx : Prop) : Nat → Int32 → Prop
  | 0, _ => False
  | n + 1, v2 => ((v1 ≤ v2 → Qx) ∧ (¬ v1 ≤ v2 → vp_in v2 16 ∧ vp_in v2 16 ∧ ((0 ≤ ((bd v2.toNatClampNeg) v2.toNatClampNeg) → Limits_closesBelowZero_L2 v1 bd Qr Qx n (v2 + 1)) ∧ (¬ 0 ≤ ((bd v2.toNatClampNeg) v2.toNatClampNeg) → Qr 1 ()))))

def Limits_closesBelowZero_wp (bd : (Nat → Nat → Int64)) (a1 : Int32) (Qr : Int32 → Unit → Prop) : Prop := (∃ n_5 : Nat, Limits_closesBelowZero_L2 a1 bd Qr (Qr 0 ()) n_5 0)
set_option maxHeartbeats 4000000 in
set_option maxRecDepth 100000 in
theorem Limits_closesBelowZero_L2_ok {p : Program} {l : Launch} {e : Env} {s : State} {m : MethodId} {args : Array Value} {below : List Frame} {meth : Method} {c : Code} {Q : State → Prop} {D : va_G} {A : Nat → Prop} {ad : Nat → Nat} {cI cL cO : ClassId} {sc : Int32} {sd : Int32} {src : (Nat → Int32)} {itm : (Nat → Int32)} {knd : (Nat → Int32)} {plc : (Nat → Int32)} {clk : (Nat → Int64)} {ec : Int32} {nf : (Nat → Int32)} {ns : (Nat → Int32)} {nc : Int32} {wt : (Nat → Nat → Int64)} {bd : (Nat → Nat → Int64)} {off : (Nat → Int64)} {row : (Nat → Int32)} {hw : (Nat → Nat → Int64)} {rl : Int32} {tm : (Nat → Int64)} {ord : (Nat → Int32)} {tc : Int32} {v1 : Int32} {Qr : Int32 → Unit → Prop} {Qx : Prop} (hC : XC p s m args c D vwCl (tysX cI cL cO) A 3 bLi_closesBelowZero TBL RLi) (hret : ∀ (r : Int32) (u : Unit), x_bool r → Qr r u → ∀ (pc : Nat) (lv : List (Nat × Value)), decode bLi_closesBelowZero pc = .ok (.ireturn, 1) → XW p l e rm_Limits_closesBelowZero s m args below meth c D vwCl A 3 Q 0 0 (wX ad cI cL cO sc sd src itm knd plc clk ec nf ns nc wt bd off row hw rl tm ord tc) pc lv [.int r]) (hexit : Qx → XW p l e rm_Limits_closesBelowZero s m args below meth c D vwCl A 3 Q 0 0 (wX ad cI cL cO sc sd src itm knd plc clk ec nf ns nc wt bd off row hw rl tm ord tc) 28 [] []) : ∀ (n : Nat) (v2 : Int32), Limits_closesBelowZero_L2 v1 bd Qr Qx n v2 → XW p l e rm_Limits_closesBelowZero s m args below meth c D vwCl A 3 Q 0 0 (wX ad cI cL cO sc sd src itm knd plc clk ec nf ns nc wt bd off row hw rl tm ord tc) 2 [(0, .ref (ad 10)), (1, .int v1), (2, .int v2)] [] := by
  intro n
  induction n with
  | zero => intro v2 h; exact False.elim h
  | succ n ih =>
    intro v2 h
    unfold Limits_closesBelowZero_L2 at h
    refine x_iload_n hC dLi_closesBelowZero_2 rfl 2 rfl ?_
    refine x_iload_n hC dLi_closesBelowZero_3 rfl 1 rfl ?_
    refine x_icmp_ge (tgt := 28) hC dLi_closesBelowZero_4 (by decide) (fun c_1 => ?_) (fun c_1 => ?_)
    · have h := h.1 c_1
      refine x_lv [] rfl ?_
      exact hexit  h
    · have h := h.2 c_1
      refine x_aload_n hC dLi_closesBelowZero_7 rfl 0 rfl ?_
      refine x_get hC iLi 10 wX_10 rfl 1 (by decide) k_x20 rfl rfl dLi_closesBelowZero_8 ?_
      refine x_iload_n hC dLi_closesBelowZero_11 rfl 2 rfl ?_
      obtain ⟨hb_2, h⟩ := h
      refine x_aald (y := ad (36 + v2.toNatClampNeg)) hC 12 2 wX_12 rfl rfl hb_2 rfl dLi_closesBelowZero_12 ?_
      refine x_iload_n hC dLi_closesBelowZero_13 rfl 2 rfl ?_
      obtain ⟨hb_3, h⟩ := h
      refine x_lald hC (36 + v2.toNatClampNeg) 1 (wX_bd (x_in_lt hb_2)) rfl hb_3 dLi_closesBelowZero_14 ?_
      refine x_lconst (v := 0) hC dLi_closesBelowZero_15 (by decide) ?_
      refine x_lcmp_ge (tgt := 22) hC dLi_closesBelowZero_16 dLi_closesBelowZero_17 (by decide) (fun c_4 => ?_) (fun c_4 => ?_)
      · have h := h.1 c_4
        refine x_iinc (v := v2 + 1) (lv' := [(2, .int (v2 + 1)), (0, .ref (ad 10)), (1, .int v1)]) hC dLi_closesBelowZero_22 2 rfl rfl (by decide) rfl ?_
        refine x_goto (tgt := 2) hC dLi_closesBelowZero_25 (by decide) ?_
        refine x_lv [1, 2, 0] rfl ?_
        exact ih (v2 + 1) h
      · have h := h.2 c_4
        refine x_iconst (v := 1) hC dLi_closesBelowZero_20 (by decide) ?_
        exact hret 1 () (Or.inr rfl) h _ _ dLi_closesBelowZero_21

set_option maxHeartbeats 4000000 in
set_option maxRecDepth 100000 in
theorem c_Limits_closesBelowZero {l : Launch} {D : va_G} {ad : Nat → Nat} {cI cL cO : ClassId} {sc : Int32} {sd : Int32} {src : (Nat → Int32)} {itm : (Nat → Int32)} {knd : (Nat → Int32)} {plc : (Nat → Int32)} {clk : (Nat → Int64)} {ec : Int32} {nf : (Nat → Int32)} {ns : (Nat → Int32)} {nc : Int32} {wt : (Nat → Nat → Int64)} {bd : (Nat → Nat → Int64)} {off : (Nat → Int64)} {row : (Nat → Int32)} {hw : (Nat → Nat → Int64)} {rl : Int32} {tm : (Nat → Int64)} {ord : (Nat → Int32)} {tc : Int32} {a1 : Int32} {Qr : Int32 → Unit → Prop} (h : Limits_closesBelowZero_wp bd a1 Qr) (sz : Nat) : vx_Met l yLi_closesBelowZero (Cond.code yLi_closesBelowZero bLi_closesBelowZero 3 (some .boolean) :: TBL) rm_Limits_closesBelowZero (va_Pc [.ref (ad 10), .int a1] (XP D vwCl (tysX cI cL cO) (wX ad cI cL cO sc sd src itm knd plc clk ec nf ns nc wt bd off row hw rl tm ord tc) sz)) (va_Qi Qr (fun u t => XB D vwCl (tysX cI cL cO) (va_A (wX ad cI cL cO sc sd src itm knd plc clk ec nf ns nc wt bd off row hw rl tm ord tc) sz) (wX ad cI cL cO sc sd src itm knd plc clk ec nf ns nc wt bd off row hw rl tm ord tc) t) (va_A (wX ad cI cL cO sc sd src itm knd plc clk ec nf ns nc wt bd off row hw rl tm ord tc) sz)) (XT D vwCl (tysX cI cL cO) (va_A (wX ad cI cL cO sc sd src itm knd plc clk ec nf ns nc wt bd off row hw rl tm ord tc) sz) (wX ad cI cL cO sc sd src itm knd plc clk ec nf ns nc wt bd off row hw rl tm ord tc) (fun _ => False)) rm_Limits_closesBelowZero.cells rm_Limits_closesBelowZero.slots (va_A (wX ad cI cL cO sc sd src itm knd plc clk ec nf ns nc wt bd off row hw rl tm ord tc) sz) := by
  refine x_met [.ref (ad 10), .int a1] TBL_good (by decide) (Nat.le_of_ble_eq_true rfl) ?_
  intro p e s m args below meth c hC hr hlk hnm hnh
  have hret : ∀ (ce sl : Nat), ce ≤ rm_Limits_closesBelowZero.cells → sl ≤ rm_Limits_closesBelowZero.slots → ∀ (r : Int32) (u : Unit), x_bool r → Qr r u → ∀ (pc : Nat) (lv : List (Nat × Value)), decode bLi_closesBelowZero pc = .ok (.ireturn, 1) → XW p l e rm_Limits_closesBelowZero s m args below meth c D vwCl (va_A (wX ad cI cL cO sc sd src itm knd plc clk ec nf ns nc wt bd off row hw rl tm ord tc) sz) 3 (vx_MQ below (va_Qi Qr (fun u t => XB D vwCl (tysX cI cL cO) (va_A (wX ad cI cL cO sc sd src itm knd plc clk ec nf ns nc wt bd off row hw rl tm ord tc) sz) (wX ad cI cL cO sc sd src itm knd plc clk ec nf ns nc wt bd off row hw rl tm ord tc) t) (va_A (wX ad cI cL cO sc sd src itm knd plc clk ec nf ns nc wt bd off row hw rl tm ord tc) sz)) (XT D vwCl (tysX cI cL cO) (va_A (wX ad cI cL cO sc sd src itm knd plc clk ec nf ns nc wt bd off row hw rl tm ord tc) sz) (wX ad cI cL cO sc sd src itm knd plc clk ec nf ns nc wt bd off row hw rl tm ord tc) (fun _ => False)) args s rm_Limits_closesBelowZero.cells rm_Limits_closesBelowZero.slots (va_A (wX ad cI cL cO sc sd src itm knd plc clk ec nf ns nc wt bd off row hw rl tm ord tc) sz)) ce sl (wX ad cI cL cO sc sd src itm knd plc clk ec nf ns nc wt bd off row hw rl tm ord tc) pc lv [.int r] := fun ce sl h1 h2 r u hb9 hq pc lv hd => x_zret (wf := fun u => (wX ad cI cL cO sc sd src itm knd plc clk ec nf ns nc wt bd off row hw rl tm ord tc)) hC h1 h2 hr hlk hb9 hd hq rfl
  show XW p l e rm_Limits_closesBelowZero s m args below meth c D vwCl (va_A (wX ad cI cL cO sc sd src itm knd plc clk ec nf ns nc wt bd off row hw rl tm ord tc) sz) 3 _ 0 0 (wX ad cI cL cO sc sd src itm knd plc clk ec nf ns nc wt bd off row hw rl tm ord tc) 0 [(0, .ref (ad 10)), (1, .int a1)] []
  unfold Limits_closesBelowZero_wp at h
  refine x_iconst (v := 0) hC dLi_closesBelowZero_0 (by decide) ?_
  refine x_istore_n (lv' := [(2, .int 0), (0, .ref (ad 10)), (1, .int a1)]) hC dLi_closesBelowZero_1 rfl (by decide) rfl ?_
  obtain ⟨n_5, h⟩ := h
  refine x_lv [1, 2, 0] rfl ?_
  refine Limits_closesBelowZero_L2_ok hC (hret _ _ (by decide) (by decide)) (fun h => ?_) n_5 0 h
  refine x_iconst (v := 0) hC dLi_closesBelowZero_28 (by decide) ?_
  exact hret _ _ (by decide) (by decide) 0 () (Or.inl rfl) h _ _ dLi_closesBelowZero_29

/-! EventOrder$Limits.shortenThrough(II)V -/
abbrev rm_Limits_shortenThrough : Room := { frames := 1, cells := 0, slots := 0, locals := 40 }
def Limits_shortenThrough_L28 (v1 : Int32) (v2 : Int32) (v3 : Int32) (Qx : (Nat → Nat → Int64) → Prop) : Nat → Int32 → (Nat → Nat → Int64) → Prop
  | 0, _, _ => False
  | n + 1, v4, bd => ((v2 ≤ v4 → Qx bd) ∧ (¬ v2 ≤ v4 → vp_in v1 16 ∧ vp_in v4 16 ∧ ((((bd v1.toNatClampNeg) v4.toNatClampNeg) = 9223372036854775807 → Limits_shortenThrough_L28 v1 v2 v3 Qx n (v4 + 1) bd) ∧ (¬ ((bd v1.toNatClampNeg) v4.toNatClampNeg) = 9223372036854775807 → vp_in v3 16 ∧ vp_in v3 16 ∧ vp_in v4 16 ∧ vp_in v3 16 ∧ vp_in v1 16 ∧ vp_in v1 16 ∧ vp_in v4 16 ∧ vp_in v4 16 ∧ Limits_shortenThrough_L28 v1 v2 v3 Qx n (v4 + 1) (va_up bd v3.toNatClampNeg (vp_updL (bd v3.toNatClampNeg) v4.toNatClampNeg (if (((bd v3.toNatClampNeg) v1.toNatClampNeg) + ((bd v1.toNatClampNeg) v4.toNatClampNeg)) < ((bd v3.toNatClampNeg) v4.toNatClampNeg) then (((bd v3.toNatClampNeg) v1.toNatClampNeg) + ((bd v1.toNatClampNeg) v4.toNatClampNeg)) else ((bd v3.toNatClampNeg) v4.toNatClampNeg))))))))

def Limits_shortenThrough_L2 (v1 : Int32) (v2 : Int32) (Qx : (Nat → Nat → Int64) → Prop) : Nat → Int32 → (Nat → Nat → Int64) → Prop
  | 0, _, _ => False
  | n + 1, v3, bd => ((v2 ≤ v3 → Qx bd) ∧ (¬ v2 ≤ v3 → vp_in v3 16 ∧ vp_in v1 16 ∧ ((¬ ((bd v3.toNatClampNeg) v1.toNatClampNeg) = 9223372036854775807 → (∃ n_18 : Nat, Limits_shortenThrough_L28 v1 v2 v3 (fun (bd_17 : (Nat → Nat → Int64)) => Limits_shortenThrough_L2 v1 v2 Qx n (v3 + 1) bd_17) n_18 0 bd)) ∧ (((bd v3.toNatClampNeg) v1.toNatClampNeg) = 9223372036854775807 → Limits_shortenThrough_L2 v1 v2 Qx n (v3 + 1) bd))))

def Limits_shortenThrough_wp (bd : (Nat → Nat → Int64)) (a1 : Int32) (a2 : Int32) (Qr : (Nat → Nat → Int64) → Prop) : Prop := (∃ n_20 : Nat, Limits_shortenThrough_L2 a1 a2 (fun (bd_19 : (Nat → Nat → Int64)) => Qr bd_19) n_20 0 bd)
set_option maxHeartbeats 4000000 in
set_option maxRecDepth 100000 in
theorem Limits_shortenThrough_L28_ok {p : Program} {l : Launch} {e : Env} {s : State} {m : MethodId} {args : Array Value} {below : List Frame} {meth : Method} {c : Code} {Q : State → Prop} {D : va_G} {A : Nat → Prop} {ad : Nat → Nat} {cI cL cO : ClassId} {sc : Int32} {sd : Int32} {src : (Nat → Int32)} {itm : (Nat → Int32)} {knd : (Nat → Int32)} {plc : (Nat → Int32)} {clk : (Nat → Int64)} {ec : Int32} {nf : (Nat → Int32)} {ns : (Nat → Int32)} {nc : Int32} {wt : (Nat → Nat → Int64)} {off : (Nat → Int64)} {row : (Nat → Int32)} {hw : (Nat → Nat → Int64)} {rl : Int32} {tm : (Nat → Int64)} {ord : (Nat → Int32)} {tc : Int32} {v1 : Int32} {v2 : Int32} {v3 : Int32} {Qx : (Nat → Nat → Int64) → Prop} (hC : XC p s m args c D vwCl (tysX cI cL cO) A 5 bLi_shortenThrough TBL RLi)  (hexit : ∀ (bd : (Nat → Nat → Int64)), Qx bd → XW p l e rm_Limits_shortenThrough s m args below meth c D vwCl A 5 Q 0 0 (wX ad cI cL cO sc sd src itm knd plc clk ec nf ns nc wt bd off row hw rl tm ord tc) 95 [(0, .ref (ad 10)), (1, .int v1), (2, .int v2), (3, .int v3)] []) : ∀ (n : Nat) (v4 : Int32) (bd : (Nat → Nat → Int64)), Limits_shortenThrough_L28 v1 v2 v3 Qx n v4 bd → XW p l e rm_Limits_shortenThrough s m args below meth c D vwCl A 5 Q 0 0 (wX ad cI cL cO sc sd src itm knd plc clk ec nf ns nc wt bd off row hw rl tm ord tc) 28 [(0, .ref (ad 10)), (1, .int v1), (2, .int v2), (3, .int v3), (4, .int v4)] [] := by
  intro n
  induction n with
  | zero => intro v4 bd h; exact False.elim h
  | succ n ih =>
    intro v4 bd h
    unfold Limits_shortenThrough_L28 at h
    refine x_iload hC dLi_shortenThrough_28 4 rfl ?_
    refine x_iload_n hC dLi_shortenThrough_30 rfl 2 rfl ?_
    refine x_icmp_ge (tgt := 95) hC dLi_shortenThrough_31 (by decide) (fun c_5 => ?_) (fun c_5 => ?_)
    · have h := h.1 c_5
      refine x_lv [0, 1, 2, 3] rfl ?_
      exact hexit bd h
    · have h := h.2 c_5
      refine x_aload_n hC dLi_shortenThrough_34 rfl 0 rfl ?_
      refine x_get hC iLi 10 wX_10 rfl 1 (by decide) k_x20 rfl rfl dLi_shortenThrough_35 ?_
      refine x_iload_n hC dLi_shortenThrough_38 rfl 1 rfl ?_
      obtain ⟨hb_6, h⟩ := h
      refine x_aald (y := ad (36 + v1.toNatClampNeg)) hC 12 2 wX_12 rfl rfl hb_6 rfl dLi_shortenThrough_39 ?_
      refine x_iload hC dLi_shortenThrough_40 4 rfl ?_
      obtain ⟨hb_7, h⟩ := h
      refine x_lald hC (36 + v1.toNatClampNeg) 1 (wX_bd (x_in_lt hb_6)) rfl hb_7 dLi_shortenThrough_42 ?_
      refine x_ldc2 (v := 9223372036854775807) hC k_x10 dLi_shortenThrough_43 ?_
      refine x_lcmp_eq (tgt := 89) hC dLi_shortenThrough_46 dLi_shortenThrough_47 (by decide) (fun c_8 => ?_) (fun c_8 => ?_)
      · have h := h.1 c_8
        refine x_iinc (v := v4 + 1) (lv' := [(4, .int (v4 + 1)), (0, .ref (ad 10)), (1, .int v1), (2, .int v2), (3, .int v3)]) hC dLi_shortenThrough_89 4 rfl rfl (by decide) rfl ?_
        refine x_goto (tgt := 28) hC dLi_shortenThrough_92 (by decide) ?_
        refine x_lv [1, 2, 3, 4, 0] rfl ?_
        exact ih (v4 + 1) bd h
      · have h := h.2 c_8
        refine x_aload_n hC dLi_shortenThrough_50 rfl 0 rfl ?_
        refine x_get hC iLi 10 wX_10 rfl 1 (by decide) k_x20 rfl rfl dLi_shortenThrough_51 ?_
        refine x_iload_n hC dLi_shortenThrough_54 rfl 3 rfl ?_
        obtain ⟨hb_9, h⟩ := h
        refine x_aald (y := ad (36 + v3.toNatClampNeg)) hC 12 2 wX_12 rfl rfl hb_9 rfl dLi_shortenThrough_55 ?_
        refine x_iload hC dLi_shortenThrough_56 4 rfl ?_
        refine x_aload_n hC dLi_shortenThrough_58 rfl 0 rfl ?_
        refine x_get hC iLi 10 wX_10 rfl 1 (by decide) k_x20 rfl rfl dLi_shortenThrough_59 ?_
        refine x_iload_n hC dLi_shortenThrough_62 rfl 3 rfl ?_
        obtain ⟨hb_10, h⟩ := h
        refine x_aald (y := ad (36 + v3.toNatClampNeg)) hC 12 2 wX_12 rfl rfl hb_10 rfl dLi_shortenThrough_63 ?_
        refine x_iload hC dLi_shortenThrough_64 4 rfl ?_
        obtain ⟨hb_11, h⟩ := h
        refine x_lald hC (36 + v3.toNatClampNeg) 1 (wX_bd (x_in_lt hb_10)) rfl hb_11 dLi_shortenThrough_66 ?_
        refine x_aload_n hC dLi_shortenThrough_67 rfl 0 rfl ?_
        refine x_get hC iLi 10 wX_10 rfl 1 (by decide) k_x20 rfl rfl dLi_shortenThrough_68 ?_
        refine x_iload_n hC dLi_shortenThrough_71 rfl 3 rfl ?_
        obtain ⟨hb_12, h⟩ := h
        refine x_aald (y := ad (36 + v3.toNatClampNeg)) hC 12 2 wX_12 rfl rfl hb_12 rfl dLi_shortenThrough_72 ?_
        refine x_iload_n hC dLi_shortenThrough_73 rfl 1 rfl ?_
        obtain ⟨hb_13, h⟩ := h
        refine x_lald hC (36 + v3.toNatClampNeg) 1 (wX_bd (x_in_lt hb_12)) rfl hb_13 dLi_shortenThrough_74 ?_
        refine x_aload_n hC dLi_shortenThrough_75 rfl 0 rfl ?_
        refine x_get hC iLi 10 wX_10 rfl 1 (by decide) k_x20 rfl rfl dLi_shortenThrough_76 ?_
        refine x_iload_n hC dLi_shortenThrough_79 rfl 1 rfl ?_
        obtain ⟨hb_14, h⟩ := h
        refine x_aald (y := ad (36 + v1.toNatClampNeg)) hC 12 2 wX_12 rfl rfl hb_14 rfl dLi_shortenThrough_80 ?_
        refine x_iload hC dLi_shortenThrough_81 4 rfl ?_
        obtain ⟨hb_15, h⟩ := h
        refine x_lald hC (36 + v1.toNatClampNeg) 1 (wX_bd (x_in_lt hb_14)) rfl hb_15 dLi_shortenThrough_83 ?_
        refine x_ladd hC dLi_shortenThrough_84 ?_
        refine x_mminl hC k_x16 k_x17 k_x18 k_x19 (by decide) (Nat.le_of_ble_eq_true rfl) (by decide) (by decide) dLi_shortenThrough_85 ?_
        obtain ⟨hb_16, h⟩ := h
        refine x_last (ws' := (wX ad cI cL cO sc sd src itm knd plc clk ec nf ns nc wt (va_up bd v3.toNatClampNeg (vp_updL (bd v3.toNatClampNeg) v4.toNatClampNeg (if (((bd v3.toNatClampNeg) v1.toNatClampNeg) + ((bd v1.toNatClampNeg) v4.toNatClampNeg)) < ((bd v3.toNatClampNeg) v4.toNatClampNeg) then (((bd v3.toNatClampNeg) v1.toNatClampNeg) + ((bd v1.toNatClampNeg) v4.toNatClampNeg)) else ((bd v3.toNatClampNeg) v4.toNatClampNeg)))) off row hw rl tm ord tc)) hC (36 + v3.toNatClampNeg) 1 (wX_bd (x_in_lt hb_9)) rfl hb_16 (wX_bd_set (x_in_lt hb_9)) dLi_shortenThrough_88 ?_
        refine x_iinc (v := v4 + 1) (lv' := [(4, .int (v4 + 1)), (0, .ref (ad 10)), (1, .int v1), (2, .int v2), (3, .int v3)]) hC dLi_shortenThrough_89 4 rfl rfl (by decide) rfl ?_
        refine x_goto (tgt := 28) hC dLi_shortenThrough_92 (by decide) ?_
        refine x_lv [1, 2, 3, 4, 0] rfl ?_
        exact ih (v4 + 1) (va_up bd v3.toNatClampNeg (vp_updL (bd v3.toNatClampNeg) v4.toNatClampNeg (if (((bd v3.toNatClampNeg) v1.toNatClampNeg) + ((bd v1.toNatClampNeg) v4.toNatClampNeg)) < ((bd v3.toNatClampNeg) v4.toNatClampNeg) then (((bd v3.toNatClampNeg) v1.toNatClampNeg) + ((bd v1.toNatClampNeg) v4.toNatClampNeg)) else ((bd v3.toNatClampNeg) v4.toNatClampNeg)))) h

set_option maxHeartbeats 4000000 in
set_option maxRecDepth 100000 in
theorem Limits_shortenThrough_L2_ok {p : Program} {l : Launch} {e : Env} {s : State} {m : MethodId} {args : Array Value} {below : List Frame} {meth : Method} {c : Code} {Q : State → Prop} {D : va_G} {A : Nat → Prop} {ad : Nat → Nat} {cI cL cO : ClassId} {sc : Int32} {sd : Int32} {src : (Nat → Int32)} {itm : (Nat → Int32)} {knd : (Nat → Int32)} {plc : (Nat → Int32)} {clk : (Nat → Int64)} {ec : Int32} {nf : (Nat → Int32)} {ns : (Nat → Int32)} {nc : Int32} {wt : (Nat → Nat → Int64)} {off : (Nat → Int64)} {row : (Nat → Int32)} {hw : (Nat → Nat → Int64)} {rl : Int32} {tm : (Nat → Int64)} {ord : (Nat → Int32)} {tc : Int32} {v1 : Int32} {v2 : Int32} {Qx : (Nat → Nat → Int64) → Prop} (hC : XC p s m args c D vwCl (tysX cI cL cO) A 5 bLi_shortenThrough TBL RLi)  (hexit : ∀ (bd : (Nat → Nat → Int64)), Qx bd → XW p l e rm_Limits_shortenThrough s m args below meth c D vwCl A 5 Q 0 0 (wX ad cI cL cO sc sd src itm knd plc clk ec nf ns nc wt bd off row hw rl tm ord tc) 101 [] []) : ∀ (n : Nat) (v3 : Int32) (bd : (Nat → Nat → Int64)), Limits_shortenThrough_L2 v1 v2 Qx n v3 bd → XW p l e rm_Limits_shortenThrough s m args below meth c D vwCl A 5 Q 0 0 (wX ad cI cL cO sc sd src itm knd plc clk ec nf ns nc wt bd off row hw rl tm ord tc) 2 [(0, .ref (ad 10)), (1, .int v1), (2, .int v2), (3, .int v3)] [] := by
  intro n
  induction n with
  | zero => intro v3 bd h; exact False.elim h
  | succ n ih =>
    intro v3 bd h
    unfold Limits_shortenThrough_L2 at h
    refine x_iload_n hC dLi_shortenThrough_2 rfl 3 rfl ?_
    refine x_iload_n hC dLi_shortenThrough_3 rfl 2 rfl ?_
    refine x_icmp_ge (tgt := 101) hC dLi_shortenThrough_4 (by decide) (fun c_1 => ?_) (fun c_1 => ?_)
    · have h := h.1 c_1
      refine x_lv [] rfl ?_
      exact hexit bd h
    · have h := h.2 c_1
      refine x_aload_n hC dLi_shortenThrough_7 rfl 0 rfl ?_
      refine x_get hC iLi 10 wX_10 rfl 1 (by decide) k_x20 rfl rfl dLi_shortenThrough_8 ?_
      refine x_iload_n hC dLi_shortenThrough_11 rfl 3 rfl ?_
      obtain ⟨hb_2, h⟩ := h
      refine x_aald (y := ad (36 + v3.toNatClampNeg)) hC 12 2 wX_12 rfl rfl hb_2 rfl dLi_shortenThrough_12 ?_
      refine x_iload_n hC dLi_shortenThrough_13 rfl 1 rfl ?_
      obtain ⟨hb_3, h⟩ := h
      refine x_lald hC (36 + v3.toNatClampNeg) 1 (wX_bd (x_in_lt hb_2)) rfl hb_3 dLi_shortenThrough_14 ?_
      refine x_ldc2 (v := 9223372036854775807) hC k_x10 dLi_shortenThrough_15 ?_
      refine x_lcmp_ne (tgt := 25) hC dLi_shortenThrough_18 dLi_shortenThrough_19 (by decide) (fun c_4 => ?_) (fun c_4 => ?_)
      · have h := h.1 c_4
        refine x_iconst (v := 0) hC dLi_shortenThrough_25 (by decide) ?_
        refine x_istore (lv' := [(4, .int 0), (0, .ref (ad 10)), (1, .int v1), (2, .int v2), (3, .int v3)]) hC dLi_shortenThrough_26 (by decide) rfl ?_
        obtain ⟨n_18, h⟩ := h
        refine x_lv [1, 2, 3, 4, 0] rfl ?_
        refine Limits_shortenThrough_L28_ok hC (fun bd_17 h => ?_) n_18 0 bd h
        refine x_iinc (v := v3 + 1) (lv' := [(3, .int (v3 + 1)), (0, .ref (ad 10)), (1, .int v1), (2, .int v2)]) hC dLi_shortenThrough_95 3 rfl rfl (by decide) rfl ?_
        refine x_goto (tgt := 2) hC dLi_shortenThrough_98 (by decide) ?_
        refine x_lv [1, 2, 3, 0] rfl ?_
        exact ih (v3 + 1) bd_17 h
      · have h := h.2 c_4
        refine x_goto (tgt := 95) hC dLi_shortenThrough_22 (by decide) ?_
        refine x_iinc (v := v3 + 1) (lv' := [(3, .int (v3 + 1)), (0, .ref (ad 10)), (1, .int v1), (2, .int v2)]) hC dLi_shortenThrough_95 3 rfl rfl (by decide) rfl ?_
        refine x_goto (tgt := 2) hC dLi_shortenThrough_98 (by decide) ?_
        refine x_lv [1, 2, 3, 0] rfl ?_
        exact ih (v3 + 1) bd h

set_option maxHeartbeats 4000000 in
set_option maxRecDepth 100000 in
theorem c_Limits_shortenThrough {l : Launch} {D : va_G} {ad : Nat → Nat} {cI cL cO : ClassId} {sc : Int32} {sd : Int32} {src : (Nat → Int32)} {itm : (Nat → Int32)} {knd : (Nat → Int32)} {plc : (Nat → Int32)} {clk : (Nat → Int64)} {ec : Int32} {nf : (Nat → Int32)} {ns : (Nat → Int32)} {nc : Int32} {wt : (Nat → Nat → Int64)} {bd : (Nat → Nat → Int64)} {off : (Nat → Int64)} {row : (Nat → Int32)} {hw : (Nat → Nat → Int64)} {rl : Int32} {tm : (Nat → Int64)} {ord : (Nat → Int32)} {tc : Int32} {a1 : Int32} {a2 : Int32} {Qr : (Nat → Nat → Int64) → Prop} (h : Limits_shortenThrough_wp bd a1 a2 Qr) (sz : Nat) : vx_Met l yLi_shortenThrough (Cond.code yLi_shortenThrough bLi_shortenThrough 5 none :: TBL) rm_Limits_shortenThrough (va_Pc [.ref (ad 10), .int a1, .int a2] (XP D vwCl (tysX cI cL cO) (wX ad cI cL cO sc sd src itm knd plc clk ec nf ns nc wt bd off row hw rl tm ord tc) sz)) (va_Qv Qr (fun u t => XB D vwCl (tysX cI cL cO) (va_A (wX ad cI cL cO sc sd src itm knd plc clk ec nf ns nc wt bd off row hw rl tm ord tc) sz) (wX ad cI cL cO sc sd src itm knd plc clk ec nf ns nc wt u off row hw rl tm ord tc) t) (va_A (wX ad cI cL cO sc sd src itm knd plc clk ec nf ns nc wt bd off row hw rl tm ord tc) sz)) (XT D vwCl (tysX cI cL cO) (va_A (wX ad cI cL cO sc sd src itm knd plc clk ec nf ns nc wt bd off row hw rl tm ord tc) sz) (wX ad cI cL cO sc sd src itm knd plc clk ec nf ns nc wt bd off row hw rl tm ord tc) (fun _ => False)) rm_Limits_shortenThrough.cells rm_Limits_shortenThrough.slots (va_A (wX ad cI cL cO sc sd src itm knd plc clk ec nf ns nc wt bd off row hw rl tm ord tc) sz) := by
  refine x_met [.ref (ad 10), .int a1, .int a2] TBL_good (by decide) (Nat.le_of_ble_eq_true rfl) ?_
  intro p e s m args below meth c hC hr hlk hnm hnh
  have hret : ∀ (ce sl : Nat), ce ≤ rm_Limits_shortenThrough.cells → sl ≤ rm_Limits_shortenThrough.slots → ∀ (u : (Nat → Nat → Int64)), Qr u → ∀ (pc : Nat) (lv : List (Nat × Value)), decode bLi_shortenThrough pc = .ok (.return_, 1) → XW p l e rm_Limits_shortenThrough s m args below meth c D vwCl (va_A (wX ad cI cL cO sc sd src itm knd plc clk ec nf ns nc wt bd off row hw rl tm ord tc) sz) 5 (vx_MQ below (va_Qv Qr (fun u t => XB D vwCl (tysX cI cL cO) (va_A (wX ad cI cL cO sc sd src itm knd plc clk ec nf ns nc wt bd off row hw rl tm ord tc) sz) (wX ad cI cL cO sc sd src itm knd plc clk ec nf ns nc wt u off row hw rl tm ord tc) t) (va_A (wX ad cI cL cO sc sd src itm knd plc clk ec nf ns nc wt bd off row hw rl tm ord tc) sz)) (XT D vwCl (tysX cI cL cO) (va_A (wX ad cI cL cO sc sd src itm knd plc clk ec nf ns nc wt bd off row hw rl tm ord tc) sz) (wX ad cI cL cO sc sd src itm knd plc clk ec nf ns nc wt bd off row hw rl tm ord tc) (fun _ => False)) args s rm_Limits_shortenThrough.cells rm_Limits_shortenThrough.slots (va_A (wX ad cI cL cO sc sd src itm knd plc clk ec nf ns nc wt bd off row hw rl tm ord tc) sz)) ce sl (wX ad cI cL cO sc sd src itm knd plc clk ec nf ns nc wt u off row hw rl tm ord tc) pc lv [] := fun ce sl h1 h2 u hq pc lv hd => x_vret (wf := fun u => (wX ad cI cL cO sc sd src itm knd plc clk ec nf ns nc wt u off row hw rl tm ord tc)) hC h1 h2 hr hlk hd hq rfl
  show XW p l e rm_Limits_shortenThrough s m args below meth c D vwCl (va_A (wX ad cI cL cO sc sd src itm knd plc clk ec nf ns nc wt bd off row hw rl tm ord tc) sz) 5 _ 0 0 (wX ad cI cL cO sc sd src itm knd plc clk ec nf ns nc wt bd off row hw rl tm ord tc) 0 [(0, .ref (ad 10)), (1, .int a1), (2, .int a2)] []
  unfold Limits_shortenThrough_wp at h
  refine x_iconst (v := 0) hC dLi_shortenThrough_0 (by decide) ?_
  refine x_istore_n (lv' := [(3, .int 0), (0, .ref (ad 10)), (1, .int a1), (2, .int a2)]) hC dLi_shortenThrough_1 rfl (by decide) rfl ?_
  obtain ⟨n_20, h⟩ := h
  refine x_lv [1, 2, 3, 0] rfl ?_
  refine Limits_shortenThrough_L2_ok hC (fun bd_19 h => ?_) n_20 0 bd h
  exact hret _ _ (by decide) (by decide) bd_19 h _ _ dLi_shortenThrough_101

/-! EventOrder$Limits.findBounds(I)Z -/
abbrev rm_Limits_findBounds : Room := { frames := 2, cells := 0, slots := 0, locals := 64 }
def Limits_findBounds_L9 (v1 : Int32) (v2 : Int32) (wt : (Nat → Nat → Int64)) (Qx : (Nat → Nat → Int64) → Prop) : Nat → Int32 → (Nat → Nat → Int64) → Prop
  | 0, _, _ => False
  | n + 1, v3, bd => ((v1 ≤ v3 → Qx bd) ∧ (¬ v1 ≤ v3 → vp_in v2 16 ∧ vp_in v2 16 ∧ vp_in v3 16 ∧ vp_in v3 16 ∧ Limits_findBounds_L9 v1 v2 wt Qx n (v3 + 1) (va_up bd v2.toNatClampNeg (vp_updL (bd v2.toNatClampNeg) v3.toNatClampNeg ((wt v2.toNatClampNeg) v3.toNatClampNeg)))))

def Limits_findBounds_L2 (v1 : Int32) (wt : (Nat → Nat → Int64)) (Qx : (Nat → Nat → Int64) → Prop) : Nat → Int32 → (Nat → Nat → Int64) → Prop
  | 0, _, _ => False
  | n + 1, v2, bd => ((v1 ≤ v2 → Qx bd) ∧ (¬ v1 ≤ v2 → (∃ n_12 : Nat, Limits_findBounds_L9 v1 v2 wt (fun (bd_7 : (Nat → Nat → Int64)) => vp_in v2 16 ∧ vp_in v2 16 ∧ vp_in v2 16 ∧ vp_in v2 16 ∧ Limits_findBounds_L2 v1 wt Qx n (v2 + 1) (va_up bd_7 v2.toNatClampNeg (vp_updL (bd_7 v2.toNatClampNeg) v2.toNatClampNeg (if 0 < ((wt v2.toNatClampNeg) v2.toNatClampNeg) then 0 else ((wt v2.toNatClampNeg) v2.toNatClampNeg))))) n_12 0 bd)))

def Limits_findBounds_L78 (v1 : Int32) (Qx : Int32 → (Nat → Nat → Int64) → Prop) : Nat → Int32 → Int32 → (Nat → Nat → Int64) → Prop
  | 0, _, _, _ => False
  | n + 1, v2, v3, bd => ((v1 ≤ v3 → Qx v2 bd) ∧ (¬ v1 ≤ v3 → ((v2 = 0 → Qx v2 bd) ∧ (¬ v2 = 0 → Limits_shortenThrough_wp bd v3 v1 (fun (u_20 : (Nat → Nat → Int64)) => Limits_closesBelowZero_wp u_20 v1 (fun (r_21 : Int32) (u_22 : Unit) => ((¬ r_21 = 0 → Limits_findBounds_L78 v1 Qx n 0 (v3 + 1) u_20) ∧ (r_21 = 0 → Limits_findBounds_L78 v1 Qx n 1 (v3 + 1) u_20))))))))

def Limits_findBounds_wp (wt : (Nat → Nat → Int64)) (bd : (Nat → Nat → Int64)) (a1 : Int32) (Qr : Int32 → (Nat → Nat → Int64) → Prop) : Prop := (∃ n_32 : Nat, Limits_findBounds_L2 a1 wt (fun (bd_13 : (Nat → Nat → Int64)) => Limits_closesBelowZero_wp bd_13 a1 (fun (r_14 : Int32) (u_15 : Unit) => ((¬ r_14 = 0 → (∃ n_27 : Nat, Limits_findBounds_L78 a1 (fun (v2_24 : Int32) (bd_25 : (Nat → Nat → Int64)) => x_bool v2_24 ∧ Qr v2_24 bd_25) n_27 0 0 bd_13)) ∧ (r_14 = 0 → (∃ n_31 : Nat, Limits_findBounds_L78 a1 (fun (v2_28 : Int32) (bd_29 : (Nat → Nat → Int64)) => x_bool v2_28 ∧ Qr v2_28 bd_29) n_31 1 0 bd_13))))) n_32 0 bd)
set_option maxHeartbeats 4000000 in
set_option maxRecDepth 100000 in
theorem Limits_findBounds_L9_ok {p : Program} {l : Launch} {e : Env} {s : State} {m : MethodId} {args : Array Value} {below : List Frame} {meth : Method} {c : Code} {Q : State → Prop} {D : va_G} {A : Nat → Prop} {ad : Nat → Nat} {cI cL cO : ClassId} {sc : Int32} {sd : Int32} {src : (Nat → Int32)} {itm : (Nat → Int32)} {knd : (Nat → Int32)} {plc : (Nat → Int32)} {clk : (Nat → Int64)} {ec : Int32} {nf : (Nat → Int32)} {ns : (Nat → Int32)} {nc : Int32} {wt : (Nat → Nat → Int64)} {off : (Nat → Int64)} {row : (Nat → Int32)} {hw : (Nat → Nat → Int64)} {rl : Int32} {tm : (Nat → Int64)} {ord : (Nat → Int32)} {tc : Int32} {v1 : Int32} {v2 : Int32} {Qx : (Nat → Nat → Int64) → Prop} (hC : XC p s m args c D vwCl (tysX cI cL cO) A 4 bLi_findBounds TBL RLi)  (hexit : ∀ (bd : (Nat → Nat → Int64)), Qx bd → XW p l e rm_Limits_findBounds s m args below meth c D vwCl A 4 Q 0 0 (wX ad cI cL cO sc sd src itm knd plc clk ec nf ns nc wt bd off row hw rl tm ord tc) 36 [(0, .ref (ad 10)), (1, .int v1), (2, .int v2)] []) : ∀ (n : Nat) (v3 : Int32) (bd : (Nat → Nat → Int64)), Limits_findBounds_L9 v1 v2 wt Qx n v3 bd → XW p l e rm_Limits_findBounds s m args below meth c D vwCl A 4 Q 0 0 (wX ad cI cL cO sc sd src itm knd plc clk ec nf ns nc wt bd off row hw rl tm ord tc) 9 [(0, .ref (ad 10)), (1, .int v1), (2, .int v2), (3, .int v3)] [] := by
  intro n
  induction n with
  | zero => intro v3 bd h; exact False.elim h
  | succ n ih =>
    intro v3 bd h
    unfold Limits_findBounds_L9 at h
    refine x_iload_n hC dLi_findBounds_9 rfl 3 rfl ?_
    refine x_iload_n hC dLi_findBounds_10 rfl 1 rfl ?_
    refine x_icmp_ge (tgt := 36) hC dLi_findBounds_11 (by decide) (fun c_2 => ?_) (fun c_2 => ?_)
    · have h := h.1 c_2
      refine x_lv [0, 1, 2] rfl ?_
      exact hexit bd h
    · have h := h.2 c_2
      refine x_aload_n hC dLi_findBounds_14 rfl 0 rfl ?_
      refine x_get hC iLi 10 wX_10 rfl 1 (by decide) k_x20 rfl rfl dLi_findBounds_15 ?_
      refine x_iload_n hC dLi_findBounds_18 rfl 2 rfl ?_
      obtain ⟨hb_3, h⟩ := h
      refine x_aald (y := ad (36 + v2.toNatClampNeg)) hC 12 2 wX_12 rfl rfl hb_3 rfl dLi_findBounds_19 ?_
      refine x_iload_n hC dLi_findBounds_20 rfl 3 rfl ?_
      refine x_aload_n hC dLi_findBounds_21 rfl 0 rfl ?_
      refine x_get hC iLi 10 wX_10 rfl 0 (by decide) k_x9 rfl rfl dLi_findBounds_22 ?_
      refine x_iload_n hC dLi_findBounds_25 rfl 2 rfl ?_
      obtain ⟨hb_4, h⟩ := h
      refine x_aald (y := ad (20 + v2.toNatClampNeg)) hC 11 2 wX_11 rfl rfl hb_4 rfl dLi_findBounds_26 ?_
      refine x_iload_n hC dLi_findBounds_27 rfl 3 rfl ?_
      obtain ⟨hb_5, h⟩ := h
      refine x_lald hC (20 + v2.toNatClampNeg) 1 (wX_wt (x_in_lt hb_4)) rfl hb_5 dLi_findBounds_28 ?_
      obtain ⟨hb_6, h⟩ := h
      refine x_last (ws' := (wX ad cI cL cO sc sd src itm knd plc clk ec nf ns nc wt (va_up bd v2.toNatClampNeg (vp_updL (bd v2.toNatClampNeg) v3.toNatClampNeg ((wt v2.toNatClampNeg) v3.toNatClampNeg))) off row hw rl tm ord tc)) hC (36 + v2.toNatClampNeg) 1 (wX_bd (x_in_lt hb_3)) rfl hb_6 (wX_bd_set (x_in_lt hb_3)) dLi_findBounds_29 ?_
      refine x_iinc (v := v3 + 1) (lv' := [(3, .int (v3 + 1)), (0, .ref (ad 10)), (1, .int v1), (2, .int v2)]) hC dLi_findBounds_30 3 rfl rfl (by decide) rfl ?_
      refine x_goto (tgt := 9) hC dLi_findBounds_33 (by decide) ?_
      refine x_lv [1, 2, 3, 0] rfl ?_
      exact ih (v3 + 1) (va_up bd v2.toNatClampNeg (vp_updL (bd v2.toNatClampNeg) v3.toNatClampNeg ((wt v2.toNatClampNeg) v3.toNatClampNeg))) h

set_option maxHeartbeats 4000000 in
set_option maxRecDepth 100000 in
theorem Limits_findBounds_L2_ok {p : Program} {l : Launch} {e : Env} {s : State} {m : MethodId} {args : Array Value} {below : List Frame} {meth : Method} {c : Code} {Q : State → Prop} {D : va_G} {A : Nat → Prop} {ad : Nat → Nat} {cI cL cO : ClassId} {sc : Int32} {sd : Int32} {src : (Nat → Int32)} {itm : (Nat → Int32)} {knd : (Nat → Int32)} {plc : (Nat → Int32)} {clk : (Nat → Int64)} {ec : Int32} {nf : (Nat → Int32)} {ns : (Nat → Int32)} {nc : Int32} {wt : (Nat → Nat → Int64)} {off : (Nat → Int64)} {row : (Nat → Int32)} {hw : (Nat → Nat → Int64)} {rl : Int32} {tm : (Nat → Int64)} {ord : (Nat → Int32)} {tc : Int32} {v1 : Int32} {Qx : (Nat → Nat → Int64) → Prop} (hC : XC p s m args c D vwCl (tysX cI cL cO) A 4 bLi_findBounds TBL RLi)  (hexit : ∀ (bd : (Nat → Nat → Int64)), Qx bd → XW p l e rm_Limits_findBounds s m args below meth c D vwCl A 4 Q 0 0 (wX ad cI cL cO sc sd src itm knd plc clk ec nf ns nc wt bd off row hw rl tm ord tc) 62 [(0, .ref (ad 10)), (1, .int v1)] []) : ∀ (n : Nat) (v2 : Int32) (bd : (Nat → Nat → Int64)), Limits_findBounds_L2 v1 wt Qx n v2 bd → XW p l e rm_Limits_findBounds s m args below meth c D vwCl A 4 Q 0 0 (wX ad cI cL cO sc sd src itm knd plc clk ec nf ns nc wt bd off row hw rl tm ord tc) 2 [(0, .ref (ad 10)), (1, .int v1), (2, .int v2)] [] := by
  intro n
  induction n with
  | zero => intro v2 bd h; exact False.elim h
  | succ n ih =>
    intro v2 bd h
    unfold Limits_findBounds_L2 at h
    refine x_iload_n hC dLi_findBounds_2 rfl 2 rfl ?_
    refine x_iload_n hC dLi_findBounds_3 rfl 1 rfl ?_
    refine x_icmp_ge (tgt := 62) hC dLi_findBounds_4 (by decide) (fun c_1 => ?_) (fun c_1 => ?_)
    · have h := h.1 c_1
      refine x_lv [0, 1] rfl ?_
      exact hexit bd h
    · have h := h.2 c_1
      refine x_iconst (v := 0) hC dLi_findBounds_7 (by decide) ?_
      refine x_istore_n (lv' := [(3, .int 0), (0, .ref (ad 10)), (1, .int v1), (2, .int v2)]) hC dLi_findBounds_8 rfl (by decide) rfl ?_
      obtain ⟨n_12, h⟩ := h
      refine x_lv [1, 2, 3, 0] rfl ?_
      refine Limits_findBounds_L9_ok hC (fun bd_7 h => ?_) n_12 0 bd h
      refine x_aload_n hC dLi_findBounds_36 rfl 0 rfl ?_
      refine x_get hC iLi 10 wX_10 rfl 1 (by decide) k_x20 rfl rfl dLi_findBounds_37 ?_
      refine x_iload_n hC dLi_findBounds_40 rfl 2 rfl ?_
      obtain ⟨hb_8, h⟩ := h
      refine x_aald (y := ad (36 + v2.toNatClampNeg)) hC 12 2 wX_12 rfl rfl hb_8 rfl dLi_findBounds_41 ?_
      refine x_iload_n hC dLi_findBounds_42 rfl 2 rfl ?_
      refine x_aload_n hC dLi_findBounds_43 rfl 0 rfl ?_
      refine x_get hC iLi 10 wX_10 rfl 0 (by decide) k_x9 rfl rfl dLi_findBounds_44 ?_
      refine x_iload_n hC dLi_findBounds_47 rfl 2 rfl ?_
      obtain ⟨hb_9, h⟩ := h
      refine x_aald (y := ad (20 + v2.toNatClampNeg)) hC 11 2 wX_11 rfl rfl hb_9 rfl dLi_findBounds_48 ?_
      refine x_iload_n hC dLi_findBounds_49 rfl 2 rfl ?_
      obtain ⟨hb_10, h⟩ := h
      refine x_lald hC (20 + v2.toNatClampNeg) 1 (wX_wt (x_in_lt hb_9)) rfl hb_10 dLi_findBounds_50 ?_
      refine x_lconst (v := 0) hC dLi_findBounds_51 (by decide) ?_
      refine x_mminl hC k_x16 k_x17 k_x18 k_x19 (by decide) (Nat.le_of_ble_eq_true rfl) (by decide) (by decide) dLi_findBounds_52 ?_
      obtain ⟨hb_11, h⟩ := h
      refine x_last (ws' := (wX ad cI cL cO sc sd src itm knd plc clk ec nf ns nc wt (va_up bd_7 v2.toNatClampNeg (vp_updL (bd_7 v2.toNatClampNeg) v2.toNatClampNeg (if 0 < ((wt v2.toNatClampNeg) v2.toNatClampNeg) then 0 else ((wt v2.toNatClampNeg) v2.toNatClampNeg)))) off row hw rl tm ord tc)) hC (36 + v2.toNatClampNeg) 1 (wX_bd (x_in_lt hb_8)) rfl hb_11 (wX_bd_set (x_in_lt hb_8)) dLi_findBounds_55 ?_
      refine x_iinc (v := v2 + 1) (lv' := [(2, .int (v2 + 1)), (0, .ref (ad 10)), (1, .int v1)]) hC dLi_findBounds_56 2 rfl rfl (by decide) rfl ?_
      refine x_goto (tgt := 2) hC dLi_findBounds_59 (by decide) ?_
      refine x_lv [1, 2, 0] rfl ?_
      exact ih (v2 + 1) (va_up bd_7 v2.toNatClampNeg (vp_updL (bd_7 v2.toNatClampNeg) v2.toNatClampNeg (if 0 < ((wt v2.toNatClampNeg) v2.toNatClampNeg) then 0 else ((wt v2.toNatClampNeg) v2.toNatClampNeg)))) h

set_option maxHeartbeats 4000000 in
set_option maxRecDepth 100000 in
theorem Limits_findBounds_L78_ok {p : Program} {l : Launch} {e : Env} {s : State} {m : MethodId} {args : Array Value} {below : List Frame} {meth : Method} {c : Code} {Q : State → Prop} {D : va_G} {A : Nat → Prop} {ad : Nat → Nat} {cI cL cO : ClassId} {sc : Int32} {sd : Int32} {src : (Nat → Int32)} {itm : (Nat → Int32)} {knd : (Nat → Int32)} {plc : (Nat → Int32)} {clk : (Nat → Int64)} {ec : Int32} {nf : (Nat → Int32)} {ns : (Nat → Int32)} {nc : Int32} {wt : (Nat → Nat → Int64)} {off : (Nat → Int64)} {row : (Nat → Int32)} {hw : (Nat → Nat → Int64)} {rl : Int32} {tm : (Nat → Int64)} {ord : (Nat → Int32)} {tc : Int32} {v1 : Int32} {Qx : Int32 → (Nat → Nat → Int64) → Prop} (hC : XC p s m args c D vwCl (tysX cI cL cO) A 4 bLi_findBounds TBL RLi)  (hexit : ∀ (v2 : Int32) (bd : (Nat → Nat → Int64)), Qx v2 bd → XW p l e rm_Limits_findBounds s m args below meth c D vwCl A 4 Q 0 0 (wX ad cI cL cO sc sd src itm knd plc clk ec nf ns nc wt bd off row hw rl tm ord tc) 113 [(2, .int v2)] []) : ∀ (n : Nat) (v2 : Int32) (v3 : Int32) (bd : (Nat → Nat → Int64)), Limits_findBounds_L78 v1 Qx n v2 v3 bd → XW p l e rm_Limits_findBounds s m args below meth c D vwCl A 4 Q 0 0 (wX ad cI cL cO sc sd src itm knd plc clk ec nf ns nc wt bd off row hw rl tm ord tc) 78 [(0, .ref (ad 10)), (1, .int v1), (2, .int v2), (3, .int v3)] [] := by
  intro n
  induction n with
  | zero => intro v2 v3 bd h; exact False.elim h
  | succ n ih =>
    intro v2 v3 bd h
    unfold Limits_findBounds_L78 at h
    refine x_iload_n hC dLi_findBounds_78 rfl 3 rfl ?_
    refine x_iload_n hC dLi_findBounds_79 rfl 1 rfl ?_
    refine x_icmp_ge (tgt := 113) hC dLi_findBounds_80 (by decide) (fun c_17 => ?_) (fun c_17 => ?_)
    · have h := h.1 c_17
      refine x_lv [2] rfl ?_
      exact hexit v2 bd h
    · have h := h.2 c_17
      refine x_iload_n hC dLi_findBounds_83 rfl 2 rfl ?_
      refine x_if_eq (tgt := 113) hC dLi_findBounds_84 (by decide) (fun c_18 => ?_) (fun c_18 => ?_)
      · have h := h.1 c_18
        refine x_lv [2] rfl ?_
        exact hexit v2 bd h
      · have h := h.2 c_18
        refine x_aload_n hC dLi_findBounds_87 rfl 0 rfl ?_
        refine x_iload_n hC dLi_findBounds_88 rfl 3 rfl ?_
        refine x_iload_n hC dLi_findBounds_89 rfl 1 rfl ?_
        refine x_callVv (S := (Nat → Nat → Int64)) (wf := fun u => (wX ad cI cL cO sc sd src itm knd plc clk ec nf ns nc wt u off row hw rl tm ord tc)) hC [.int v3, .int v1] (fun sz => c_Limits_shortenThrough h sz) (by decide) (by decide) k_x26 k_x27 k_x28 (by decide) 2 rfl (by decide +kernel) ⟨by decide, by decide⟩ (Nat.le_of_ble_eq_true rfl) k_x29 k_x30 wX_10 rfl rfl dLi_findBounds_90 (fun _ h9 => h9) (fun u_20 h => ?_)
        refine x_aload_n hC dLi_findBounds_93 rfl 0 rfl ?_
        refine x_iload_n hC dLi_findBounds_94 rfl 1 rfl ?_
        refine x_callVi (S := Unit) (wf := fun u => (wX ad cI cL cO sc sd src itm knd plc clk ec nf ns nc wt u_20 off row hw rl tm ord tc)) hC [.int v1] (fun sz => c_Limits_closesBelowZero h sz) (by decide) (by decide) k_x21 k_x22 k_x23 (by decide) 1 rfl (by decide +kernel) ⟨by decide, by decide⟩ (Nat.le_of_ble_eq_true rfl) k_x24 k_x25 wX_10 rfl rfl dLi_findBounds_95 (fun _ h9 => h9) (fun r_21 u_22 h => ?_)
        refine x_if_ne (tgt := 105) hC dLi_findBounds_98 (by decide) (fun c_23 => ?_) (fun c_23 => ?_)
        · have h := h.1 c_23
          refine x_iconst (v := 0) hC dLi_findBounds_105 (by decide) ?_
          refine x_istore_n (lv' := [(2, .int 0), (0, .ref (ad 10)), (1, .int v1), (3, .int v3)]) hC dLi_findBounds_106 rfl (by decide) rfl ?_
          refine x_iinc (v := v3 + 1) (lv' := [(3, .int (v3 + 1)), (2, .int 0), (0, .ref (ad 10)), (1, .int v1)]) hC dLi_findBounds_107 3 rfl rfl (by decide) rfl ?_
          refine x_goto (tgt := 78) hC dLi_findBounds_110 (by decide) ?_
          refine x_lv [2, 3, 1, 0] rfl ?_
          exact ih 0 (v3 + 1) u_20 h
        · have h := h.2 c_23
          refine x_iconst (v := 1) hC dLi_findBounds_101 (by decide) ?_
          refine x_goto (tgt := 106) hC dLi_findBounds_102 (by decide) ?_
          refine x_istore_n (lv' := [(2, .int 1), (0, .ref (ad 10)), (1, .int v1), (3, .int v3)]) hC dLi_findBounds_106 rfl (by decide) rfl ?_
          refine x_iinc (v := v3 + 1) (lv' := [(3, .int (v3 + 1)), (2, .int 1), (0, .ref (ad 10)), (1, .int v1)]) hC dLi_findBounds_107 3 rfl rfl (by decide) rfl ?_
          refine x_goto (tgt := 78) hC dLi_findBounds_110 (by decide) ?_
          refine x_lv [2, 3, 1, 0] rfl ?_
          exact ih 1 (v3 + 1) u_20 h

set_option maxHeartbeats 4000000 in
set_option maxRecDepth 100000 in
theorem c_Limits_findBounds {l : Launch} {D : va_G} {ad : Nat → Nat} {cI cL cO : ClassId} {sc : Int32} {sd : Int32} {src : (Nat → Int32)} {itm : (Nat → Int32)} {knd : (Nat → Int32)} {plc : (Nat → Int32)} {clk : (Nat → Int64)} {ec : Int32} {nf : (Nat → Int32)} {ns : (Nat → Int32)} {nc : Int32} {wt : (Nat → Nat → Int64)} {bd : (Nat → Nat → Int64)} {off : (Nat → Int64)} {row : (Nat → Int32)} {hw : (Nat → Nat → Int64)} {rl : Int32} {tm : (Nat → Int64)} {ord : (Nat → Int32)} {tc : Int32} {a1 : Int32} {Qr : Int32 → (Nat → Nat → Int64) → Prop} (h : Limits_findBounds_wp wt bd a1 Qr) (sz : Nat) : vx_Met l yLi_findBounds (Cond.code yLi_findBounds bLi_findBounds 4 (some .boolean) :: TBL) rm_Limits_findBounds (va_Pc [.ref (ad 10), .int a1] (XP D vwCl (tysX cI cL cO) (wX ad cI cL cO sc sd src itm knd plc clk ec nf ns nc wt bd off row hw rl tm ord tc) sz)) (va_Qi Qr (fun u t => XB D vwCl (tysX cI cL cO) (va_A (wX ad cI cL cO sc sd src itm knd plc clk ec nf ns nc wt bd off row hw rl tm ord tc) sz) (wX ad cI cL cO sc sd src itm knd plc clk ec nf ns nc wt u off row hw rl tm ord tc) t) (va_A (wX ad cI cL cO sc sd src itm knd plc clk ec nf ns nc wt bd off row hw rl tm ord tc) sz)) (XT D vwCl (tysX cI cL cO) (va_A (wX ad cI cL cO sc sd src itm knd plc clk ec nf ns nc wt bd off row hw rl tm ord tc) sz) (wX ad cI cL cO sc sd src itm knd plc clk ec nf ns nc wt bd off row hw rl tm ord tc) (fun _ => False)) rm_Limits_findBounds.cells rm_Limits_findBounds.slots (va_A (wX ad cI cL cO sc sd src itm knd plc clk ec nf ns nc wt bd off row hw rl tm ord tc) sz) := by
  refine x_met [.ref (ad 10), .int a1] TBL_good (by decide) (Nat.le_of_ble_eq_true rfl) ?_
  intro p e s m args below meth c hC hr hlk hnm hnh
  have hret : ∀ (ce sl : Nat), ce ≤ rm_Limits_findBounds.cells → sl ≤ rm_Limits_findBounds.slots → ∀ (r : Int32) (u : (Nat → Nat → Int64)), x_bool r → Qr r u → ∀ (pc : Nat) (lv : List (Nat × Value)), decode bLi_findBounds pc = .ok (.ireturn, 1) → XW p l e rm_Limits_findBounds s m args below meth c D vwCl (va_A (wX ad cI cL cO sc sd src itm knd plc clk ec nf ns nc wt bd off row hw rl tm ord tc) sz) 4 (vx_MQ below (va_Qi Qr (fun u t => XB D vwCl (tysX cI cL cO) (va_A (wX ad cI cL cO sc sd src itm knd plc clk ec nf ns nc wt bd off row hw rl tm ord tc) sz) (wX ad cI cL cO sc sd src itm knd plc clk ec nf ns nc wt u off row hw rl tm ord tc) t) (va_A (wX ad cI cL cO sc sd src itm knd plc clk ec nf ns nc wt bd off row hw rl tm ord tc) sz)) (XT D vwCl (tysX cI cL cO) (va_A (wX ad cI cL cO sc sd src itm knd plc clk ec nf ns nc wt bd off row hw rl tm ord tc) sz) (wX ad cI cL cO sc sd src itm knd plc clk ec nf ns nc wt bd off row hw rl tm ord tc) (fun _ => False)) args s rm_Limits_findBounds.cells rm_Limits_findBounds.slots (va_A (wX ad cI cL cO sc sd src itm knd plc clk ec nf ns nc wt bd off row hw rl tm ord tc) sz)) ce sl (wX ad cI cL cO sc sd src itm knd plc clk ec nf ns nc wt u off row hw rl tm ord tc) pc lv [.int r] := fun ce sl h1 h2 r u hb9 hq pc lv hd => x_zret (wf := fun u => (wX ad cI cL cO sc sd src itm knd plc clk ec nf ns nc wt u off row hw rl tm ord tc)) hC h1 h2 hr hlk hb9 hd hq rfl
  show XW p l e rm_Limits_findBounds s m args below meth c D vwCl (va_A (wX ad cI cL cO sc sd src itm knd plc clk ec nf ns nc wt bd off row hw rl tm ord tc) sz) 4 _ 0 0 (wX ad cI cL cO sc sd src itm knd plc clk ec nf ns nc wt bd off row hw rl tm ord tc) 0 [(0, .ref (ad 10)), (1, .int a1)] []
  unfold Limits_findBounds_wp at h
  refine x_iconst (v := 0) hC dLi_findBounds_0 (by decide) ?_
  refine x_istore_n (lv' := [(2, .int 0), (0, .ref (ad 10)), (1, .int a1)]) hC dLi_findBounds_1 rfl (by decide) rfl ?_
  obtain ⟨n_32, h⟩ := h
  refine x_lv [1, 2, 0] rfl ?_
  refine Limits_findBounds_L2_ok hC (fun bd_13 h => ?_) n_32 0 bd h
  refine x_aload_n hC dLi_findBounds_62 rfl 0 rfl ?_
  refine x_iload_n hC dLi_findBounds_63 rfl 1 rfl ?_
  refine x_callVi (S := Unit) (wf := fun u => (wX ad cI cL cO sc sd src itm knd plc clk ec nf ns nc wt bd_13 off row hw rl tm ord tc)) hC [.int a1] (fun sz => c_Limits_closesBelowZero h sz) (by decide) (by decide) k_x21 k_x22 k_x23 (by decide) 1 rfl (by decide +kernel) ⟨by decide, by decide⟩ (Nat.le_of_ble_eq_true rfl) k_x24 k_x25 wX_10 rfl rfl dLi_findBounds_64 (fun _ h9 => h9) (fun r_14 u_15 h => ?_)
  refine x_if_ne (tgt := 74) hC dLi_findBounds_67 (by decide) (fun c_16 => ?_) (fun c_16 => ?_)
  · have h := h.1 c_16
    refine x_iconst (v := 0) hC dLi_findBounds_74 (by decide) ?_
    refine x_istore_n (lv' := [(2, .int 0), (0, .ref (ad 10)), (1, .int a1)]) hC dLi_findBounds_75 rfl (by decide) rfl ?_
    refine x_iconst (v := 0) hC dLi_findBounds_76 (by decide) ?_
    refine x_istore_n (lv' := [(3, .int 0), (2, .int 0), (0, .ref (ad 10)), (1, .int a1)]) hC dLi_findBounds_77 rfl (by decide) rfl ?_
    obtain ⟨n_27, h⟩ := h
    refine x_lv [2, 3, 1, 0] rfl ?_
    refine Limits_findBounds_L78_ok hC (fun v2_24 bd_25 h => ?_) n_27 0 0 bd_13 h
    refine x_iload_n hC dLi_findBounds_113 rfl 0 rfl ?_
    obtain ⟨hb_26, h⟩ := h
    exact hret _ _ (by decide) (by decide) v2_24 bd_25 hb_26 h _ _ dLi_findBounds_114
  · have h := h.2 c_16
    refine x_iconst (v := 1) hC dLi_findBounds_70 (by decide) ?_
    refine x_goto (tgt := 75) hC dLi_findBounds_71 (by decide) ?_
    refine x_istore_n (lv' := [(2, .int 1), (0, .ref (ad 10)), (1, .int a1)]) hC dLi_findBounds_75 rfl (by decide) rfl ?_
    refine x_iconst (v := 0) hC dLi_findBounds_76 (by decide) ?_
    refine x_istore_n (lv' := [(3, .int 0), (2, .int 1), (0, .ref (ad 10)), (1, .int a1)]) hC dLi_findBounds_77 rfl (by decide) rfl ?_
    obtain ⟨n_31, h⟩ := h
    refine x_lv [2, 3, 1, 0] rfl ?_
    refine Limits_findBounds_L78_ok hC (fun v2_28 bd_29 h => ?_) n_31 1 0 bd_13 h
    refine x_iload_n hC dLi_findBounds_113 rfl 0 rfl ?_
    obtain ⟨hb_30, h⟩ := h
    exact hret _ _ (by decide) (by decide) v2_28 bd_29 hb_30 h _ _ dLi_findBounds_114

/-! EventOrder$Limits.chooseOffsets(I)V -/
abbrev rm_Limits_chooseOffsets : Room := { frames := 1, cells := 0, slots := 0, locals := 40 }
def Limits_chooseOffsets_L19 (v1 : Int32) (v2 : Int32) (bd : (Nat → Nat → Int64)) (off : (Nat → Int64)) (Qx : Int64 → Int64 → Prop) : Nat → Int64 → Int64 → Int32 → Prop
  | 0, _, _, _ => False
  | n + 1, v3, v5, v7 => ((v2 ≤ v7 → Qx v3 v5) ∧ (¬ v2 ≤ v7 → vp_in v2 16 ∧ vp_in v7 16 ∧ ((((bd v2.toNatClampNeg) v7.toNatClampNeg) = 9223372036854775807 → vp_in v7 16 ∧ vp_in v2 16 ∧ ((((bd v7.toNatClampNeg) v2.toNatClampNeg) = 9223372036854775807 → Limits_chooseOffsets_L19 v1 v2 bd off Qx n v3 v5 (v7 + 1)) ∧ (¬ ((bd v7.toNatClampNeg) v2.toNatClampNeg) = 9223372036854775807 → vp_in v7 16 ∧ vp_in v7 16 ∧ vp_in v2 16 ∧ Limits_chooseOffsets_L19 v1 v2 bd off Qx n (if ((off v7.toNatClampNeg) - ((bd v7.toNatClampNeg) v2.toNatClampNeg)) < v3 then v3 else ((off v7.toNatClampNeg) - ((bd v7.toNatClampNeg) v2.toNatClampNeg))) v5 (v7 + 1)))) ∧ (¬ ((bd v2.toNatClampNeg) v7.toNatClampNeg) = 9223372036854775807 → vp_in v7 16 ∧ vp_in v2 16 ∧ vp_in v7 16 ∧ vp_in v7 16 ∧ vp_in v2 16 ∧ ((((bd v7.toNatClampNeg) v2.toNatClampNeg) = 9223372036854775807 → Limits_chooseOffsets_L19 v1 v2 bd off Qx n v3 (if ((off v7.toNatClampNeg) + ((bd v2.toNatClampNeg) v7.toNatClampNeg)) < v5 then ((off v7.toNatClampNeg) + ((bd v2.toNatClampNeg) v7.toNatClampNeg)) else v5) (v7 + 1)) ∧ (¬ ((bd v7.toNatClampNeg) v2.toNatClampNeg) = 9223372036854775807 → vp_in v7 16 ∧ vp_in v7 16 ∧ vp_in v2 16 ∧ Limits_chooseOffsets_L19 v1 v2 bd off Qx n (if ((off v7.toNatClampNeg) - ((bd v7.toNatClampNeg) v2.toNatClampNeg)) < v3 then v3 else ((off v7.toNatClampNeg) - ((bd v7.toNatClampNeg) v2.toNatClampNeg))) (if ((off v7.toNatClampNeg) + ((bd v2.toNatClampNeg) v7.toNatClampNeg)) < v5 then ((off v7.toNatClampNeg) + ((bd v2.toNatClampNeg) v7.toNatClampNeg)) else v5) (v7 + 1)))))))

def Limits_chooseOffsets_L2 (v1 : Int32) (bd : (Nat → Nat → Int64)) (Qx : (Nat → Int64) → Prop) : Nat → Int32 → (Nat → Int64) → Prop
  | 0, _, _ => False
  | n + 1, v2, off => ((v1 ≤ v2 → Qx off) ∧ (¬ v1 ≤ v2 → (∃ n_24 : Nat, Limits_chooseOffsets_L19 v1 v2 bd off (fun (v3_21 : Int64) (v5_22 : Int64) => vp_in v2 16 ∧ Limits_chooseOffsets_L2 v1 bd Qx n (v2 + 1) (vp_updL off v2.toNatClampNeg (if (if 0 < v5_22 then 0 else v5_22) < v3_21 then v3_21 else (if 0 < v5_22 then 0 else v5_22)))) n_24 (-9223372036854775807) 9223372036854775807 0)))

def Limits_chooseOffsets_wp (bd : (Nat → Nat → Int64)) (off : (Nat → Int64)) (a1 : Int32) (Qr : (Nat → Int64) → Prop) : Prop := (∃ n_26 : Nat, Limits_chooseOffsets_L2 a1 bd (fun (off_25 : (Nat → Int64)) => Qr off_25) n_26 0 off)
set_option maxHeartbeats 4000000 in
set_option maxRecDepth 100000 in
theorem Limits_chooseOffsets_L19_ok {p : Program} {l : Launch} {e : Env} {s : State} {m : MethodId} {args : Array Value} {below : List Frame} {meth : Method} {c : Code} {Q : State → Prop} {D : va_G} {A : Nat → Prop} {ad : Nat → Nat} {cI cL cO : ClassId} {sc : Int32} {sd : Int32} {src : (Nat → Int32)} {itm : (Nat → Int32)} {knd : (Nat → Int32)} {plc : (Nat → Int32)} {clk : (Nat → Int64)} {ec : Int32} {nf : (Nat → Int32)} {ns : (Nat → Int32)} {nc : Int32} {wt : (Nat → Nat → Int64)} {bd : (Nat → Nat → Int64)} {off : (Nat → Int64)} {row : (Nat → Int32)} {hw : (Nat → Nat → Int64)} {rl : Int32} {tm : (Nat → Int64)} {ord : (Nat → Int32)} {tc : Int32} {v1 : Int32} {v2 : Int32} {Qx : Int64 → Int64 → Prop} (hC : XC p s m args c D vwCl (tysX cI cL cO) A 8 bLi_chooseOffsets TBL RLi)  (hexit : ∀ (v3 : Int64) (v5 : Int64), Qx v3 v5 → XW p l e rm_Limits_chooseOffsets s m args below meth c D vwCl A 8 Q 0 0 (wX ad cI cL cO sc sd src itm knd plc clk ec nf ns nc wt bd off row hw rl tm ord tc) 109 [(0, .ref (ad 10)), (1, .int v1), (2, .int v2), (3, .long v3), (5, .long v5)] []) : ∀ (n : Nat) (v3 : Int64) (v5 : Int64) (v7 : Int32), Limits_chooseOffsets_L19 v1 v2 bd off Qx n v3 v5 v7 → XW p l e rm_Limits_chooseOffsets s m args below meth c D vwCl A 8 Q 0 0 (wX ad cI cL cO sc sd src itm knd plc clk ec nf ns nc wt bd off row hw rl tm ord tc) 19 [(0, .ref (ad 10)), (1, .int v1), (2, .int v2), (3, .long v3), (5, .long v5), (7, .int v7)] [] := by
  intro n
  induction n with
  | zero => intro v3 v5 v7 h; exact False.elim h
  | succ n ih =>
    intro v3 v5 v7 h
    unfold Limits_chooseOffsets_L19 at h
    refine x_iload hC dLi_chooseOffsets_19 5 rfl ?_
    refine x_iload_n hC dLi_chooseOffsets_21 rfl 2 rfl ?_
    refine x_icmp_ge (tgt := 109) hC dLi_chooseOffsets_22 (by decide) (fun c_2 => ?_) (fun c_2 => ?_)
    · have h := h.1 c_2
      refine x_lv [0, 1, 2, 3, 4] rfl ?_
      exact hexit v3 v5 h
    · have h := h.2 c_2
      refine x_aload_n hC dLi_chooseOffsets_25 rfl 0 rfl ?_
      refine x_get hC iLi 10 wX_10 rfl 1 (by decide) k_x20 rfl rfl dLi_chooseOffsets_26 ?_
      refine x_iload_n hC dLi_chooseOffsets_29 rfl 2 rfl ?_
      obtain ⟨hb_3, h⟩ := h
      refine x_aald (y := ad (36 + v2.toNatClampNeg)) hC 12 2 wX_12 rfl rfl hb_3 rfl dLi_chooseOffsets_30 ?_
      refine x_iload hC dLi_chooseOffsets_31 5 rfl ?_
      obtain ⟨hb_4, h⟩ := h
      refine x_lald hC (36 + v2.toNatClampNeg) 1 (wX_bd (x_in_lt hb_3)) rfl hb_4 dLi_chooseOffsets_33 ?_
      refine x_ldc2 (v := 9223372036854775807) hC k_x10 dLi_chooseOffsets_34 ?_
      refine x_lcmp_eq (tgt := 65) hC dLi_chooseOffsets_37 dLi_chooseOffsets_38 (by decide) (fun c_5 => ?_) (fun c_5 => ?_)
      · have h := h.1 c_5
        refine x_aload_n hC dLi_chooseOffsets_65 rfl 0 rfl ?_
        refine x_get hC iLi 10 wX_10 rfl 1 (by decide) k_x20 rfl rfl dLi_chooseOffsets_66 ?_
        refine x_iload hC dLi_chooseOffsets_69 5 rfl ?_
        obtain ⟨hb_6, h⟩ := h
        refine x_aald (y := ad (36 + v7.toNatClampNeg)) hC 12 2 wX_12 rfl rfl hb_6 rfl dLi_chooseOffsets_71 ?_
        refine x_iload_n hC dLi_chooseOffsets_72 rfl 2 rfl ?_
        obtain ⟨hb_7, h⟩ := h
        refine x_lald hC (36 + v7.toNatClampNeg) 1 (wX_bd (x_in_lt hb_6)) rfl hb_7 dLi_chooseOffsets_73 ?_
        refine x_ldc2 (v := 9223372036854775807) hC k_x10 dLi_chooseOffsets_74 ?_
        refine x_lcmp_eq (tgt := 103) hC dLi_chooseOffsets_77 dLi_chooseOffsets_78 (by decide) (fun c_8 => ?_) (fun c_8 => ?_)
        · have h := h.1 c_8
          refine x_iinc (v := v7 + 1) (lv' := [(7, .int (v7 + 1)), (0, .ref (ad 10)), (1, .int v1), (2, .int v2), (3, .long v3), (5, .long v5)]) hC dLi_chooseOffsets_103 5 rfl rfl (by decide) rfl ?_
          refine x_goto (tgt := 19) hC dLi_chooseOffsets_106 (by decide) ?_
          refine x_lv [1, 2, 3, 4, 5, 0] rfl ?_
          exact ih v3 v5 (v7 + 1) h
        · have h := h.2 c_8
          refine x_lload_n hC dLi_chooseOffsets_81 rfl 3 rfl ?_
          refine x_aload_n hC dLi_chooseOffsets_82 rfl 0 rfl ?_
          refine x_get hC iLi 10 wX_10 rfl 2 (by decide) k_x32 rfl rfl dLi_chooseOffsets_83 ?_
          refine x_iload hC dLi_chooseOffsets_86 5 rfl ?_
          obtain ⟨hb_9, h⟩ := h
          refine x_lald hC 13 1 wX_13 rfl hb_9 dLi_chooseOffsets_88 ?_
          refine x_aload_n hC dLi_chooseOffsets_89 rfl 0 rfl ?_
          refine x_get hC iLi 10 wX_10 rfl 1 (by decide) k_x20 rfl rfl dLi_chooseOffsets_90 ?_
          refine x_iload hC dLi_chooseOffsets_93 5 rfl ?_
          obtain ⟨hb_10, h⟩ := h
          refine x_aald (y := ad (36 + v7.toNatClampNeg)) hC 12 2 wX_12 rfl rfl hb_10 rfl dLi_chooseOffsets_95 ?_
          refine x_iload_n hC dLi_chooseOffsets_96 rfl 2 rfl ?_
          obtain ⟨hb_11, h⟩ := h
          refine x_lald hC (36 + v7.toNatClampNeg) 1 (wX_bd (x_in_lt hb_10)) rfl hb_11 dLi_chooseOffsets_97 ?_
          refine x_lsub hC dLi_chooseOffsets_98 ?_
          refine x_mmaxl hC k_x33 k_x34 k_x18 k_x35 (by decide) (Nat.le_of_ble_eq_true rfl) (by decide) (by decide) dLi_chooseOffsets_99 ?_
          refine x_lstore_n (lv' := [(3, .long (if ((off v7.toNatClampNeg) - ((bd v7.toNatClampNeg) v2.toNatClampNeg)) < v3 then v3 else ((off v7.toNatClampNeg) - ((bd v7.toNatClampNeg) v2.toNatClampNeg)))), (0, .ref (ad 10)), (1, .int v1), (2, .int v2), (5, .long v5), (7, .int v7)]) hC dLi_chooseOffsets_102 rfl (by decide) rfl ?_
          refine x_iinc (v := v7 + 1) (lv' := [(7, .int (v7 + 1)), (3, .long (if ((off v7.toNatClampNeg) - ((bd v7.toNatClampNeg) v2.toNatClampNeg)) < v3 then v3 else ((off v7.toNatClampNeg) - ((bd v7.toNatClampNeg) v2.toNatClampNeg)))), (0, .ref (ad 10)), (1, .int v1), (2, .int v2), (5, .long v5)]) hC dLi_chooseOffsets_103 5 rfl rfl (by decide) rfl ?_
          refine x_goto (tgt := 19) hC dLi_chooseOffsets_106 (by decide) ?_
          refine x_lv [2, 3, 4, 1, 5, 0] rfl ?_
          exact ih (if ((off v7.toNatClampNeg) - ((bd v7.toNatClampNeg) v2.toNatClampNeg)) < v3 then v3 else ((off v7.toNatClampNeg) - ((bd v7.toNatClampNeg) v2.toNatClampNeg))) v5 (v7 + 1) h
      · have h := h.2 c_5
        refine x_lload hC dLi_chooseOffsets_41 4 rfl ?_
        refine x_aload_n hC dLi_chooseOffsets_43 rfl 0 rfl ?_
        refine x_get hC iLi 10 wX_10 rfl 2 (by decide) k_x32 rfl rfl dLi_chooseOffsets_44 ?_
        refine x_iload hC dLi_chooseOffsets_47 5 rfl ?_
        obtain ⟨hb_12, h⟩ := h
        refine x_lald hC 13 1 wX_13 rfl hb_12 dLi_chooseOffsets_49 ?_
        refine x_aload_n hC dLi_chooseOffsets_50 rfl 0 rfl ?_
        refine x_get hC iLi 10 wX_10 rfl 1 (by decide) k_x20 rfl rfl dLi_chooseOffsets_51 ?_
        refine x_iload_n hC dLi_chooseOffsets_54 rfl 2 rfl ?_
        obtain ⟨hb_13, h⟩ := h
        refine x_aald (y := ad (36 + v2.toNatClampNeg)) hC 12 2 wX_12 rfl rfl hb_13 rfl dLi_chooseOffsets_55 ?_
        refine x_iload hC dLi_chooseOffsets_56 5 rfl ?_
        obtain ⟨hb_14, h⟩ := h
        refine x_lald hC (36 + v2.toNatClampNeg) 1 (wX_bd (x_in_lt hb_13)) rfl hb_14 dLi_chooseOffsets_58 ?_
        refine x_ladd hC dLi_chooseOffsets_59 ?_
        refine x_mminl hC k_x16 k_x17 k_x18 k_x19 (by decide) (Nat.le_of_ble_eq_true rfl) (by decide) (by decide) dLi_chooseOffsets_60 ?_
        refine x_lstore (lv' := [(5, .long (if ((off v7.toNatClampNeg) + ((bd v2.toNatClampNeg) v7.toNatClampNeg)) < v5 then ((off v7.toNatClampNeg) + ((bd v2.toNatClampNeg) v7.toNatClampNeg)) else v5)), (0, .ref (ad 10)), (1, .int v1), (2, .int v2), (3, .long v3), (7, .int v7)]) hC dLi_chooseOffsets_63 (by decide) rfl ?_
        refine x_aload_n hC dLi_chooseOffsets_65 rfl 1 rfl ?_
        refine x_get hC iLi 10 wX_10 rfl 1 (by decide) k_x20 rfl rfl dLi_chooseOffsets_66 ?_
        refine x_iload hC dLi_chooseOffsets_69 5 rfl ?_
        obtain ⟨hb_15, h⟩ := h
        refine x_aald (y := ad (36 + v7.toNatClampNeg)) hC 12 2 wX_12 rfl rfl hb_15 rfl dLi_chooseOffsets_71 ?_
        refine x_iload_n hC dLi_chooseOffsets_72 rfl 3 rfl ?_
        obtain ⟨hb_16, h⟩ := h
        refine x_lald hC (36 + v7.toNatClampNeg) 1 (wX_bd (x_in_lt hb_15)) rfl hb_16 dLi_chooseOffsets_73 ?_
        refine x_ldc2 (v := 9223372036854775807) hC k_x10 dLi_chooseOffsets_74 ?_
        refine x_lcmp_eq (tgt := 103) hC dLi_chooseOffsets_77 dLi_chooseOffsets_78 (by decide) (fun c_17 => ?_) (fun c_17 => ?_)
        · have h := h.1 c_17
          refine x_iinc (v := v7 + 1) (lv' := [(7, .int (v7 + 1)), (5, .long (if ((off v7.toNatClampNeg) + ((bd v2.toNatClampNeg) v7.toNatClampNeg)) < v5 then ((off v7.toNatClampNeg) + ((bd v2.toNatClampNeg) v7.toNatClampNeg)) else v5)), (0, .ref (ad 10)), (1, .int v1), (2, .int v2), (3, .long v3)]) hC dLi_chooseOffsets_103 5 rfl rfl (by decide) rfl ?_
          refine x_goto (tgt := 19) hC dLi_chooseOffsets_106 (by decide) ?_
          refine x_lv [2, 3, 4, 5, 1, 0] rfl ?_
          exact ih v3 (if ((off v7.toNatClampNeg) + ((bd v2.toNatClampNeg) v7.toNatClampNeg)) < v5 then ((off v7.toNatClampNeg) + ((bd v2.toNatClampNeg) v7.toNatClampNeg)) else v5) (v7 + 1) h
        · have h := h.2 c_17
          refine x_lload_n hC dLi_chooseOffsets_81 rfl 4 rfl ?_
          refine x_aload_n hC dLi_chooseOffsets_82 rfl 1 rfl ?_
          refine x_get hC iLi 10 wX_10 rfl 2 (by decide) k_x32 rfl rfl dLi_chooseOffsets_83 ?_
          refine x_iload hC dLi_chooseOffsets_86 5 rfl ?_
          obtain ⟨hb_18, h⟩ := h
          refine x_lald hC 13 1 wX_13 rfl hb_18 dLi_chooseOffsets_88 ?_
          refine x_aload_n hC dLi_chooseOffsets_89 rfl 1 rfl ?_
          refine x_get hC iLi 10 wX_10 rfl 1 (by decide) k_x20 rfl rfl dLi_chooseOffsets_90 ?_
          refine x_iload hC dLi_chooseOffsets_93 5 rfl ?_
          obtain ⟨hb_19, h⟩ := h
          refine x_aald (y := ad (36 + v7.toNatClampNeg)) hC 12 2 wX_12 rfl rfl hb_19 rfl dLi_chooseOffsets_95 ?_
          refine x_iload_n hC dLi_chooseOffsets_96 rfl 3 rfl ?_
          obtain ⟨hb_20, h⟩ := h
          refine x_lald hC (36 + v7.toNatClampNeg) 1 (wX_bd (x_in_lt hb_19)) rfl hb_20 dLi_chooseOffsets_97 ?_
          refine x_lsub hC dLi_chooseOffsets_98 ?_
          refine x_mmaxl hC k_x33 k_x34 k_x18 k_x35 (by decide) (Nat.le_of_ble_eq_true rfl) (by decide) (by decide) dLi_chooseOffsets_99 ?_
          refine x_lstore_n (lv' := [(3, .long (if ((off v7.toNatClampNeg) - ((bd v7.toNatClampNeg) v2.toNatClampNeg)) < v3 then v3 else ((off v7.toNatClampNeg) - ((bd v7.toNatClampNeg) v2.toNatClampNeg)))), (5, .long (if ((off v7.toNatClampNeg) + ((bd v2.toNatClampNeg) v7.toNatClampNeg)) < v5 then ((off v7.toNatClampNeg) + ((bd v2.toNatClampNeg) v7.toNatClampNeg)) else v5)), (0, .ref (ad 10)), (1, .int v1), (2, .int v2), (7, .int v7)]) hC dLi_chooseOffsets_102 rfl (by decide) rfl ?_
          refine x_iinc (v := v7 + 1) (lv' := [(7, .int (v7 + 1)), (3, .long (if ((off v7.toNatClampNeg) - ((bd v7.toNatClampNeg) v2.toNatClampNeg)) < v3 then v3 else ((off v7.toNatClampNeg) - ((bd v7.toNatClampNeg) v2.toNatClampNeg)))), (5, .long (if ((off v7.toNatClampNeg) + ((bd v2.toNatClampNeg) v7.toNatClampNeg)) < v5 then ((off v7.toNatClampNeg) + ((bd v2.toNatClampNeg) v7.toNatClampNeg)) else v5)), (0, .ref (ad 10)), (1, .int v1), (2, .int v2)]) hC dLi_chooseOffsets_103 5 rfl rfl (by decide) rfl ?_
          refine x_goto (tgt := 19) hC dLi_chooseOffsets_106 (by decide) ?_
          refine x_lv [3, 4, 5, 1, 2, 0] rfl ?_
          exact ih (if ((off v7.toNatClampNeg) - ((bd v7.toNatClampNeg) v2.toNatClampNeg)) < v3 then v3 else ((off v7.toNatClampNeg) - ((bd v7.toNatClampNeg) v2.toNatClampNeg))) (if ((off v7.toNatClampNeg) + ((bd v2.toNatClampNeg) v7.toNatClampNeg)) < v5 then ((off v7.toNatClampNeg) + ((bd v2.toNatClampNeg) v7.toNatClampNeg)) else v5) (v7 + 1) h

set_option maxHeartbeats 4000000 in
set_option maxRecDepth 100000 in
theorem Limits_chooseOffsets_L2_ok {p : Program} {l : Launch} {e : Env} {s : State} {m : MethodId} {args : Array Value} {below : List Frame} {meth : Method} {c : Code} {Q : State → Prop} {D : va_G} {A : Nat → Prop} {ad : Nat → Nat} {cI cL cO : ClassId} {sc : Int32} {sd : Int32} {src : (Nat → Int32)} {itm : (Nat → Int32)} {knd : (Nat → Int32)} {plc : (Nat → Int32)} {clk : (Nat → Int64)} {ec : Int32} {nf : (Nat → Int32)} {ns : (Nat → Int32)} {nc : Int32} {wt : (Nat → Nat → Int64)} {bd : (Nat → Nat → Int64)} {row : (Nat → Int32)} {hw : (Nat → Nat → Int64)} {rl : Int32} {tm : (Nat → Int64)} {ord : (Nat → Int32)} {tc : Int32} {v1 : Int32} {Qx : (Nat → Int64) → Prop} (hC : XC p s m args c D vwCl (tysX cI cL cO) A 8 bLi_chooseOffsets TBL RLi)  (hexit : ∀ (off : (Nat → Int64)), Qx off → XW p l e rm_Limits_chooseOffsets s m args below meth c D vwCl A 8 Q 0 0 (wX ad cI cL cO sc sd src itm knd plc clk ec nf ns nc wt bd off row hw rl tm ord tc) 131 [] []) : ∀ (n : Nat) (v2 : Int32) (off : (Nat → Int64)), Limits_chooseOffsets_L2 v1 bd Qx n v2 off → XW p l e rm_Limits_chooseOffsets s m args below meth c D vwCl A 8 Q 0 0 (wX ad cI cL cO sc sd src itm knd plc clk ec nf ns nc wt bd off row hw rl tm ord tc) 2 [(0, .ref (ad 10)), (1, .int v1), (2, .int v2)] [] := by
  intro n
  induction n with
  | zero => intro v2 off h; exact False.elim h
  | succ n ih =>
    intro v2 off h
    unfold Limits_chooseOffsets_L2 at h
    refine x_iload_n hC dLi_chooseOffsets_2 rfl 2 rfl ?_
    refine x_iload_n hC dLi_chooseOffsets_3 rfl 1 rfl ?_
    refine x_icmp_ge (tgt := 131) hC dLi_chooseOffsets_4 (by decide) (fun c_1 => ?_) (fun c_1 => ?_)
    · have h := h.1 c_1
      refine x_lv [] rfl ?_
      exact hexit off h
    · have h := h.2 c_1
      refine x_ldc2 (v := -9223372036854775807) hC k_x31 dLi_chooseOffsets_7 ?_
      refine x_lstore_n (lv' := [(3, .long (-9223372036854775807)), (0, .ref (ad 10)), (1, .int v1), (2, .int v2)]) hC dLi_chooseOffsets_10 rfl (by decide) rfl ?_
      refine x_ldc2 (v := 9223372036854775807) hC k_x10 dLi_chooseOffsets_11 ?_
      refine x_lstore (lv' := [(5, .long 9223372036854775807), (3, .long (-9223372036854775807)), (0, .ref (ad 10)), (1, .int v1), (2, .int v2)]) hC dLi_chooseOffsets_14 (by decide) rfl ?_
      refine x_iconst (v := 0) hC dLi_chooseOffsets_16 (by decide) ?_
      refine x_istore (lv' := [(7, .int 0), (5, .long 9223372036854775807), (3, .long (-9223372036854775807)), (0, .ref (ad 10)), (1, .int v1), (2, .int v2)]) hC dLi_chooseOffsets_17 (by decide) rfl ?_
      obtain ⟨n_24, h⟩ := h
      refine x_lv [3, 4, 5, 2, 1, 0] rfl ?_
      refine Limits_chooseOffsets_L19_ok hC (fun v3_21 v5_22 h => ?_) n_24 (-9223372036854775807) 9223372036854775807 0 h
      refine x_aload_n hC dLi_chooseOffsets_109 rfl 0 rfl ?_
      refine x_get hC iLi 10 wX_10 rfl 2 (by decide) k_x32 rfl rfl dLi_chooseOffsets_110 ?_
      refine x_iload_n hC dLi_chooseOffsets_113 rfl 2 rfl ?_
      refine x_lload_n hC dLi_chooseOffsets_114 rfl 3 rfl ?_
      refine x_lload hC dLi_chooseOffsets_115 4 rfl ?_
      refine x_lconst (v := 0) hC dLi_chooseOffsets_117 (by decide) ?_
      refine x_mminl hC k_x16 k_x17 k_x18 k_x19 (by decide) (Nat.le_of_ble_eq_true rfl) (by decide) (by decide) dLi_chooseOffsets_118 ?_
      refine x_mmaxl hC k_x33 k_x34 k_x18 k_x35 (by decide) (Nat.le_of_ble_eq_true rfl) (by decide) (by decide) dLi_chooseOffsets_121 ?_
      obtain ⟨hb_23, h⟩ := h
      refine x_last (ws' := (wX ad cI cL cO sc sd src itm knd plc clk ec nf ns nc wt bd (vp_updL off v2.toNatClampNeg (if (if 0 < v5_22 then 0 else v5_22) < v3_21 then v3_21 else (if 0 < v5_22 then 0 else v5_22))) row hw rl tm ord tc)) hC 13 1 wX_13 rfl hb_23 wX_13_set dLi_chooseOffsets_124 ?_
      refine x_iinc (v := v2 + 1) (lv' := [(2, .int (v2 + 1)), (0, .ref (ad 10)), (1, .int v1), (3, .long v3_21), (5, .long v5_22)]) hC dLi_chooseOffsets_125 2 rfl rfl (by decide) rfl ?_
      refine x_goto (tgt := 2) hC dLi_chooseOffsets_128 (by decide) ?_
      refine x_lv [1, 2, 0] rfl ?_
      exact ih (v2 + 1) (vp_updL off v2.toNatClampNeg (if (if 0 < v5_22 then 0 else v5_22) < v3_21 then v3_21 else (if 0 < v5_22 then 0 else v5_22))) h

set_option maxHeartbeats 4000000 in
set_option maxRecDepth 100000 in
theorem c_Limits_chooseOffsets {l : Launch} {D : va_G} {ad : Nat → Nat} {cI cL cO : ClassId} {sc : Int32} {sd : Int32} {src : (Nat → Int32)} {itm : (Nat → Int32)} {knd : (Nat → Int32)} {plc : (Nat → Int32)} {clk : (Nat → Int64)} {ec : Int32} {nf : (Nat → Int32)} {ns : (Nat → Int32)} {nc : Int32} {wt : (Nat → Nat → Int64)} {bd : (Nat → Nat → Int64)} {off : (Nat → Int64)} {row : (Nat → Int32)} {hw : (Nat → Nat → Int64)} {rl : Int32} {tm : (Nat → Int64)} {ord : (Nat → Int32)} {tc : Int32} {a1 : Int32} {Qr : (Nat → Int64) → Prop} (h : Limits_chooseOffsets_wp bd off a1 Qr) (sz : Nat) : vx_Met l yLi_chooseOffsets (Cond.code yLi_chooseOffsets bLi_chooseOffsets 8 none :: TBL) rm_Limits_chooseOffsets (va_Pc [.ref (ad 10), .int a1] (XP D vwCl (tysX cI cL cO) (wX ad cI cL cO sc sd src itm knd plc clk ec nf ns nc wt bd off row hw rl tm ord tc) sz)) (va_Qv Qr (fun u t => XB D vwCl (tysX cI cL cO) (va_A (wX ad cI cL cO sc sd src itm knd plc clk ec nf ns nc wt bd off row hw rl tm ord tc) sz) (wX ad cI cL cO sc sd src itm knd plc clk ec nf ns nc wt bd u row hw rl tm ord tc) t) (va_A (wX ad cI cL cO sc sd src itm knd plc clk ec nf ns nc wt bd off row hw rl tm ord tc) sz)) (XT D vwCl (tysX cI cL cO) (va_A (wX ad cI cL cO sc sd src itm knd plc clk ec nf ns nc wt bd off row hw rl tm ord tc) sz) (wX ad cI cL cO sc sd src itm knd plc clk ec nf ns nc wt bd off row hw rl tm ord tc) (fun _ => False)) rm_Limits_chooseOffsets.cells rm_Limits_chooseOffsets.slots (va_A (wX ad cI cL cO sc sd src itm knd plc clk ec nf ns nc wt bd off row hw rl tm ord tc) sz) := by
  refine x_met [.ref (ad 10), .int a1] TBL_good (by decide) (Nat.le_of_ble_eq_true rfl) ?_
  intro p e s m args below meth c hC hr hlk hnm hnh
  have hret : ∀ (ce sl : Nat), ce ≤ rm_Limits_chooseOffsets.cells → sl ≤ rm_Limits_chooseOffsets.slots → ∀ (u : (Nat → Int64)), Qr u → ∀ (pc : Nat) (lv : List (Nat × Value)), decode bLi_chooseOffsets pc = .ok (.return_, 1) → XW p l e rm_Limits_chooseOffsets s m args below meth c D vwCl (va_A (wX ad cI cL cO sc sd src itm knd plc clk ec nf ns nc wt bd off row hw rl tm ord tc) sz) 8 (vx_MQ below (va_Qv Qr (fun u t => XB D vwCl (tysX cI cL cO) (va_A (wX ad cI cL cO sc sd src itm knd plc clk ec nf ns nc wt bd off row hw rl tm ord tc) sz) (wX ad cI cL cO sc sd src itm knd plc clk ec nf ns nc wt bd u row hw rl tm ord tc) t) (va_A (wX ad cI cL cO sc sd src itm knd plc clk ec nf ns nc wt bd off row hw rl tm ord tc) sz)) (XT D vwCl (tysX cI cL cO) (va_A (wX ad cI cL cO sc sd src itm knd plc clk ec nf ns nc wt bd off row hw rl tm ord tc) sz) (wX ad cI cL cO sc sd src itm knd plc clk ec nf ns nc wt bd off row hw rl tm ord tc) (fun _ => False)) args s rm_Limits_chooseOffsets.cells rm_Limits_chooseOffsets.slots (va_A (wX ad cI cL cO sc sd src itm knd plc clk ec nf ns nc wt bd off row hw rl tm ord tc) sz)) ce sl (wX ad cI cL cO sc sd src itm knd plc clk ec nf ns nc wt bd u row hw rl tm ord tc) pc lv [] := fun ce sl h1 h2 u hq pc lv hd => x_vret (wf := fun u => (wX ad cI cL cO sc sd src itm knd plc clk ec nf ns nc wt bd u row hw rl tm ord tc)) hC h1 h2 hr hlk hd hq rfl
  show XW p l e rm_Limits_chooseOffsets s m args below meth c D vwCl (va_A (wX ad cI cL cO sc sd src itm knd plc clk ec nf ns nc wt bd off row hw rl tm ord tc) sz) 8 _ 0 0 (wX ad cI cL cO sc sd src itm knd plc clk ec nf ns nc wt bd off row hw rl tm ord tc) 0 [(0, .ref (ad 10)), (1, .int a1)] []
  unfold Limits_chooseOffsets_wp at h
  refine x_iconst (v := 0) hC dLi_chooseOffsets_0 (by decide) ?_
  refine x_istore_n (lv' := [(2, .int 0), (0, .ref (ad 10)), (1, .int a1)]) hC dLi_chooseOffsets_1 rfl (by decide) rfl ?_
  obtain ⟨n_26, h⟩ := h
  refine x_lv [1, 2, 0] rfl ?_
  refine Limits_chooseOffsets_L2_ok hC (fun off_25 h => ?_) n_26 0 off h
  exact hret _ _ (by decide) (by decide) off_25 h _ _ dLi_chooseOffsets_131

