/-! EventOrderModel.offset(I)J -/
abbrev rm_M_offset : Room := { frames := 2, cells := 0, slots := 0, locals := 46 }
def M_offset_B26 (v1 : Int32) (s0 : Int32) (s1 : Int32) (mth : Int32) (moff : (Nat → Int64)) (Qr : Int64 → Int32 → Prop) : Prop := M_refused_wp mth s1 s0 0 (fun (r_5 : Int32) (u_6 : Int32) => ((r_5 = 0 → vp_in v1 16 ∧ Qr (moff v1.toNatClampNeg) u_6) ∧ (¬ r_5 = 0 → Qr 0 u_6)))

def M_offset_B14 (v1 : Int32) (s0 : Int32) (mth : Int32) (msd : Int32) (moff : (Nat → Int64)) (Qr : Int64 → Int32 → Prop) : Prop := ((¬ msd = 0 → M_offset_B26 v1 0 s0 mth moff Qr) ∧ (msd = 0 → M_offset_B26 v1 1 s0 mth moff Qr))

def M_offset_wp (mth : Int32) (msc : Int32) (msd : Int32) (moff : (Nat → Int64)) (a1 : Int32) (Qr : Int64 → Int32 → Prop) : Prop := M_isSource_wp msc a1 (fun (r_1 : Int32) (u_2 : Unit) => ((¬ r_1 = 0 → M_offset_B14 a1 0 mth msd moff Qr) ∧ (r_1 = 0 → M_offset_B14 a1 1 mth msd moff Qr)))
set_option maxHeartbeats 4000000 in
set_option maxRecDepth 100000 in
theorem M_offset_B26_ok {p : Program} {l : Launch} {e : Env} {s : State} {m : MethodId} {args : Array Value} {below : List Frame} {meth : Method} {c : Code} {Q : State → Prop} {D : va_G} {A : Nat → Prop} {ad : Nat → Nat} {cI cL cO : ClassId} {mth : Int32} {msc : Int32} {mec : Int32} {msrc : (Nat → Int32)} {mitm : (Nat → Int32)} {mknd : (Nat → Int32)} {mplc : (Nat → Int32)} {mclk : (Nat → Int64)} {mnc : Int32} {mnf : (Nat → Int32)} {mns : (Nat → Int32)} {msd : Int32} {mrl : Int32} {mrow : (Nat → Int32)} {mw : (Nat → Int64)} {mb : (Nat → Int64)} {mway : (Nat → Int64)} {moff : (Nat → Int64)} {v1 : Int32} {s0 : Int32} {s1 : Int32} {Qr : Int64 → Int32 → Prop} (hC : XC p s m args c D vwCl (tysX cI cL cO) A 2 bM_offset TBL RM) (hret : ∀ (r : Int64) (u : Int32), Qr r u → ∀ (pc : Nat) (lv : List (Nat × Value)), decode bM_offset pc = .ok (.lreturn, 1) → XW p l e rm_M_offset s m args below meth c D vwCl A 2 Q 0 0 (wM ad cI cL cO u msc mec msrc mitm mknd mplc mclk mnc mnf mns msd mrl mrow mw mb mway moff) pc lv [.long r]) (h : M_offset_B26 v1 s0 s1 mth moff Qr) : XW p l e rm_M_offset s m args below meth c D vwCl A 2 Q 0 0 (wM ad cI cL cO mth msc mec msrc mitm mknd mplc mclk mnc mnf mns msd mrl mrow mw mb mway moff) 26 [(0, .ref (ad 0)), (1, .int v1)] [.int s0, .int s1, .ref (ad 0)] := by
  unfold M_offset_B26 at h
  refine x_iconst (v := 0) hC dM_offset_26 (by decide) ?_
  refine x_callVi (S := Int32) (wf := fun u => (wM ad cI cL cO u msc mec msrc mitm mknd mplc mclk mnc mnf mns msd mrl mrow mw mb mway moff)) hC [.int s1, .int s0, .int 0] (fun sz => c_M_refused h sz) (by decide) (by decide) k_m3 k_m4 k_m5 (by decide) 3 rfl (by decide +kernel) ⟨by decide, by decide⟩ (Nat.le_of_ble_eq_true rfl) k_m6 k_m7 wM_0 rfl rfl dM_offset_27 (fun _ h9 => h9) (fun r_5 u_6 h => ?_)
  refine x_if_eq (tgt := 37) hC dM_offset_30 (by decide) (fun c_7 => ?_) (fun c_7 => ?_)
  · have h := h.1 c_7
    refine x_aload_n hC dM_offset_37 rfl 0 rfl ?_
    refine x_get hC iM 0 wM_0 rfl 17 (by decide) k_m67 rfl rfl dM_offset_38 ?_
    refine x_iload_n hC dM_offset_41 rfl 1 rfl ?_
    obtain ⟨hb_8, h⟩ := h
    refine x_lald hC 12 1 wM_12 rfl hb_8 dM_offset_42 ?_
    exact hret (moff v1.toNatClampNeg) u_6 h _ _ dM_offset_43
  · have h := h.2 c_7
    refine x_lconst (v := 0) hC dM_offset_33 (by decide) ?_
    refine x_goto (tgt := 43) hC dM_offset_34 (by decide) ?_
    exact hret 0 u_6 h _ _ dM_offset_43

set_option maxHeartbeats 4000000 in
set_option maxRecDepth 100000 in
theorem M_offset_B14_ok {p : Program} {l : Launch} {e : Env} {s : State} {m : MethodId} {args : Array Value} {below : List Frame} {meth : Method} {c : Code} {Q : State → Prop} {D : va_G} {A : Nat → Prop} {ad : Nat → Nat} {cI cL cO : ClassId} {mth : Int32} {msc : Int32} {mec : Int32} {msrc : (Nat → Int32)} {mitm : (Nat → Int32)} {mknd : (Nat → Int32)} {mplc : (Nat → Int32)} {mclk : (Nat → Int64)} {mnc : Int32} {mnf : (Nat → Int32)} {mns : (Nat → Int32)} {msd : Int32} {mrl : Int32} {mrow : (Nat → Int32)} {mw : (Nat → Int64)} {mb : (Nat → Int64)} {mway : (Nat → Int64)} {moff : (Nat → Int64)} {v1 : Int32} {s0 : Int32} {Qr : Int64 → Int32 → Prop} (hC : XC p s m args c D vwCl (tysX cI cL cO) A 2 bM_offset TBL RM) (hret : ∀ (r : Int64) (u : Int32), Qr r u → ∀ (pc : Nat) (lv : List (Nat × Value)), decode bM_offset pc = .ok (.lreturn, 1) → XW p l e rm_M_offset s m args below meth c D vwCl A 2 Q 0 0 (wM ad cI cL cO u msc mec msrc mitm mknd mplc mclk mnc mnf mns msd mrl mrow mw mb mway moff) pc lv [.long r]) (h : M_offset_B14 v1 s0 mth msd moff Qr) : XW p l e rm_M_offset s m args below meth c D vwCl A 2 Q 0 0 (wM ad cI cL cO mth msc mec msrc mitm mknd mplc mclk mnc mnf mns msd mrl mrow mw mb mway moff) 14 [(0, .ref (ad 0)), (1, .int v1)] [.int s0, .ref (ad 0)] := by
  unfold M_offset_B14 at h
  refine x_aload_n hC dM_offset_14 rfl 0 rfl ?_
  refine x_get hC iM 0 wM_0 rfl 11 (by decide) k_m2 rfl rfl dM_offset_15 ?_
  refine x_if_ne (tgt := 25) hC dM_offset_18 (by decide) (fun c_4 => ?_) (fun c_4 => ?_)
  · have h := h.1 c_4
    refine x_iconst (v := 0) hC dM_offset_25 (by decide) ?_
    refine x_lv [0, 1] rfl ?_
    exact M_offset_B26_ok hC hret h
  · have h := h.2 c_4
    refine x_iconst (v := 1) hC dM_offset_21 (by decide) ?_
    refine x_goto (tgt := 26) hC dM_offset_22 (by decide) ?_
    refine x_lv [0, 1] rfl ?_
    exact M_offset_B26_ok hC hret h

set_option maxHeartbeats 4000000 in
set_option maxRecDepth 100000 in
theorem c_M_offset {l : Launch} {D : va_G} {ad : Nat → Nat} {cI cL cO : ClassId} {mth : Int32} {msc : Int32} {mec : Int32} {msrc : (Nat → Int32)} {mitm : (Nat → Int32)} {mknd : (Nat → Int32)} {mplc : (Nat → Int32)} {mclk : (Nat → Int64)} {mnc : Int32} {mnf : (Nat → Int32)} {mns : (Nat → Int32)} {msd : Int32} {mrl : Int32} {mrow : (Nat → Int32)} {mw : (Nat → Int64)} {mb : (Nat → Int64)} {mway : (Nat → Int64)} {moff : (Nat → Int64)} {a1 : Int32} {Qr : Int64 → Int32 → Prop} (h : M_offset_wp mth msc msd moff a1 Qr) (sz : Nat) : vx_Met l yM_offset (Cond.code yM_offset bM_offset 2 (some .long) :: TBL) rm_M_offset (va_Pc [.ref (ad 0), .int a1] (XP D vwCl (tysX cI cL cO) (wM ad cI cL cO mth msc mec msrc mitm mknd mplc mclk mnc mnf mns msd mrl mrow mw mb mway moff) sz)) (va_Ql Qr (fun u t => XB D vwCl (tysX cI cL cO) (va_A (wM ad cI cL cO mth msc mec msrc mitm mknd mplc mclk mnc mnf mns msd mrl mrow mw mb mway moff) sz) (wM ad cI cL cO u msc mec msrc mitm mknd mplc mclk mnc mnf mns msd mrl mrow mw mb mway moff) t) (va_A (wM ad cI cL cO mth msc mec msrc mitm mknd mplc mclk mnc mnf mns msd mrl mrow mw mb mway moff) sz)) (XT D vwCl (tysX cI cL cO) (va_A (wM ad cI cL cO mth msc mec msrc mitm mknd mplc mclk mnc mnf mns msd mrl mrow mw mb mway moff) sz) (wM ad cI cL cO mth msc mec msrc mitm mknd mplc mclk mnc mnf mns msd mrl mrow mw mb mway moff) (fun _ => False)) rm_M_offset.cells rm_M_offset.slots (va_A (wM ad cI cL cO mth msc mec msrc mitm mknd mplc mclk mnc mnf mns msd mrl mrow mw mb mway moff) sz) := by
  refine x_met [.ref (ad 0), .int a1] TBL_good (by decide) (Nat.le_of_ble_eq_true rfl) ?_
  intro p e s m args below meth c hC hr hlk hnm hnh
  have hret : ∀ (ce sl : Nat), ce ≤ rm_M_offset.cells → sl ≤ rm_M_offset.slots → ∀ (r : Int64) (u : Int32), Qr r u → ∀ (pc : Nat) (lv : List (Nat × Value)), decode bM_offset pc = .ok (.lreturn, 1) → XW p l e rm_M_offset s m args below meth c D vwCl (va_A (wM ad cI cL cO mth msc mec msrc mitm mknd mplc mclk mnc mnf mns msd mrl mrow mw mb mway moff) sz) 2 (vx_MQ below (va_Ql Qr (fun u t => XB D vwCl (tysX cI cL cO) (va_A (wM ad cI cL cO mth msc mec msrc mitm mknd mplc mclk mnc mnf mns msd mrl mrow mw mb mway moff) sz) (wM ad cI cL cO u msc mec msrc mitm mknd mplc mclk mnc mnf mns msd mrl mrow mw mb mway moff) t) (va_A (wM ad cI cL cO mth msc mec msrc mitm mknd mplc mclk mnc mnf mns msd mrl mrow mw mb mway moff) sz)) (XT D vwCl (tysX cI cL cO) (va_A (wM ad cI cL cO mth msc mec msrc mitm mknd mplc mclk mnc mnf mns msd mrl mrow mw mb mway moff) sz) (wM ad cI cL cO mth msc mec msrc mitm mknd mplc mclk mnc mnf mns msd mrl mrow mw mb mway moff) (fun _ => False)) args s rm_M_offset.cells rm_M_offset.slots (va_A (wM ad cI cL cO mth msc mec msrc mitm mknd mplc mclk mnc mnf mns msd mrl mrow mw mb mway moff) sz)) ce sl (wM ad cI cL cO u msc mec msrc mitm mknd mplc mclk mnc mnf mns msd mrl mrow mw mb mway moff) pc lv [.long r] := fun ce sl h1 h2 r u hq pc lv hd => x_lret (wf := fun u => (wM ad cI cL cO u msc mec msrc mitm mknd mplc mclk mnc mnf mns msd mrl mrow mw mb mway moff)) hC h1 h2 hr hlk hd hq rfl
  show XW p l e rm_M_offset s m args below meth c D vwCl (va_A (wM ad cI cL cO mth msc mec msrc mitm mknd mplc mclk mnc mnf mns msd mrl mrow mw mb mway moff) sz) 2 _ 0 0 (wM ad cI cL cO mth msc mec msrc mitm mknd mplc mclk mnc mnf mns msd mrl mrow mw mb mway moff) 0 [(0, .ref (ad 0)), (1, .int a1)] []
  unfold M_offset_wp at h
  refine x_aload_n hC dM_offset_0 rfl 0 rfl ?_
  refine x_aload_n hC dM_offset_1 rfl 0 rfl ?_
  refine x_iload_n hC dM_offset_2 rfl 1 rfl ?_
  refine x_callVi (S := Unit) (wf := fun u => (wM ad cI cL cO mth msc mec msrc mitm mknd mplc mclk mnc mnf mns msd mrl mrow mw mb mway moff)) hC [.int a1] (fun sz => c_M_isSource h sz) (by decide) (by decide) k_m27 k_m28 k_m29 (by decide) 1 rfl (by decide +kernel) ⟨by decide, by decide⟩ (Nat.le_of_ble_eq_true rfl) k_m30 k_m31 wM_0 rfl rfl dM_offset_3 (fun _ h9 => h9) (fun r_1 u_2 h => ?_)
  refine x_if_ne (tgt := 13) hC dM_offset_6 (by decide) (fun c_3 => ?_) (fun c_3 => ?_)
  · have h := h.1 c_3
    refine x_iconst (v := 0) hC dM_offset_13 (by decide) ?_
    refine x_lv [0, 1] rfl ?_
    exact M_offset_B14_ok hC (hret _ _ (by decide) (by decide)) h
  · have h := h.2 c_3
    refine x_iconst (v := 1) hC dM_offset_9 (by decide) ?_
    refine x_goto (tgt := 14) hC dM_offset_10 (by decide) ?_
    refine x_lv [0, 1] rfl ?_
    exact M_offset_B14_ok hC (hret _ _ (by decide) (by decide)) h

/-! EventOrderModel.bound(II)J -/
abbrev rm_M_bound : Room := { frames := 2, cells := 0, slots := 0, locals := 46 }
def M_bound_B34 (v1 : Int32) (v2 : Int32) (s0 : Int32) (s1 : Int32) (mth : Int32) (mb : (Nat → Int64)) (Qr : Int64 → Int32 → Prop) : Prop := M_refused_wp mth s1 s0 0 (fun (r_5 : Int32) (u_6 : Int32) => ((r_5 = 0 → vp_in ((16 * v1) + v2) 256 ∧ Qr (mb ((16 * v1) + v2).toNatClampNeg) u_6) ∧ (¬ r_5 = 0 → Qr 0 u_6)))

def M_bound_B22 (v1 : Int32) (v2 : Int32) (s0 : Int32) (mth : Int32) (msd : Int32) (mb : (Nat → Int64)) (Qr : Int64 → Int32 → Prop) : Prop := ((¬ msd = 0 → M_bound_B34 v1 v2 0 s0 mth mb Qr) ∧ (msd = 0 → M_bound_B34 v1 v2 1 s0 mth mb Qr))

def M_bound_wp (mth : Int32) (msc : Int32) (msd : Int32) (mb : (Nat → Int64)) (a1 : Int32) (a2 : Int32) (Qr : Int64 → Int32 → Prop) : Prop := M_isSource_wp msc a1 (fun (r_1 : Int32) (u_2 : Unit) => ((r_1 = 0 → M_bound_B22 a1 a2 1 mth msd mb Qr) ∧ (¬ r_1 = 0 → M_isSource_wp msc a2 (fun (r_9 : Int32) (u_10 : Unit) => ((¬ r_9 = 0 → M_bound_B22 a1 a2 0 mth msd mb Qr) ∧ (r_9 = 0 → M_bound_B22 a1 a2 1 mth msd mb Qr))))))
set_option maxHeartbeats 4000000 in
set_option maxRecDepth 100000 in
theorem M_bound_B34_ok {p : Program} {l : Launch} {e : Env} {s : State} {m : MethodId} {args : Array Value} {below : List Frame} {meth : Method} {c : Code} {Q : State → Prop} {D : va_G} {A : Nat → Prop} {ad : Nat → Nat} {cI cL cO : ClassId} {mth : Int32} {msc : Int32} {mec : Int32} {msrc : (Nat → Int32)} {mitm : (Nat → Int32)} {mknd : (Nat → Int32)} {mplc : (Nat → Int32)} {mclk : (Nat → Int64)} {mnc : Int32} {mnf : (Nat → Int32)} {mns : (Nat → Int32)} {msd : Int32} {mrl : Int32} {mrow : (Nat → Int32)} {mw : (Nat → Int64)} {mb : (Nat → Int64)} {mway : (Nat → Int64)} {moff : (Nat → Int64)} {v1 : Int32} {v2 : Int32} {s0 : Int32} {s1 : Int32} {Qr : Int64 → Int32 → Prop} (hC : XC p s m args c D vwCl (tysX cI cL cO) A 3 bM_bound TBL RM) (hret : ∀ (r : Int64) (u : Int32), Qr r u → ∀ (pc : Nat) (lv : List (Nat × Value)), decode bM_bound pc = .ok (.lreturn, 1) → XW p l e rm_M_bound s m args below meth c D vwCl A 3 Q 0 0 (wM ad cI cL cO u msc mec msrc mitm mknd mplc mclk mnc mnf mns msd mrl mrow mw mb mway moff) pc lv [.long r]) (h : M_bound_B34 v1 v2 s0 s1 mth mb Qr) : XW p l e rm_M_bound s m args below meth c D vwCl A 3 Q 0 0 (wM ad cI cL cO mth msc mec msrc mitm mknd mplc mclk mnc mnf mns msd mrl mrow mw mb mway moff) 34 [(0, .ref (ad 0)), (1, .int v1), (2, .int v2)] [.int s0, .int s1, .ref (ad 0)] := by
  unfold M_bound_B34 at h
  refine x_iconst (v := 0) hC dM_bound_34 (by decide) ?_
  refine x_callVi (S := Int32) (wf := fun u => (wM ad cI cL cO u msc mec msrc mitm mknd mplc mclk mnc mnf mns msd mrl mrow mw mb mway moff)) hC [.int s1, .int s0, .int 0] (fun sz => c_M_refused h sz) (by decide) (by decide) k_m3 k_m4 k_m5 (by decide) 3 rfl (by decide +kernel) ⟨by decide, by decide⟩ (Nat.le_of_ble_eq_true rfl) k_m6 k_m7 wM_0 rfl rfl dM_bound_35 (fun _ h9 => h9) (fun r_5 u_6 h => ?_)
  refine x_if_eq (tgt := 45) hC dM_bound_38 (by decide) (fun c_7 => ?_) (fun c_7 => ?_)
  · have h := h.1 c_7
    refine x_aload_n hC dM_bound_45 rfl 0 rfl ?_
    refine x_get hC iM 0 wM_0 rfl 15 (by decide) k_m65 rfl rfl dM_bound_46 ?_
    refine x_bipush (v := 16) hC dM_bound_49 (by decide) ?_
    refine x_iload_n hC dM_bound_51 rfl 1 rfl ?_
    refine x_imul hC dM_bound_52 ?_
    refine x_iload_n hC dM_bound_53 rfl 2 rfl ?_
    refine x_iadd hC dM_bound_54 ?_
    obtain ⟨hb_8, h⟩ := h
    refine x_lald hC 10 1 wM_10 rfl hb_8 dM_bound_55 ?_
    exact hret (mb ((16 * v1) + v2).toNatClampNeg) u_6 h _ _ dM_bound_56
  · have h := h.2 c_7
    refine x_lconst (v := 0) hC dM_bound_41 (by decide) ?_
    refine x_goto (tgt := 56) hC dM_bound_42 (by decide) ?_
    exact hret 0 u_6 h _ _ dM_bound_56

set_option maxHeartbeats 4000000 in
set_option maxRecDepth 100000 in
theorem M_bound_B22_ok {p : Program} {l : Launch} {e : Env} {s : State} {m : MethodId} {args : Array Value} {below : List Frame} {meth : Method} {c : Code} {Q : State → Prop} {D : va_G} {A : Nat → Prop} {ad : Nat → Nat} {cI cL cO : ClassId} {mth : Int32} {msc : Int32} {mec : Int32} {msrc : (Nat → Int32)} {mitm : (Nat → Int32)} {mknd : (Nat → Int32)} {mplc : (Nat → Int32)} {mclk : (Nat → Int64)} {mnc : Int32} {mnf : (Nat → Int32)} {mns : (Nat → Int32)} {msd : Int32} {mrl : Int32} {mrow : (Nat → Int32)} {mw : (Nat → Int64)} {mb : (Nat → Int64)} {mway : (Nat → Int64)} {moff : (Nat → Int64)} {v1 : Int32} {v2 : Int32} {s0 : Int32} {Qr : Int64 → Int32 → Prop} (hC : XC p s m args c D vwCl (tysX cI cL cO) A 3 bM_bound TBL RM) (hret : ∀ (r : Int64) (u : Int32), Qr r u → ∀ (pc : Nat) (lv : List (Nat × Value)), decode bM_bound pc = .ok (.lreturn, 1) → XW p l e rm_M_bound s m args below meth c D vwCl A 3 Q 0 0 (wM ad cI cL cO u msc mec msrc mitm mknd mplc mclk mnc mnf mns msd mrl mrow mw mb mway moff) pc lv [.long r]) (h : M_bound_B22 v1 v2 s0 mth msd mb Qr) : XW p l e rm_M_bound s m args below meth c D vwCl A 3 Q 0 0 (wM ad cI cL cO mth msc mec msrc mitm mknd mplc mclk mnc mnf mns msd mrl mrow mw mb mway moff) 22 [(0, .ref (ad 0)), (1, .int v1), (2, .int v2)] [.int s0, .ref (ad 0)] := by
  unfold M_bound_B22 at h
  refine x_aload_n hC dM_bound_22 rfl 0 rfl ?_
  refine x_get hC iM 0 wM_0 rfl 11 (by decide) k_m2 rfl rfl dM_bound_23 ?_
  refine x_if_ne (tgt := 33) hC dM_bound_26 (by decide) (fun c_4 => ?_) (fun c_4 => ?_)
  · have h := h.1 c_4
    refine x_iconst (v := 0) hC dM_bound_33 (by decide) ?_
    refine x_lv [0, 1, 2] rfl ?_
    exact M_bound_B34_ok hC hret h
  · have h := h.2 c_4
    refine x_iconst (v := 1) hC dM_bound_29 (by decide) ?_
    refine x_goto (tgt := 34) hC dM_bound_30 (by decide) ?_
    refine x_lv [0, 1, 2] rfl ?_
    exact M_bound_B34_ok hC hret h

set_option maxHeartbeats 4000000 in
set_option maxRecDepth 100000 in
theorem c_M_bound {l : Launch} {D : va_G} {ad : Nat → Nat} {cI cL cO : ClassId} {mth : Int32} {msc : Int32} {mec : Int32} {msrc : (Nat → Int32)} {mitm : (Nat → Int32)} {mknd : (Nat → Int32)} {mplc : (Nat → Int32)} {mclk : (Nat → Int64)} {mnc : Int32} {mnf : (Nat → Int32)} {mns : (Nat → Int32)} {msd : Int32} {mrl : Int32} {mrow : (Nat → Int32)} {mw : (Nat → Int64)} {mb : (Nat → Int64)} {mway : (Nat → Int64)} {moff : (Nat → Int64)} {a1 : Int32} {a2 : Int32} {Qr : Int64 → Int32 → Prop} (h : M_bound_wp mth msc msd mb a1 a2 Qr) (sz : Nat) : vx_Met l yM_bound (Cond.code yM_bound bM_bound 3 (some .long) :: TBL) rm_M_bound (va_Pc [.ref (ad 0), .int a1, .int a2] (XP D vwCl (tysX cI cL cO) (wM ad cI cL cO mth msc mec msrc mitm mknd mplc mclk mnc mnf mns msd mrl mrow mw mb mway moff) sz)) (va_Ql Qr (fun u t => XB D vwCl (tysX cI cL cO) (va_A (wM ad cI cL cO mth msc mec msrc mitm mknd mplc mclk mnc mnf mns msd mrl mrow mw mb mway moff) sz) (wM ad cI cL cO u msc mec msrc mitm mknd mplc mclk mnc mnf mns msd mrl mrow mw mb mway moff) t) (va_A (wM ad cI cL cO mth msc mec msrc mitm mknd mplc mclk mnc mnf mns msd mrl mrow mw mb mway moff) sz)) (XT D vwCl (tysX cI cL cO) (va_A (wM ad cI cL cO mth msc mec msrc mitm mknd mplc mclk mnc mnf mns msd mrl mrow mw mb mway moff) sz) (wM ad cI cL cO mth msc mec msrc mitm mknd mplc mclk mnc mnf mns msd mrl mrow mw mb mway moff) (fun _ => False)) rm_M_bound.cells rm_M_bound.slots (va_A (wM ad cI cL cO mth msc mec msrc mitm mknd mplc mclk mnc mnf mns msd mrl mrow mw mb mway moff) sz) := by
  refine x_met [.ref (ad 0), .int a1, .int a2] TBL_good (by decide) (Nat.le_of_ble_eq_true rfl) ?_
  intro p e s m args below meth c hC hr hlk hnm hnh
  have hret : ∀ (ce sl : Nat), ce ≤ rm_M_bound.cells → sl ≤ rm_M_bound.slots → ∀ (r : Int64) (u : Int32), Qr r u → ∀ (pc : Nat) (lv : List (Nat × Value)), decode bM_bound pc = .ok (.lreturn, 1) → XW p l e rm_M_bound s m args below meth c D vwCl (va_A (wM ad cI cL cO mth msc mec msrc mitm mknd mplc mclk mnc mnf mns msd mrl mrow mw mb mway moff) sz) 3 (vx_MQ below (va_Ql Qr (fun u t => XB D vwCl (tysX cI cL cO) (va_A (wM ad cI cL cO mth msc mec msrc mitm mknd mplc mclk mnc mnf mns msd mrl mrow mw mb mway moff) sz) (wM ad cI cL cO u msc mec msrc mitm mknd mplc mclk mnc mnf mns msd mrl mrow mw mb mway moff) t) (va_A (wM ad cI cL cO mth msc mec msrc mitm mknd mplc mclk mnc mnf mns msd mrl mrow mw mb mway moff) sz)) (XT D vwCl (tysX cI cL cO) (va_A (wM ad cI cL cO mth msc mec msrc mitm mknd mplc mclk mnc mnf mns msd mrl mrow mw mb mway moff) sz) (wM ad cI cL cO mth msc mec msrc mitm mknd mplc mclk mnc mnf mns msd mrl mrow mw mb mway moff) (fun _ => False)) args s rm_M_bound.cells rm_M_bound.slots (va_A (wM ad cI cL cO mth msc mec msrc mitm mknd mplc mclk mnc mnf mns msd mrl mrow mw mb mway moff) sz)) ce sl (wM ad cI cL cO u msc mec msrc mitm mknd mplc mclk mnc mnf mns msd mrl mrow mw mb mway moff) pc lv [.long r] := fun ce sl h1 h2 r u hq pc lv hd => x_lret (wf := fun u => (wM ad cI cL cO u msc mec msrc mitm mknd mplc mclk mnc mnf mns msd mrl mrow mw mb mway moff)) hC h1 h2 hr hlk hd hq rfl
  show XW p l e rm_M_bound s m args below meth c D vwCl (va_A (wM ad cI cL cO mth msc mec msrc mitm mknd mplc mclk mnc mnf mns msd mrl mrow mw mb mway moff) sz) 3 _ 0 0 (wM ad cI cL cO mth msc mec msrc mitm mknd mplc mclk mnc mnf mns msd mrl mrow mw mb mway moff) 0 [(0, .ref (ad 0)), (1, .int a1), (2, .int a2)] []
  unfold M_bound_wp at h
  refine x_aload_n hC dM_bound_0 rfl 0 rfl ?_
  refine x_aload_n hC dM_bound_1 rfl 0 rfl ?_
  refine x_iload_n hC dM_bound_2 rfl 1 rfl ?_
  refine x_callVi (S := Unit) (wf := fun u => (wM ad cI cL cO mth msc mec msrc mitm mknd mplc mclk mnc mnf mns msd mrl mrow mw mb mway moff)) hC [.int a1] (fun sz => c_M_isSource h sz) (by decide) (by decide) k_m27 k_m28 k_m29 (by decide) 1 rfl (by decide +kernel) ⟨by decide, by decide⟩ (Nat.le_of_ble_eq_true rfl) k_m30 k_m31 wM_0 rfl rfl dM_bound_3 (fun _ h9 => h9) (fun r_1 u_2 h => ?_)
  refine x_if_eq (tgt := 17) hC dM_bound_6 (by decide) (fun c_3 => ?_) (fun c_3 => ?_)
  · have h := h.1 c_3
    refine x_iconst (v := 1) hC dM_bound_17 (by decide) ?_
    refine x_goto (tgt := 22) hC dM_bound_18 (by decide) ?_
    refine x_lv [0, 1, 2] rfl ?_
    exact M_bound_B22_ok hC (hret _ _ (by decide) (by decide)) h
  · have h := h.2 c_3
    refine x_aload_n hC dM_bound_9 rfl 0 rfl ?_
    refine x_iload_n hC dM_bound_10 rfl 2 rfl ?_
    refine x_callVi (S := Unit) (wf := fun u => (wM ad cI cL cO mth msc mec msrc mitm mknd mplc mclk mnc mnf mns msd mrl mrow mw mb mway moff)) hC [.int a2] (fun sz => c_M_isSource h sz) (by decide) (by decide) k_m27 k_m28 k_m29 (by decide) 1 rfl (by decide +kernel) ⟨by decide, by decide⟩ (Nat.le_of_ble_eq_true rfl) k_m30 k_m31 wM_0 rfl rfl dM_bound_11 (fun _ h9 => h9) (fun r_9 u_10 h => ?_)
    refine x_if_ne (tgt := 21) hC dM_bound_14 (by decide) (fun c_11 => ?_) (fun c_11 => ?_)
    · have h := h.1 c_11
      refine x_iconst (v := 0) hC dM_bound_21 (by decide) ?_
      refine x_lv [0, 1, 2] rfl ?_
      exact M_bound_B22_ok hC (hret _ _ (by decide) (by decide)) h
    · have h := h.2 c_11
      refine x_iconst (v := 1) hC dM_bound_17 (by decide) ?_
      refine x_goto (tgt := 22) hC dM_bound_18 (by decide) ?_
      refine x_lv [0, 1, 2] rfl ?_
      exact M_bound_B22_ok hC (hret _ _ (by decide) (by decide)) h

/-! EventOrderModel.timeOf(I)J -/
abbrev rm_M_timeOf : Room := { frames := 0, cells := 0, slots := 0, locals := 0 }
def M_timeOf_wp (msrc : (Nat → Int32)) (mclk : (Nat → Int64)) (moff : (Nat → Int64)) (a1 : Int32) (Qr : Int64 → Unit → Prop) : Prop := vp_in a1 301 ∧ vp_in a1 301 ∧ vp_in (msrc a1.toNatClampNeg) 16 ∧ Qr ((mclk a1.toNatClampNeg) + (moff (msrc a1.toNatClampNeg).toNatClampNeg)) ()
set_option maxHeartbeats 4000000 in
set_option maxRecDepth 100000 in
theorem c_M_timeOf {l : Launch} {D : va_G} {ad : Nat → Nat} {cI cL cO : ClassId} {mth : Int32} {msc : Int32} {mec : Int32} {msrc : (Nat → Int32)} {mitm : (Nat → Int32)} {mknd : (Nat → Int32)} {mplc : (Nat → Int32)} {mclk : (Nat → Int64)} {mnc : Int32} {mnf : (Nat → Int32)} {mns : (Nat → Int32)} {msd : Int32} {mrl : Int32} {mrow : (Nat → Int32)} {mw : (Nat → Int64)} {mb : (Nat → Int64)} {mway : (Nat → Int64)} {moff : (Nat → Int64)} {a1 : Int32} {Qr : Int64 → Unit → Prop} (h : M_timeOf_wp msrc mclk moff a1 Qr) (sz : Nat) : vx_Met l yM_timeOf (Cond.code yM_timeOf bM_timeOf 2 (some .long) :: TBL) rm_M_timeOf (va_Pc [.ref (ad 0), .int a1] (XP D vwCl (tysX cI cL cO) (wM ad cI cL cO mth msc mec msrc mitm mknd mplc mclk mnc mnf mns msd mrl mrow mw mb mway moff) sz)) (va_Ql Qr (fun u t => XB D vwCl (tysX cI cL cO) (va_A (wM ad cI cL cO mth msc mec msrc mitm mknd mplc mclk mnc mnf mns msd mrl mrow mw mb mway moff) sz) (wM ad cI cL cO mth msc mec msrc mitm mknd mplc mclk mnc mnf mns msd mrl mrow mw mb mway moff) t) (va_A (wM ad cI cL cO mth msc mec msrc mitm mknd mplc mclk mnc mnf mns msd mrl mrow mw mb mway moff) sz)) (XT D vwCl (tysX cI cL cO) (va_A (wM ad cI cL cO mth msc mec msrc mitm mknd mplc mclk mnc mnf mns msd mrl mrow mw mb mway moff) sz) (wM ad cI cL cO mth msc mec msrc mitm mknd mplc mclk mnc mnf mns msd mrl mrow mw mb mway moff) (fun _ => False)) rm_M_timeOf.cells rm_M_timeOf.slots (va_A (wM ad cI cL cO mth msc mec msrc mitm mknd mplc mclk mnc mnf mns msd mrl mrow mw mb mway moff) sz) := by
  refine x_met [.ref (ad 0), .int a1] TBL_good (by decide) (Nat.le_of_ble_eq_true rfl) ?_
  intro p e s m args below meth c hC hr hlk hnm hnh
  have hret : ∀ (ce sl : Nat), ce ≤ rm_M_timeOf.cells → sl ≤ rm_M_timeOf.slots → ∀ (r : Int64) (u : Unit), Qr r u → ∀ (pc : Nat) (lv : List (Nat × Value)), decode bM_timeOf pc = .ok (.lreturn, 1) → XW p l e rm_M_timeOf s m args below meth c D vwCl (va_A (wM ad cI cL cO mth msc mec msrc mitm mknd mplc mclk mnc mnf mns msd mrl mrow mw mb mway moff) sz) 2 (vx_MQ below (va_Ql Qr (fun u t => XB D vwCl (tysX cI cL cO) (va_A (wM ad cI cL cO mth msc mec msrc mitm mknd mplc mclk mnc mnf mns msd mrl mrow mw mb mway moff) sz) (wM ad cI cL cO mth msc mec msrc mitm mknd mplc mclk mnc mnf mns msd mrl mrow mw mb mway moff) t) (va_A (wM ad cI cL cO mth msc mec msrc mitm mknd mplc mclk mnc mnf mns msd mrl mrow mw mb mway moff) sz)) (XT D vwCl (tysX cI cL cO) (va_A (wM ad cI cL cO mth msc mec msrc mitm mknd mplc mclk mnc mnf mns msd mrl mrow mw mb mway moff) sz) (wM ad cI cL cO mth msc mec msrc mitm mknd mplc mclk mnc mnf mns msd mrl mrow mw mb mway moff) (fun _ => False)) args s rm_M_timeOf.cells rm_M_timeOf.slots (va_A (wM ad cI cL cO mth msc mec msrc mitm mknd mplc mclk mnc mnf mns msd mrl mrow mw mb mway moff) sz)) ce sl (wM ad cI cL cO mth msc mec msrc mitm mknd mplc mclk mnc mnf mns msd mrl mrow mw mb mway moff) pc lv [.long r] := fun ce sl h1 h2 r u hq pc lv hd => x_lret (wf := fun u => (wM ad cI cL cO mth msc mec msrc mitm mknd mplc mclk mnc mnf mns msd mrl mrow mw mb mway moff)) hC h1 h2 hr hlk hd hq rfl
  show XW p l e rm_M_timeOf s m args below meth c D vwCl (va_A (wM ad cI cL cO mth msc mec msrc mitm mknd mplc mclk mnc mnf mns msd mrl mrow mw mb mway moff) sz) 2 _ 0 0 (wM ad cI cL cO mth msc mec msrc mitm mknd mplc mclk mnc mnf mns msd mrl mrow mw mb mway moff) 0 [(0, .ref (ad 0)), (1, .int a1)] []
  unfold M_timeOf_wp at h
  refine x_aload_n hC dM_timeOf_0 rfl 0 rfl ?_
  refine x_get hC iM 0 wM_0 rfl 7 (by decide) k_m18 rfl rfl dM_timeOf_1 ?_
  refine x_iload_n hC dM_timeOf_4 rfl 1 rfl ?_
  obtain ⟨hb_1, h⟩ := h
  refine x_lald hC 5 1 wM_5 rfl hb_1 dM_timeOf_5 ?_
  refine x_aload_n hC dM_timeOf_6 rfl 0 rfl ?_
  refine x_get hC iM 0 wM_0 rfl 17 (by decide) k_m67 rfl rfl dM_timeOf_7 ?_
  refine x_aload_n hC dM_timeOf_10 rfl 0 rfl ?_
  refine x_get hC iM 0 wM_0 rfl 3 (by decide) k_m14 rfl rfl dM_timeOf_11 ?_
  refine x_iload_n hC dM_timeOf_14 rfl 1 rfl ?_
  obtain ⟨hb_2, h⟩ := h
  refine x_iald hC 1 0 wM_1 rfl hb_2 dM_timeOf_15 ?_
  obtain ⟨hb_3, h⟩ := h
  refine x_lald hC 12 1 wM_12 rfl hb_3 dM_timeOf_16 ?_
  refine x_ladd hC dM_timeOf_17 ?_
  exact hret _ _ (by decide) (by decide) ((mclk a1.toNatClampNeg) + (moff (msrc a1.toNatClampNeg).toNatClampNeg)) () h _ _ dM_timeOf_18

/-! EventOrderModel.corrected(I)J -/
abbrev rm_M_corrected : Room := { frames := 2, cells := 0, slots := 0, locals := 46 }
def M_corrected_B26 (v1 : Int32) (s0 : Int32) (s1 : Int32) (mth : Int32) (msrc : (Nat → Int32)) (mclk : (Nat → Int64)) (moff : (Nat → Int64)) (Qr : Int64 → Int32 → Prop) : Prop := M_refused_wp mth s1 s0 0 (fun (r_5 : Int32) (u_6 : Int32) => ((r_5 = 0 → M_timeOf_wp msrc mclk moff v1 (fun (r_8 : Int64) (u_9 : Unit) => Qr r_8 u_6)) ∧ (¬ r_5 = 0 → Qr 0 u_6)))

def M_corrected_B14 (v1 : Int32) (s0 : Int32) (mth : Int32) (msrc : (Nat → Int32)) (mclk : (Nat → Int64)) (msd : Int32) (moff : (Nat → Int64)) (Qr : Int64 → Int32 → Prop) : Prop := ((¬ msd = 0 → M_corrected_B26 v1 0 s0 mth msrc mclk moff Qr) ∧ (msd = 0 → M_corrected_B26 v1 1 s0 mth msrc mclk moff Qr))

def M_corrected_wp (mth : Int32) (mec : Int32) (msrc : (Nat → Int32)) (mclk : (Nat → Int64)) (msd : Int32) (moff : (Nat → Int64)) (a1 : Int32) (Qr : Int64 → Int32 → Prop) : Prop := M_isEvent_wp mec a1 (fun (r_1 : Int32) (u_2 : Unit) => ((¬ r_1 = 0 → M_corrected_B14 a1 0 mth msrc mclk msd moff Qr) ∧ (r_1 = 0 → M_corrected_B14 a1 1 mth msrc mclk msd moff Qr)))
set_option maxHeartbeats 4000000 in
set_option maxRecDepth 100000 in
theorem M_corrected_B26_ok {p : Program} {l : Launch} {e : Env} {s : State} {m : MethodId} {args : Array Value} {below : List Frame} {meth : Method} {c : Code} {Q : State → Prop} {D : va_G} {A : Nat → Prop} {ad : Nat → Nat} {cI cL cO : ClassId} {mth : Int32} {msc : Int32} {mec : Int32} {msrc : (Nat → Int32)} {mitm : (Nat → Int32)} {mknd : (Nat → Int32)} {mplc : (Nat → Int32)} {mclk : (Nat → Int64)} {mnc : Int32} {mnf : (Nat → Int32)} {mns : (Nat → Int32)} {msd : Int32} {mrl : Int32} {mrow : (Nat → Int32)} {mw : (Nat → Int64)} {mb : (Nat → Int64)} {mway : (Nat → Int64)} {moff : (Nat → Int64)} {v1 : Int32} {s0 : Int32} {s1 : Int32} {Qr : Int64 → Int32 → Prop} (hC : XC p s m args c D vwCl (tysX cI cL cO) A 2 bM_corrected TBL RM) (hret : ∀ (r : Int64) (u : Int32), Qr r u → ∀ (pc : Nat) (lv : List (Nat × Value)), decode bM_corrected pc = .ok (.lreturn, 1) → XW p l e rm_M_corrected s m args below meth c D vwCl A 2 Q 0 0 (wM ad cI cL cO u msc mec msrc mitm mknd mplc mclk mnc mnf mns msd mrl mrow mw mb mway moff) pc lv [.long r]) (h : M_corrected_B26 v1 s0 s1 mth msrc mclk moff Qr) : XW p l e rm_M_corrected s m args below meth c D vwCl A 2 Q 0 0 (wM ad cI cL cO mth msc mec msrc mitm mknd mplc mclk mnc mnf mns msd mrl mrow mw mb mway moff) 26 [(0, .ref (ad 0)), (1, .int v1)] [.int s0, .int s1, .ref (ad 0)] := by
  unfold M_corrected_B26 at h
  refine x_iconst (v := 0) hC dM_corrected_26 (by decide) ?_
  refine x_callVi (S := Int32) (wf := fun u => (wM ad cI cL cO u msc mec msrc mitm mknd mplc mclk mnc mnf mns msd mrl mrow mw mb mway moff)) hC [.int s1, .int s0, .int 0] (fun sz => c_M_refused h sz) (by decide) (by decide) k_m3 k_m4 k_m5 (by decide) 3 rfl (by decide +kernel) ⟨by decide, by decide⟩ (Nat.le_of_ble_eq_true rfl) k_m6 k_m7 wM_0 rfl rfl dM_corrected_27 (fun _ h9 => h9) (fun r_5 u_6 h => ?_)
  refine x_if_eq (tgt := 37) hC dM_corrected_30 (by decide) (fun c_7 => ?_) (fun c_7 => ?_)
  · have h := h.1 c_7
    refine x_aload_n hC dM_corrected_37 rfl 0 rfl ?_
    refine x_iload_n hC dM_corrected_38 rfl 1 rfl ?_
    refine x_callVl (S := Unit) (wf := fun u => (wM ad cI cL cO u_6 msc mec msrc mitm mknd mplc mclk mnc mnf mns msd mrl mrow mw mb mway moff)) hC [.int v1] (fun sz => c_M_timeOf h sz) (by decide) (by decide) k_m78 k_m79 k_m80 (by decide) 1 rfl (by decide +kernel) ⟨by decide, by decide⟩ (Nat.le_of_ble_eq_true rfl) k_m81 k_m82 wM_0 rfl rfl dM_corrected_39 (fun _ h9 => h9) (fun r_8 u_9 h => ?_)
    exact hret r_8 u_6 h _ _ dM_corrected_42
  · have h := h.2 c_7
    refine x_lconst (v := 0) hC dM_corrected_33 (by decide) ?_
    refine x_goto (tgt := 42) hC dM_corrected_34 (by decide) ?_
    exact hret 0 u_6 h _ _ dM_corrected_42

set_option maxHeartbeats 4000000 in
set_option maxRecDepth 100000 in
theorem M_corrected_B14_ok {p : Program} {l : Launch} {e : Env} {s : State} {m : MethodId} {args : Array Value} {below : List Frame} {meth : Method} {c : Code} {Q : State → Prop} {D : va_G} {A : Nat → Prop} {ad : Nat → Nat} {cI cL cO : ClassId} {mth : Int32} {msc : Int32} {mec : Int32} {msrc : (Nat → Int32)} {mitm : (Nat → Int32)} {mknd : (Nat → Int32)} {mplc : (Nat → Int32)} {mclk : (Nat → Int64)} {mnc : Int32} {mnf : (Nat → Int32)} {mns : (Nat → Int32)} {msd : Int32} {mrl : Int32} {mrow : (Nat → Int32)} {mw : (Nat → Int64)} {mb : (Nat → Int64)} {mway : (Nat → Int64)} {moff : (Nat → Int64)} {v1 : Int32} {s0 : Int32} {Qr : Int64 → Int32 → Prop} (hC : XC p s m args c D vwCl (tysX cI cL cO) A 2 bM_corrected TBL RM) (hret : ∀ (r : Int64) (u : Int32), Qr r u → ∀ (pc : Nat) (lv : List (Nat × Value)), decode bM_corrected pc = .ok (.lreturn, 1) → XW p l e rm_M_corrected s m args below meth c D vwCl A 2 Q 0 0 (wM ad cI cL cO u msc mec msrc mitm mknd mplc mclk mnc mnf mns msd mrl mrow mw mb mway moff) pc lv [.long r]) (h : M_corrected_B14 v1 s0 mth msrc mclk msd moff Qr) : XW p l e rm_M_corrected s m args below meth c D vwCl A 2 Q 0 0 (wM ad cI cL cO mth msc mec msrc mitm mknd mplc mclk mnc mnf mns msd mrl mrow mw mb mway moff) 14 [(0, .ref (ad 0)), (1, .int v1)] [.int s0, .ref (ad 0)] := by
  unfold M_corrected_B14 at h
  refine x_aload_n hC dM_corrected_14 rfl 0 rfl ?_
  refine x_get hC iM 0 wM_0 rfl 11 (by decide) k_m2 rfl rfl dM_corrected_15 ?_
  refine x_if_ne (tgt := 25) hC dM_corrected_18 (by decide) (fun c_4 => ?_) (fun c_4 => ?_)
  · have h := h.1 c_4
    refine x_iconst (v := 0) hC dM_corrected_25 (by decide) ?_
    refine x_lv [0, 1] rfl ?_
    exact M_corrected_B26_ok hC hret h
  · have h := h.2 c_4
    refine x_iconst (v := 1) hC dM_corrected_21 (by decide) ?_
    refine x_goto (tgt := 26) hC dM_corrected_22 (by decide) ?_
    refine x_lv [0, 1] rfl ?_
    exact M_corrected_B26_ok hC hret h

set_option maxHeartbeats 4000000 in
set_option maxRecDepth 100000 in
theorem c_M_corrected {l : Launch} {D : va_G} {ad : Nat → Nat} {cI cL cO : ClassId} {mth : Int32} {msc : Int32} {mec : Int32} {msrc : (Nat → Int32)} {mitm : (Nat → Int32)} {mknd : (Nat → Int32)} {mplc : (Nat → Int32)} {mclk : (Nat → Int64)} {mnc : Int32} {mnf : (Nat → Int32)} {mns : (Nat → Int32)} {msd : Int32} {mrl : Int32} {mrow : (Nat → Int32)} {mw : (Nat → Int64)} {mb : (Nat → Int64)} {mway : (Nat → Int64)} {moff : (Nat → Int64)} {a1 : Int32} {Qr : Int64 → Int32 → Prop} (h : M_corrected_wp mth mec msrc mclk msd moff a1 Qr) (sz : Nat) : vx_Met l yM_corrected (Cond.code yM_corrected bM_corrected 2 (some .long) :: TBL) rm_M_corrected (va_Pc [.ref (ad 0), .int a1] (XP D vwCl (tysX cI cL cO) (wM ad cI cL cO mth msc mec msrc mitm mknd mplc mclk mnc mnf mns msd mrl mrow mw mb mway moff) sz)) (va_Ql Qr (fun u t => XB D vwCl (tysX cI cL cO) (va_A (wM ad cI cL cO mth msc mec msrc mitm mknd mplc mclk mnc mnf mns msd mrl mrow mw mb mway moff) sz) (wM ad cI cL cO u msc mec msrc mitm mknd mplc mclk mnc mnf mns msd mrl mrow mw mb mway moff) t) (va_A (wM ad cI cL cO mth msc mec msrc mitm mknd mplc mclk mnc mnf mns msd mrl mrow mw mb mway moff) sz)) (XT D vwCl (tysX cI cL cO) (va_A (wM ad cI cL cO mth msc mec msrc mitm mknd mplc mclk mnc mnf mns msd mrl mrow mw mb mway moff) sz) (wM ad cI cL cO mth msc mec msrc mitm mknd mplc mclk mnc mnf mns msd mrl mrow mw mb mway moff) (fun _ => False)) rm_M_corrected.cells rm_M_corrected.slots (va_A (wM ad cI cL cO mth msc mec msrc mitm mknd mplc mclk mnc mnf mns msd mrl mrow mw mb mway moff) sz) := by
  refine x_met [.ref (ad 0), .int a1] TBL_good (by decide) (Nat.le_of_ble_eq_true rfl) ?_
  intro p e s m args below meth c hC hr hlk hnm hnh
  have hret : ∀ (ce sl : Nat), ce ≤ rm_M_corrected.cells → sl ≤ rm_M_corrected.slots → ∀ (r : Int64) (u : Int32), Qr r u → ∀ (pc : Nat) (lv : List (Nat × Value)), decode bM_corrected pc = .ok (.lreturn, 1) → XW p l e rm_M_corrected s m args below meth c D vwCl (va_A (wM ad cI cL cO mth msc mec msrc mitm mknd mplc mclk mnc mnf mns msd mrl mrow mw mb mway moff) sz) 2 (vx_MQ below (va_Ql Qr (fun u t => XB D vwCl (tysX cI cL cO) (va_A (wM ad cI cL cO mth msc mec msrc mitm mknd mplc mclk mnc mnf mns msd mrl mrow mw mb mway moff) sz) (wM ad cI cL cO u msc mec msrc mitm mknd mplc mclk mnc mnf mns msd mrl mrow mw mb mway moff) t) (va_A (wM ad cI cL cO mth msc mec msrc mitm mknd mplc mclk mnc mnf mns msd mrl mrow mw mb mway moff) sz)) (XT D vwCl (tysX cI cL cO) (va_A (wM ad cI cL cO mth msc mec msrc mitm mknd mplc mclk mnc mnf mns msd mrl mrow mw mb mway moff) sz) (wM ad cI cL cO mth msc mec msrc mitm mknd mplc mclk mnc mnf mns msd mrl mrow mw mb mway moff) (fun _ => False)) args s rm_M_corrected.cells rm_M_corrected.slots (va_A (wM ad cI cL cO mth msc mec msrc mitm mknd mplc mclk mnc mnf mns msd mrl mrow mw mb mway moff) sz)) ce sl (wM ad cI cL cO u msc mec msrc mitm mknd mplc mclk mnc mnf mns msd mrl mrow mw mb mway moff) pc lv [.long r] := fun ce sl h1 h2 r u hq pc lv hd => x_lret (wf := fun u => (wM ad cI cL cO u msc mec msrc mitm mknd mplc mclk mnc mnf mns msd mrl mrow mw mb mway moff)) hC h1 h2 hr hlk hd hq rfl
  show XW p l e rm_M_corrected s m args below meth c D vwCl (va_A (wM ad cI cL cO mth msc mec msrc mitm mknd mplc mclk mnc mnf mns msd mrl mrow mw mb mway moff) sz) 2 _ 0 0 (wM ad cI cL cO mth msc mec msrc mitm mknd mplc mclk mnc mnf mns msd mrl mrow mw mb mway moff) 0 [(0, .ref (ad 0)), (1, .int a1)] []
  unfold M_corrected_wp at h
  refine x_aload_n hC dM_corrected_0 rfl 0 rfl ?_
  refine x_aload_n hC dM_corrected_1 rfl 0 rfl ?_
  refine x_iload_n hC dM_corrected_2 rfl 1 rfl ?_
  refine x_callVi (S := Unit) (wf := fun u => (wM ad cI cL cO mth msc mec msrc mitm mknd mplc mclk mnc mnf mns msd mrl mrow mw mb mway moff)) hC [.int a1] (fun sz => c_M_isEvent h sz) (by decide) (by decide) k_m35 k_m36 k_m37 (by decide) 1 rfl (by decide +kernel) ⟨by decide, by decide⟩ (Nat.le_of_ble_eq_true rfl) k_m38 k_m39 wM_0 rfl rfl dM_corrected_3 (fun _ h9 => h9) (fun r_1 u_2 h => ?_)
  refine x_if_ne (tgt := 13) hC dM_corrected_6 (by decide) (fun c_3 => ?_) (fun c_3 => ?_)
  · have h := h.1 c_3
    refine x_iconst (v := 0) hC dM_corrected_13 (by decide) ?_
    refine x_lv [0, 1] rfl ?_
    exact M_corrected_B14_ok hC (hret _ _ (by decide) (by decide)) h
  · have h := h.2 c_3
    refine x_iconst (v := 1) hC dM_corrected_9 (by decide) ?_
    refine x_goto (tgt := 14) hC dM_corrected_10 (by decide) ?_
    refine x_lv [0, 1] rfl ?_
    exact M_corrected_B14_ok hC (hret _ _ (by decide) (by decide)) h

/-! EventOrderModel.isBefore(II)Z -/
abbrev rm_M_isBefore : Room := { frames := 1, cells := 0, slots := 0, locals := 21 }
def M_isBefore_wp (msrc : (Nat → Int32)) (mplc : (Nat → Int32)) (mclk : (Nat → Int64)) (moff : (Nat → Int64)) (a1 : Int32) (a2 : Int32) (Qr : Int32 → Unit → Prop) : Prop := M_timeOf_wp msrc mclk moff a1 (fun (r_1 : Int64) (u_2 : Unit) => M_timeOf_wp msrc mclk moff a2 (fun (r_3 : Int64) (u_4 : Unit) => ((r_1 = r_3 → vp_in a1 301 ∧ vp_in a2 301 ∧ (((mplc a1.toNatClampNeg) = (mplc a2.toNatClampNeg) → ((a2 ≤ a1 → Qr 0 ()) ∧ (¬ a2 ≤ a1 → Qr 1 ()))) ∧ (¬ (mplc a1.toNatClampNeg) = (mplc a2.toNatClampNeg) → vp_in a1 301 ∧ vp_in a2 301 ∧ (((mplc a2.toNatClampNeg) ≤ (mplc a1.toNatClampNeg) → Qr 0 ()) ∧ (¬ (mplc a2.toNatClampNeg) ≤ (mplc a1.toNatClampNeg) → Qr 1 ()))))) ∧ (¬ r_1 = r_3 → M_timeOf_wp msrc mclk moff a1 (fun (r_13 : Int64) (u_14 : Unit) => M_timeOf_wp msrc mclk moff a2 (fun (r_15 : Int64) (u_16 : Unit) => ((r_15 ≤ r_13 → Qr 0 ()) ∧ (¬ r_15 ≤ r_13 → Qr 1 ()))))))))
set_option maxHeartbeats 4000000 in
set_option maxRecDepth 100000 in
theorem c_M_isBefore {l : Launch} {D : va_G} {ad : Nat → Nat} {cI cL cO : ClassId} {mth : Int32} {msc : Int32} {mec : Int32} {msrc : (Nat → Int32)} {mitm : (Nat → Int32)} {mknd : (Nat → Int32)} {mplc : (Nat → Int32)} {mclk : (Nat → Int64)} {mnc : Int32} {mnf : (Nat → Int32)} {mns : (Nat → Int32)} {msd : Int32} {mrl : Int32} {mrow : (Nat → Int32)} {mw : (Nat → Int64)} {mb : (Nat → Int64)} {mway : (Nat → Int64)} {moff : (Nat → Int64)} {a1 : Int32} {a2 : Int32} {Qr : Int32 → Unit → Prop} (h : M_isBefore_wp msrc mplc mclk moff a1 a2 Qr) (sz : Nat) : vx_Met l yM_isBefore (Cond.code yM_isBefore bM_isBefore 3 (some .boolean) :: TBL) rm_M_isBefore (va_Pc [.ref (ad 0), .int a1, .int a2] (XP D vwCl (tysX cI cL cO) (wM ad cI cL cO mth msc mec msrc mitm mknd mplc mclk mnc mnf mns msd mrl mrow mw mb mway moff) sz)) (va_Qi Qr (fun u t => XB D vwCl (tysX cI cL cO) (va_A (wM ad cI cL cO mth msc mec msrc mitm mknd mplc mclk mnc mnf mns msd mrl mrow mw mb mway moff) sz) (wM ad cI cL cO mth msc mec msrc mitm mknd mplc mclk mnc mnf mns msd mrl mrow mw mb mway moff) t) (va_A (wM ad cI cL cO mth msc mec msrc mitm mknd mplc mclk mnc mnf mns msd mrl mrow mw mb mway moff) sz)) (XT D vwCl (tysX cI cL cO) (va_A (wM ad cI cL cO mth msc mec msrc mitm mknd mplc mclk mnc mnf mns msd mrl mrow mw mb mway moff) sz) (wM ad cI cL cO mth msc mec msrc mitm mknd mplc mclk mnc mnf mns msd mrl mrow mw mb mway moff) (fun _ => False)) rm_M_isBefore.cells rm_M_isBefore.slots (va_A (wM ad cI cL cO mth msc mec msrc mitm mknd mplc mclk mnc mnf mns msd mrl mrow mw mb mway moff) sz) := by
  refine x_met [.ref (ad 0), .int a1, .int a2] TBL_good (by decide) (Nat.le_of_ble_eq_true rfl) ?_
  intro p e s m args below meth c hC hr hlk hnm hnh
  have hret : ∀ (ce sl : Nat), ce ≤ rm_M_isBefore.cells → sl ≤ rm_M_isBefore.slots → ∀ (r : Int32) (u : Unit), x_bool r → Qr r u → ∀ (pc : Nat) (lv : List (Nat × Value)), decode bM_isBefore pc = .ok (.ireturn, 1) → XW p l e rm_M_isBefore s m args below meth c D vwCl (va_A (wM ad cI cL cO mth msc mec msrc mitm mknd mplc mclk mnc mnf mns msd mrl mrow mw mb mway moff) sz) 3 (vx_MQ below (va_Qi Qr (fun u t => XB D vwCl (tysX cI cL cO) (va_A (wM ad cI cL cO mth msc mec msrc mitm mknd mplc mclk mnc mnf mns msd mrl mrow mw mb mway moff) sz) (wM ad cI cL cO mth msc mec msrc mitm mknd mplc mclk mnc mnf mns msd mrl mrow mw mb mway moff) t) (va_A (wM ad cI cL cO mth msc mec msrc mitm mknd mplc mclk mnc mnf mns msd mrl mrow mw mb mway moff) sz)) (XT D vwCl (tysX cI cL cO) (va_A (wM ad cI cL cO mth msc mec msrc mitm mknd mplc mclk mnc mnf mns msd mrl mrow mw mb mway moff) sz) (wM ad cI cL cO mth msc mec msrc mitm mknd mplc mclk mnc mnf mns msd mrl mrow mw mb mway moff) (fun _ => False)) args s rm_M_isBefore.cells rm_M_isBefore.slots (va_A (wM ad cI cL cO mth msc mec msrc mitm mknd mplc mclk mnc mnf mns msd mrl mrow mw mb mway moff) sz)) ce sl (wM ad cI cL cO mth msc mec msrc mitm mknd mplc mclk mnc mnf mns msd mrl mrow mw mb mway moff) pc lv [.int r] := fun ce sl h1 h2 r u hb9 hq pc lv hd => x_zret (wf := fun u => (wM ad cI cL cO mth msc mec msrc mitm mknd mplc mclk mnc mnf mns msd mrl mrow mw mb mway moff)) hC h1 h2 hr hlk hb9 hd hq rfl
  show XW p l e rm_M_isBefore s m args below meth c D vwCl (va_A (wM ad cI cL cO mth msc mec msrc mitm mknd mplc mclk mnc mnf mns msd mrl mrow mw mb mway moff) sz) 3 _ 0 0 (wM ad cI cL cO mth msc mec msrc mitm mknd mplc mclk mnc mnf mns msd mrl mrow mw mb mway moff) 0 [(0, .ref (ad 0)), (1, .int a1), (2, .int a2)] []
  unfold M_isBefore_wp at h
  refine x_aload_n hC dM_isBefore_0 rfl 0 rfl ?_
  refine x_iload_n hC dM_isBefore_1 rfl 1 rfl ?_
  refine x_callVl (S := Unit) (wf := fun u => (wM ad cI cL cO mth msc mec msrc mitm mknd mplc mclk mnc mnf mns msd mrl mrow mw mb mway moff)) hC [.int a1] (fun sz => c_M_timeOf h sz) (by decide) (by decide) k_m78 k_m79 k_m80 (by decide) 1 rfl (by decide +kernel) ⟨by decide, by decide⟩ (Nat.le_of_ble_eq_true rfl) k_m81 k_m82 wM_0 rfl rfl dM_isBefore_2 (fun _ h9 => h9) (fun r_1 u_2 h => ?_)
  refine x_aload_n hC dM_isBefore_5 rfl 0 rfl ?_
  refine x_iload_n hC dM_isBefore_6 rfl 2 rfl ?_
  refine x_callVl (S := Unit) (wf := fun u => (wM ad cI cL cO mth msc mec msrc mitm mknd mplc mclk mnc mnf mns msd mrl mrow mw mb mway moff)) hC [.int a2] (fun sz => c_M_timeOf h sz) (by decide) (by decide) k_m78 k_m79 k_m80 (by decide) 1 rfl (by decide +kernel) ⟨by decide, by decide⟩ (Nat.le_of_ble_eq_true rfl) k_m81 k_m82 wM_0 rfl rfl dM_isBefore_7 (fun _ h9 => h9) (fun r_3 u_4 h => ?_)
  refine x_lcmp_eq (tgt := 34) hC dM_isBefore_10 dM_isBefore_11 (by decide) (fun c_5 => ?_) (fun c_5 => ?_)
  · have h := h.1 c_5
    refine x_aload_n hC dM_isBefore_34 rfl 0 rfl ?_
    refine x_get hC iM 0 wM_0 rfl 6 (by decide) k_m17 rfl rfl dM_isBefore_35 ?_
    refine x_iload_n hC dM_isBefore_38 rfl 1 rfl ?_
    obtain ⟨hb_6, h⟩ := h
    refine x_iald hC 4 0 wM_4 rfl hb_6 dM_isBefore_39 ?_
    refine x_aload_n hC dM_isBefore_40 rfl 0 rfl ?_
    refine x_get hC iM 0 wM_0 rfl 6 (by decide) k_m17 rfl rfl dM_isBefore_41 ?_
    refine x_iload_n hC dM_isBefore_44 rfl 2 rfl ?_
    obtain ⟨hb_7, h⟩ := h
    refine x_iald hC 4 0 wM_4 rfl hb_7 dM_isBefore_45 ?_
    refine x_icmp_eq (tgt := 72) hC dM_isBefore_46 (by decide) (fun c_8 => ?_) (fun c_8 => ?_)
    · have h := h.1 c_8
      refine x_iload_n hC dM_isBefore_72 rfl 1 rfl ?_
      refine x_iload_n hC dM_isBefore_73 rfl 2 rfl ?_
      refine x_icmp_ge (tgt := 81) hC dM_isBefore_74 (by decide) (fun c_9 => ?_) (fun c_9 => ?_)
      · have h := h.1 c_9
        refine x_iconst (v := 0) hC dM_isBefore_81 (by decide) ?_
        exact hret _ _ (by decide) (by decide) 0 () (Or.inl rfl) h _ _ dM_isBefore_82
      · have h := h.2 c_9
        refine x_iconst (v := 1) hC dM_isBefore_77 (by decide) ?_
        refine x_goto (tgt := 82) hC dM_isBefore_78 (by decide) ?_
        exact hret _ _ (by decide) (by decide) 1 () (Or.inr rfl) h _ _ dM_isBefore_82
    · have h := h.2 c_8
      refine x_aload_n hC dM_isBefore_49 rfl 0 rfl ?_
      refine x_get hC iM 0 wM_0 rfl 6 (by decide) k_m17 rfl rfl dM_isBefore_50 ?_
      refine x_iload_n hC dM_isBefore_53 rfl 1 rfl ?_
      obtain ⟨hb_10, h⟩ := h
      refine x_iald hC 4 0 wM_4 rfl hb_10 dM_isBefore_54 ?_
      refine x_aload_n hC dM_isBefore_55 rfl 0 rfl ?_
      refine x_get hC iM 0 wM_0 rfl 6 (by decide) k_m17 rfl rfl dM_isBefore_56 ?_
      refine x_iload_n hC dM_isBefore_59 rfl 2 rfl ?_
      obtain ⟨hb_11, h⟩ := h
      refine x_iald hC 4 0 wM_4 rfl hb_11 dM_isBefore_60 ?_
      refine x_icmp_ge (tgt := 68) hC dM_isBefore_61 (by decide) (fun c_12 => ?_) (fun c_12 => ?_)
      · have h := h.1 c_12
        refine x_iconst (v := 0) hC dM_isBefore_68 (by decide) ?_
        refine x_goto (tgt := 82) hC dM_isBefore_69 (by decide) ?_
        exact hret _ _ (by decide) (by decide) 0 () (Or.inl rfl) h _ _ dM_isBefore_82
      · have h := h.2 c_12
        refine x_iconst (v := 1) hC dM_isBefore_64 (by decide) ?_
        refine x_goto (tgt := 82) hC dM_isBefore_65 (by decide) ?_
        exact hret _ _ (by decide) (by decide) 1 () (Or.inr rfl) h _ _ dM_isBefore_82
  · have h := h.2 c_5
    refine x_aload_n hC dM_isBefore_14 rfl 0 rfl ?_
    refine x_iload_n hC dM_isBefore_15 rfl 1 rfl ?_
    refine x_callVl (S := Unit) (wf := fun u => (wM ad cI cL cO mth msc mec msrc mitm mknd mplc mclk mnc mnf mns msd mrl mrow mw mb mway moff)) hC [.int a1] (fun sz => c_M_timeOf h sz) (by decide) (by decide) k_m78 k_m79 k_m80 (by decide) 1 rfl (by decide +kernel) ⟨by decide, by decide⟩ (Nat.le_of_ble_eq_true rfl) k_m81 k_m82 wM_0 rfl rfl dM_isBefore_16 (fun _ h9 => h9) (fun r_13 u_14 h => ?_)
    refine x_aload_n hC dM_isBefore_19 rfl 0 rfl ?_
    refine x_iload_n hC dM_isBefore_20 rfl 2 rfl ?_
    refine x_callVl (S := Unit) (wf := fun u => (wM ad cI cL cO mth msc mec msrc mitm mknd mplc mclk mnc mnf mns msd mrl mrow mw mb mway moff)) hC [.int a2] (fun sz => c_M_timeOf h sz) (by decide) (by decide) k_m78 k_m79 k_m80 (by decide) 1 rfl (by decide +kernel) ⟨by decide, by decide⟩ (Nat.le_of_ble_eq_true rfl) k_m81 k_m82 wM_0 rfl rfl dM_isBefore_21 (fun _ h9 => h9) (fun r_15 u_16 h => ?_)
    refine x_lcmp_ge (tgt := 32) hC dM_isBefore_24 dM_isBefore_25 (by decide) (fun c_17 => ?_) (fun c_17 => ?_)
    · have h := h.1 c_17
      refine x_iconst (v := 0) hC dM_isBefore_32 (by decide) ?_
      exact hret _ _ (by decide) (by decide) 0 () (Or.inl rfl) h _ _ dM_isBefore_33
    · have h := h.2 c_17
      refine x_iconst (v := 1) hC dM_isBefore_28 (by decide) ?_
      refine x_goto (tgt := 33) hC dM_isBefore_29 (by decide) ?_
      exact hret _ _ (by decide) (by decide) 1 () (Or.inr rfl) h _ _ dM_isBefore_33

/-! EventOrderModel.ordered(II)I -/
abbrev rm_M_ordered : Room := { frames := 2, cells := 0, slots := 0, locals := 43 }
def M_ordered_L55 (v1 : Int32) (v2 : Int32) (v3 : Int32) (mec : Int32) (msrc : (Nat → Int32)) (mitm : (Nat → Int32)) (mplc : (Nat → Int32)) (mclk : (Nat → Int64)) (moff : (Nat → Int64)) (Qx : Int32 → Prop) : Nat → Int32 → Int32 → Prop
  | 0, _, _ => False
  | n + 1, v4, v5 => ((mec < v5 → Qx v4) ∧ (¬ mec < v5 → vp_in v3 301 ∧ ((¬ (mitm v3.toNatClampNeg) = v1 → Qx v4) ∧ ((mitm v3.toNatClampNeg) = v1 → vp_in v5 301 ∧ ((¬ (mitm v5.toNatClampNeg) = v1 → M_ordered_L55 v1 v2 v3 mec msrc mitm mplc mclk moff Qx n v4 (v5 + 1)) ∧ ((mitm v5.toNatClampNeg) = v1 → M_isBefore_wp msrc mplc mclk moff v5 v3 (fun (r_14 : Int32) (u_15 : Unit) => ((r_14 = 0 → M_ordered_L55 v1 v2 v3 mec msrc mitm mplc mclk moff Qx n v4 (v5 + 1)) ∧ (¬ r_14 = 0 → M_ordered_L55 v1 v2 v3 mec msrc mitm mplc mclk moff Qx n (v4 + 1) (v5 + 1))))))))))

def M_ordered_L41 (v1 : Int32) (v2 : Int32) (mth : Int32) (mec : Int32) (msrc : (Nat → Int32)) (mitm : (Nat → Int32)) (mplc : (Nat → Int32)) (mclk : (Nat → Int64)) (moff : (Nat → Int64)) (Qr : Int32 → Int32 → Prop) (Qx : Prop) : Nat → Int32 → Prop
  | 0, _ => False
  | n + 1, v3 => ((mec < v3 → Qx) ∧ (¬ mec < v3 → (∃ n_21 : Nat, M_ordered_L55 v1 v2 v3 mec msrc mitm mplc mclk moff (fun (v4_17 : Int32) => vp_in v3 301 ∧ ((¬ (mitm v3.toNatClampNeg) = v1 → M_ordered_L41 v1 v2 mth mec msrc mitm mplc mclk moff Qr Qx n (v3 + 1)) ∧ ((mitm v3.toNatClampNeg) = v1 → ((¬ v4_17 = v2 → M_ordered_L41 v1 v2 mth mec msrc mitm mplc mclk moff Qr Qx n (v3 + 1)) ∧ (v4_17 = v2 → Qr v3 mth))))) n_21 0 1)))

def M_ordered_B30 (v1 : Int32) (v2 : Int32) (s0 : Int32) (s1 : Int32) (mth : Int32) (mec : Int32) (msrc : (Nat → Int32)) (mitm : (Nat → Int32)) (mplc : (Nat → Int32)) (mclk : (Nat → Int64)) (moff : (Nat → Int64)) (Qr : Int32 → Int32 → Prop) : Prop := M_refused_wp mth s1 s0 0 (fun (r_5 : Int32) (u_6 : Int32) => ((r_5 = 0 → (∃ n_22 : Nat, M_ordered_L41 v1 v2 u_6 mec msrc mitm mplc mclk moff Qr (Qr 0 u_6) n_22 1)) ∧ (¬ r_5 = 0 → Qr 0 u_6)))

def M_ordered_B18 (v1 : Int32) (v2 : Int32) (s0 : Int32) (mth : Int32) (mec : Int32) (msrc : (Nat → Int32)) (mitm : (Nat → Int32)) (mplc : (Nat → Int32)) (mclk : (Nat → Int64)) (msd : Int32) (moff : (Nat → Int64)) (Qr : Int32 → Int32 → Prop) : Prop := ((¬ msd = 0 → M_ordered_B30 v1 v2 0 s0 mth mec msrc mitm mplc mclk moff Qr) ∧ (msd = 0 → M_ordered_B30 v1 v2 1 s0 mth mec msrc mitm mplc mclk moff Qr))

def M_ordered_wp (mth : Int32) (mec : Int32) (msrc : (Nat → Int32)) (mitm : (Nat → Int32)) (mplc : (Nat → Int32)) (mclk : (Nat → Int64)) (msd : Int32) (moff : (Nat → Int64)) (a1 : Int32) (a2 : Int32) (Qr : Int32 → Int32 → Prop) : Prop := M_within_wp a1.toInt64 0 199 (fun (r_1 : Int32) (u_2 : Unit) => ((¬ r_1 = 0 → M_ordered_B18 a1 a2 0 mth mec msrc mitm mplc mclk msd moff Qr) ∧ (r_1 = 0 → M_ordered_B18 a1 a2 1 mth mec msrc mitm mplc mclk msd moff Qr)))
set_option maxHeartbeats 4000000 in
set_option maxRecDepth 100000 in
theorem M_ordered_L55_ok {p : Program} {l : Launch} {e : Env} {s : State} {m : MethodId} {args : Array Value} {below : List Frame} {meth : Method} {c : Code} {Q : State → Prop} {D : va_G} {A : Nat → Prop} {ad : Nat → Nat} {cI cL cO : ClassId} {mth : Int32} {msc : Int32} {mec : Int32} {msrc : (Nat → Int32)} {mitm : (Nat → Int32)} {mknd : (Nat → Int32)} {mplc : (Nat → Int32)} {mclk : (Nat → Int64)} {mnc : Int32} {mnf : (Nat → Int32)} {mns : (Nat → Int32)} {msd : Int32} {mrl : Int32} {mrow : (Nat → Int32)} {mw : (Nat → Int64)} {mb : (Nat → Int64)} {mway : (Nat → Int64)} {moff : (Nat → Int64)} {v1 : Int32} {v2 : Int32} {v3 : Int32} {Qx : Int32 → Prop} (hC : XC p s m args c D vwCl (tysX cI cL cO) A 6 bM_ordered TBL RM)  (hexit : ∀ (v4 : Int32), Qx v4 → XW p l e rm_M_ordered s m args below meth c D vwCl A 6 Q 0 0 (wM ad cI cL cO mth msc mec msrc mitm mknd mplc mclk mnc mnf mns msd mrl mrow mw mb mway moff) 112 [(0, .ref (ad 0)), (1, .int v1), (2, .int v2), (3, .int v3), (4, .int v4)] []) : ∀ (n : Nat) (v4 : Int32) (v5 : Int32), M_ordered_L55 v1 v2 v3 mec msrc mitm mplc mclk moff Qx n v4 v5 → XW p l e rm_M_ordered s m args below meth c D vwCl A 6 Q 0 0 (wM ad cI cL cO mth msc mec msrc mitm mknd mplc mclk mnc mnf mns msd mrl mrow mw mb mway moff) 55 [(0, .ref (ad 0)), (1, .int v1), (2, .int v2), (3, .int v3), (4, .int v4), (5, .int v5)] [] := by
  intro n
  induction n with
  | zero => intro v4 v5 h; exact False.elim h
  | succ n ih =>
    intro v4 v5 h
    unfold M_ordered_L55 at h
    refine x_iload hC dM_ordered_55 5 rfl ?_
    refine x_aload_n hC dM_ordered_57 rfl 0 rfl ?_
    refine x_get hC iM 0 wM_0 rfl 2 (by decide) k_m13 rfl rfl dM_ordered_58 ?_
    refine x_icmp_gt (tgt := 112) hC dM_ordered_61 (by decide) (fun c_9 => ?_) (fun c_9 => ?_)
    · have h := h.1 c_9
      refine x_lv [0, 1, 2, 3, 4] rfl ?_
      exact hexit v4 h
    · have h := h.2 c_9
      refine x_aload_n hC dM_ordered_64 rfl 0 rfl ?_
      refine x_get hC iM 0 wM_0 rfl 4 (by decide) k_m15 rfl rfl dM_ordered_65 ?_
      refine x_iload_n hC dM_ordered_68 rfl 3 rfl ?_
      obtain ⟨hb_10, h⟩ := h
      refine x_iald hC 2 0 wM_2 rfl hb_10 dM_ordered_69 ?_
      refine x_iload_n hC dM_ordered_70 rfl 1 rfl ?_
      refine x_icmp_ne (tgt := 112) hC dM_ordered_71 (by decide) (fun c_11 => ?_) (fun c_11 => ?_)
      · have h := h.1 c_11
        refine x_lv [0, 1, 2, 3, 4] rfl ?_
        exact hexit v4 h
      · have h := h.2 c_11
        refine x_aload_n hC dM_ordered_74 rfl 0 rfl ?_
        refine x_get hC iM 0 wM_0 rfl 4 (by decide) k_m15 rfl rfl dM_ordered_75 ?_
        refine x_iload hC dM_ordered_78 5 rfl ?_
        obtain ⟨hb_12, h⟩ := h
        refine x_iald hC 2 0 wM_2 rfl hb_12 dM_ordered_80 ?_
        refine x_iload_n hC dM_ordered_81 rfl 1 rfl ?_
        refine x_icmp_ne (tgt := 102) hC dM_ordered_82 (by decide) (fun c_13 => ?_) (fun c_13 => ?_)
        · have h := h.1 c_13
          refine x_iload hC dM_ordered_102 4 rfl ?_
          refine x_istore (lv' := [(4, .int v4), (0, .ref (ad 0)), (1, .int v1), (2, .int v2), (3, .int v3), (5, .int v5)]) hC dM_ordered_104 (by decide) rfl ?_
          refine x_iinc (v := v5 + 1) (lv' := [(5, .int (v5 + 1)), (4, .int v4), (0, .ref (ad 0)), (1, .int v1), (2, .int v2), (3, .int v3)]) hC dM_ordered_106 5 rfl rfl (by decide) rfl ?_
          refine x_goto (tgt := 55) hC dM_ordered_109 (by decide) ?_
          refine x_lv [2, 3, 4, 5, 1, 0] rfl ?_
          exact ih v4 (v5 + 1) h
        · have h := h.2 c_13
          refine x_aload_n hC dM_ordered_85 rfl 0 rfl ?_
          refine x_iload hC dM_ordered_86 5 rfl ?_
          refine x_iload_n hC dM_ordered_88 rfl 3 rfl ?_
          refine x_callVi (S := Unit) (wf := fun u => (wM ad cI cL cO mth msc mec msrc mitm mknd mplc mclk mnc mnf mns msd mrl mrow mw mb mway moff)) hC [.int v5, .int v3] (fun sz => c_M_isBefore h sz) (by decide) (by decide) k_m83 k_m84 k_m85 (by decide) 2 rfl (by decide +kernel) ⟨by decide, by decide⟩ (Nat.le_of_ble_eq_true rfl) k_m86 k_m87 wM_0 rfl rfl dM_ordered_89 (fun _ h9 => h9) (fun r_14 u_15 h => ?_)
          refine x_if_eq (tgt := 102) hC dM_ordered_92 (by decide) (fun c_16 => ?_) (fun c_16 => ?_)
          · have h := h.1 c_16
            refine x_iload hC dM_ordered_102 4 rfl ?_
            refine x_istore (lv' := [(4, .int v4), (0, .ref (ad 0)), (1, .int v1), (2, .int v2), (3, .int v3), (5, .int v5)]) hC dM_ordered_104 (by decide) rfl ?_
            refine x_iinc (v := v5 + 1) (lv' := [(5, .int (v5 + 1)), (4, .int v4), (0, .ref (ad 0)), (1, .int v1), (2, .int v2), (3, .int v3)]) hC dM_ordered_106 5 rfl rfl (by decide) rfl ?_
            refine x_goto (tgt := 55) hC dM_ordered_109 (by decide) ?_
            refine x_lv [2, 3, 4, 5, 1, 0] rfl ?_
            exact ih v4 (v5 + 1) h
          · have h := h.2 c_16
            refine x_iload hC dM_ordered_95 4 rfl ?_
            refine x_iconst (v := 1) hC dM_ordered_97 (by decide) ?_
            refine x_iadd hC dM_ordered_98 ?_
            refine x_goto (tgt := 104) hC dM_ordered_99 (by decide) ?_
            refine x_istore (lv' := [(4, .int (v4 + 1)), (0, .ref (ad 0)), (1, .int v1), (2, .int v2), (3, .int v3), (5, .int v5)]) hC dM_ordered_104 (by decide) rfl ?_
            refine x_iinc (v := v5 + 1) (lv' := [(5, .int (v5 + 1)), (4, .int (v4 + 1)), (0, .ref (ad 0)), (1, .int v1), (2, .int v2), (3, .int v3)]) hC dM_ordered_106 5 rfl rfl (by decide) rfl ?_
            refine x_goto (tgt := 55) hC dM_ordered_109 (by decide) ?_
            refine x_lv [2, 3, 4, 5, 1, 0] rfl ?_
            exact ih (v4 + 1) (v5 + 1) h

set_option maxHeartbeats 4000000 in
set_option maxRecDepth 100000 in
theorem M_ordered_L41_ok {p : Program} {l : Launch} {e : Env} {s : State} {m : MethodId} {args : Array Value} {below : List Frame} {meth : Method} {c : Code} {Q : State → Prop} {D : va_G} {A : Nat → Prop} {ad : Nat → Nat} {cI cL cO : ClassId} {mth : Int32} {msc : Int32} {mec : Int32} {msrc : (Nat → Int32)} {mitm : (Nat → Int32)} {mknd : (Nat → Int32)} {mplc : (Nat → Int32)} {mclk : (Nat → Int64)} {mnc : Int32} {mnf : (Nat → Int32)} {mns : (Nat → Int32)} {msd : Int32} {mrl : Int32} {mrow : (Nat → Int32)} {mw : (Nat → Int64)} {mb : (Nat → Int64)} {mway : (Nat → Int64)} {moff : (Nat → Int64)} {v1 : Int32} {v2 : Int32} {Qr : Int32 → Int32 → Prop} {Qx : Prop} (hC : XC p s m args c D vwCl (tysX cI cL cO) A 6 bM_ordered TBL RM) (hret : ∀ (r : Int32) (u : Int32), Qr r u → ∀ (pc : Nat) (lv : List (Nat × Value)), decode bM_ordered pc = .ok (.ireturn, 1) → XW p l e rm_M_ordered s m args below meth c D vwCl A 6 Q 0 0 (wM ad cI cL cO u msc mec msrc mitm mknd mplc mclk mnc mnf mns msd mrl mrow mw mb mway moff) pc lv [.int r]) (hexit : Qx → XW p l e rm_M_ordered s m args below meth c D vwCl A 6 Q 0 0 (wM ad cI cL cO mth msc mec msrc mitm mknd mplc mclk mnc mnf mns msd mrl mrow mw mb mway moff) 136 [] []) : ∀ (n : Nat) (v3 : Int32), M_ordered_L41 v1 v2 mth mec msrc mitm mplc mclk moff Qr Qx n v3 → XW p l e rm_M_ordered s m args below meth c D vwCl A 6 Q 0 0 (wM ad cI cL cO mth msc mec msrc mitm mknd mplc mclk mnc mnf mns msd mrl mrow mw mb mway moff) 41 [(0, .ref (ad 0)), (1, .int v1), (2, .int v2), (3, .int v3)] [] := by
  intro n
  induction n with
  | zero => intro v3 h; exact False.elim h
  | succ n ih =>
    intro v3 h
    unfold M_ordered_L41 at h
    refine x_iload_n hC dM_ordered_41 rfl 3 rfl ?_
    refine x_aload_n hC dM_ordered_42 rfl 0 rfl ?_
    refine x_get hC iM 0 wM_0 rfl 2 (by decide) k_m13 rfl rfl dM_ordered_43 ?_
    refine x_icmp_gt (tgt := 136) hC dM_ordered_46 (by decide) (fun c_8 => ?_) (fun c_8 => ?_)
    · have h := h.1 c_8
      refine x_lv [] rfl ?_
      exact hexit  h
    · have h := h.2 c_8
      refine x_iconst (v := 0) hC dM_ordered_49 (by decide) ?_
      refine x_istore (lv' := [(4, .int 0), (0, .ref (ad 0)), (1, .int v1), (2, .int v2), (3, .int v3)]) hC dM_ordered_50 (by decide) rfl ?_
      refine x_iconst (v := 1) hC dM_ordered_52 (by decide) ?_
      refine x_istore (lv' := [(5, .int 1), (4, .int 0), (0, .ref (ad 0)), (1, .int v1), (2, .int v2), (3, .int v3)]) hC dM_ordered_53 (by decide) rfl ?_
      obtain ⟨n_21, h⟩ := h
      refine x_lv [2, 3, 4, 5, 1, 0] rfl ?_
      refine M_ordered_L55_ok hC (fun v4_17 h => ?_) n_21 0 1 h
      refine x_aload_n hC dM_ordered_112 rfl 0 rfl ?_
      refine x_get hC iM 0 wM_0 rfl 4 (by decide) k_m15 rfl rfl dM_ordered_113 ?_
      refine x_iload_n hC dM_ordered_116 rfl 3 rfl ?_
      obtain ⟨hb_18, h⟩ := h
      refine x_iald hC 2 0 wM_2 rfl hb_18 dM_ordered_117 ?_
      refine x_iload_n hC dM_ordered_118 rfl 1 rfl ?_
      refine x_icmp_ne (tgt := 130) hC dM_ordered_119 (by decide) (fun c_19 => ?_) (fun c_19 => ?_)
      · have h := h.1 c_19
        refine x_iinc (v := v3 + 1) (lv' := [(3, .int (v3 + 1)), (0, .ref (ad 0)), (1, .int v1), (2, .int v2), (4, .int v4_17)]) hC dM_ordered_130 3 rfl rfl (by decide) rfl ?_
        refine x_goto (tgt := 41) hC dM_ordered_133 (by decide) ?_
        refine x_lv [1, 2, 3, 0] rfl ?_
        exact ih (v3 + 1) h
      · have h := h.2 c_19
        refine x_iload hC dM_ordered_122 4 rfl ?_
        refine x_iload_n hC dM_ordered_124 rfl 2 rfl ?_
        refine x_icmp_ne (tgt := 130) hC dM_ordered_125 (by decide) (fun c_20 => ?_) (fun c_20 => ?_)
        · have h := h.1 c_20
          refine x_iinc (v := v3 + 1) (lv' := [(3, .int (v3 + 1)), (0, .ref (ad 0)), (1, .int v1), (2, .int v2), (4, .int v4_17)]) hC dM_ordered_130 3 rfl rfl (by decide) rfl ?_
          refine x_goto (tgt := 41) hC dM_ordered_133 (by decide) ?_
          refine x_lv [1, 2, 3, 0] rfl ?_
          exact ih (v3 + 1) h
        · have h := h.2 c_20
          refine x_iload_n hC dM_ordered_128 rfl 3 rfl ?_
          exact hret v3 mth h _ _ dM_ordered_129

set_option maxHeartbeats 4000000 in
set_option maxRecDepth 100000 in
theorem M_ordered_B30_ok {p : Program} {l : Launch} {e : Env} {s : State} {m : MethodId} {args : Array Value} {below : List Frame} {meth : Method} {c : Code} {Q : State → Prop} {D : va_G} {A : Nat → Prop} {ad : Nat → Nat} {cI cL cO : ClassId} {mth : Int32} {msc : Int32} {mec : Int32} {msrc : (Nat → Int32)} {mitm : (Nat → Int32)} {mknd : (Nat → Int32)} {mplc : (Nat → Int32)} {mclk : (Nat → Int64)} {mnc : Int32} {mnf : (Nat → Int32)} {mns : (Nat → Int32)} {msd : Int32} {mrl : Int32} {mrow : (Nat → Int32)} {mw : (Nat → Int64)} {mb : (Nat → Int64)} {mway : (Nat → Int64)} {moff : (Nat → Int64)} {v1 : Int32} {v2 : Int32} {s0 : Int32} {s1 : Int32} {Qr : Int32 → Int32 → Prop} (hC : XC p s m args c D vwCl (tysX cI cL cO) A 6 bM_ordered TBL RM) (hret : ∀ (r : Int32) (u : Int32), Qr r u → ∀ (pc : Nat) (lv : List (Nat × Value)), decode bM_ordered pc = .ok (.ireturn, 1) → XW p l e rm_M_ordered s m args below meth c D vwCl A 6 Q 0 0 (wM ad cI cL cO u msc mec msrc mitm mknd mplc mclk mnc mnf mns msd mrl mrow mw mb mway moff) pc lv [.int r]) (h : M_ordered_B30 v1 v2 s0 s1 mth mec msrc mitm mplc mclk moff Qr) : XW p l e rm_M_ordered s m args below meth c D vwCl A 6 Q 0 0 (wM ad cI cL cO mth msc mec msrc mitm mknd mplc mclk mnc mnf mns msd mrl mrow mw mb mway moff) 30 [(0, .ref (ad 0)), (1, .int v1), (2, .int v2)] [.int s0, .int s1, .ref (ad 0)] := by
  unfold M_ordered_B30 at h
  refine x_iconst (v := 0) hC dM_ordered_30 (by decide) ?_
  refine x_callVi (S := Int32) (wf := fun u => (wM ad cI cL cO u msc mec msrc mitm mknd mplc mclk mnc mnf mns msd mrl mrow mw mb mway moff)) hC [.int s1, .int s0, .int 0] (fun sz => c_M_refused h sz) (by decide) (by decide) k_m3 k_m4 k_m5 (by decide) 3 rfl (by decide +kernel) ⟨by decide, by decide⟩ (Nat.le_of_ble_eq_true rfl) k_m6 k_m7 wM_0 rfl rfl dM_ordered_31 (fun _ h9 => h9) (fun r_5 u_6 h => ?_)
  refine x_if_eq (tgt := 39) hC dM_ordered_34 (by decide) (fun c_7 => ?_) (fun c_7 => ?_)
  · have h := h.1 c_7
    refine x_iconst (v := 1) hC dM_ordered_39 (by decide) ?_
    refine x_istore_n (lv' := [(3, .int 1), (0, .ref (ad 0)), (1, .int v1), (2, .int v2)]) hC dM_ordered_40 rfl (by decide) rfl ?_
    obtain ⟨n_22, h⟩ := h
    refine x_lv [1, 2, 3, 0] rfl ?_
    refine M_ordered_L41_ok hC hret (fun h => ?_) n_22 1 h
    refine x_iconst (v := 0) hC dM_ordered_136 (by decide) ?_
    exact hret 0 u_6 h _ _ dM_ordered_137
  · have h := h.2 c_7
    refine x_iconst (v := 0) hC dM_ordered_37 (by decide) ?_
    exact hret 0 u_6 h _ _ dM_ordered_38

set_option maxHeartbeats 4000000 in
set_option maxRecDepth 100000 in
theorem M_ordered_B18_ok {p : Program} {l : Launch} {e : Env} {s : State} {m : MethodId} {args : Array Value} {below : List Frame} {meth : Method} {c : Code} {Q : State → Prop} {D : va_G} {A : Nat → Prop} {ad : Nat → Nat} {cI cL cO : ClassId} {mth : Int32} {msc : Int32} {mec : Int32} {msrc : (Nat → Int32)} {mitm : (Nat → Int32)} {mknd : (Nat → Int32)} {mplc : (Nat → Int32)} {mclk : (Nat → Int64)} {mnc : Int32} {mnf : (Nat → Int32)} {mns : (Nat → Int32)} {msd : Int32} {mrl : Int32} {mrow : (Nat → Int32)} {mw : (Nat → Int64)} {mb : (Nat → Int64)} {mway : (Nat → Int64)} {moff : (Nat → Int64)} {v1 : Int32} {v2 : Int32} {s0 : Int32} {Qr : Int32 → Int32 → Prop} (hC : XC p s m args c D vwCl (tysX cI cL cO) A 6 bM_ordered TBL RM) (hret : ∀ (r : Int32) (u : Int32), Qr r u → ∀ (pc : Nat) (lv : List (Nat × Value)), decode bM_ordered pc = .ok (.ireturn, 1) → XW p l e rm_M_ordered s m args below meth c D vwCl A 6 Q 0 0 (wM ad cI cL cO u msc mec msrc mitm mknd mplc mclk mnc mnf mns msd mrl mrow mw mb mway moff) pc lv [.int r]) (h : M_ordered_B18 v1 v2 s0 mth mec msrc mitm mplc mclk msd moff Qr) : XW p l e rm_M_ordered s m args below meth c D vwCl A 6 Q 0 0 (wM ad cI cL cO mth msc mec msrc mitm mknd mplc mclk mnc mnf mns msd mrl mrow mw mb mway moff) 18 [(0, .ref (ad 0)), (1, .int v1), (2, .int v2)] [.int s0, .ref (ad 0)] := by
  unfold M_ordered_B18 at h
  refine x_aload_n hC dM_ordered_18 rfl 0 rfl ?_
  refine x_get hC iM 0 wM_0 rfl 11 (by decide) k_m2 rfl rfl dM_ordered_19 ?_
  refine x_if_ne (tgt := 29) hC dM_ordered_22 (by decide) (fun c_4 => ?_) (fun c_4 => ?_)
  · have h := h.1 c_4
    refine x_iconst (v := 0) hC dM_ordered_29 (by decide) ?_
    refine x_lv [0, 1, 2] rfl ?_
    exact M_ordered_B30_ok hC hret h
  · have h := h.2 c_4
    refine x_iconst (v := 1) hC dM_ordered_25 (by decide) ?_
    refine x_goto (tgt := 30) hC dM_ordered_26 (by decide) ?_
    refine x_lv [0, 1, 2] rfl ?_
    exact M_ordered_B30_ok hC hret h

set_option maxHeartbeats 4000000 in
set_option maxRecDepth 100000 in
theorem c_M_ordered {l : Launch} {D : va_G} {ad : Nat → Nat} {cI cL cO : ClassId} {mth : Int32} {msc : Int32} {mec : Int32} {msrc : (Nat → Int32)} {mitm : (Nat → Int32)} {mknd : (Nat → Int32)} {mplc : (Nat → Int32)} {mclk : (Nat → Int64)} {mnc : Int32} {mnf : (Nat → Int32)} {mns : (Nat → Int32)} {msd : Int32} {mrl : Int32} {mrow : (Nat → Int32)} {mw : (Nat → Int64)} {mb : (Nat → Int64)} {mway : (Nat → Int64)} {moff : (Nat → Int64)} {a1 : Int32} {a2 : Int32} {Qr : Int32 → Int32 → Prop} (h : M_ordered_wp mth mec msrc mitm mplc mclk msd moff a1 a2 Qr) (sz : Nat) : vx_Met l yM_ordered (Cond.code yM_ordered bM_ordered 6 (some .int) :: TBL) rm_M_ordered (va_Pc [.ref (ad 0), .int a1, .int a2] (XP D vwCl (tysX cI cL cO) (wM ad cI cL cO mth msc mec msrc mitm mknd mplc mclk mnc mnf mns msd mrl mrow mw mb mway moff) sz)) (va_Qi Qr (fun u t => XB D vwCl (tysX cI cL cO) (va_A (wM ad cI cL cO mth msc mec msrc mitm mknd mplc mclk mnc mnf mns msd mrl mrow mw mb mway moff) sz) (wM ad cI cL cO u msc mec msrc mitm mknd mplc mclk mnc mnf mns msd mrl mrow mw mb mway moff) t) (va_A (wM ad cI cL cO mth msc mec msrc mitm mknd mplc mclk mnc mnf mns msd mrl mrow mw mb mway moff) sz)) (XT D vwCl (tysX cI cL cO) (va_A (wM ad cI cL cO mth msc mec msrc mitm mknd mplc mclk mnc mnf mns msd mrl mrow mw mb mway moff) sz) (wM ad cI cL cO mth msc mec msrc mitm mknd mplc mclk mnc mnf mns msd mrl mrow mw mb mway moff) (fun _ => False)) rm_M_ordered.cells rm_M_ordered.slots (va_A (wM ad cI cL cO mth msc mec msrc mitm mknd mplc mclk mnc mnf mns msd mrl mrow mw mb mway moff) sz) := by
  refine x_met [.ref (ad 0), .int a1, .int a2] TBL_good (by decide) (Nat.le_of_ble_eq_true rfl) ?_
  intro p e s m args below meth c hC hr hlk hnm hnh
  have hret : ∀ (ce sl : Nat), ce ≤ rm_M_ordered.cells → sl ≤ rm_M_ordered.slots → ∀ (r : Int32) (u : Int32), Qr r u → ∀ (pc : Nat) (lv : List (Nat × Value)), decode bM_ordered pc = .ok (.ireturn, 1) → XW p l e rm_M_ordered s m args below meth c D vwCl (va_A (wM ad cI cL cO mth msc mec msrc mitm mknd mplc mclk mnc mnf mns msd mrl mrow mw mb mway moff) sz) 6 (vx_MQ below (va_Qi Qr (fun u t => XB D vwCl (tysX cI cL cO) (va_A (wM ad cI cL cO mth msc mec msrc mitm mknd mplc mclk mnc mnf mns msd mrl mrow mw mb mway moff) sz) (wM ad cI cL cO u msc mec msrc mitm mknd mplc mclk mnc mnf mns msd mrl mrow mw mb mway moff) t) (va_A (wM ad cI cL cO mth msc mec msrc mitm mknd mplc mclk mnc mnf mns msd mrl mrow mw mb mway moff) sz)) (XT D vwCl (tysX cI cL cO) (va_A (wM ad cI cL cO mth msc mec msrc mitm mknd mplc mclk mnc mnf mns msd mrl mrow mw mb mway moff) sz) (wM ad cI cL cO mth msc mec msrc mitm mknd mplc mclk mnc mnf mns msd mrl mrow mw mb mway moff) (fun _ => False)) args s rm_M_ordered.cells rm_M_ordered.slots (va_A (wM ad cI cL cO mth msc mec msrc mitm mknd mplc mclk mnc mnf mns msd mrl mrow mw mb mway moff) sz)) ce sl (wM ad cI cL cO u msc mec msrc mitm mknd mplc mclk mnc mnf mns msd mrl mrow mw mb mway moff) pc lv [.int r] := fun ce sl h1 h2 r u hq pc lv hd => x_iret (wf := fun u => (wM ad cI cL cO u msc mec msrc mitm mknd mplc mclk mnc mnf mns msd mrl mrow mw mb mway moff)) hC h1 h2 hr hlk hd hq rfl
  show XW p l e rm_M_ordered s m args below meth c D vwCl (va_A (wM ad cI cL cO mth msc mec msrc mitm mknd mplc mclk mnc mnf mns msd mrl mrow mw mb mway moff) sz) 6 _ 0 0 (wM ad cI cL cO mth msc mec msrc mitm mknd mplc mclk mnc mnf mns msd mrl mrow mw mb mway moff) 0 [(0, .ref (ad 0)), (1, .int a1), (2, .int a2)] []
  unfold M_ordered_wp at h
  refine x_aload_n hC dM_ordered_0 rfl 0 rfl ?_
  refine x_iload_n hC dM_ordered_1 rfl 1 rfl ?_
  refine x_i2l (v := a1.toInt64) hC dM_ordered_2 rfl ?_
  refine x_lconst (v := 0) hC dM_ordered_3 (by decide) ?_
  refine x_ldc2 (v := 199) hC k_m24 dM_ordered_4 ?_
  refine x_callSi (S := Unit) (wf := fun u => (wM ad cI cL cO mth msc mec msrc mitm mknd mplc mclk mnc mnf mns msd mrl mrow mw mb mway moff)) hC [.long a1.toInt64, .long 0, .long 199] (fun sz => c_M_within h sz) (by decide) (by decide) k_m8 k_m9 k_m10 (by decide) 3 rfl (by decide +kernel) ⟨by decide, by decide⟩ (Nat.le_of_ble_eq_true rfl) k_m11 rfl dM_ordered_7 (fun _ h9 => h9) (fun r_1 u_2 h => ?_)
  refine x_if_ne (tgt := 17) hC dM_ordered_10 (by decide) (fun c_3 => ?_) (fun c_3 => ?_)
  · have h := h.1 c_3
    refine x_iconst (v := 0) hC dM_ordered_17 (by decide) ?_
    refine x_lv [0, 1, 2] rfl ?_
    exact M_ordered_B18_ok hC (hret _ _ (by decide) (by decide)) h
  · have h := h.2 c_3
    refine x_iconst (v := 1) hC dM_ordered_13 (by decide) ?_
    refine x_goto (tgt := 18) hC dM_ordered_14 (by decide) ?_
    refine x_lv [0, 1, 2] rfl ?_
    exact M_ordered_B18_ok hC (hret _ _ (by decide) (by decide)) h

/-! EventOrderModel.outOf(II)I -/
abbrev rm_M_outOf : Room := { frames := 2, cells := 0, slots := 0, locals := 43 }
def M_outOf_L5 (v1 : Int32) (v2 : Int32) (mec : Int32) (msrc : (Nat → Int32)) (mitm : (Nat → Int32)) (mknd : (Nat → Int32)) (mplc : (Nat → Int32)) (mclk : (Nat → Int64)) (moff : (Nat → Int64)) (Qx : Int32 → Prop) : Nat → Int32 → Int32 → Prop
  | 0, _, _ => False
  | n + 1, v3, v4 => ((mec < v4 → Qx v3) ∧ (¬ mec < v4 → vp_in v4 301 ∧ vp_in v1 301 ∧ ((¬ (mitm v4.toNatClampNeg) = (mitm v1.toNatClampNeg) → M_outOf_L5 v1 v2 mec msrc mitm mknd mplc mclk moff Qx n v3 (v4 + 1)) ∧ ((mitm v4.toNatClampNeg) = (mitm v1.toNatClampNeg) → vp_in v4 301 ∧ ((¬ (mknd v4.toNatClampNeg) = 2 → M_outOf_L5 v1 v2 mec msrc mitm mknd mplc mclk moff Qx n v3 (v4 + 1)) ∧ ((mknd v4.toNatClampNeg) = 2 → vp_in v4 301 ∧ ((¬ (mplc v4.toNatClampNeg) = v2 → M_outOf_L5 v1 v2 mec msrc mitm mknd mplc mclk moff Qx n v3 (v4 + 1)) ∧ ((mplc v4.toNatClampNeg) = v2 → M_isBefore_wp msrc mplc mclk moff v1 v4 (fun (r_12 : Int32) (u_13 : Unit) => ((r_12 = 0 → M_outOf_L5 v1 v2 mec msrc mitm mknd mplc mclk moff Qx n v3 (v4 + 1)) ∧ (¬ r_12 = 0 → ((v3 = 0 → M_outOf_L5 v1 v2 mec msrc mitm mknd mplc mclk moff Qx n v4 (v4 + 1)) ∧ (¬ v3 = 0 → M_isBefore_wp msrc mplc mclk moff v4 v3 (fun (r_18 : Int32) (u_19 : Unit) => ((r_18 = 0 → M_outOf_L5 v1 v2 mec msrc mitm mknd mplc mclk moff Qx n v3 (v4 + 1)) ∧ (¬ r_18 = 0 → M_outOf_L5 v1 v2 mec msrc mitm mknd mplc mclk moff Qx n v4 (v4 + 1)))))))))))))))))

def M_outOf_wp (mec : Int32) (msrc : (Nat → Int32)) (mitm : (Nat → Int32)) (mknd : (Nat → Int32)) (mplc : (Nat → Int32)) (mclk : (Nat → Int64)) (moff : (Nat → Int64)) (a1 : Int32) (a2 : Int32) (Qr : Int32 → Unit → Prop) : Prop := (∃ n_22 : Nat, M_outOf_L5 a1 a2 mec msrc mitm mknd mplc mclk moff (fun (v3_21 : Int32) => Qr v3_21 ()) n_22 0 1)
set_option maxHeartbeats 4000000 in
set_option maxRecDepth 100000 in
theorem M_outOf_L5_ok {p : Program} {l : Launch} {e : Env} {s : State} {m : MethodId} {args : Array Value} {below : List Frame} {meth : Method} {c : Code} {Q : State → Prop} {D : va_G} {A : Nat → Prop} {ad : Nat → Nat} {cI cL cO : ClassId} {mth : Int32} {msc : Int32} {mec : Int32} {msrc : (Nat → Int32)} {mitm : (Nat → Int32)} {mknd : (Nat → Int32)} {mplc : (Nat → Int32)} {mclk : (Nat → Int64)} {mnc : Int32} {mnf : (Nat → Int32)} {mns : (Nat → Int32)} {msd : Int32} {mrl : Int32} {mrow : (Nat → Int32)} {mw : (Nat → Int64)} {mb : (Nat → Int64)} {mway : (Nat → Int64)} {moff : (Nat → Int64)} {v1 : Int32} {v2 : Int32} {Qx : Int32 → Prop} (hC : XC p s m args c D vwCl (tysX cI cL cO) A 6 bM_outOf TBL RM)  (hexit : ∀ (v3 : Int32), Qx v3 → XW p l e rm_M_outOf s m args below meth c D vwCl A 6 Q 0 0 (wM ad cI cL cO mth msc mec msrc mitm mknd mplc mclk mnc mnf mns msd mrl mrow mw mb mway moff) 101 [(3, .int v3)] []) : ∀ (n : Nat) (v3 : Int32) (v4 : Int32), M_outOf_L5 v1 v2 mec msrc mitm mknd mplc mclk moff Qx n v3 v4 → XW p l e rm_M_outOf s m args below meth c D vwCl A 6 Q 0 0 (wM ad cI cL cO mth msc mec msrc mitm mknd mplc mclk mnc mnf mns msd mrl mrow mw mb mway moff) 5 [(0, .ref (ad 0)), (1, .int v1), (2, .int v2), (3, .int v3), (4, .int v4)] [] := by
  intro n
  induction n with
  | zero => intro v3 v4 h; exact False.elim h
  | succ n ih =>
    intro v3 v4 h
    unfold M_outOf_L5 at h
    refine x_iload hC dM_outOf_5 4 rfl ?_
    refine x_aload_n hC dM_outOf_7 rfl 0 rfl ?_
    refine x_get hC iM 0 wM_0 rfl 2 (by decide) k_m13 rfl rfl dM_outOf_8 ?_
    refine x_icmp_gt (tgt := 101) hC dM_outOf_11 (by decide) (fun c_1 => ?_) (fun c_1 => ?_)
    · have h := h.1 c_1
      refine x_lv [3] rfl ?_
      exact hexit v3 h
    · have h := h.2 c_1
      refine x_aload_n hC dM_outOf_14 rfl 0 rfl ?_
      refine x_get hC iM 0 wM_0 rfl 4 (by decide) k_m15 rfl rfl dM_outOf_15 ?_
      refine x_iload hC dM_outOf_18 4 rfl ?_
      obtain ⟨hb_2, h⟩ := h
      refine x_iald hC 2 0 wM_2 rfl hb_2 dM_outOf_20 ?_
      refine x_aload_n hC dM_outOf_21 rfl 0 rfl ?_
      refine x_get hC iM 0 wM_0 rfl 4 (by decide) k_m15 rfl rfl dM_outOf_22 ?_
      refine x_iload_n hC dM_outOf_25 rfl 1 rfl ?_
      obtain ⟨hb_3, h⟩ := h
      refine x_iald hC 2 0 wM_2 rfl hb_3 dM_outOf_26 ?_
      refine x_icmp_ne (tgt := 66) hC dM_outOf_27 (by decide) (fun c_4 => ?_) (fun c_4 => ?_)
      · have h := h.1 c_4
        refine x_iconst (v := 0) hC dM_outOf_66 (by decide) ?_
        refine x_istore (lv' := [(5, .int 0), (0, .ref (ad 0)), (1, .int v1), (2, .int v2), (3, .int v3), (4, .int v4)]) hC dM_outOf_67 (by decide) rfl ?_
        refine x_iload hC dM_outOf_69 0 rfl ?_
        refine x_if_eq (tgt := 93) hC dM_outOf_71 (by decide) (fun _ => ?_) (fun c9 => absurd c9 (by decide))
        refine x_iload_n hC dM_outOf_93 rfl 4 rfl ?_
        refine x_istore_n (lv' := [(3, .int v3), (5, .int 0), (0, .ref (ad 0)), (1, .int v1), (2, .int v2), (4, .int v4)]) hC dM_outOf_94 rfl (by decide) rfl ?_
        refine x_iinc (v := v4 + 1) (lv' := [(4, .int (v4 + 1)), (3, .int v3), (5, .int 0), (0, .ref (ad 0)), (1, .int v1), (2, .int v2)]) hC dM_outOf_95 5 rfl rfl (by decide) rfl ?_
        refine x_goto (tgt := 5) hC dM_outOf_98 (by decide) ?_
        refine x_lv [3, 4, 5, 1, 0] rfl ?_
        exact ih v3 (v4 + 1) h
      · have h := h.2 c_4
        refine x_aload_n hC dM_outOf_30 rfl 0 rfl ?_
        refine x_get hC iM 0 wM_0 rfl 5 (by decide) k_m16 rfl rfl dM_outOf_31 ?_
        refine x_iload hC dM_outOf_34 4 rfl ?_
        obtain ⟨hb_6, h⟩ := h
        refine x_iald hC 3 0 wM_3 rfl hb_6 dM_outOf_36 ?_
        refine x_iconst (v := 2) hC dM_outOf_37 (by decide) ?_
        refine x_icmp_ne (tgt := 66) hC dM_outOf_38 (by decide) (fun c_7 => ?_) (fun c_7 => ?_)
        · have h := h.1 c_7
          refine x_iconst (v := 0) hC dM_outOf_66 (by decide) ?_
          refine x_istore (lv' := [(5, .int 0), (0, .ref (ad 0)), (1, .int v1), (2, .int v2), (3, .int v3), (4, .int v4)]) hC dM_outOf_67 (by decide) rfl ?_
          refine x_iload hC dM_outOf_69 0 rfl ?_
          refine x_if_eq (tgt := 93) hC dM_outOf_71 (by decide) (fun _ => ?_) (fun c9 => absurd c9 (by decide))
          refine x_iload_n hC dM_outOf_93 rfl 4 rfl ?_
          refine x_istore_n (lv' := [(3, .int v3), (5, .int 0), (0, .ref (ad 0)), (1, .int v1), (2, .int v2), (4, .int v4)]) hC dM_outOf_94 rfl (by decide) rfl ?_
          refine x_iinc (v := v4 + 1) (lv' := [(4, .int (v4 + 1)), (3, .int v3), (5, .int 0), (0, .ref (ad 0)), (1, .int v1), (2, .int v2)]) hC dM_outOf_95 5 rfl rfl (by decide) rfl ?_
          refine x_goto (tgt := 5) hC dM_outOf_98 (by decide) ?_
          refine x_lv [3, 4, 5, 1, 0] rfl ?_
          exact ih v3 (v4 + 1) h
        · have h := h.2 c_7
          refine x_aload_n hC dM_outOf_41 rfl 0 rfl ?_
          refine x_get hC iM 0 wM_0 rfl 6 (by decide) k_m17 rfl rfl dM_outOf_42 ?_
          refine x_iload hC dM_outOf_45 4 rfl ?_
          obtain ⟨hb_9, h⟩ := h
          refine x_iald hC 4 0 wM_4 rfl hb_9 dM_outOf_47 ?_
          refine x_iload_n hC dM_outOf_48 rfl 2 rfl ?_
          refine x_icmp_ne (tgt := 66) hC dM_outOf_49 (by decide) (fun c_10 => ?_) (fun c_10 => ?_)
          · have h := h.1 c_10
            refine x_iconst (v := 0) hC dM_outOf_66 (by decide) ?_
            refine x_istore (lv' := [(5, .int 0), (0, .ref (ad 0)), (1, .int v1), (2, .int v2), (3, .int v3), (4, .int v4)]) hC dM_outOf_67 (by decide) rfl ?_
            refine x_iload hC dM_outOf_69 0 rfl ?_
            refine x_if_eq (tgt := 93) hC dM_outOf_71 (by decide) (fun _ => ?_) (fun c9 => absurd c9 (by decide))
            refine x_iload_n hC dM_outOf_93 rfl 4 rfl ?_
            refine x_istore_n (lv' := [(3, .int v3), (5, .int 0), (0, .ref (ad 0)), (1, .int v1), (2, .int v2), (4, .int v4)]) hC dM_outOf_94 rfl (by decide) rfl ?_
            refine x_iinc (v := v4 + 1) (lv' := [(4, .int (v4 + 1)), (3, .int v3), (5, .int 0), (0, .ref (ad 0)), (1, .int v1), (2, .int v2)]) hC dM_outOf_95 5 rfl rfl (by decide) rfl ?_
            refine x_goto (tgt := 5) hC dM_outOf_98 (by decide) ?_
            refine x_lv [3, 4, 5, 1, 0] rfl ?_
            exact ih v3 (v4 + 1) h
          · have h := h.2 c_10
            refine x_aload_n hC dM_outOf_52 rfl 0 rfl ?_
            refine x_iload_n hC dM_outOf_53 rfl 1 rfl ?_
            refine x_iload hC dM_outOf_54 4 rfl ?_
            refine x_callVi (S := Unit) (wf := fun u => (wM ad cI cL cO mth msc mec msrc mitm mknd mplc mclk mnc mnf mns msd mrl mrow mw mb mway moff)) hC [.int v1, .int v4] (fun sz => c_M_isBefore h sz) (by decide) (by decide) k_m83 k_m84 k_m85 (by decide) 2 rfl (by decide +kernel) ⟨by decide, by decide⟩ (Nat.le_of_ble_eq_true rfl) k_m86 k_m87 wM_0 rfl rfl dM_outOf_56 (fun _ h9 => h9) (fun r_12 u_13 h => ?_)
            refine x_if_eq (tgt := 66) hC dM_outOf_59 (by decide) (fun c_14 => ?_) (fun c_14 => ?_)
            · have h := h.1 c_14
              refine x_iconst (v := 0) hC dM_outOf_66 (by decide) ?_
              refine x_istore (lv' := [(5, .int 0), (0, .ref (ad 0)), (1, .int v1), (2, .int v2), (3, .int v3), (4, .int v4)]) hC dM_outOf_67 (by decide) rfl ?_
              refine x_iload hC dM_outOf_69 0 rfl ?_
              refine x_if_eq (tgt := 93) hC dM_outOf_71 (by decide) (fun _ => ?_) (fun c9 => absurd c9 (by decide))
              refine x_iload_n hC dM_outOf_93 rfl 4 rfl ?_
              refine x_istore_n (lv' := [(3, .int v3), (5, .int 0), (0, .ref (ad 0)), (1, .int v1), (2, .int v2), (4, .int v4)]) hC dM_outOf_94 rfl (by decide) rfl ?_
              refine x_iinc (v := v4 + 1) (lv' := [(4, .int (v4 + 1)), (3, .int v3), (5, .int 0), (0, .ref (ad 0)), (1, .int v1), (2, .int v2)]) hC dM_outOf_95 5 rfl rfl (by decide) rfl ?_
              refine x_goto (tgt := 5) hC dM_outOf_98 (by decide) ?_
              refine x_lv [3, 4, 5, 1, 0] rfl ?_
              exact ih v3 (v4 + 1) h
            · have h := h.2 c_14
              refine x_iconst (v := 1) hC dM_outOf_62 (by decide) ?_
              refine x_goto (tgt := 67) hC dM_outOf_63 (by decide) ?_
              refine x_istore (lv' := [(5, .int 1), (0, .ref (ad 0)), (1, .int v1), (2, .int v2), (3, .int v3), (4, .int v4)]) hC dM_outOf_67 (by decide) rfl ?_
              refine x_iload hC dM_outOf_69 0 rfl ?_
              refine x_if_eq (tgt := 93) hC dM_outOf_71 (by decide) (fun c9 => absurd c9 (by decide)) (fun _ => ?_)
              refine x_iload_n hC dM_outOf_74 rfl 4 rfl ?_
              refine x_if_eq (tgt := 88) hC dM_outOf_75 (by decide) (fun c_17 => ?_) (fun c_17 => ?_)
              · have h := h.1 c_17
                refine x_iload hC dM_outOf_88 5 rfl ?_
                refine x_goto (tgt := 94) hC dM_outOf_90 (by decide) ?_
                refine x_istore_n (lv' := [(3, .int v4), (5, .int 1), (0, .ref (ad 0)), (1, .int v1), (2, .int v2), (4, .int v4)]) hC dM_outOf_94 rfl (by decide) rfl ?_
                refine x_iinc (v := v4 + 1) (lv' := [(4, .int (v4 + 1)), (3, .int v4), (5, .int 1), (0, .ref (ad 0)), (1, .int v1), (2, .int v2)]) hC dM_outOf_95 5 rfl rfl (by decide) rfl ?_
                refine x_goto (tgt := 5) hC dM_outOf_98 (by decide) ?_
                refine x_lv [3, 4, 5, 1, 0] rfl ?_
                exact ih v4 (v4 + 1) h
              · have h := h.2 c_17
                refine x_aload_n hC dM_outOf_78 rfl 1 rfl ?_
                refine x_iload hC dM_outOf_79 5 rfl ?_
                refine x_iload_n hC dM_outOf_81 rfl 4 rfl ?_
                refine x_callVi (S := Unit) (wf := fun u => (wM ad cI cL cO mth msc mec msrc mitm mknd mplc mclk mnc mnf mns msd mrl mrow mw mb mway moff)) hC [.int v4, .int v3] (fun sz => c_M_isBefore h sz) (by decide) (by decide) k_m83 k_m84 k_m85 (by decide) 2 rfl (by decide +kernel) ⟨by decide, by decide⟩ (Nat.le_of_ble_eq_true rfl) k_m86 k_m87 wM_0 rfl rfl dM_outOf_82 (fun _ h9 => h9) (fun r_18 u_19 h => ?_)
                refine x_if_eq (tgt := 93) hC dM_outOf_85 (by decide) (fun c_20 => ?_) (fun c_20 => ?_)
                · have h := h.1 c_20
                  refine x_iload_n hC dM_outOf_93 rfl 4 rfl ?_
                  refine x_istore_n (lv' := [(3, .int v3), (5, .int 1), (0, .ref (ad 0)), (1, .int v1), (2, .int v2), (4, .int v4)]) hC dM_outOf_94 rfl (by decide) rfl ?_
                  refine x_iinc (v := v4 + 1) (lv' := [(4, .int (v4 + 1)), (3, .int v3), (5, .int 1), (0, .ref (ad 0)), (1, .int v1), (2, .int v2)]) hC dM_outOf_95 5 rfl rfl (by decide) rfl ?_
                  refine x_goto (tgt := 5) hC dM_outOf_98 (by decide) ?_
                  refine x_lv [3, 4, 5, 1, 0] rfl ?_
                  exact ih v3 (v4 + 1) h
                · have h := h.2 c_20
                  refine x_iload hC dM_outOf_88 5 rfl ?_
                  refine x_goto (tgt := 94) hC dM_outOf_90 (by decide) ?_
                  refine x_istore_n (lv' := [(3, .int v4), (5, .int 1), (0, .ref (ad 0)), (1, .int v1), (2, .int v2), (4, .int v4)]) hC dM_outOf_94 rfl (by decide) rfl ?_
                  refine x_iinc (v := v4 + 1) (lv' := [(4, .int (v4 + 1)), (3, .int v4), (5, .int 1), (0, .ref (ad 0)), (1, .int v1), (2, .int v2)]) hC dM_outOf_95 5 rfl rfl (by decide) rfl ?_
                  refine x_goto (tgt := 5) hC dM_outOf_98 (by decide) ?_
                  refine x_lv [3, 4, 5, 1, 0] rfl ?_
                  exact ih v4 (v4 + 1) h

set_option maxHeartbeats 4000000 in
set_option maxRecDepth 100000 in
theorem c_M_outOf {l : Launch} {D : va_G} {ad : Nat → Nat} {cI cL cO : ClassId} {mth : Int32} {msc : Int32} {mec : Int32} {msrc : (Nat → Int32)} {mitm : (Nat → Int32)} {mknd : (Nat → Int32)} {mplc : (Nat → Int32)} {mclk : (Nat → Int64)} {mnc : Int32} {mnf : (Nat → Int32)} {mns : (Nat → Int32)} {msd : Int32} {mrl : Int32} {mrow : (Nat → Int32)} {mw : (Nat → Int64)} {mb : (Nat → Int64)} {mway : (Nat → Int64)} {moff : (Nat → Int64)} {a1 : Int32} {a2 : Int32} {Qr : Int32 → Unit → Prop} (h : M_outOf_wp mec msrc mitm mknd mplc mclk moff a1 a2 Qr) (sz : Nat) : vx_Met l yM_outOf (Cond.code yM_outOf bM_outOf 6 (some .int) :: TBL) rm_M_outOf (va_Pc [.ref (ad 0), .int a1, .int a2] (XP D vwCl (tysX cI cL cO) (wM ad cI cL cO mth msc mec msrc mitm mknd mplc mclk mnc mnf mns msd mrl mrow mw mb mway moff) sz)) (va_Qi Qr (fun u t => XB D vwCl (tysX cI cL cO) (va_A (wM ad cI cL cO mth msc mec msrc mitm mknd mplc mclk mnc mnf mns msd mrl mrow mw mb mway moff) sz) (wM ad cI cL cO mth msc mec msrc mitm mknd mplc mclk mnc mnf mns msd mrl mrow mw mb mway moff) t) (va_A (wM ad cI cL cO mth msc mec msrc mitm mknd mplc mclk mnc mnf mns msd mrl mrow mw mb mway moff) sz)) (XT D vwCl (tysX cI cL cO) (va_A (wM ad cI cL cO mth msc mec msrc mitm mknd mplc mclk mnc mnf mns msd mrl mrow mw mb mway moff) sz) (wM ad cI cL cO mth msc mec msrc mitm mknd mplc mclk mnc mnf mns msd mrl mrow mw mb mway moff) (fun _ => False)) rm_M_outOf.cells rm_M_outOf.slots (va_A (wM ad cI cL cO mth msc mec msrc mitm mknd mplc mclk mnc mnf mns msd mrl mrow mw mb mway moff) sz) := by
  refine x_met [.ref (ad 0), .int a1, .int a2] TBL_good (by decide) (Nat.le_of_ble_eq_true rfl) ?_
  intro p e s m args below meth c hC hr hlk hnm hnh
  have hret : ∀ (ce sl : Nat), ce ≤ rm_M_outOf.cells → sl ≤ rm_M_outOf.slots → ∀ (r : Int32) (u : Unit), Qr r u → ∀ (pc : Nat) (lv : List (Nat × Value)), decode bM_outOf pc = .ok (.ireturn, 1) → XW p l e rm_M_outOf s m args below meth c D vwCl (va_A (wM ad cI cL cO mth msc mec msrc mitm mknd mplc mclk mnc mnf mns msd mrl mrow mw mb mway moff) sz) 6 (vx_MQ below (va_Qi Qr (fun u t => XB D vwCl (tysX cI cL cO) (va_A (wM ad cI cL cO mth msc mec msrc mitm mknd mplc mclk mnc mnf mns msd mrl mrow mw mb mway moff) sz) (wM ad cI cL cO mth msc mec msrc mitm mknd mplc mclk mnc mnf mns msd mrl mrow mw mb mway moff) t) (va_A (wM ad cI cL cO mth msc mec msrc mitm mknd mplc mclk mnc mnf mns msd mrl mrow mw mb mway moff) sz)) (XT D vwCl (tysX cI cL cO) (va_A (wM ad cI cL cO mth msc mec msrc mitm mknd mplc mclk mnc mnf mns msd mrl mrow mw mb mway moff) sz) (wM ad cI cL cO mth msc mec msrc mitm mknd mplc mclk mnc mnf mns msd mrl mrow mw mb mway moff) (fun _ => False)) args s rm_M_outOf.cells rm_M_outOf.slots (va_A (wM ad cI cL cO mth msc mec msrc mitm mknd mplc mclk mnc mnf mns msd mrl mrow mw mb mway moff) sz)) ce sl (wM ad cI cL cO mth msc mec msrc mitm mknd mplc mclk mnc mnf mns msd mrl mrow mw mb mway moff) pc lv [.int r] := fun ce sl h1 h2 r u hq pc lv hd => x_iret (wf := fun u => (wM ad cI cL cO mth msc mec msrc mitm mknd mplc mclk mnc mnf mns msd mrl mrow mw mb mway moff)) hC h1 h2 hr hlk hd hq rfl
  show XW p l e rm_M_outOf s m args below meth c D vwCl (va_A (wM ad cI cL cO mth msc mec msrc mitm mknd mplc mclk mnc mnf mns msd mrl mrow mw mb mway moff) sz) 6 _ 0 0 (wM ad cI cL cO mth msc mec msrc mitm mknd mplc mclk mnc mnf mns msd mrl mrow mw mb mway moff) 0 [(0, .ref (ad 0)), (1, .int a1), (2, .int a2)] []
  unfold M_outOf_wp at h
  refine x_iconst (v := 0) hC dM_outOf_0 (by decide) ?_
  refine x_istore_n (lv' := [(3, .int 0), (0, .ref (ad 0)), (1, .int a1), (2, .int a2)]) hC dM_outOf_1 rfl (by decide) rfl ?_
  refine x_iconst (v := 1) hC dM_outOf_2 (by decide) ?_
  refine x_istore (lv' := [(4, .int 1), (3, .int 0), (0, .ref (ad 0)), (1, .int a1), (2, .int a2)]) hC dM_outOf_3 (by decide) rfl ?_
  obtain ⟨n_22, h⟩ := h
  refine x_lv [2, 3, 4, 1, 0] rfl ?_
  refine M_outOf_L5_ok hC (fun v3_21 h => ?_) n_22 0 1 h
  refine x_iload_n hC dM_outOf_101 rfl 0 rfl ?_
  exact hret _ _ (by decide) (by decide) v3_21 () h _ _ dM_outOf_102

/-! EventOrderModel.isImplied(III)Z -/
abbrev rm_M_isImplied : Room := { frames := 3, cells := 0, slots := 0, locals := 68 }
def M_isImplied_L3 (v1 : Int32) (v2 : Int32) (v3 : Int32) (mec : Int32) (msrc : (Nat → Int32)) (mitm : (Nat → Int32)) (mknd : (Nat → Int32)) (mplc : (Nat → Int32)) (mclk : (Nat → Int64)) (moff : (Nat → Int64)) (Qr : Int32 → Unit → Prop) (Qx : Prop) : Nat → Int32 → Prop
  | 0, _ => False
  | n + 1, v4 => ((mec < v4 → Qx) ∧ (¬ mec < v4 → vp_in v4 301 ∧ ((¬ (mitm v4.toNatClampNeg) = v3 → M_isImplied_L3 v1 v2 v3 mec msrc mitm mknd mplc mclk moff Qr Qx n (v4 + 1)) ∧ ((mitm v4.toNatClampNeg) = v3 → vp_in v4 301 ∧ ((¬ (mknd v4.toNatClampNeg) = 1 → M_isImplied_L3 v1 v2 v3 mec msrc mitm mknd mplc mclk moff Qr Qx n (v4 + 1)) ∧ ((mknd v4.toNatClampNeg) = 1 → vp_in v4 301 ∧ ((¬ (mplc v4.toNatClampNeg) = v2 → M_isImplied_L3 v1 v2 v3 mec msrc mitm mknd mplc mclk moff Qr Qx n (v4 + 1)) ∧ ((mplc v4.toNatClampNeg) = v2 → M_timeOf_wp msrc mclk moff v1 (fun (r_8 : Int64) (u_9 : Unit) => M_timeOf_wp msrc mclk moff v4 (fun (r_10 : Int64) (u_11 : Unit) => ((r_8 ≤ r_10 → M_isImplied_L3 v1 v2 v3 mec msrc mitm mknd mplc mclk moff Qr Qx n (v4 + 1)) ∧ (¬ r_8 ≤ r_10 → M_outOf_wp mec msrc mitm mknd mplc mclk moff v4 v2 (fun (r_13 : Int32) (u_14 : Unit) => ((r_13 = 0 → Qr 1 ()) ∧ (¬ r_13 = 0 → M_timeOf_wp msrc mclk moff v1 (fun (r_16 : Int64) (u_17 : Unit) => M_timeOf_wp msrc mclk moff r_13 (fun (r_18 : Int64) (u_19 : Unit) => ((r_18 < r_16 → M_isImplied_L3 v1 v2 v3 mec msrc mitm mknd mplc mclk moff Qr Qx n (v4 + 1)) ∧ (¬ r_18 < r_16 → Qr 1 ())))))))))))))))))))

def M_isImplied_wp (mec : Int32) (msrc : (Nat → Int32)) (mitm : (Nat → Int32)) (mknd : (Nat → Int32)) (mplc : (Nat → Int32)) (mclk : (Nat → Int64)) (moff : (Nat → Int64)) (a1 : Int32) (a2 : Int32) (a3 : Int32) (Qr : Int32 → Unit → Prop) : Prop := (∃ n_21 : Nat, M_isImplied_L3 a1 a2 a3 mec msrc mitm mknd mplc mclk moff Qr (Qr 0 ()) n_21 1)
set_option maxHeartbeats 4000000 in
set_option maxRecDepth 100000 in
theorem M_isImplied_L3_ok {p : Program} {l : Launch} {e : Env} {s : State} {m : MethodId} {args : Array Value} {below : List Frame} {meth : Method} {c : Code} {Q : State → Prop} {D : va_G} {A : Nat → Prop} {ad : Nat → Nat} {cI cL cO : ClassId} {mth : Int32} {msc : Int32} {mec : Int32} {msrc : (Nat → Int32)} {mitm : (Nat → Int32)} {mknd : (Nat → Int32)} {mplc : (Nat → Int32)} {mclk : (Nat → Int64)} {mnc : Int32} {mnf : (Nat → Int32)} {mns : (Nat → Int32)} {msd : Int32} {mrl : Int32} {mrow : (Nat → Int32)} {mw : (Nat → Int64)} {mb : (Nat → Int64)} {mway : (Nat → Int64)} {moff : (Nat → Int64)} {v1 : Int32} {v2 : Int32} {v3 : Int32} {Qr : Int32 → Unit → Prop} {Qx : Prop} (hC : XC p s m args c D vwCl (tysX cI cL cO) A 6 bM_isImplied TBL RM) (hret : ∀ (r : Int32) (u : Unit), x_bool r → Qr r u → ∀ (pc : Nat) (lv : List (Nat × Value)), decode bM_isImplied pc = .ok (.ireturn, 1) → XW p l e rm_M_isImplied s m args below meth c D vwCl A 6 Q 0 0 (wM ad cI cL cO mth msc mec msrc mitm mknd mplc mclk mnc mnf mns msd mrl mrow mw mb mway moff) pc lv [.int r]) (hexit : Qx → XW p l e rm_M_isImplied s m args below meth c D vwCl A 6 Q 0 0 (wM ad cI cL cO mth msc mec msrc mitm mknd mplc mclk mnc mnf mns msd mrl mrow mw mb mway moff) 97 [] []) : ∀ (n : Nat) (v4 : Int32), M_isImplied_L3 v1 v2 v3 mec msrc mitm mknd mplc mclk moff Qr Qx n v4 → XW p l e rm_M_isImplied s m args below meth c D vwCl A 6 Q 0 0 (wM ad cI cL cO mth msc mec msrc mitm mknd mplc mclk mnc mnf mns msd mrl mrow mw mb mway moff) 3 [(0, .ref (ad 0)), (1, .int v1), (2, .int v2), (3, .int v3), (4, .int v4)] [] := by
  intro n
  induction n with
  | zero => intro v4 h; exact False.elim h
  | succ n ih =>
    intro v4 h
    unfold M_isImplied_L3 at h
    refine x_iload hC dM_isImplied_3 4 rfl ?_
    refine x_aload_n hC dM_isImplied_5 rfl 0 rfl ?_
    refine x_get hC iM 0 wM_0 rfl 2 (by decide) k_m13 rfl rfl dM_isImplied_6 ?_
    refine x_icmp_gt (tgt := 97) hC dM_isImplied_9 (by decide) (fun c_1 => ?_) (fun c_1 => ?_)
    · have h := h.1 c_1
      refine x_lv [] rfl ?_
      exact hexit  h
    · have h := h.2 c_1
      refine x_aload_n hC dM_isImplied_12 rfl 0 rfl ?_
      refine x_get hC iM 0 wM_0 rfl 4 (by decide) k_m15 rfl rfl dM_isImplied_13 ?_
      refine x_iload hC dM_isImplied_16 4 rfl ?_
      obtain ⟨hb_2, h⟩ := h
      refine x_iald hC 2 0 wM_2 rfl hb_2 dM_isImplied_18 ?_
      refine x_iload_n hC dM_isImplied_19 rfl 3 rfl ?_
      refine x_icmp_ne (tgt := 91) hC dM_isImplied_20 (by decide) (fun c_3 => ?_) (fun c_3 => ?_)
      · have h := h.1 c_3
        refine x_iinc (v := v4 + 1) (lv' := [(4, .int (v4 + 1)), (0, .ref (ad 0)), (1, .int v1), (2, .int v2), (3, .int v3)]) hC dM_isImplied_91 4 rfl rfl (by decide) rfl ?_
        refine x_goto (tgt := 3) hC dM_isImplied_94 (by decide) ?_
        refine x_lv [1, 2, 3, 4, 0] rfl ?_
        exact ih (v4 + 1) h
      · have h := h.2 c_3
        refine x_aload_n hC dM_isImplied_23 rfl 0 rfl ?_
        refine x_get hC iM 0 wM_0 rfl 5 (by decide) k_m16 rfl rfl dM_isImplied_24 ?_
        refine x_iload hC dM_isImplied_27 4 rfl ?_
        obtain ⟨hb_4, h⟩ := h
        refine x_iald hC 3 0 wM_3 rfl hb_4 dM_isImplied_29 ?_
        refine x_iconst (v := 1) hC dM_isImplied_30 (by decide) ?_
        refine x_icmp_ne (tgt := 91) hC dM_isImplied_31 (by decide) (fun c_5 => ?_) (fun c_5 => ?_)
        · have h := h.1 c_5
          refine x_iinc (v := v4 + 1) (lv' := [(4, .int (v4 + 1)), (0, .ref (ad 0)), (1, .int v1), (2, .int v2), (3, .int v3)]) hC dM_isImplied_91 4 rfl rfl (by decide) rfl ?_
          refine x_goto (tgt := 3) hC dM_isImplied_94 (by decide) ?_
          refine x_lv [1, 2, 3, 4, 0] rfl ?_
          exact ih (v4 + 1) h
        · have h := h.2 c_5
          refine x_aload_n hC dM_isImplied_34 rfl 0 rfl ?_
          refine x_get hC iM 0 wM_0 rfl 6 (by decide) k_m17 rfl rfl dM_isImplied_35 ?_
          refine x_iload hC dM_isImplied_38 4 rfl ?_
          obtain ⟨hb_6, h⟩ := h
          refine x_iald hC 4 0 wM_4 rfl hb_6 dM_isImplied_40 ?_
          refine x_iload_n hC dM_isImplied_41 rfl 2 rfl ?_
          refine x_icmp_ne (tgt := 91) hC dM_isImplied_42 (by decide) (fun c_7 => ?_) (fun c_7 => ?_)
          · have h := h.1 c_7
            refine x_iinc (v := v4 + 1) (lv' := [(4, .int (v4 + 1)), (0, .ref (ad 0)), (1, .int v1), (2, .int v2), (3, .int v3)]) hC dM_isImplied_91 4 rfl rfl (by decide) rfl ?_
            refine x_goto (tgt := 3) hC dM_isImplied_94 (by decide) ?_
            refine x_lv [1, 2, 3, 4, 0] rfl ?_
            exact ih (v4 + 1) h
          · have h := h.2 c_7
            refine x_aload_n hC dM_isImplied_45 rfl 0 rfl ?_
            refine x_iload_n hC dM_isImplied_46 rfl 1 rfl ?_
            refine x_callVl (S := Unit) (wf := fun u => (wM ad cI cL cO mth msc mec msrc mitm mknd mplc mclk mnc mnf mns msd mrl mrow mw mb mway moff)) hC [.int v1] (fun sz => c_M_timeOf h sz) (by decide) (by decide) k_m78 k_m79 k_m80 (by decide) 1 rfl (by decide +kernel) ⟨by decide, by decide⟩ (Nat.le_of_ble_eq_true rfl) k_m81 k_m82 wM_0 rfl rfl dM_isImplied_47 (fun _ h9 => h9) (fun r_8 u_9 h => ?_)
            refine x_aload_n hC dM_isImplied_50 rfl 0 rfl ?_
            refine x_iload hC dM_isImplied_51 4 rfl ?_
            refine x_callVl (S := Unit) (wf := fun u => (wM ad cI cL cO mth msc mec msrc mitm mknd mplc mclk mnc mnf mns msd mrl mrow mw mb mway moff)) hC [.int v4] (fun sz => c_M_timeOf h sz) (by decide) (by decide) k_m78 k_m79 k_m80 (by decide) 1 rfl (by decide +kernel) ⟨by decide, by decide⟩ (Nat.le_of_ble_eq_true rfl) k_m81 k_m82 wM_0 rfl rfl dM_isImplied_53 (fun _ h9 => h9) (fun r_10 u_11 h => ?_)
            refine x_lcmp_le (tgt := 91) hC dM_isImplied_56 dM_isImplied_57 (by decide) (fun c_12 => ?_) (fun c_12 => ?_)
            · have h := h.1 c_12
              refine x_iinc (v := v4 + 1) (lv' := [(4, .int (v4 + 1)), (0, .ref (ad 0)), (1, .int v1), (2, .int v2), (3, .int v3)]) hC dM_isImplied_91 4 rfl rfl (by decide) rfl ?_
              refine x_goto (tgt := 3) hC dM_isImplied_94 (by decide) ?_
              refine x_lv [1, 2, 3, 4, 0] rfl ?_
              exact ih (v4 + 1) h
            · have h := h.2 c_12
              refine x_aload_n hC dM_isImplied_60 rfl 0 rfl ?_
              refine x_iload hC dM_isImplied_61 4 rfl ?_
              refine x_iload_n hC dM_isImplied_63 rfl 2 rfl ?_
              refine x_callVi (S := Unit) (wf := fun u => (wM ad cI cL cO mth msc mec msrc mitm mknd mplc mclk mnc mnf mns msd mrl mrow mw mb mway moff)) hC [.int v4, .int v2] (fun sz => c_M_outOf h sz) (by decide) (by decide) k_m89 k_m90 k_m91 (by decide) 2 rfl (by decide +kernel) ⟨by decide, by decide⟩ (Nat.le_of_ble_eq_true rfl) k_m92 k_m93 wM_0 rfl rfl dM_isImplied_64 (fun _ h9 => h9) (fun r_13 u_14 h => ?_)
              refine x_istore (lv' := [(5, .int r_13), (0, .ref (ad 0)), (1, .int v1), (2, .int v2), (3, .int v3), (4, .int v4)]) hC dM_isImplied_67 (by decide) rfl ?_
              refine x_iload hC dM_isImplied_69 0 rfl ?_
              refine x_if_eq (tgt := 89) hC dM_isImplied_71 (by decide) (fun c_15 => ?_) (fun c_15 => ?_)
              · have h := h.1 c_15
                refine x_iconst (v := 1) hC dM_isImplied_89 (by decide) ?_
                exact hret 1 () (Or.inr rfl) h _ _ dM_isImplied_90
              · have h := h.2 c_15
                refine x_aload_n hC dM_isImplied_74 rfl 1 rfl ?_
                refine x_iload_n hC dM_isImplied_75 rfl 2 rfl ?_
                refine x_callVl (S := Unit) (wf := fun u => (wM ad cI cL cO mth msc mec msrc mitm mknd mplc mclk mnc mnf mns msd mrl mrow mw mb mway moff)) hC [.int v1] (fun sz => c_M_timeOf h sz) (by decide) (by decide) k_m78 k_m79 k_m80 (by decide) 1 rfl (by decide +kernel) ⟨by decide, by decide⟩ (Nat.le_of_ble_eq_true rfl) k_m81 k_m82 wM_0 rfl rfl dM_isImplied_76 (fun _ h9 => h9) (fun r_16 u_17 h => ?_)
                refine x_aload_n hC dM_isImplied_79 rfl 1 rfl ?_
                refine x_iload hC dM_isImplied_80 0 rfl ?_
                refine x_callVl (S := Unit) (wf := fun u => (wM ad cI cL cO mth msc mec msrc mitm mknd mplc mclk mnc mnf mns msd mrl mrow mw mb mway moff)) hC [.int r_13] (fun sz => c_M_timeOf h sz) (by decide) (by decide) k_m78 k_m79 k_m80 (by decide) 1 rfl (by decide +kernel) ⟨by decide, by decide⟩ (Nat.le_of_ble_eq_true rfl) k_m81 k_m82 wM_0 rfl rfl dM_isImplied_82 (fun _ h9 => h9) (fun r_18 u_19 h => ?_)
                refine x_lcmp_gt (tgt := 91) hC dM_isImplied_85 dM_isImplied_86 (by decide) (fun c_20 => ?_) (fun c_20 => ?_)
                · have h := h.1 c_20
                  refine x_iinc (v := v4 + 1) (lv' := [(4, .int (v4 + 1)), (5, .int r_13), (0, .ref (ad 0)), (1, .int v1), (2, .int v2), (3, .int v3)]) hC dM_isImplied_91 5 rfl rfl (by decide) rfl ?_
                  refine x_goto (tgt := 3) hC dM_isImplied_94 (by decide) ?_
                  refine x_lv [2, 3, 4, 5, 0] rfl ?_
                  exact ih (v4 + 1) h
                · have h := h.2 c_20
                  refine x_iconst (v := 1) hC dM_isImplied_89 (by decide) ?_
                  exact hret 1 () (Or.inr rfl) h _ _ dM_isImplied_90

set_option maxHeartbeats 4000000 in
set_option maxRecDepth 100000 in
theorem c_M_isImplied {l : Launch} {D : va_G} {ad : Nat → Nat} {cI cL cO : ClassId} {mth : Int32} {msc : Int32} {mec : Int32} {msrc : (Nat → Int32)} {mitm : (Nat → Int32)} {mknd : (Nat → Int32)} {mplc : (Nat → Int32)} {mclk : (Nat → Int64)} {mnc : Int32} {mnf : (Nat → Int32)} {mns : (Nat → Int32)} {msd : Int32} {mrl : Int32} {mrow : (Nat → Int32)} {mw : (Nat → Int64)} {mb : (Nat → Int64)} {mway : (Nat → Int64)} {moff : (Nat → Int64)} {a1 : Int32} {a2 : Int32} {a3 : Int32} {Qr : Int32 → Unit → Prop} (h : M_isImplied_wp mec msrc mitm mknd mplc mclk moff a1 a2 a3 Qr) (sz : Nat) : vx_Met l yM_isImplied (Cond.code yM_isImplied bM_isImplied 6 (some .boolean) :: TBL) rm_M_isImplied (va_Pc [.ref (ad 0), .int a1, .int a2, .int a3] (XP D vwCl (tysX cI cL cO) (wM ad cI cL cO mth msc mec msrc mitm mknd mplc mclk mnc mnf mns msd mrl mrow mw mb mway moff) sz)) (va_Qi Qr (fun u t => XB D vwCl (tysX cI cL cO) (va_A (wM ad cI cL cO mth msc mec msrc mitm mknd mplc mclk mnc mnf mns msd mrl mrow mw mb mway moff) sz) (wM ad cI cL cO mth msc mec msrc mitm mknd mplc mclk mnc mnf mns msd mrl mrow mw mb mway moff) t) (va_A (wM ad cI cL cO mth msc mec msrc mitm mknd mplc mclk mnc mnf mns msd mrl mrow mw mb mway moff) sz)) (XT D vwCl (tysX cI cL cO) (va_A (wM ad cI cL cO mth msc mec msrc mitm mknd mplc mclk mnc mnf mns msd mrl mrow mw mb mway moff) sz) (wM ad cI cL cO mth msc mec msrc mitm mknd mplc mclk mnc mnf mns msd mrl mrow mw mb mway moff) (fun _ => False)) rm_M_isImplied.cells rm_M_isImplied.slots (va_A (wM ad cI cL cO mth msc mec msrc mitm mknd mplc mclk mnc mnf mns msd mrl mrow mw mb mway moff) sz) := by
  refine x_met [.ref (ad 0), .int a1, .int a2, .int a3] TBL_good (by decide) (Nat.le_of_ble_eq_true rfl) ?_
  intro p e s m args below meth c hC hr hlk hnm hnh
  have hret : ∀ (ce sl : Nat), ce ≤ rm_M_isImplied.cells → sl ≤ rm_M_isImplied.slots → ∀ (r : Int32) (u : Unit), x_bool r → Qr r u → ∀ (pc : Nat) (lv : List (Nat × Value)), decode bM_isImplied pc = .ok (.ireturn, 1) → XW p l e rm_M_isImplied s m args below meth c D vwCl (va_A (wM ad cI cL cO mth msc mec msrc mitm mknd mplc mclk mnc mnf mns msd mrl mrow mw mb mway moff) sz) 6 (vx_MQ below (va_Qi Qr (fun u t => XB D vwCl (tysX cI cL cO) (va_A (wM ad cI cL cO mth msc mec msrc mitm mknd mplc mclk mnc mnf mns msd mrl mrow mw mb mway moff) sz) (wM ad cI cL cO mth msc mec msrc mitm mknd mplc mclk mnc mnf mns msd mrl mrow mw mb mway moff) t) (va_A (wM ad cI cL cO mth msc mec msrc mitm mknd mplc mclk mnc mnf mns msd mrl mrow mw mb mway moff) sz)) (XT D vwCl (tysX cI cL cO) (va_A (wM ad cI cL cO mth msc mec msrc mitm mknd mplc mclk mnc mnf mns msd mrl mrow mw mb mway moff) sz) (wM ad cI cL cO mth msc mec msrc mitm mknd mplc mclk mnc mnf mns msd mrl mrow mw mb mway moff) (fun _ => False)) args s rm_M_isImplied.cells rm_M_isImplied.slots (va_A (wM ad cI cL cO mth msc mec msrc mitm mknd mplc mclk mnc mnf mns msd mrl mrow mw mb mway moff) sz)) ce sl (wM ad cI cL cO mth msc mec msrc mitm mknd mplc mclk mnc mnf mns msd mrl mrow mw mb mway moff) pc lv [.int r] := fun ce sl h1 h2 r u hb9 hq pc lv hd => x_zret (wf := fun u => (wM ad cI cL cO mth msc mec msrc mitm mknd mplc mclk mnc mnf mns msd mrl mrow mw mb mway moff)) hC h1 h2 hr hlk hb9 hd hq rfl
  show XW p l e rm_M_isImplied s m args below meth c D vwCl (va_A (wM ad cI cL cO mth msc mec msrc mitm mknd mplc mclk mnc mnf mns msd mrl mrow mw mb mway moff) sz) 6 _ 0 0 (wM ad cI cL cO mth msc mec msrc mitm mknd mplc mclk mnc mnf mns msd mrl mrow mw mb mway moff) 0 [(0, .ref (ad 0)), (1, .int a1), (2, .int a2), (3, .int a3)] []
  unfold M_isImplied_wp at h
  refine x_iconst (v := 1) hC dM_isImplied_0 (by decide) ?_
  refine x_istore (lv' := [(4, .int 1), (0, .ref (ad 0)), (1, .int a1), (2, .int a2), (3, .int a3)]) hC dM_isImplied_1 (by decide) rfl ?_
  obtain ⟨n_21, h⟩ := h
  refine x_lv [1, 2, 3, 4, 0] rfl ?_
  refine M_isImplied_L3_ok hC (hret _ _ (by decide) (by decide)) (fun h => ?_) n_21 1 h
  refine x_iconst (v := 0) hC dM_isImplied_97 (by decide) ?_
  exact hret _ _ (by decide) (by decide) 0 () (Or.inl rfl) h _ _ dM_isImplied_98

/-! EventOrderModel.implied(II)I -/
abbrev rm_M_implied : Room := { frames := 4, cells := 0, slots := 0, locals := 93 }
def M_implied_L58 (v1 : Int32) (v2 : Int32) (mec : Int32) (msrc : (Nat → Int32)) (mitm : (Nat → Int32)) (mknd : (Nat → Int32)) (mplc : (Nat → Int32)) (mclk : (Nat → Int64)) (moff : (Nat → Int64)) (Qx : Int32 → Prop) : Nat → Int32 → Int32 → Prop
  | 0, _, _ => False
  | n + 1, v3, v4 => ((mec < v4 → Qx v3) ∧ (¬ mec < v4 → vp_in v4 301 ∧ ((¬ (mitm v4.toNatClampNeg) = v1 → M_implied_L58 v1 v2 mec msrc mitm mknd mplc mclk moff Qx n v3 (v4 + 1)) ∧ ((mitm v4.toNatClampNeg) = v1 → M_isImplied_wp mec msrc mitm mknd mplc mclk moff v4 v1 v2 (fun (r_11 : Int32) (u_12 : Unit) => ((r_11 = 0 → M_implied_L58 v1 v2 mec msrc mitm mknd mplc mclk moff Qx n v3 (v4 + 1)) ∧ (¬ r_11 = 0 → M_implied_L58 v1 v2 mec msrc mitm mknd mplc mclk moff Qx n (v3 + 1) (v4 + 1))))))))

def M_implied_B44 (v1 : Int32) (v2 : Int32) (s0 : Int32) (s1 : Int32) (mth : Int32) (mec : Int32) (msrc : (Nat → Int32)) (mitm : (Nat → Int32)) (mknd : (Nat → Int32)) (mplc : (Nat → Int32)) (mclk : (Nat → Int64)) (moff : (Nat → Int64)) (Qr : Int32 → Int32 → Prop) : Prop := M_refused_wp mth s1 s0 0 (fun (r_5 : Int32) (u_6 : Int32) => ((r_5 = 0 → (∃ n_15 : Nat, M_implied_L58 v1 v2 mec msrc mitm mknd mplc mclk moff (fun (v3_14 : Int32) => Qr v3_14 u_6) n_15 0 1)) ∧ (¬ r_5 = 0 → Qr 0 u_6)))

def M_implied_B32 (v1 : Int32) (v2 : Int32) (s0 : Int32) (mth : Int32) (mec : Int32) (msrc : (Nat → Int32)) (mitm : (Nat → Int32)) (mknd : (Nat → Int32)) (mplc : (Nat → Int32)) (mclk : (Nat → Int64)) (msd : Int32) (moff : (Nat → Int64)) (Qr : Int32 → Int32 → Prop) : Prop := ((¬ msd = 0 → M_implied_B44 v1 v2 0 s0 mth mec msrc mitm mknd mplc mclk moff Qr) ∧ (msd = 0 → M_implied_B44 v1 v2 1 s0 mth mec msrc mitm mknd mplc mclk moff Qr))

def M_implied_wp (mth : Int32) (mec : Int32) (msrc : (Nat → Int32)) (mitm : (Nat → Int32)) (mknd : (Nat → Int32)) (mplc : (Nat → Int32)) (mclk : (Nat → Int64)) (msd : Int32) (moff : (Nat → Int64)) (a1 : Int32) (a2 : Int32) (Qr : Int32 → Int32 → Prop) : Prop := M_within_wp a1.toInt64 100 199 (fun (r_1 : Int32) (u_2 : Unit) => ((r_1 = 0 → M_implied_B32 a1 a2 1 mth mec msrc mitm mknd mplc mclk msd moff Qr) ∧ (¬ r_1 = 0 → M_within_wp a2.toInt64 0 99 (fun (r_16 : Int32) (u_17 : Unit) => ((¬ r_16 = 0 → M_implied_B32 a1 a2 0 mth mec msrc mitm mknd mplc mclk msd moff Qr) ∧ (r_16 = 0 → M_implied_B32 a1 a2 1 mth mec msrc mitm mknd mplc mclk msd moff Qr))))))
set_option maxHeartbeats 4000000 in
set_option maxRecDepth 100000 in
theorem M_implied_L58_ok {p : Program} {l : Launch} {e : Env} {s : State} {m : MethodId} {args : Array Value} {below : List Frame} {meth : Method} {c : Code} {Q : State → Prop} {D : va_G} {A : Nat → Prop} {ad : Nat → Nat} {cI cL cO : ClassId} {mth : Int32} {msc : Int32} {mec : Int32} {msrc : (Nat → Int32)} {mitm : (Nat → Int32)} {mknd : (Nat → Int32)} {mplc : (Nat → Int32)} {mclk : (Nat → Int64)} {mnc : Int32} {mnf : (Nat → Int32)} {mns : (Nat → Int32)} {msd : Int32} {mrl : Int32} {mrow : (Nat → Int32)} {mw : (Nat → Int64)} {mb : (Nat → Int64)} {mway : (Nat → Int64)} {moff : (Nat → Int64)} {v1 : Int32} {v2 : Int32} {Qx : Int32 → Prop} (hC : XC p s m args c D vwCl (tysX cI cL cO) A 5 bM_implied TBL RM)  (hexit : ∀ (v3 : Int32), Qx v3 → XW p l e rm_M_implied s m args below meth c D vwCl A 5 Q 0 0 (wM ad cI cL cO mth msc mec msrc mitm mknd mplc mclk mnc mnf mns msd mrl mrow mw mb mway moff) 103 [(3, .int v3)] []) : ∀ (n : Nat) (v3 : Int32) (v4 : Int32), M_implied_L58 v1 v2 mec msrc mitm mknd mplc mclk moff Qx n v3 v4 → XW p l e rm_M_implied s m args below meth c D vwCl A 5 Q 0 0 (wM ad cI cL cO mth msc mec msrc mitm mknd mplc mclk mnc mnf mns msd mrl mrow mw mb mway moff) 58 [(0, .ref (ad 0)), (1, .int v1), (2, .int v2), (3, .int v3), (4, .int v4)] [] := by
  intro n
  induction n with
  | zero => intro v3 v4 h; exact False.elim h
  | succ n ih =>
    intro v3 v4 h
    unfold M_implied_L58 at h
    refine x_iload hC dM_implied_58 4 rfl ?_
    refine x_aload_n hC dM_implied_60 rfl 0 rfl ?_
    refine x_get hC iM 0 wM_0 rfl 2 (by decide) k_m13 rfl rfl dM_implied_61 ?_
    refine x_icmp_gt (tgt := 103) hC dM_implied_64 (by decide) (fun c_8 => ?_) (fun c_8 => ?_)
    · have h := h.1 c_8
      refine x_lv [3] rfl ?_
      exact hexit v3 h
    · have h := h.2 c_8
      refine x_aload_n hC dM_implied_67 rfl 0 rfl ?_
      refine x_get hC iM 0 wM_0 rfl 4 (by decide) k_m15 rfl rfl dM_implied_68 ?_
      refine x_iload hC dM_implied_71 4 rfl ?_
      obtain ⟨hb_9, h⟩ := h
      refine x_iald hC 2 0 wM_2 rfl hb_9 dM_implied_73 ?_
      refine x_iload_n hC dM_implied_74 rfl 1 rfl ?_
      refine x_icmp_ne (tgt := 95) hC dM_implied_75 (by decide) (fun c_10 => ?_) (fun c_10 => ?_)
      · have h := h.1 c_10
        refine x_iload_n hC dM_implied_95 rfl 3 rfl ?_
        refine x_istore_n (lv' := [(3, .int v3), (0, .ref (ad 0)), (1, .int v1), (2, .int v2), (4, .int v4)]) hC dM_implied_96 rfl (by decide) rfl ?_
        refine x_iinc (v := v4 + 1) (lv' := [(4, .int (v4 + 1)), (3, .int v3), (0, .ref (ad 0)), (1, .int v1), (2, .int v2)]) hC dM_implied_97 4 rfl rfl (by decide) rfl ?_
        refine x_goto (tgt := 58) hC dM_implied_100 (by decide) ?_
        refine x_lv [2, 3, 4, 1, 0] rfl ?_
        exact ih v3 (v4 + 1) h
      · have h := h.2 c_10
        refine x_aload_n hC dM_implied_78 rfl 0 rfl ?_
        refine x_iload hC dM_implied_79 4 rfl ?_
        refine x_iload_n hC dM_implied_81 rfl 1 rfl ?_
        refine x_iload_n hC dM_implied_82 rfl 2 rfl ?_
        refine x_callVi (S := Unit) (wf := fun u => (wM ad cI cL cO mth msc mec msrc mitm mknd mplc mclk mnc mnf mns msd mrl mrow mw mb mway moff)) hC [.int v4, .int v1, .int v2] (fun sz => c_M_isImplied h sz) (by decide) (by decide) k_m94 k_m95 k_m96 (by decide) 3 rfl (by decide +kernel) ⟨by decide, by decide⟩ (Nat.le_of_ble_eq_true rfl) k_m97 k_m98 wM_0 rfl rfl dM_implied_83 (fun _ h9 => h9) (fun r_11 u_12 h => ?_)
        refine x_if_eq (tgt := 95) hC dM_implied_86 (by decide) (fun c_13 => ?_) (fun c_13 => ?_)
        · have h := h.1 c_13
          refine x_iload_n hC dM_implied_95 rfl 3 rfl ?_
          refine x_istore_n (lv' := [(3, .int v3), (0, .ref (ad 0)), (1, .int v1), (2, .int v2), (4, .int v4)]) hC dM_implied_96 rfl (by decide) rfl ?_
          refine x_iinc (v := v4 + 1) (lv' := [(4, .int (v4 + 1)), (3, .int v3), (0, .ref (ad 0)), (1, .int v1), (2, .int v2)]) hC dM_implied_97 4 rfl rfl (by decide) rfl ?_
          refine x_goto (tgt := 58) hC dM_implied_100 (by decide) ?_
          refine x_lv [2, 3, 4, 1, 0] rfl ?_
          exact ih v3 (v4 + 1) h
        · have h := h.2 c_13
          refine x_iload_n hC dM_implied_89 rfl 3 rfl ?_
          refine x_iconst (v := 1) hC dM_implied_90 (by decide) ?_
          refine x_iadd hC dM_implied_91 ?_
          refine x_goto (tgt := 96) hC dM_implied_92 (by decide) ?_
          refine x_istore_n (lv' := [(3, .int (v3 + 1)), (0, .ref (ad 0)), (1, .int v1), (2, .int v2), (4, .int v4)]) hC dM_implied_96 rfl (by decide) rfl ?_
          refine x_iinc (v := v4 + 1) (lv' := [(4, .int (v4 + 1)), (3, .int (v3 + 1)), (0, .ref (ad 0)), (1, .int v1), (2, .int v2)]) hC dM_implied_97 4 rfl rfl (by decide) rfl ?_
          refine x_goto (tgt := 58) hC dM_implied_100 (by decide) ?_
          refine x_lv [2, 3, 4, 1, 0] rfl ?_
          exact ih (v3 + 1) (v4 + 1) h

set_option maxHeartbeats 4000000 in
set_option maxRecDepth 100000 in
theorem M_implied_B44_ok {p : Program} {l : Launch} {e : Env} {s : State} {m : MethodId} {args : Array Value} {below : List Frame} {meth : Method} {c : Code} {Q : State → Prop} {D : va_G} {A : Nat → Prop} {ad : Nat → Nat} {cI cL cO : ClassId} {mth : Int32} {msc : Int32} {mec : Int32} {msrc : (Nat → Int32)} {mitm : (Nat → Int32)} {mknd : (Nat → Int32)} {mplc : (Nat → Int32)} {mclk : (Nat → Int64)} {mnc : Int32} {mnf : (Nat → Int32)} {mns : (Nat → Int32)} {msd : Int32} {mrl : Int32} {mrow : (Nat → Int32)} {mw : (Nat → Int64)} {mb : (Nat → Int64)} {mway : (Nat → Int64)} {moff : (Nat → Int64)} {v1 : Int32} {v2 : Int32} {s0 : Int32} {s1 : Int32} {Qr : Int32 → Int32 → Prop} (hC : XC p s m args c D vwCl (tysX cI cL cO) A 5 bM_implied TBL RM) (hret : ∀ (r : Int32) (u : Int32), Qr r u → ∀ (pc : Nat) (lv : List (Nat × Value)), decode bM_implied pc = .ok (.ireturn, 1) → XW p l e rm_M_implied s m args below meth c D vwCl A 5 Q 0 0 (wM ad cI cL cO u msc mec msrc mitm mknd mplc mclk mnc mnf mns msd mrl mrow mw mb mway moff) pc lv [.int r]) (h : M_implied_B44 v1 v2 s0 s1 mth mec msrc mitm mknd mplc mclk moff Qr) : XW p l e rm_M_implied s m args below meth c D vwCl A 5 Q 0 0 (wM ad cI cL cO mth msc mec msrc mitm mknd mplc mclk mnc mnf mns msd mrl mrow mw mb mway moff) 44 [(0, .ref (ad 0)), (1, .int v1), (2, .int v2)] [.int s0, .int s1, .ref (ad 0)] := by
  unfold M_implied_B44 at h
  refine x_iconst (v := 0) hC dM_implied_44 (by decide) ?_
  refine x_callVi (S := Int32) (wf := fun u => (wM ad cI cL cO u msc mec msrc mitm mknd mplc mclk mnc mnf mns msd mrl mrow mw mb mway moff)) hC [.int s1, .int s0, .int 0] (fun sz => c_M_refused h sz) (by decide) (by decide) k_m3 k_m4 k_m5 (by decide) 3 rfl (by decide +kernel) ⟨by decide, by decide⟩ (Nat.le_of_ble_eq_true rfl) k_m6 k_m7 wM_0 rfl rfl dM_implied_45 (fun _ h9 => h9) (fun r_5 u_6 h => ?_)
  refine x_if_eq (tgt := 53) hC dM_implied_48 (by decide) (fun c_7 => ?_) (fun c_7 => ?_)
  · have h := h.1 c_7
    refine x_iconst (v := 0) hC dM_implied_53 (by decide) ?_
    refine x_istore_n (lv' := [(3, .int 0), (0, .ref (ad 0)), (1, .int v1), (2, .int v2)]) hC dM_implied_54 rfl (by decide) rfl ?_
    refine x_iconst (v := 1) hC dM_implied_55 (by decide) ?_
    refine x_istore (lv' := [(4, .int 1), (3, .int 0), (0, .ref (ad 0)), (1, .int v1), (2, .int v2)]) hC dM_implied_56 (by decide) rfl ?_
    obtain ⟨n_15, h⟩ := h
    refine x_lv [2, 3, 4, 1, 0] rfl ?_
    refine M_implied_L58_ok hC (fun v3_14 h => ?_) n_15 0 1 h
    refine x_iload_n hC dM_implied_103 rfl 0 rfl ?_
    exact hret v3_14 u_6 h _ _ dM_implied_104
  · have h := h.2 c_7
    refine x_iconst (v := 0) hC dM_implied_51 (by decide) ?_
    exact hret 0 u_6 h _ _ dM_implied_52

set_option maxHeartbeats 4000000 in
set_option maxRecDepth 100000 in
theorem M_implied_B32_ok {p : Program} {l : Launch} {e : Env} {s : State} {m : MethodId} {args : Array Value} {below : List Frame} {meth : Method} {c : Code} {Q : State → Prop} {D : va_G} {A : Nat → Prop} {ad : Nat → Nat} {cI cL cO : ClassId} {mth : Int32} {msc : Int32} {mec : Int32} {msrc : (Nat → Int32)} {mitm : (Nat → Int32)} {mknd : (Nat → Int32)} {mplc : (Nat → Int32)} {mclk : (Nat → Int64)} {mnc : Int32} {mnf : (Nat → Int32)} {mns : (Nat → Int32)} {msd : Int32} {mrl : Int32} {mrow : (Nat → Int32)} {mw : (Nat → Int64)} {mb : (Nat → Int64)} {mway : (Nat → Int64)} {moff : (Nat → Int64)} {v1 : Int32} {v2 : Int32} {s0 : Int32} {Qr : Int32 → Int32 → Prop} (hC : XC p s m args c D vwCl (tysX cI cL cO) A 5 bM_implied TBL RM) (hret : ∀ (r : Int32) (u : Int32), Qr r u → ∀ (pc : Nat) (lv : List (Nat × Value)), decode bM_implied pc = .ok (.ireturn, 1) → XW p l e rm_M_implied s m args below meth c D vwCl A 5 Q 0 0 (wM ad cI cL cO u msc mec msrc mitm mknd mplc mclk mnc mnf mns msd mrl mrow mw mb mway moff) pc lv [.int r]) (h : M_implied_B32 v1 v2 s0 mth mec msrc mitm mknd mplc mclk msd moff Qr) : XW p l e rm_M_implied s m args below meth c D vwCl A 5 Q 0 0 (wM ad cI cL cO mth msc mec msrc mitm mknd mplc mclk mnc mnf mns msd mrl mrow mw mb mway moff) 32 [(0, .ref (ad 0)), (1, .int v1), (2, .int v2)] [.int s0, .ref (ad 0)] := by
  unfold M_implied_B32 at h
  refine x_aload_n hC dM_implied_32 rfl 0 rfl ?_
  refine x_get hC iM 0 wM_0 rfl 11 (by decide) k_m2 rfl rfl dM_implied_33 ?_
  refine x_if_ne (tgt := 43) hC dM_implied_36 (by decide) (fun c_4 => ?_) (fun c_4 => ?_)
  · have h := h.1 c_4
    refine x_iconst (v := 0) hC dM_implied_43 (by decide) ?_
    refine x_lv [0, 1, 2] rfl ?_
    exact M_implied_B44_ok hC hret h
  · have h := h.2 c_4
    refine x_iconst (v := 1) hC dM_implied_39 (by decide) ?_
    refine x_goto (tgt := 44) hC dM_implied_40 (by decide) ?_
    refine x_lv [0, 1, 2] rfl ?_
    exact M_implied_B44_ok hC hret h

set_option maxHeartbeats 4000000 in
set_option maxRecDepth 100000 in
theorem c_M_implied {l : Launch} {D : va_G} {ad : Nat → Nat} {cI cL cO : ClassId} {mth : Int32} {msc : Int32} {mec : Int32} {msrc : (Nat → Int32)} {mitm : (Nat → Int32)} {mknd : (Nat → Int32)} {mplc : (Nat → Int32)} {mclk : (Nat → Int64)} {mnc : Int32} {mnf : (Nat → Int32)} {mns : (Nat → Int32)} {msd : Int32} {mrl : Int32} {mrow : (Nat → Int32)} {mw : (Nat → Int64)} {mb : (Nat → Int64)} {mway : (Nat → Int64)} {moff : (Nat → Int64)} {a1 : Int32} {a2 : Int32} {Qr : Int32 → Int32 → Prop} (h : M_implied_wp mth mec msrc mitm mknd mplc mclk msd moff a1 a2 Qr) (sz : Nat) : vx_Met l yM_implied (Cond.code yM_implied bM_implied 5 (some .int) :: TBL) rm_M_implied (va_Pc [.ref (ad 0), .int a1, .int a2] (XP D vwCl (tysX cI cL cO) (wM ad cI cL cO mth msc mec msrc mitm mknd mplc mclk mnc mnf mns msd mrl mrow mw mb mway moff) sz)) (va_Qi Qr (fun u t => XB D vwCl (tysX cI cL cO) (va_A (wM ad cI cL cO mth msc mec msrc mitm mknd mplc mclk mnc mnf mns msd mrl mrow mw mb mway moff) sz) (wM ad cI cL cO u msc mec msrc mitm mknd mplc mclk mnc mnf mns msd mrl mrow mw mb mway moff) t) (va_A (wM ad cI cL cO mth msc mec msrc mitm mknd mplc mclk mnc mnf mns msd mrl mrow mw mb mway moff) sz)) (XT D vwCl (tysX cI cL cO) (va_A (wM ad cI cL cO mth msc mec msrc mitm mknd mplc mclk mnc mnf mns msd mrl mrow mw mb mway moff) sz) (wM ad cI cL cO mth msc mec msrc mitm mknd mplc mclk mnc mnf mns msd mrl mrow mw mb mway moff) (fun _ => False)) rm_M_implied.cells rm_M_implied.slots (va_A (wM ad cI cL cO mth msc mec msrc mitm mknd mplc mclk mnc mnf mns msd mrl mrow mw mb mway moff) sz) := by
  refine x_met [.ref (ad 0), .int a1, .int a2] TBL_good (by decide) (Nat.le_of_ble_eq_true rfl) ?_
  intro p e s m args below meth c hC hr hlk hnm hnh
  have hret : ∀ (ce sl : Nat), ce ≤ rm_M_implied.cells → sl ≤ rm_M_implied.slots → ∀ (r : Int32) (u : Int32), Qr r u → ∀ (pc : Nat) (lv : List (Nat × Value)), decode bM_implied pc = .ok (.ireturn, 1) → XW p l e rm_M_implied s m args below meth c D vwCl (va_A (wM ad cI cL cO mth msc mec msrc mitm mknd mplc mclk mnc mnf mns msd mrl mrow mw mb mway moff) sz) 5 (vx_MQ below (va_Qi Qr (fun u t => XB D vwCl (tysX cI cL cO) (va_A (wM ad cI cL cO mth msc mec msrc mitm mknd mplc mclk mnc mnf mns msd mrl mrow mw mb mway moff) sz) (wM ad cI cL cO u msc mec msrc mitm mknd mplc mclk mnc mnf mns msd mrl mrow mw mb mway moff) t) (va_A (wM ad cI cL cO mth msc mec msrc mitm mknd mplc mclk mnc mnf mns msd mrl mrow mw mb mway moff) sz)) (XT D vwCl (tysX cI cL cO) (va_A (wM ad cI cL cO mth msc mec msrc mitm mknd mplc mclk mnc mnf mns msd mrl mrow mw mb mway moff) sz) (wM ad cI cL cO mth msc mec msrc mitm mknd mplc mclk mnc mnf mns msd mrl mrow mw mb mway moff) (fun _ => False)) args s rm_M_implied.cells rm_M_implied.slots (va_A (wM ad cI cL cO mth msc mec msrc mitm mknd mplc mclk mnc mnf mns msd mrl mrow mw mb mway moff) sz)) ce sl (wM ad cI cL cO u msc mec msrc mitm mknd mplc mclk mnc mnf mns msd mrl mrow mw mb mway moff) pc lv [.int r] := fun ce sl h1 h2 r u hq pc lv hd => x_iret (wf := fun u => (wM ad cI cL cO u msc mec msrc mitm mknd mplc mclk mnc mnf mns msd mrl mrow mw mb mway moff)) hC h1 h2 hr hlk hd hq rfl
  show XW p l e rm_M_implied s m args below meth c D vwCl (va_A (wM ad cI cL cO mth msc mec msrc mitm mknd mplc mclk mnc mnf mns msd mrl mrow mw mb mway moff) sz) 5 _ 0 0 (wM ad cI cL cO mth msc mec msrc mitm mknd mplc mclk mnc mnf mns msd mrl mrow mw mb mway moff) 0 [(0, .ref (ad 0)), (1, .int a1), (2, .int a2)] []
  unfold M_implied_wp at h
  refine x_aload_n hC dM_implied_0 rfl 0 rfl ?_
  refine x_iload_n hC dM_implied_1 rfl 1 rfl ?_
  refine x_i2l (v := a1.toInt64) hC dM_implied_2 rfl ?_
  refine x_ldc2 (v := 100) hC k_m88 dM_implied_3 ?_
  refine x_ldc2 (v := 199) hC k_m24 dM_implied_6 ?_
  refine x_callSi (S := Unit) (wf := fun u => (wM ad cI cL cO mth msc mec msrc mitm mknd mplc mclk mnc mnf mns msd mrl mrow mw mb mway moff)) hC [.long a1.toInt64, .long 100, .long 199] (fun sz => c_M_within h sz) (by decide) (by decide) k_m8 k_m9 k_m10 (by decide) 3 rfl (by decide +kernel) ⟨by decide, by decide⟩ (Nat.le_of_ble_eq_true rfl) k_m11 rfl dM_implied_9 (fun _ h9 => h9) (fun r_1 u_2 h => ?_)
  refine x_if_eq (tgt := 27) hC dM_implied_12 (by decide) (fun c_3 => ?_) (fun c_3 => ?_)
  · have h := h.1 c_3
    refine x_iconst (v := 1) hC dM_implied_27 (by decide) ?_
    refine x_goto (tgt := 32) hC dM_implied_28 (by decide) ?_
    refine x_lv [0, 1, 2] rfl ?_
    exact M_implied_B32_ok hC (hret _ _ (by decide) (by decide)) h
  · have h := h.2 c_3
    refine x_iload_n hC dM_implied_15 rfl 2 rfl ?_
    refine x_i2l (v := a2.toInt64) hC dM_implied_16 rfl ?_
    refine x_lconst (v := 0) hC dM_implied_17 (by decide) ?_
    refine x_ldc2 (v := 99) hC k_m99 dM_implied_18 ?_
    refine x_callSi (S := Unit) (wf := fun u => (wM ad cI cL cO mth msc mec msrc mitm mknd mplc mclk mnc mnf mns msd mrl mrow mw mb mway moff)) hC [.long a2.toInt64, .long 0, .long 99] (fun sz => c_M_within h sz) (by decide) (by decide) k_m8 k_m9 k_m10 (by decide) 3 rfl (by decide +kernel) ⟨by decide, by decide⟩ (Nat.le_of_ble_eq_true rfl) k_m11 rfl dM_implied_21 (fun _ h9 => h9) (fun r_16 u_17 h => ?_)
    refine x_if_ne (tgt := 31) hC dM_implied_24 (by decide) (fun c_18 => ?_) (fun c_18 => ?_)
    · have h := h.1 c_18
      refine x_iconst (v := 0) hC dM_implied_31 (by decide) ?_
      refine x_lv [0, 1, 2] rfl ?_
      exact M_implied_B32_ok hC (hret _ _ (by decide) (by decide)) h
    · have h := h.2 c_18
      refine x_iconst (v := 1) hC dM_implied_27 (by decide) ?_
      refine x_goto (tgt := 32) hC dM_implied_28 (by decide) ?_
      refine x_lv [0, 1, 2] rfl ?_
      exact M_implied_B32_ok hC (hret _ _ (by decide) (by decide)) h

