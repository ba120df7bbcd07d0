/-! EventOrderModel.thrown()I -/
abbrev rm_M_thrown : Room := { frames := 0, cells := 0, slots := 0, locals := 0 }
def M_thrown_wp (mth : Int32) (Qr : Int32 → Unit → Prop) : Prop := Qr mth ()
set_option maxHeartbeats 4000000 in
set_option maxRecDepth 100000 in
theorem c_M_thrown {l : Launch} {D : va_G} {ad : Nat → Nat} {cI cL cO : ClassId} {mth : Int32} {msc : Int32} {mec : Int32} {msrc : (Nat → Int32)} {mitm : (Nat → Int32)} {mknd : (Nat → Int32)} {mplc : (Nat → Int32)} {mclk : (Nat → Int64)} {mnc : Int32} {mnf : (Nat → Int32)} {mns : (Nat → Int32)} {msd : Int32} {mrl : Int32} {mrow : (Nat → Int32)} {mw : (Nat → Int64)} {mb : (Nat → Int64)} {mway : (Nat → Int64)} {moff : (Nat → Int64)} {Qr : Int32 → Unit → Prop} (h : M_thrown_wp mth Qr) (sz : Nat) : vx_Met l yM_thrown (Cond.code yM_thrown bM_thrown 1 (some .int) :: TBL) rm_M_thrown (va_Pc [.ref (ad 0)] (XP D vwCl (tysX cI cL cO) (wM ad cI cL cO mth msc mec msrc mitm mknd mplc mclk mnc mnf mns msd mrl mrow mw mb mway moff) sz)) (va_Qi Qr (fun u t => XB D vwCl (tysX cI cL cO) (va_A (wM ad cI cL cO mth msc mec msrc mitm mknd mplc mclk mnc mnf mns msd mrl mrow mw mb mway moff) sz) (wM ad cI cL cO mth msc mec msrc mitm mknd mplc mclk mnc mnf mns msd mrl mrow mw mb mway moff) t) (va_A (wM ad cI cL cO mth msc mec msrc mitm mknd mplc mclk mnc mnf mns msd mrl mrow mw mb mway moff) sz)) (XT D vwCl (tysX cI cL cO) (va_A (wM ad cI cL cO mth msc mec msrc mitm mknd mplc mclk mnc mnf mns msd mrl mrow mw mb mway moff) sz) (wM ad cI cL cO mth msc mec msrc mitm mknd mplc mclk mnc mnf mns msd mrl mrow mw mb mway moff) (fun _ => False)) rm_M_thrown.cells rm_M_thrown.slots (va_A (wM ad cI cL cO mth msc mec msrc mitm mknd mplc mclk mnc mnf mns msd mrl mrow mw mb mway moff) sz) := by
  refine x_met [.ref (ad 0)] TBL_good (by decide) (Nat.le_of_ble_eq_true rfl) ?_
  intro p e s m args below meth c hC hr hlk hnm hnh
  have hret : ∀ (ce sl : Nat), ce ≤ rm_M_thrown.cells → sl ≤ rm_M_thrown.slots → ∀ (r : Int32) (u : Unit), Qr r u → ∀ (pc : Nat) (lv : List (Nat × Value)), decode bM_thrown pc = .ok (.ireturn, 1) → XW p l e rm_M_thrown s m args below meth c D vwCl (va_A (wM ad cI cL cO mth msc mec msrc mitm mknd mplc mclk mnc mnf mns msd mrl mrow mw mb mway moff) sz) 1 (vx_MQ below (va_Qi Qr (fun u t => XB D vwCl (tysX cI cL cO) (va_A (wM ad cI cL cO mth msc mec msrc mitm mknd mplc mclk mnc mnf mns msd mrl mrow mw mb mway moff) sz) (wM ad cI cL cO mth msc mec msrc mitm mknd mplc mclk mnc mnf mns msd mrl mrow mw mb mway moff) t) (va_A (wM ad cI cL cO mth msc mec msrc mitm mknd mplc mclk mnc mnf mns msd mrl mrow mw mb mway moff) sz)) (XT D vwCl (tysX cI cL cO) (va_A (wM ad cI cL cO mth msc mec msrc mitm mknd mplc mclk mnc mnf mns msd mrl mrow mw mb mway moff) sz) (wM ad cI cL cO mth msc mec msrc mitm mknd mplc mclk mnc mnf mns msd mrl mrow mw mb mway moff) (fun _ => False)) args s rm_M_thrown.cells rm_M_thrown.slots (va_A (wM ad cI cL cO mth msc mec msrc mitm mknd mplc mclk mnc mnf mns msd mrl mrow mw mb mway moff) sz)) ce sl (wM ad cI cL cO mth msc mec msrc mitm mknd mplc mclk mnc mnf mns msd mrl mrow mw mb mway moff) pc lv [.int r] := fun ce sl h1 h2 r u hq pc lv hd => x_iret (wf := fun u => (wM ad cI cL cO mth msc mec msrc mitm mknd mplc mclk mnc mnf mns msd mrl mrow mw mb mway moff)) hC h1 h2 hr hlk hd hq rfl
  show XW p l e rm_M_thrown s m args below meth c D vwCl (va_A (wM ad cI cL cO mth msc mec msrc mitm mknd mplc mclk mnc mnf mns msd mrl mrow mw mb mway moff) sz) 1 _ 0 0 (wM ad cI cL cO mth msc mec msrc mitm mknd mplc mclk mnc mnf mns msd mrl mrow mw mb mway moff) 0 [(0, .ref (ad 0))] []
  unfold M_thrown_wp at h
  refine x_aload_n hC dM_thrown_0 rfl 0 rfl ?_
  refine x_get hC iM 0 wM_0 rfl 0 (by decide) k_m0 rfl rfl dM_thrown_1 ?_
  exact hret _ _ (by decide) (by decide) mth () h _ _ dM_thrown_4

/-! EventOrderModel.refused(ZZZ)Z -/
abbrev rm_M_refused : Room := { frames := 0, cells := 0, slots := 0, locals := 0 }
def M_refused_B26 (s0 : Int32) (mth : Int32) (Qr : Int32 → Int32 → Prop) : Prop := ((s0 ≤ 0 → Qr 0 s0) ∧ (¬ s0 ≤ 0 → Qr 1 s0))

def M_refused_wp (mth : Int32) (a1 : Int32) (a2 : Int32) (a3 : Int32) (Qr : Int32 → Int32 → Prop) : Prop := ((a1 = 0 → ((a2 = 0 → ((a3 = 0 → M_refused_B26 0 mth Qr) ∧ (¬ a3 = 0 → M_refused_B26 3 mth Qr))) ∧ (¬ a2 = 0 → M_refused_B26 2 mth Qr))) ∧ (¬ a1 = 0 → M_refused_B26 1 mth Qr))
set_option maxHeartbeats 4000000 in
set_option maxRecDepth 100000 in
theorem M_refused_B26_ok {p : Program} {l : Launch} {e : Env} {s : State} {m : MethodId} {args : Array Value} {below : List Frame} {meth : Method} {c : Code} {Q : State → Prop} {D : va_G} {A : Nat → Prop} {ad : Nat → Nat} {cI cL cO : ClassId} {mth : Int32} {msc : Int32} {mec : Int32} {msrc : (Nat → Int32)} {mitm : (Nat → Int32)} {mknd : (Nat → Int32)} {mplc : (Nat → Int32)} {mclk : (Nat → Int64)} {mnc : Int32} {mnf : (Nat → Int32)} {mns : (Nat → Int32)} {msd : Int32} {mrl : Int32} {mrow : (Nat → Int32)} {mw : (Nat → Int64)} {mb : (Nat → Int64)} {mway : (Nat → Int64)} {moff : (Nat → Int64)} {s0 : Int32} {Qr : Int32 → Int32 → Prop} (hC : XC p s m args c D vwCl (tysX cI cL cO) A 4 bM_refused TBL RM) (hret : ∀ (r : Int32) (u : Int32), x_bool r → Qr r u → ∀ (pc : Nat) (lv : List (Nat × Value)), decode bM_refused pc = .ok (.ireturn, 1) → XW p l e rm_M_refused s m args below meth c D vwCl A 4 Q 0 0 (wM ad cI cL cO u msc mec msrc mitm mknd mplc mclk mnc mnf mns msd mrl mrow mw mb mway moff) pc lv [.int r]) (h : M_refused_B26 s0 mth Qr) : XW p l e rm_M_refused s m args below meth c D vwCl A 4 Q 0 0 (wM ad cI cL cO mth msc mec msrc mitm mknd mplc mclk mnc mnf mns msd mrl mrow mw mb mway moff) 26 [(0, .ref (ad 0))] [.int s0, .ref (ad 0)] := by
  unfold M_refused_B26 at h
  refine x_put (ty := .int) (ws' := (wM ad cI cL cO s0 msc mec msrc mitm mknd mplc mclk mnc mnf mns msd mrl mrow mw mb mway moff)) hC iM 0 wM_0 rfl 0 (by decide) k_m0 rfl tM tM_ok nM rfl (by decide +kernel) rfl rfl (Nat.le_of_ble_eq_true rfl) rfl dM_refused_26 ?_
  refine x_aload_n hC dM_refused_29 rfl 0 rfl ?_
  refine x_get hC iM 0 wM_0 rfl 0 (by decide) k_m0 rfl rfl dM_refused_30 ?_
  refine x_if_le (tgt := 40) hC dM_refused_33 (by decide) (fun c_4 => ?_) (fun c_4 => ?_)
  · have h := h.1 c_4
    refine x_iconst (v := 0) hC dM_refused_40 (by decide) ?_
    exact hret 0 s0 (Or.inl rfl) h _ _ dM_refused_41
  · have h := h.2 c_4
    refine x_iconst (v := 1) hC dM_refused_36 (by decide) ?_
    refine x_goto (tgt := 41) hC dM_refused_37 (by decide) ?_
    exact hret 1 s0 (Or.inr rfl) h _ _ dM_refused_41

set_option maxHeartbeats 4000000 in
set_option maxRecDepth 100000 in
theorem c_M_refused {l : Launch} {D : va_G} {ad : Nat → Nat} {cI cL cO : ClassId} {mth : Int32} {msc : Int32} {mec : Int32} {msrc : (Nat → Int32)} {mitm : (Nat → Int32)} {mknd : (Nat → Int32)} {mplc : (Nat → Int32)} {mclk : (Nat → Int64)} {mnc : Int32} {mnf : (Nat → Int32)} {mns : (Nat → Int32)} {msd : Int32} {mrl : Int32} {mrow : (Nat → Int32)} {mw : (Nat → Int64)} {mb : (Nat → Int64)} {mway : (Nat → Int64)} {moff : (Nat → Int64)} {a1 : Int32} {a2 : Int32} {a3 : Int32} {Qr : Int32 → Int32 → Prop} (h : M_refused_wp mth a1 a2 a3 Qr) (sz : Nat) : vx_Met l yM_refused (Cond.code yM_refused bM_refused 4 (some .boolean) :: TBL) rm_M_refused (va_Pc [.ref (ad 0), .int a1, .int a2, .int a3] (XP D vwCl (tysX cI cL cO) (wM ad cI cL cO mth msc mec msrc mitm mknd mplc mclk mnc mnf mns msd mrl mrow mw mb mway moff) sz)) (va_Qi Qr (fun u t => XB D vwCl (tysX cI cL cO) (va_A (wM ad cI cL cO mth msc mec msrc mitm mknd mplc mclk mnc mnf mns msd mrl mrow mw mb mway moff) sz) (wM ad cI cL cO u msc mec msrc mitm mknd mplc mclk mnc mnf mns msd mrl mrow mw mb mway moff) t) (va_A (wM ad cI cL cO mth msc mec msrc mitm mknd mplc mclk mnc mnf mns msd mrl mrow mw mb mway moff) sz)) (XT D vwCl (tysX cI cL cO) (va_A (wM ad cI cL cO mth msc mec msrc mitm mknd mplc mclk mnc mnf mns msd mrl mrow mw mb mway moff) sz) (wM ad cI cL cO mth msc mec msrc mitm mknd mplc mclk mnc mnf mns msd mrl mrow mw mb mway moff) (fun _ => False)) rm_M_refused.cells rm_M_refused.slots (va_A (wM ad cI cL cO mth msc mec msrc mitm mknd mplc mclk mnc mnf mns msd mrl mrow mw mb mway moff) sz) := by
  refine x_met [.ref (ad 0), .int a1, .int a2, .int a3] TBL_good (by decide) (Nat.le_of_ble_eq_true rfl) ?_
  intro p e s m args below meth c hC hr hlk hnm hnh
  have hret : ∀ (ce sl : Nat), ce ≤ rm_M_refused.cells → sl ≤ rm_M_refused.slots → ∀ (r : Int32) (u : Int32), x_bool r → Qr r u → ∀ (pc : Nat) (lv : List (Nat × Value)), decode bM_refused pc = .ok (.ireturn, 1) → XW p l e rm_M_refused s m args below meth c D vwCl (va_A (wM ad cI cL cO mth msc mec msrc mitm mknd mplc mclk mnc mnf mns msd mrl mrow mw mb mway moff) sz) 4 (vx_MQ below (va_Qi Qr (fun u t => XB D vwCl (tysX cI cL cO) (va_A (wM ad cI cL cO mth msc mec msrc mitm mknd mplc mclk mnc mnf mns msd mrl mrow mw mb mway moff) sz) (wM ad cI cL cO u msc mec msrc mitm mknd mplc mclk mnc mnf mns msd mrl mrow mw mb mway moff) t) (va_A (wM ad cI cL cO mth msc mec msrc mitm mknd mplc mclk mnc mnf mns msd mrl mrow mw mb mway moff) sz)) (XT D vwCl (tysX cI cL cO) (va_A (wM ad cI cL cO mth msc mec msrc mitm mknd mplc mclk mnc mnf mns msd mrl mrow mw mb mway moff) sz) (wM ad cI cL cO mth msc mec msrc mitm mknd mplc mclk mnc mnf mns msd mrl mrow mw mb mway moff) (fun _ => False)) args s rm_M_refused.cells rm_M_refused.slots (va_A (wM ad cI cL cO mth msc mec msrc mitm mknd mplc mclk mnc mnf mns msd mrl mrow mw mb mway moff) sz)) ce sl (wM ad cI cL cO u msc mec msrc mitm mknd mplc mclk mnc mnf mns msd mrl mrow mw mb mway moff) pc lv [.int r] := fun ce sl h1 h2 r u hb9 hq pc lv hd => x_zret (wf := fun u => (wM ad cI cL cO u msc mec msrc mitm mknd mplc mclk mnc mnf mns msd mrl mrow mw mb mway moff)) hC h1 h2 hr hlk hb9 hd hq rfl
  show XW p l e rm_M_refused s m args below meth c D vwCl (va_A (wM ad cI cL cO mth msc mec msrc mitm mknd mplc mclk mnc mnf mns msd mrl mrow mw mb mway moff) sz) 4 _ 0 0 (wM ad cI cL cO mth msc mec msrc mitm mknd mplc mclk mnc mnf mns msd mrl mrow mw mb mway moff) 0 [(0, .ref (ad 0)), (1, .int a1), (2, .int a2), (3, .int a3)] []
  unfold M_refused_wp at h
  refine x_aload_n hC dM_refused_0 rfl 0 rfl ?_
  refine x_iload_n hC dM_refused_1 rfl 1 rfl ?_
  refine x_if_eq (tgt := 9) hC dM_refused_2 (by decide) (fun c_1 => ?_) (fun c_1 => ?_)
  · have h := h.1 c_1
    refine x_iload_n hC dM_refused_9 rfl 2 rfl ?_
    refine x_if_eq (tgt := 17) hC dM_refused_10 (by decide) (fun c_2 => ?_) (fun c_2 => ?_)
    · have h := h.1 c_2
      refine x_iload_n hC dM_refused_17 rfl 3 rfl ?_
      refine x_if_eq (tgt := 25) hC dM_refused_18 (by decide) (fun c_3 => ?_) (fun c_3 => ?_)
      · have h := h.1 c_3
        refine x_iconst (v := 0) hC dM_refused_25 (by decide) ?_
        refine x_lv [0] rfl ?_
        exact M_refused_B26_ok hC (hret _ _ (by decide) (by decide)) h
      · have h := h.2 c_3
        refine x_iconst (v := 3) hC dM_refused_21 (by decide) ?_
        refine x_goto (tgt := 26) hC dM_refused_22 (by decide) ?_
        refine x_lv [0] rfl ?_
        exact M_refused_B26_ok hC (hret _ _ (by decide) (by decide)) h
    · have h := h.2 c_2
      refine x_iconst (v := 2) hC dM_refused_13 (by decide) ?_
      refine x_goto (tgt := 26) hC dM_refused_14 (by decide) ?_
      refine x_lv [0] rfl ?_
      exact M_refused_B26_ok hC (hret _ _ (by decide) (by decide)) h
  · have h := h.2 c_1
    refine x_iconst (v := 1) hC dM_refused_5 (by decide) ?_
    refine x_goto (tgt := 26) hC dM_refused_6 (by decide) ?_
    refine x_lv [0] rfl ?_
    exact M_refused_B26_ok hC (hret _ _ (by decide) (by decide)) h

/-! EventOrderModel.source()I -/
abbrev rm_M_source : Room := { frames := 1, cells := 0, slots := 0, locals := 23 }
def M_source_B15 (s0 : Int32) (mth : Int32) (msc : Int32) (msd : Int32) (Qr : Int32 → (Int32 × Int32 × Int32) → Prop) : Prop := M_refused_wp mth s0 0 0 (fun (r_2 : Int32) (u_3 : Int32) => ((r_2 = 0 → Qr ((msc + 1) - 1) (u_3, msc + 1, 0)) ∧ (¬ r_2 = 0 → Qr 0 (u_3, msc, msd))))

def M_source_wp (mth : Int32) (msc : Int32) (msd : Int32) (Qr : Int32 → (Int32 × Int32 × Int32) → Prop) : Prop := ((¬ msc = 16 → M_source_B15 0 mth msc msd Qr) ∧ (msc = 16 → M_source_B15 1 mth msc msd Qr))
set_option maxHeartbeats 4000000 in
set_option maxRecDepth 100000 in
theorem M_source_B15_ok {p : Program} {l : Launch} {e : Env} {s : State} {m : MethodId} {args : Array Value} {below : List Frame} {meth : Method} {c : Code} {Q : State → Prop} {D : va_G} {A : Nat → Prop} {ad : Nat → Nat} {cI cL cO : ClassId} {mth : Int32} {msc : Int32} {mec : Int32} {msrc : (Nat → Int32)} {mitm : (Nat → Int32)} {mknd : (Nat → Int32)} {mplc : (Nat → Int32)} {mclk : (Nat → Int64)} {mnc : Int32} {mnf : (Nat → Int32)} {mns : (Nat → Int32)} {msd : Int32} {mrl : Int32} {mrow : (Nat → Int32)} {mw : (Nat → Int64)} {mb : (Nat → Int64)} {mway : (Nat → Int64)} {moff : (Nat → Int64)} {s0 : Int32} {Qr : Int32 → (Int32 × Int32 × Int32) → Prop} (hC : XC p s m args c D vwCl (tysX cI cL cO) A 1 bM_source TBL RM) (hret : ∀ (r : Int32) (u : (Int32 × Int32 × Int32)), Qr r u → ∀ (pc : Nat) (lv : List (Nat × Value)), decode bM_source pc = .ok (.ireturn, 1) → XW p l e rm_M_source s m args below meth c D vwCl A 1 Q 0 0 (wM ad cI cL cO u.1 u.2.1 mec msrc mitm mknd mplc mclk mnc mnf mns u.2.2 mrl mrow mw mb mway moff) pc lv [.int r]) (h : M_source_B15 s0 mth msc msd Qr) : XW p l e rm_M_source s m args below meth c D vwCl A 1 Q 0 0 (wM ad cI cL cO mth msc mec msrc mitm mknd mplc mclk mnc mnf mns msd mrl mrow mw mb mway moff) 15 [(0, .ref (ad 0))] [.int s0, .ref (ad 0)] := by
  unfold M_source_B15 at h
  refine x_iconst (v := 0) hC dM_source_15 (by decide) ?_
  refine x_iconst (v := 0) hC dM_source_16 (by decide) ?_
  refine x_callVi (S := Int32) (wf := fun u => (wM ad cI cL cO u msc mec msrc mitm mknd mplc mclk mnc mnf mns msd mrl mrow mw mb mway moff)) hC [.int s0, .int 0, .int 0] (fun sz => c_M_refused h sz) (by decide) (by decide) k_m3 k_m4 k_m5 (by decide) 3 rfl (by decide +kernel) ⟨by decide, by decide⟩ (Nat.le_of_ble_eq_true rfl) k_m6 k_m7 wM_0 rfl rfl dM_source_17 (fun _ h9 => h9) (fun r_2 u_3 h => ?_)
  refine x_if_eq (tgt := 25) hC dM_source_20 (by decide) (fun c_4 => ?_) (fun c_4 => ?_)
  · have h := h.1 c_4
    refine x_aload_n hC dM_source_25 rfl 0 rfl ?_
    refine x_dup hC dM_source_26 rfl ?_
    refine x_get hC iM 0 wM_0 rfl 1 (by decide) k_m1 rfl rfl dM_source_27 ?_
    refine x_iconst (v := 1) hC dM_source_30 (by decide) ?_
    refine x_iadd hC dM_source_31 ?_
    refine x_put (ty := .int) (ws' := (wM ad cI cL cO u_3 (msc + 1) mec msrc mitm mknd mplc mclk mnc mnf mns msd mrl mrow mw mb mway moff)) hC iM 0 wM_0 rfl 1 (by decide) k_m1 rfl tM tM_ok nM rfl (by decide +kernel) rfl rfl (Nat.le_of_ble_eq_true rfl) rfl dM_source_32 ?_
    refine x_aload_n hC dM_source_35 rfl 0 rfl ?_
    refine x_iconst (v := 0) hC dM_source_36 (by decide) ?_
    refine x_put (ty := .boolean) (ws' := (wM ad cI cL cO u_3 (msc + 1) mec msrc mitm mknd mplc mclk mnc mnf mns 0 mrl mrow mw mb mway moff)) hC iM 0 wM_0 rfl 11 (by decide) k_m2 rfl tM tM_ok nM rfl (by decide +kernel) rfl rfl (Nat.le_of_ble_eq_true rfl) rfl dM_source_37 ?_
    refine x_aload_n hC dM_source_40 rfl 0 rfl ?_
    refine x_get hC iM 0 wM_0 rfl 1 (by decide) k_m1 rfl rfl dM_source_41 ?_
    refine x_iconst (v := 1) hC dM_source_44 (by decide) ?_
    refine x_isub hC dM_source_45 ?_
    exact hret ((msc + 1) - 1) (u_3, msc + 1, 0) h _ _ dM_source_46
  · have h := h.2 c_4
    refine x_iconst (v := 0) hC dM_source_23 (by decide) ?_
    exact hret 0 (u_3, msc, msd) h _ _ dM_source_24

set_option maxHeartbeats 4000000 in
set_option maxRecDepth 100000 in
theorem c_M_source {l : Launch} {D : va_G} {ad : Nat → Nat} {cI cL cO : ClassId} {mth : Int32} {msc : Int32} {mec : Int32} {msrc : (Nat → Int32)} {mitm : (Nat → Int32)} {mknd : (Nat → Int32)} {mplc : (Nat → Int32)} {mclk : (Nat → Int64)} {mnc : Int32} {mnf : (Nat → Int32)} {mns : (Nat → Int32)} {msd : Int32} {mrl : Int32} {mrow : (Nat → Int32)} {mw : (Nat → Int64)} {mb : (Nat → Int64)} {mway : (Nat → Int64)} {moff : (Nat → Int64)} {Qr : Int32 → (Int32 × Int32 × Int32) → Prop} (h : M_source_wp mth msc msd Qr) (sz : Nat) : vx_Met l yM_source (Cond.code yM_source bM_source 1 (some .int) :: TBL) rm_M_source (va_Pc [.ref (ad 0)] (XP D vwCl (tysX cI cL cO) (wM ad cI cL cO mth msc mec msrc mitm mknd mplc mclk mnc mnf mns msd mrl mrow mw mb mway moff) sz)) (va_Qi Qr (fun u t => XB D vwCl (tysX cI cL cO) (va_A (wM ad cI cL cO mth msc mec msrc mitm mknd mplc mclk mnc mnf mns msd mrl mrow mw mb mway moff) sz) (wM ad cI cL cO u.1 u.2.1 mec msrc mitm mknd mplc mclk mnc mnf mns u.2.2 mrl mrow mw mb mway moff) t) (va_A (wM ad cI cL cO mth msc mec msrc mitm mknd mplc mclk mnc mnf mns msd mrl mrow mw mb mway moff) sz)) (XT D vwCl (tysX cI cL cO) (va_A (wM ad cI cL cO mth msc mec msrc mitm mknd mplc mclk mnc mnf mns msd mrl mrow mw mb mway moff) sz) (wM ad cI cL cO mth msc mec msrc mitm mknd mplc mclk mnc mnf mns msd mrl mrow mw mb mway moff) (fun _ => False)) rm_M_source.cells rm_M_source.slots (va_A (wM ad cI cL cO mth msc mec msrc mitm mknd mplc mclk mnc mnf mns msd mrl mrow mw mb mway moff) sz) := by
  refine x_met [.ref (ad 0)] TBL_good (by decide) (Nat.le_of_ble_eq_true rfl) ?_
  intro p e s m args below meth c hC hr hlk hnm hnh
  have hret : ∀ (ce sl : Nat), ce ≤ rm_M_source.cells → sl ≤ rm_M_source.slots → ∀ (r : Int32) (u : (Int32 × Int32 × Int32)), Qr r u → ∀ (pc : Nat) (lv : List (Nat × Value)), decode bM_source pc = .ok (.ireturn, 1) → XW p l e rm_M_source s m args below meth c D vwCl (va_A (wM ad cI cL cO mth msc mec msrc mitm mknd mplc mclk mnc mnf mns msd mrl mrow mw mb mway moff) sz) 1 (vx_MQ below (va_Qi Qr (fun u t => XB D vwCl (tysX cI cL cO) (va_A (wM ad cI cL cO mth msc mec msrc mitm mknd mplc mclk mnc mnf mns msd mrl mrow mw mb mway moff) sz) (wM ad cI cL cO u.1 u.2.1 mec msrc mitm mknd mplc mclk mnc mnf mns u.2.2 mrl mrow mw mb mway moff) t) (va_A (wM ad cI cL cO mth msc mec msrc mitm mknd mplc mclk mnc mnf mns msd mrl mrow mw mb mway moff) sz)) (XT D vwCl (tysX cI cL cO) (va_A (wM ad cI cL cO mth msc mec msrc mitm mknd mplc mclk mnc mnf mns msd mrl mrow mw mb mway moff) sz) (wM ad cI cL cO mth msc mec msrc mitm mknd mplc mclk mnc mnf mns msd mrl mrow mw mb mway moff) (fun _ => False)) args s rm_M_source.cells rm_M_source.slots (va_A (wM ad cI cL cO mth msc mec msrc mitm mknd mplc mclk mnc mnf mns msd mrl mrow mw mb mway moff) sz)) ce sl (wM ad cI cL cO u.1 u.2.1 mec msrc mitm mknd mplc mclk mnc mnf mns u.2.2 mrl mrow mw mb mway moff) pc lv [.int r] := fun ce sl h1 h2 r u hq pc lv hd => x_iret (wf := fun u => (wM ad cI cL cO u.1 u.2.1 mec msrc mitm mknd mplc mclk mnc mnf mns u.2.2 mrl mrow mw mb mway moff)) hC h1 h2 hr hlk hd hq rfl
  show XW p l e rm_M_source s m args below meth c D vwCl (va_A (wM ad cI cL cO mth msc mec msrc mitm mknd mplc mclk mnc mnf mns msd mrl mrow mw mb mway moff) sz) 1 _ 0 0 (wM ad cI cL cO mth msc mec msrc mitm mknd mplc mclk mnc mnf mns msd mrl mrow mw mb mway moff) 0 [(0, .ref (ad 0))] []
  unfold M_source_wp at h
  refine x_aload_n hC dM_source_0 rfl 0 rfl ?_
  refine x_aload_n hC dM_source_1 rfl 0 rfl ?_
  refine x_get hC iM 0 wM_0 rfl 1 (by decide) k_m1 rfl rfl dM_source_2 ?_
  refine x_bipush (v := 16) hC dM_source_5 (by decide) ?_
  refine x_icmp_ne (tgt := 14) hC dM_source_7 (by decide) (fun c_1 => ?_) (fun c_1 => ?_)
  · have h := h.1 c_1
    refine x_iconst (v := 0) hC dM_source_14 (by decide) ?_
    refine x_lv [0] rfl ?_
    exact M_source_B15_ok hC (hret _ _ (by decide) (by decide)) h
  · have h := h.2 c_1
    refine x_iconst (v := 1) hC dM_source_10 (by decide) ?_
    refine x_goto (tgt := 15) hC dM_source_11 (by decide) ?_
    refine x_lv [0] rfl ?_
    exact M_source_B15_ok hC (hret _ _ (by decide) (by decide)) h

/-! EventOrderModel.within(JJJ)Z -/
abbrev rm_M_within : Room := { frames := 0, cells := 0, slots := 0, locals := 0 }
def M_within_wp (a0 : Int64) (a2 : Int64) (a4 : Int64) (Qr : Int32 → Unit → Prop) : Prop := ((a0 < a2 → Qr 0 ()) ∧ (¬ a0 < a2 → ((a4 < a0 → Qr 0 ()) ∧ (¬ a4 < a0 → Qr 1 ()))))
set_option maxHeartbeats 4000000 in
set_option maxRecDepth 100000 in
theorem c_M_within {l : Launch} {D : va_G} {ad : Nat → Nat} {cI cL cO : ClassId} {mth : Int32} {msc : Int32} {mec : Int32} {msrc : (Nat → Int32)} {mitm : (Nat → Int32)} {mknd : (Nat → Int32)} {mplc : (Nat → Int32)} {mclk : (Nat → Int64)} {mnc : Int32} {mnf : (Nat → Int32)} {mns : (Nat → Int32)} {msd : Int32} {mrl : Int32} {mrow : (Nat → Int32)} {mw : (Nat → Int64)} {mb : (Nat → Int64)} {mway : (Nat → Int64)} {moff : (Nat → Int64)} {a0 : Int64} {a2 : Int64} {a4 : Int64} {Qr : Int32 → Unit → Prop} (h : M_within_wp a0 a2 a4 Qr) (sz : Nat) : vx_Met l yM_within (Cond.code yM_within bM_within 6 (some .boolean) :: TBL) rm_M_within (va_Pc [.long a0, .long a2, .long a4] (XP D vwCl (tysX cI cL cO) (wM ad cI cL cO mth msc mec msrc mitm mknd mplc mclk mnc mnf mns msd mrl mrow mw mb mway moff) sz)) (va_Qi Qr (fun u t => XB D vwCl (tysX cI cL cO) (va_A (wM ad cI cL cO mth msc mec msrc mitm mknd mplc mclk mnc mnf mns msd mrl mrow mw mb mway moff) sz) (wM ad cI cL cO mth msc mec msrc mitm mknd mplc mclk mnc mnf mns msd mrl mrow mw mb mway moff) t) (va_A (wM ad cI cL cO mth msc mec msrc mitm mknd mplc mclk mnc mnf mns msd mrl mrow mw mb mway moff) sz)) (XT D vwCl (tysX cI cL cO) (va_A (wM ad cI cL cO mth msc mec msrc mitm mknd mplc mclk mnc mnf mns msd mrl mrow mw mb mway moff) sz) (wM ad cI cL cO mth msc mec msrc mitm mknd mplc mclk mnc mnf mns msd mrl mrow mw mb mway moff) (fun _ => False)) rm_M_within.cells rm_M_within.slots (va_A (wM ad cI cL cO mth msc mec msrc mitm mknd mplc mclk mnc mnf mns msd mrl mrow mw mb mway moff) sz) := by
  refine x_met [.long a0, .long a2, .long a4] TBL_good (by decide) (Nat.le_of_ble_eq_true rfl) ?_
  intro p e s m args below meth c hC hr hlk hnm hnh
  have hret : ∀ (ce sl : Nat), ce ≤ rm_M_within.cells → sl ≤ rm_M_within.slots → ∀ (r : Int32) (u : Unit), x_bool r → Qr r u → ∀ (pc : Nat) (lv : List (Nat × Value)), decode bM_within pc = .ok (.ireturn, 1) → XW p l e rm_M_within s m args below meth c D vwCl (va_A (wM ad cI cL cO mth msc mec msrc mitm mknd mplc mclk mnc mnf mns msd mrl mrow mw mb mway moff) sz) 6 (vx_MQ below (va_Qi Qr (fun u t => XB D vwCl (tysX cI cL cO) (va_A (wM ad cI cL cO mth msc mec msrc mitm mknd mplc mclk mnc mnf mns msd mrl mrow mw mb mway moff) sz) (wM ad cI cL cO mth msc mec msrc mitm mknd mplc mclk mnc mnf mns msd mrl mrow mw mb mway moff) t) (va_A (wM ad cI cL cO mth msc mec msrc mitm mknd mplc mclk mnc mnf mns msd mrl mrow mw mb mway moff) sz)) (XT D vwCl (tysX cI cL cO) (va_A (wM ad cI cL cO mth msc mec msrc mitm mknd mplc mclk mnc mnf mns msd mrl mrow mw mb mway moff) sz) (wM ad cI cL cO mth msc mec msrc mitm mknd mplc mclk mnc mnf mns msd mrl mrow mw mb mway moff) (fun _ => False)) args s rm_M_within.cells rm_M_within.slots (va_A (wM ad cI cL cO mth msc mec msrc mitm mknd mplc mclk mnc mnf mns msd mrl mrow mw mb mway moff) sz)) ce sl (wM ad cI cL cO mth msc mec msrc mitm mknd mplc mclk mnc mnf mns msd mrl mrow mw mb mway moff) pc lv [.int r] := fun ce sl h1 h2 r u hb9 hq pc lv hd => x_zret (wf := fun u => (wM ad cI cL cO mth msc mec msrc mitm mknd mplc mclk mnc mnf mns msd mrl mrow mw mb mway moff)) hC h1 h2 hr hlk hb9 hd hq rfl
  show XW p l e rm_M_within s m args below meth c D vwCl (va_A (wM ad cI cL cO mth msc mec msrc mitm mknd mplc mclk mnc mnf mns msd mrl mrow mw mb mway moff) sz) 6 _ 0 0 (wM ad cI cL cO mth msc mec msrc mitm mknd mplc mclk mnc mnf mns msd mrl mrow mw mb mway moff) 0 [(0, .long a0), (2, .long a2), (4, .long a4)] []
  unfold M_within_wp at h
  refine x_lload_n hC dM_within_0 rfl 0 rfl ?_
  refine x_lload_n hC dM_within_1 rfl 1 rfl ?_
  refine x_lcmp_lt (tgt := 17) hC dM_within_2 dM_within_3 (by decide) (fun c_1 => ?_) (fun c_1 => ?_)
  · have h := h.1 c_1
    refine x_iconst (v := 0) hC dM_within_17 (by decide) ?_
    exact hret _ _ (by decide) (by decide) 0 () (Or.inl rfl) h _ _ dM_within_18
  · have h := h.2 c_1
    refine x_lload_n hC dM_within_6 rfl 0 rfl ?_
    refine x_lload hC dM_within_7 2 rfl ?_
    refine x_lcmp_gt (tgt := 17) hC dM_within_9 dM_within_10 (by decide) (fun c_2 => ?_) (fun c_2 => ?_)
    · have h := h.1 c_2
      refine x_iconst (v := 0) hC dM_within_17 (by decide) ?_
      exact hret _ _ (by decide) (by decide) 0 () (Or.inl rfl) h _ _ dM_within_18
    · have h := h.2 c_2
      refine x_iconst (v := 1) hC dM_within_13 (by decide) ?_
      refine x_goto (tgt := 18) hC dM_within_14 (by decide) ?_
      exact hret _ _ (by decide) (by decide) 1 () (Or.inr rfl) h _ _ dM_within_18

/-! EventOrderModel.isSource(I)Z -/
abbrev rm_M_isSource : Room := { frames := 1, cells := 0, slots := 0, locals := 25 }
def M_isSource_wp (msc : Int32) (a1 : Int32) (Qr : Int32 → Unit → Prop) : Prop := M_within_wp a1.toInt64 0 ((msc - 1).toInt64) (fun (r_1 : Int32) (u_2 : Unit) => x_bool r_1 ∧ Qr r_1 ())
set_option maxHeartbeats 4000000 in
set_option maxRecDepth 100000 in
theorem c_M_isSource {l : Launch} {D : va_G} {ad : Nat → Nat} {cI cL cO : ClassId} {mth : Int32} {msc : Int32} {mec : Int32} {msrc : (Nat → Int32)} {mitm : (Nat → Int32)} {mknd : (Nat → Int32)} {mplc : (Nat → Int32)} {mclk : (Nat → Int64)} {mnc : Int32} {mnf : (Nat → Int32)} {mns : (Nat → Int32)} {msd : Int32} {mrl : Int32} {mrow : (Nat → Int32)} {mw : (Nat → Int64)} {mb : (Nat → Int64)} {mway : (Nat → Int64)} {moff : (Nat → Int64)} {a1 : Int32} {Qr : Int32 → Unit → Prop} (h : M_isSource_wp msc a1 Qr) (sz : Nat) : vx_Met l yM_isSource (Cond.code yM_isSource bM_isSource 2 (some .boolean) :: TBL) rm_M_isSource (va_Pc [.ref (ad 0), .int a1] (XP D vwCl (tysX cI cL cO) (wM ad cI cL cO mth msc mec msrc mitm mknd mplc mclk mnc mnf mns msd mrl mrow mw mb mway moff) sz)) (va_Qi Qr (fun u t => XB D vwCl (tysX cI cL cO) (va_A (wM ad cI cL cO mth msc mec msrc mitm mknd mplc mclk mnc mnf mns msd mrl mrow mw mb mway moff) sz) (wM ad cI cL cO mth msc mec msrc mitm mknd mplc mclk mnc mnf mns msd mrl mrow mw mb mway moff) t) (va_A (wM ad cI cL cO mth msc mec msrc mitm mknd mplc mclk mnc mnf mns msd mrl mrow mw mb mway moff) sz)) (XT D vwCl (tysX cI cL cO) (va_A (wM ad cI cL cO mth msc mec msrc mitm mknd mplc mclk mnc mnf mns msd mrl mrow mw mb mway moff) sz) (wM ad cI cL cO mth msc mec msrc mitm mknd mplc mclk mnc mnf mns msd mrl mrow mw mb mway moff) (fun _ => False)) rm_M_isSource.cells rm_M_isSource.slots (va_A (wM ad cI cL cO mth msc mec msrc mitm mknd mplc mclk mnc mnf mns msd mrl mrow mw mb mway moff) sz) := by
  refine x_met [.ref (ad 0), .int a1] TBL_good (by decide) (Nat.le_of_ble_eq_true rfl) ?_
  intro p e s m args below meth c hC hr hlk hnm hnh
  have hret : ∀ (ce sl : Nat), ce ≤ rm_M_isSource.cells → sl ≤ rm_M_isSource.slots → ∀ (r : Int32) (u : Unit), x_bool r → Qr r u → ∀ (pc : Nat) (lv : List (Nat × Value)), decode bM_isSource pc = .ok (.ireturn, 1) → XW p l e rm_M_isSource s m args below meth c D vwCl (va_A (wM ad cI cL cO mth msc mec msrc mitm mknd mplc mclk mnc mnf mns msd mrl mrow mw mb mway moff) sz) 2 (vx_MQ below (va_Qi Qr (fun u t => XB D vwCl (tysX cI cL cO) (va_A (wM ad cI cL cO mth msc mec msrc mitm mknd mplc mclk mnc mnf mns msd mrl mrow mw mb mway moff) sz) (wM ad cI cL cO mth msc mec msrc mitm mknd mplc mclk mnc mnf mns msd mrl mrow mw mb mway moff) t) (va_A (wM ad cI cL cO mth msc mec msrc mitm mknd mplc mclk mnc mnf mns msd mrl mrow mw mb mway moff) sz)) (XT D vwCl (tysX cI cL cO) (va_A (wM ad cI cL cO mth msc mec msrc mitm mknd mplc mclk mnc mnf mns msd mrl mrow mw mb mway moff) sz) (wM ad cI cL cO mth msc mec msrc mitm mknd mplc mclk mnc mnf mns msd mrl mrow mw mb mway moff) (fun _ => False)) args s rm_M_isSource.cells rm_M_isSource.slots (va_A (wM ad cI cL cO mth msc mec msrc mitm mknd mplc mclk mnc mnf mns msd mrl mrow mw mb mway moff) sz)) ce sl (wM ad cI cL cO mth msc mec msrc mitm mknd mplc mclk mnc mnf mns msd mrl mrow mw mb mway moff) pc lv [.int r] := fun ce sl h1 h2 r u hb9 hq pc lv hd => x_zret (wf := fun u => (wM ad cI cL cO mth msc mec msrc mitm mknd mplc mclk mnc mnf mns msd mrl mrow mw mb mway moff)) hC h1 h2 hr hlk hb9 hd hq rfl
  show XW p l e rm_M_isSource s m args below meth c D vwCl (va_A (wM ad cI cL cO mth msc mec msrc mitm mknd mplc mclk mnc mnf mns msd mrl mrow mw mb mway moff) sz) 2 _ 0 0 (wM ad cI cL cO mth msc mec msrc mitm mknd mplc mclk mnc mnf mns msd mrl mrow mw mb mway moff) 0 [(0, .ref (ad 0)), (1, .int a1)] []
  unfold M_isSource_wp at h
  refine x_iload_n hC dM_isSource_0 rfl 1 rfl ?_
  refine x_i2l (v := a1.toInt64) hC dM_isSource_1 rfl ?_
  refine x_lconst (v := 0) hC dM_isSource_2 (by decide) ?_
  refine x_aload_n hC dM_isSource_3 rfl 0 rfl ?_
  refine x_get hC iM 0 wM_0 rfl 1 (by decide) k_m1 rfl rfl dM_isSource_4 ?_
  refine x_iconst (v := 1) hC dM_isSource_7 (by decide) ?_
  refine x_isub hC dM_isSource_8 ?_
  refine x_i2l (v := (msc - 1).toInt64) hC dM_isSource_9 rfl ?_
  refine x_callSi (S := Unit) (wf := fun u => (wM ad cI cL cO mth msc mec msrc mitm mknd mplc mclk mnc mnf mns msd mrl mrow mw mb mway moff)) hC [.long a1.toInt64, .long 0, .long ((msc - 1).toInt64)] (fun sz => c_M_within h sz) (by decide) (by decide) k_m8 k_m9 k_m10 (by decide) 3 rfl (by decide +kernel) ⟨by decide, by decide⟩ (Nat.le_of_ble_eq_true rfl) k_m11 rfl dM_isSource_10 (fun _ h9 => h9) (fun r_1 u_2 h => ?_)
  obtain ⟨hb_3, h⟩ := h
  exact hret _ _ (by decide) (by decide) r_1 () hb_3 h _ _ dM_isSource_13

/-! EventOrderModel.find(IIIIJ)I -/
abbrev rm_M_find : Room := { frames := 0, cells := 0, slots := 0, locals := 0 }
def M_find_L3 (v1 : Int32) (v2 : Int32) (v3 : Int32) (v4 : Int32) (v5 : Int64) (mec : Int32) (msrc : (Nat → Int32)) (mitm : (Nat → Int32)) (mknd : (Nat → Int32)) (mplc : (Nat → Int32)) (mclk : (Nat → Int64)) (Qr : Int32 → Unit → Prop) (Qx : Prop) : Nat → Int32 → Prop
  | 0, _ => False
  | n + 1, v7 => ((mec < v7 → Qx) ∧ (¬ mec < v7 → vp_in v7 301 ∧ ((¬ (msrc v7.toNatClampNeg) = v1 → M_find_L3 v1 v2 v3 v4 v5 mec msrc mitm mknd mplc mclk Qr Qx n (v7 + 1)) ∧ ((msrc v7.toNatClampNeg) = v1 → vp_in v7 301 ∧ ((¬ (mitm v7.toNatClampNeg) = v2 → M_find_L3 v1 v2 v3 v4 v5 mec msrc mitm mknd mplc mclk Qr Qx n (v7 + 1)) ∧ ((mitm v7.toNatClampNeg) = v2 → vp_in v7 301 ∧ ((¬ (mknd v7.toNatClampNeg) = v3 → M_find_L3 v1 v2 v3 v4 v5 mec msrc mitm mknd mplc mclk Qr Qx n (v7 + 1)) ∧ ((mknd v7.toNatClampNeg) = v3 → vp_in v7 301 ∧ ((¬ (mplc v7.toNatClampNeg) = v4 → M_find_L3 v1 v2 v3 v4 v5 mec msrc mitm mknd mplc mclk Qr Qx n (v7 + 1)) ∧ ((mplc v7.toNatClampNeg) = v4 → vp_in v7 301 ∧ ((¬ (mclk v7.toNatClampNeg) = v5 → M_find_L3 v1 v2 v3 v4 v5 mec msrc mitm mknd mplc mclk Qr Qx n (v7 + 1)) ∧ ((mclk v7.toNatClampNeg) = v5 → Qr v7 ()))))))))))))

def M_find_wp (mec : Int32) (msrc : (Nat → Int32)) (mitm : (Nat → Int32)) (mknd : (Nat → Int32)) (mplc : (Nat → Int32)) (mclk : (Nat → Int64)) (a1 : Int32) (a2 : Int32) (a3 : Int32) (a4 : Int32) (a5 : Int64) (Qr : Int32 → Unit → Prop) : Prop := (∃ n_12 : Nat, M_find_L3 a1 a2 a3 a4 a5 mec msrc mitm mknd mplc mclk Qr (Qr 0 ()) n_12 1)
set_option maxHeartbeats 4000000 in
set_option maxRecDepth 100000 in
theorem M_find_L3_ok {p : Program} {l : Launch} {e : Env} {s : State} {m : MethodId} {args : Array Value} {below : List Frame} {meth : Method} {c : Code} {Q : State → Prop} {D : va_G} {A : Nat → Prop} {ad : Nat → Nat} {cI cL cO : ClassId} {mth : Int32} {msc : Int32} {mec : Int32} {msrc : (Nat → Int32)} {mitm : (Nat → Int32)} {mknd : (Nat → Int32)} {mplc : (Nat → Int32)} {mclk : (Nat → Int64)} {mnc : Int32} {mnf : (Nat → Int32)} {mns : (Nat → Int32)} {msd : Int32} {mrl : Int32} {mrow : (Nat → Int32)} {mw : (Nat → Int64)} {mb : (Nat → Int64)} {mway : (Nat → Int64)} {moff : (Nat → Int64)} {v1 : Int32} {v2 : Int32} {v3 : Int32} {v4 : Int32} {v5 : Int64} {Qr : Int32 → Unit → Prop} {Qx : Prop} (hC : XC p s m args c D vwCl (tysX cI cL cO) A 8 bM_find TBL RM) (hret : ∀ (r : Int32) (u : Unit), Qr r u → ∀ (pc : Nat) (lv : List (Nat × Value)), decode bM_find pc = .ok (.ireturn, 1) → XW p l e rm_M_find s m args below meth c D vwCl A 8 Q 0 0 (wM ad cI cL cO mth msc mec msrc mitm mknd mplc mclk mnc mnf mns msd mrl mrow mw mb mway moff) pc lv [.int r]) (hexit : Qx → XW p l e rm_M_find s m args below meth c D vwCl A 8 Q 0 0 (wM ad cI cL cO mth msc mec msrc mitm mknd mplc mclk mnc mnf mns msd mrl mrow mw mb mway moff) 79 [] []) : ∀ (n : Nat) (v7 : Int32), M_find_L3 v1 v2 v3 v4 v5 mec msrc mitm mknd mplc mclk Qr Qx n v7 → XW p l e rm_M_find s m args below meth c D vwCl A 8 Q 0 0 (wM ad cI cL cO mth msc mec msrc mitm mknd mplc mclk mnc mnf mns msd mrl mrow mw mb mway moff) 3 [(0, .ref (ad 0)), (1, .int v1), (2, .int v2), (3, .int v3), (4, .int v4), (5, .long v5), (7, .int v7)] [] := by
  intro n
  induction n with
  | zero => intro v7 h; exact False.elim h
  | succ n ih =>
    intro v7 h
    unfold M_find_L3 at h
    refine x_iload hC dM_find_3 6 rfl ?_
    refine x_aload_n hC dM_find_5 rfl 0 rfl ?_
    refine x_get hC iM 0 wM_0 rfl 2 (by decide) k_m13 rfl rfl dM_find_6 ?_
    refine x_icmp_gt (tgt := 79) hC dM_find_9 (by decide) (fun c_1 => ?_) (fun c_1 => ?_)
    · have h := h.1 c_1
      refine x_lv [] rfl ?_
      exact hexit  h
    · have h := h.2 c_1
      refine x_aload_n hC dM_find_12 rfl 0 rfl ?_
      refine x_get hC iM 0 wM_0 rfl 3 (by decide) k_m14 rfl rfl dM_find_13 ?_
      refine x_iload hC dM_find_16 6 rfl ?_
      obtain ⟨hb_2, h⟩ := h
      refine x_iald hC 1 0 wM_1 rfl hb_2 dM_find_18 ?_
      refine x_iload_n hC dM_find_19 rfl 1 rfl ?_
      refine x_icmp_ne (tgt := 73) hC dM_find_20 (by decide) (fun c_3 => ?_) (fun c_3 => ?_)
      · have h := h.1 c_3
        refine x_iinc (v := v7 + 1) (lv' := [(7, .int (v7 + 1)), (0, .ref (ad 0)), (1, .int v1), (2, .int v2), (3, .int v3), (4, .int v4), (5, .long v5)]) hC dM_find_73 6 rfl rfl (by decide) rfl ?_
        refine x_goto (tgt := 3) hC dM_find_76 (by decide) ?_
        refine x_lv [1, 2, 3, 4, 5, 6, 0] rfl ?_
        exact ih (v7 + 1) h
      · have h := h.2 c_3
        refine x_aload_n hC dM_find_23 rfl 0 rfl ?_
        refine x_get hC iM 0 wM_0 rfl 4 (by decide) k_m15 rfl rfl dM_find_24 ?_
        refine x_iload hC dM_find_27 6 rfl ?_
        obtain ⟨hb_4, h⟩ := h
        refine x_iald hC 2 0 wM_2 rfl hb_4 dM_find_29 ?_
        refine x_iload_n hC dM_find_30 rfl 2 rfl ?_
        refine x_icmp_ne (tgt := 73) hC dM_find_31 (by decide) (fun c_5 => ?_) (fun c_5 => ?_)
        · have h := h.1 c_5
          refine x_iinc (v := v7 + 1) (lv' := [(7, .int (v7 + 1)), (0, .ref (ad 0)), (1, .int v1), (2, .int v2), (3, .int v3), (4, .int v4), (5, .long v5)]) hC dM_find_73 6 rfl rfl (by decide) rfl ?_
          refine x_goto (tgt := 3) hC dM_find_76 (by decide) ?_
          refine x_lv [1, 2, 3, 4, 5, 6, 0] rfl ?_
          exact ih (v7 + 1) h
        · have h := h.2 c_5
          refine x_aload_n hC dM_find_34 rfl 0 rfl ?_
          refine x_get hC iM 0 wM_0 rfl 5 (by decide) k_m16 rfl rfl dM_find_35 ?_
          refine x_iload hC dM_find_38 6 rfl ?_
          obtain ⟨hb_6, h⟩ := h
          refine x_iald hC 3 0 wM_3 rfl hb_6 dM_find_40 ?_
          refine x_iload_n hC dM_find_41 rfl 3 rfl ?_
          refine x_icmp_ne (tgt := 73) hC dM_find_42 (by decide) (fun c_7 => ?_) (fun c_7 => ?_)
          · have h := h.1 c_7
            refine x_iinc (v := v7 + 1) (lv' := [(7, .int (v7 + 1)), (0, .ref (ad 0)), (1, .int v1), (2, .int v2), (3, .int v3), (4, .int v4), (5, .long v5)]) hC dM_find_73 6 rfl rfl (by decide) rfl ?_
            refine x_goto (tgt := 3) hC dM_find_76 (by decide) ?_
            refine x_lv [1, 2, 3, 4, 5, 6, 0] rfl ?_
            exact ih (v7 + 1) h
          · have h := h.2 c_7
            refine x_aload_n hC dM_find_45 rfl 0 rfl ?_
            refine x_get hC iM 0 wM_0 rfl 6 (by decide) k_m17 rfl rfl dM_find_46 ?_
            refine x_iload hC dM_find_49 6 rfl ?_
            obtain ⟨hb_8, h⟩ := h
            refine x_iald hC 4 0 wM_4 rfl hb_8 dM_find_51 ?_
            refine x_iload hC dM_find_52 4 rfl ?_
            refine x_icmp_ne (tgt := 73) hC dM_find_54 (by decide) (fun c_9 => ?_) (fun c_9 => ?_)
            · have h := h.1 c_9
              refine x_iinc (v := v7 + 1) (lv' := [(7, .int (v7 + 1)), (0, .ref (ad 0)), (1, .int v1), (2, .int v2), (3, .int v3), (4, .int v4), (5, .long v5)]) hC dM_find_73 6 rfl rfl (by decide) rfl ?_
              refine x_goto (tgt := 3) hC dM_find_76 (by decide) ?_
              refine x_lv [1, 2, 3, 4, 5, 6, 0] rfl ?_
              exact ih (v7 + 1) h
            · have h := h.2 c_9
              refine x_aload_n hC dM_find_57 rfl 0 rfl ?_
              refine x_get hC iM 0 wM_0 rfl 7 (by decide) k_m18 rfl rfl dM_find_58 ?_
              refine x_iload hC dM_find_61 6 rfl ?_
              obtain ⟨hb_10, h⟩ := h
              refine x_lald hC 5 1 wM_5 rfl hb_10 dM_find_63 ?_
              refine x_lload hC dM_find_64 5 rfl ?_
              refine x_lcmp_ne (tgt := 73) hC dM_find_66 dM_find_67 (by decide) (fun c_11 => ?_) (fun c_11 => ?_)
              · have h := h.1 c_11
                refine x_iinc (v := v7 + 1) (lv' := [(7, .int (v7 + 1)), (0, .ref (ad 0)), (1, .int v1), (2, .int v2), (3, .int v3), (4, .int v4), (5, .long v5)]) hC dM_find_73 6 rfl rfl (by decide) rfl ?_
                refine x_goto (tgt := 3) hC dM_find_76 (by decide) ?_
                refine x_lv [1, 2, 3, 4, 5, 6, 0] rfl ?_
                exact ih (v7 + 1) h
              · have h := h.2 c_11
                refine x_iload hC dM_find_70 6 rfl ?_
                exact hret v7 () h _ _ dM_find_72

set_option maxHeartbeats 4000000 in
set_option maxRecDepth 100000 in
theorem c_M_find {l : Launch} {D : va_G} {ad : Nat → Nat} {cI cL cO : ClassId} {mth : Int32} {msc : Int32} {mec : Int32} {msrc : (Nat → Int32)} {mitm : (Nat → Int32)} {mknd : (Nat → Int32)} {mplc : (Nat → Int32)} {mclk : (Nat → Int64)} {mnc : Int32} {mnf : (Nat → Int32)} {mns : (Nat → Int32)} {msd : Int32} {mrl : Int32} {mrow : (Nat → Int32)} {mw : (Nat → Int64)} {mb : (Nat → Int64)} {mway : (Nat → Int64)} {moff : (Nat → Int64)} {a1 : Int32} {a2 : Int32} {a3 : Int32} {a4 : Int32} {a5 : Int64} {Qr : Int32 → Unit → Prop} (h : M_find_wp mec msrc mitm mknd mplc mclk a1 a2 a3 a4 a5 Qr) (sz : Nat) : vx_Met l yM_find (Cond.code yM_find bM_find 8 (some .int) :: TBL) rm_M_find (va_Pc [.ref (ad 0), .int a1, .int a2, .int a3, .int a4, .long a5] (XP D vwCl (tysX cI cL cO) (wM ad cI cL cO mth msc mec msrc mitm mknd mplc mclk mnc mnf mns msd mrl mrow mw mb mway moff) sz)) (va_Qi Qr (fun u t => XB D vwCl (tysX cI cL cO) (va_A (wM ad cI cL cO mth msc mec msrc mitm mknd mplc mclk mnc mnf mns msd mrl mrow mw mb mway moff) sz) (wM ad cI cL cO mth msc mec msrc mitm mknd mplc mclk mnc mnf mns msd mrl mrow mw mb mway moff) t) (va_A (wM ad cI cL cO mth msc mec msrc mitm mknd mplc mclk mnc mnf mns msd mrl mrow mw mb mway moff) sz)) (XT D vwCl (tysX cI cL cO) (va_A (wM ad cI cL cO mth msc mec msrc mitm mknd mplc mclk mnc mnf mns msd mrl mrow mw mb mway moff) sz) (wM ad cI cL cO mth msc mec msrc mitm mknd mplc mclk mnc mnf mns msd mrl mrow mw mb mway moff) (fun _ => False)) rm_M_find.cells rm_M_find.slots (va_A (wM ad cI cL cO mth msc mec msrc mitm mknd mplc mclk mnc mnf mns msd mrl mrow mw mb mway moff) sz) := by
  refine x_met [.ref (ad 0), .int a1, .int a2, .int a3, .int a4, .long a5] TBL_good (by decide) (Nat.le_of_ble_eq_true rfl) ?_
  intro p e s m args below meth c hC hr hlk hnm hnh
  have hret : ∀ (ce sl : Nat), ce ≤ rm_M_find.cells → sl ≤ rm_M_find.slots → ∀ (r : Int32) (u : Unit), Qr r u → ∀ (pc : Nat) (lv : List (Nat × Value)), decode bM_find pc = .ok (.ireturn, 1) → XW p l e rm_M_find s m args below meth c D vwCl (va_A (wM ad cI cL cO mth msc mec msrc mitm mknd mplc mclk mnc mnf mns msd mrl mrow mw mb mway moff) sz) 8 (vx_MQ below (va_Qi Qr (fun u t => XB D vwCl (tysX cI cL cO) (va_A (wM ad cI cL cO mth msc mec msrc mitm mknd mplc mclk mnc mnf mns msd mrl mrow mw mb mway moff) sz) (wM ad cI cL cO mth msc mec msrc mitm mknd mplc mclk mnc mnf mns msd mrl mrow mw mb mway moff) t) (va_A (wM ad cI cL cO mth msc mec msrc mitm mknd mplc mclk mnc mnf mns msd mrl mrow mw mb mway moff) sz)) (XT D vwCl (tysX cI cL cO) (va_A (wM ad cI cL cO mth msc mec msrc mitm mknd mplc mclk mnc mnf mns msd mrl mrow mw mb mway moff) sz) (wM ad cI cL cO mth msc mec msrc mitm mknd mplc mclk mnc mnf mns msd mrl mrow mw mb mway moff) (fun _ => False)) args s rm_M_find.cells rm_M_find.slots (va_A (wM ad cI cL cO mth msc mec msrc mitm mknd mplc mclk mnc mnf mns msd mrl mrow mw mb mway moff) sz)) ce sl (wM ad cI cL cO mth msc mec msrc mitm mknd mplc mclk mnc mnf mns msd mrl mrow mw mb mway moff) pc lv [.int r] := fun ce sl h1 h2 r u hq pc lv hd => x_iret (wf := fun u => (wM ad cI cL cO mth msc mec msrc mitm mknd mplc mclk mnc mnf mns msd mrl mrow mw mb mway moff)) hC h1 h2 hr hlk hd hq rfl
  show XW p l e rm_M_find s m args below meth c D vwCl (va_A (wM ad cI cL cO mth msc mec msrc mitm mknd mplc mclk mnc mnf mns msd mrl mrow mw mb mway moff) sz) 8 _ 0 0 (wM ad cI cL cO mth msc mec msrc mitm mknd mplc mclk mnc mnf mns msd mrl mrow mw mb mway moff) 0 [(0, .ref (ad 0)), (1, .int a1), (2, .int a2), (3, .int a3), (4, .int a4), (5, .long a5)] []
  unfold M_find_wp at h
  refine x_iconst (v := 1) hC dM_find_0 (by decide) ?_
  refine x_istore (lv' := [(7, .int 1), (0, .ref (ad 0)), (1, .int a1), (2, .int a2), (3, .int a3), (4, .int a4), (5, .long a5)]) hC dM_find_1 (by decide) rfl ?_
  obtain ⟨n_12, h⟩ := h
  refine x_lv [1, 2, 3, 4, 5, 6, 0] rfl ?_
  refine M_find_L3_ok hC (hret _ _ (by decide) (by decide)) (fun h => ?_) n_12 1 h
  refine x_iconst (v := 0) hC dM_find_79 (by decide) ?_
  exact hret _ _ (by decide) (by decide) 0 () h _ _ dM_find_80

/-! EventOrderModel.event(IIIIJ)I -/
abbrev rm_M_event : Room := { frames := 2, cells := 0, slots := 0, locals := 46 }
def M_event_B164 (v1 : Int32) (v2 : Int32) (v3 : Int32) (v4 : Int32) (v5 : Int64) (v9 : Int32) (s0 : Int32) (s1 : Int32) (s2 : Int32) (mth : Int32) (mec : Int32) (msrc : (Nat → Int32)) (mitm : (Nat → Int32)) (mknd : (Nat → Int32)) (mplc : (Nat → Int32)) (mclk : (Nat → Int64)) (msd : Int32) (Qr : Int32 → (Int32 × Int32 × (Nat → Int32) × (Nat → Int32) × (Nat → Int32) × (Nat → Int32) × (Nat → Int64) × Int32) → Prop) : Prop := M_refused_wp mth s2 s1 s0 (fun (r_10 : Int32) (u_11 : Int32) => ((¬ r_10 = 0 → Qr 0 (u_11, mec, msrc, mitm, mknd, mplc, mclk, msd)) ∧ (r_10 = 0 → ((v9 = 0 → vp_in (mec + 1) 301 ∧ vp_in (mec + 1) 301 ∧ vp_in (mec + 1) 301 ∧ vp_in (mec + 1) 301 ∧ vp_in (mec + 1) 301 ∧ Qr (mec + 1) (u_11, mec + 1, upd msrc (mec + 1).toNatClampNeg v1, upd mitm (mec + 1).toNatClampNeg v2, upd mknd (mec + 1).toNatClampNeg v3, upd mplc (mec + 1).toNatClampNeg v4, vp_updL mclk (mec + 1).toNatClampNeg v5, 0)) ∧ (¬ v9 = 0 → Qr 0 (u_11, mec, msrc, mitm, mknd, mplc, mclk, msd))))))

def M_event_B137 (v1 : Int32) (v2 : Int32) (v3 : Int32) (v4 : Int32) (v5 : Int64) (v7 : Int32) (v8 : Int32) (s0 : Int32) (mth : Int32) (mec : Int32) (msrc : (Nat → Int32)) (mitm : (Nat → Int32)) (mknd : (Nat → Int32)) (mplc : (Nat → Int32)) (mclk : (Nat → Int64)) (msd : Int32) (Qr : Int32 → (Int32 × Int32 × (Nat → Int32) × (Nat → Int32) × (Nat → Int32) × (Nat → Int32) × (Nat → Int64) × Int32) → Prop) : Prop := ((¬ s0 = 0 → M_event_B164 v1 v2 v3 v4 v5 s0 0 v8 v7 mth mec msrc mitm mknd mplc mclk msd Qr) ∧ (s0 = 0 → ((¬ mec = 300 → M_event_B164 v1 v2 v3 v4 v5 s0 0 v8 v7 mth mec msrc mitm mknd mplc mclk msd Qr) ∧ (mec = 300 → M_event_B164 v1 v2 v3 v4 v5 s0 1 v8 v7 mth mec msrc mitm mknd mplc mclk msd Qr))))

def M_event_B106 (v1 : Int32) (v2 : Int32) (v3 : Int32) (v4 : Int32) (v5 : Int64) (v7 : Int32) (s0 : Int32) (mth : Int32) (mec : Int32) (msrc : (Nat → Int32)) (mitm : (Nat → Int32)) (mknd : (Nat → Int32)) (mplc : (Nat → Int32)) (mclk : (Nat → Int64)) (msd : Int32) (Qr : Int32 → (Int32 × Int32 × (Nat → Int32) × (Nat → Int32) × (Nat → Int32) × (Nat → Int32) × (Nat → Int64) × Int32) → Prop) : Prop := ((¬ v7 = 0 → M_event_B137 v1 v2 v3 v4 v5 v7 s0 0 mth mec msrc mitm mknd mplc mclk msd Qr) ∧ (v7 = 0 → ((¬ s0 = 0 → M_event_B137 v1 v2 v3 v4 v5 v7 s0 0 mth mec msrc mitm mknd mplc mclk msd Qr) ∧ (s0 = 0 → M_find_wp mec msrc mitm mknd mplc mclk v1 v2 v3 v4 v5 (fun (r_21 : Int32) (u_22 : Unit) => ((r_21 ≤ 0 → M_event_B137 v1 v2 v3 v4 v5 v7 s0 0 mth mec msrc mitm mknd mplc mclk msd Qr) ∧ (¬ r_21 ≤ 0 → M_event_B137 v1 v2 v3 v4 v5 v7 s0 1 mth mec msrc mitm mknd mplc mclk msd Qr)))))))

def M_event_B71 (v1 : Int32) (v2 : Int32) (v3 : Int32) (v4 : Int32) (v5 : Int64) (v7 : Int32) (s0 : Int32) (mth : Int32) (mec : Int32) (msrc : (Nat → Int32)) (mitm : (Nat → Int32)) (mknd : (Nat → Int32)) (mplc : (Nat → Int32)) (mclk : (Nat → Int64)) (msd : Int32) (Qr : Int32 → (Int32 × Int32 × (Nat → Int32) × (Nat → Int32) × (Nat → Int32) × (Nat → Int32) × (Nat → Int64) × Int32) → Prop) : Prop := ((¬ s0 = 0 → M_event_B106 v1 v2 v3 v4 v5 v7 1 mth mec msrc mitm mknd mplc mclk msd Qr) ∧ (s0 = 0 → ((v3 = 1 → ((100 ≤ v2 → M_event_B106 v1 v2 v3 v4 v5 v7 1 mth mec msrc mitm mknd mplc mclk msd Qr) ∧ (¬ 100 ≤ v2 → ((100 ≤ v4 → M_event_B106 v1 v2 v3 v4 v5 v7 0 mth mec msrc mitm mknd mplc mclk msd Qr) ∧ (¬ 100 ≤ v4 → M_event_B106 v1 v2 v3 v4 v5 v7 1 mth mec msrc mitm mknd mplc mclk msd Qr))))) ∧ (¬ v3 = 1 → ((¬ v3 = 2 → M_event_B106 v1 v2 v3 v4 v5 v7 0 mth mec msrc mitm mknd mplc mclk msd Qr) ∧ (v3 = 2 → ((100 ≤ v2 → M_event_B106 v1 v2 v3 v4 v5 v7 1 mth mec msrc mitm mknd mplc mclk msd Qr) ∧ (¬ 100 ≤ v2 → ((100 ≤ v4 → M_event_B106 v1 v2 v3 v4 v5 v7 0 mth mec msrc mitm mknd mplc mclk msd Qr) ∧ (¬ 100 ≤ v4 → M_event_B106 v1 v2 v3 v4 v5 v7 1 mth mec msrc mitm mknd mplc mclk msd Qr))))))))))

def M_event_B25 (v1 : Int32) (v2 : Int32) (v3 : Int32) (v4 : Int32) (v5 : Int64) (s0 : Int32) (mth : Int32) (mec : Int32) (msrc : (Nat → Int32)) (mitm : (Nat → Int32)) (mknd : (Nat → Int32)) (mplc : (Nat → Int32)) (mclk : (Nat → Int64)) (msd : Int32) (Qr : Int32 → (Int32 × Int32 × (Nat → Int32) × (Nat → Int32) × (Nat → Int32) × (Nat → Int32) × (Nat → Int64) × Int32) → Prop) : Prop := M_within_wp v3.toInt64 0 7 (fun (r_4 : Int32) (u_5 : Unit) => ((r_4 = 0 → M_event_B71 v1 v2 v3 v4 v5 s0 1 mth mec msrc mitm mknd mplc mclk msd Qr) ∧ (¬ r_4 = 0 → M_within_wp v4.toInt64 0 199 (fun (r_30 : Int32) (u_31 : Unit) => ((r_30 = 0 → M_event_B71 v1 v2 v3 v4 v5 s0 1 mth mec msrc mitm mknd mplc mclk msd Qr) ∧ (¬ r_30 = 0 → M_within_wp v5 (-1000000000) 1000000000 (fun (r_33 : Int32) (u_34 : Unit) => ((¬ r_33 = 0 → M_event_B71 v1 v2 v3 v4 v5 s0 0 mth mec msrc mitm mknd mplc mclk msd Qr) ∧ (r_33 = 0 → M_event_B71 v1 v2 v3 v4 v5 s0 1 mth mec msrc mitm mknd mplc mclk msd Qr)))))))))

def M_event_wp (mth : Int32) (msc : Int32) (mec : Int32) (msrc : (Nat → Int32)) (mitm : (Nat → Int32)) (mknd : (Nat → Int32)) (mplc : (Nat → Int32)) (mclk : (Nat → Int64)) (msd : Int32) (a1 : Int32) (a2 : Int32) (a3 : Int32) (a4 : Int32) (a5 : Int64) (Qr : Int32 → (Int32 × Int32 × (Nat → Int32) × (Nat → Int32) × (Nat → Int32) × (Nat → Int32) × (Nat → Int64) × Int32) → Prop) : Prop := M_isSource_wp msc a1 (fun (r_1 : Int32) (u_2 : Unit) => ((r_1 = 0 → M_event_B25 a1 a2 a3 a4 a5 1 mth mec msrc mitm mknd mplc mclk msd Qr) ∧ (¬ r_1 = 0 → M_within_wp a2.toInt64 0 199 (fun (r_36 : Int32) (u_37 : Unit) => ((¬ r_36 = 0 → M_event_B25 a1 a2 a3 a4 a5 0 mth mec msrc mitm mknd mplc mclk msd Qr) ∧ (r_36 = 0 → M_event_B25 a1 a2 a3 a4 a5 1 mth mec msrc mitm mknd mplc mclk msd Qr))))))
set_option maxHeartbeats 4000000 in
set_option maxRecDepth 100000 in
theorem M_event_B164_ok {p : Program} {l : Launch} {e : Env} {s : State} {m : MethodId} {args : Array Value} {below : List Frame} {meth : Method} {c : Code} {Q : State → Prop} {D : va_G} {A : Nat → Prop} {ad : Nat → Nat} {cI cL cO : ClassId} {mth : Int32} {msc : Int32} {mec : Int32} {msrc : (Nat → Int32)} {mitm : (Nat → Int32)} {mknd : (Nat → Int32)} {mplc : (Nat → Int32)} {mclk : (Nat → Int64)} {mnc : Int32} {mnf : (Nat → Int32)} {mns : (Nat → Int32)} {msd : Int32} {mrl : Int32} {mrow : (Nat → Int32)} {mw : (Nat → Int64)} {mb : (Nat → Int64)} {mway : (Nat → Int64)} {moff : (Nat → Int64)} {v1 : Int32} {v2 : Int32} {v3 : Int32} {v4 : Int32} {v5 : Int64} {v9 : Int32} {s0 : Int32} {s1 : Int32} {s2 : Int32} {Qr : Int32 → (Int32 × Int32 × (Nat → Int32) × (Nat → Int32) × (Nat → Int32) × (Nat → Int32) × (Nat → Int64) × Int32) → Prop} (hC : XC p s m args c D vwCl (tysX cI cL cO) A 10 bM_event TBL RM) (hret : ∀ (r : Int32) (u : (Int32 × Int32 × (Nat → Int32) × (Nat → Int32) × (Nat → Int32) × (Nat → Int32) × (Nat → Int64) × Int32)), Qr r u → ∀ (pc : Nat) (lv : List (Nat × Value)), decode bM_event pc = .ok (.ireturn, 1) → XW p l e rm_M_event s m args below meth c D vwCl A 10 Q 0 0 (wM ad cI cL cO u.1 msc u.2.1 u.2.2.1 u.2.2.2.1 u.2.2.2.2.1 u.2.2.2.2.2.1 u.2.2.2.2.2.2.1 mnc mnf mns u.2.2.2.2.2.2.2 mrl mrow mw mb mway moff) pc lv [.int r]) (h : M_event_B164 v1 v2 v3 v4 v5 v9 s0 s1 s2 mth mec msrc mitm mknd mplc mclk msd Qr) : XW p l e rm_M_event s m args below meth c D vwCl A 10 Q 0 0 (wM ad cI cL cO mth msc mec msrc mitm mknd mplc mclk mnc mnf mns msd mrl mrow mw mb mway moff) 164 [(0, .ref (ad 0)), (1, .int v1), (2, .int v2), (3, .int v3), (4, .int v4), (5, .long v5), (9, .int v9)] [.int s0, .int s1, .int s2, .ref (ad 0)] := by
  unfold M_event_B164 at h
  refine x_callVi (S := Int32) (wf := fun u => (wM ad cI cL cO u msc mec msrc mitm mknd mplc mclk mnc mnf mns msd mrl mrow mw mb mway moff)) hC [.int s2, .int s1, .int s0] (fun sz => c_M_refused h sz) (by decide) (by decide) k_m3 k_m4 k_m5 (by decide) 3 rfl (by decide +kernel) ⟨by decide, by decide⟩ (Nat.le_of_ble_eq_true rfl) k_m6 k_m7 wM_0 rfl rfl dM_event_164 (fun _ h9 => h9) (fun r_10 u_11 h => ?_)
  refine x_if_ne (tgt := 175) hC dM_event_167 (by decide) (fun c_12 => ?_) (fun c_12 => ?_)
  · have h := h.1 c_12
    refine x_iconst (v := 0) hC dM_event_175 (by decide) ?_
    exact hret 0 (u_11, mec, msrc, mitm, mknd, mplc, mclk, msd) h _ _ dM_event_176
  · have h := h.2 c_12
    refine x_iload hC dM_event_170 6 rfl ?_
    refine x_if_eq (tgt := 177) hC dM_event_172 (by decide) (fun c_13 => ?_) (fun c_13 => ?_)
    · have h := h.1 c_13
      refine x_aload_n hC dM_event_177 rfl 0 rfl ?_
      refine x_dup hC dM_event_178 rfl ?_
      refine x_get hC iM 0 wM_0 rfl 2 (by decide) k_m13 rfl rfl dM_event_179 ?_
      refine x_iconst (v := 1) hC dM_event_182 (by decide) ?_
      refine x_iadd hC dM_event_183 ?_
      refine x_put (ty := .int) (ws' := (wM ad cI cL cO u_11 msc (mec + 1) msrc mitm mknd mplc mclk mnc mnf mns msd mrl mrow mw mb mway moff)) hC iM 0 wM_0 rfl 2 (by decide) k_m13 rfl tM tM_ok nM rfl (by decide +kernel) rfl rfl (Nat.le_of_ble_eq_true rfl) rfl dM_event_184 ?_
      refine x_aload_n hC dM_event_187 rfl 0 rfl ?_
      refine x_get hC iM 0 wM_0 rfl 3 (by decide) k_m14 rfl rfl dM_event_188 ?_
      refine x_aload_n hC dM_event_191 rfl 0 rfl ?_
      refine x_get hC iM 0 wM_0 rfl 2 (by decide) k_m13 rfl rfl dM_event_192 ?_
      refine x_iload_n hC dM_event_195 rfl 1 rfl ?_
      obtain ⟨hb_14, h⟩ := h
      refine x_iast (ws' := (wM ad cI cL cO u_11 msc (mec + 1) (upd msrc (mec + 1).toNatClampNeg v1) mitm mknd mplc mclk mnc mnf mns msd mrl mrow mw mb mway moff)) hC 1 0 wM_1 rfl hb_14 wM_1_set dM_event_196 ?_
      refine x_aload_n hC dM_event_197 rfl 0 rfl ?_
      refine x_get hC iM 0 wM_0 rfl 4 (by decide) k_m15 rfl rfl dM_event_198 ?_
      refine x_aload_n hC dM_event_201 rfl 0 rfl ?_
      refine x_get hC iM 0 wM_0 rfl 2 (by decide) k_m13 rfl rfl dM_event_202 ?_
      refine x_iload_n hC dM_event_205 rfl 2 rfl ?_
      obtain ⟨hb_15, h⟩ := h
      refine x_iast (ws' := (wM ad cI cL cO u_11 msc (mec + 1) (upd msrc (mec + 1).toNatClampNeg v1) (upd mitm (mec + 1).toNatClampNeg v2) mknd mplc mclk mnc mnf mns msd mrl mrow mw mb mway moff)) hC 2 0 wM_2 rfl hb_15 wM_2_set dM_event_206 ?_
      refine x_aload_n hC dM_event_207 rfl 0 rfl ?_
      refine x_get hC iM 0 wM_0 rfl 5 (by decide) k_m16 rfl rfl dM_event_208 ?_
      refine x_aload_n hC dM_event_211 rfl 0 rfl ?_
      refine x_get hC iM 0 wM_0 rfl 2 (by decide) k_m13 rfl rfl dM_event_212 ?_
      refine x_iload_n hC dM_event_215 rfl 3 rfl ?_
      obtain ⟨hb_16, h⟩ := h
      refine x_iast (ws' := (wM ad cI cL cO u_11 msc (mec + 1) (upd msrc (mec + 1).toNatClampNeg v1) (upd mitm (mec + 1).toNatClampNeg v2) (upd mknd (mec + 1).toNatClampNeg v3) mplc mclk mnc mnf mns msd mrl mrow mw mb mway moff)) hC 3 0 wM_3 rfl hb_16 wM_3_set dM_event_216 ?_
      refine x_aload_n hC dM_event_217 rfl 0 rfl ?_
      refine x_get hC iM 0 wM_0 rfl 6 (by decide) k_m17 rfl rfl dM_event_218 ?_
      refine x_aload_n hC dM_event_221 rfl 0 rfl ?_
      refine x_get hC iM 0 wM_0 rfl 2 (by decide) k_m13 rfl rfl dM_event_222 ?_
      refine x_iload hC dM_event_225 4 rfl ?_
      obtain ⟨hb_17, h⟩ := h
      refine x_iast (ws' := (wM ad cI cL cO u_11 msc (mec + 1) (upd msrc (mec + 1).toNatClampNeg v1) (upd mitm (mec + 1).toNatClampNeg v2) (upd mknd (mec + 1).toNatClampNeg v3) (upd mplc (mec + 1).toNatClampNeg v4) mclk mnc mnf mns msd mrl mrow mw mb mway moff)) hC 4 0 wM_4 rfl hb_17 wM_4_set dM_event_227 ?_
      refine x_aload_n hC dM_event_228 rfl 0 rfl ?_
      refine x_get hC iM 0 wM_0 rfl 7 (by decide) k_m18 rfl rfl dM_event_229 ?_
      refine x_aload_n hC dM_event_232 rfl 0 rfl ?_
      refine x_get hC iM 0 wM_0 rfl 2 (by decide) k_m13 rfl rfl dM_event_233 ?_
      refine x_lload hC dM_event_236 5 rfl ?_
      obtain ⟨hb_18, h⟩ := h
      refine x_last (ws' := (wM ad cI cL cO u_11 msc (mec + 1) (upd msrc (mec + 1).toNatClampNeg v1) (upd mitm (mec + 1).toNatClampNeg v2) (upd mknd (mec + 1).toNatClampNeg v3) (upd mplc (mec + 1).toNatClampNeg v4) (vp_updL mclk (mec + 1).toNatClampNeg v5) mnc mnf mns msd mrl mrow mw mb mway moff)) hC 5 1 wM_5 rfl hb_18 wM_5_set dM_event_238 ?_
      refine x_aload_n hC dM_event_239 rfl 0 rfl ?_
      refine x_iconst (v := 0) hC dM_event_240 (by decide) ?_
      refine x_put (ty := .boolean) (ws' := (wM ad cI cL cO u_11 msc (mec + 1) (upd msrc (mec + 1).toNatClampNeg v1) (upd mitm (mec + 1).toNatClampNeg v2) (upd mknd (mec + 1).toNatClampNeg v3) (upd mplc (mec + 1).toNatClampNeg v4) (vp_updL mclk (mec + 1).toNatClampNeg v5) mnc mnf mns 0 mrl mrow mw mb mway moff)) hC iM 0 wM_0 rfl 11 (by decide) k_m2 rfl tM tM_ok nM rfl (by decide +kernel) rfl rfl (Nat.le_of_ble_eq_true rfl) rfl dM_event_241 ?_
      refine x_aload_n hC dM_event_244 rfl 0 rfl ?_
      refine x_get hC iM 0 wM_0 rfl 2 (by decide) k_m13 rfl rfl dM_event_245 ?_
      exact hret (mec + 1) (u_11, mec + 1, upd msrc (mec + 1).toNatClampNeg v1, upd mitm (mec + 1).toNatClampNeg v2, upd mknd (mec + 1).toNatClampNeg v3, upd mplc (mec + 1).toNatClampNeg v4, vp_updL mclk (mec + 1).toNatClampNeg v5, 0) h _ _ dM_event_248
    · have h := h.2 c_13
      refine x_iconst (v := 0) hC dM_event_175 (by decide) ?_
      exact hret 0 (u_11, mec, msrc, mitm, mknd, mplc, mclk, msd) h _ _ dM_event_176

set_option maxHeartbeats 4000000 in
set_option maxRecDepth 100000 in
theorem M_event_B137_ok {p : Program} {l : Launch} {e : Env} {s : State} {m : MethodId} {args : Array Value} {below : List Frame} {meth : Method} {c : Code} {Q : State → Prop} {D : va_G} {A : Nat → Prop} {ad : Nat → Nat} {cI cL cO : ClassId} {mth : Int32} {msc : Int32} {mec : Int32} {msrc : (Nat → Int32)} {mitm : (Nat → Int32)} {mknd : (Nat → Int32)} {mplc : (Nat → Int32)} {mclk : (Nat → Int64)} {mnc : Int32} {mnf : (Nat → Int32)} {mns : (Nat → Int32)} {msd : Int32} {mrl : Int32} {mrow : (Nat → Int32)} {mw : (Nat → Int64)} {mb : (Nat → Int64)} {mway : (Nat → Int64)} {moff : (Nat → Int64)} {v1 : Int32} {v2 : Int32} {v3 : Int32} {v4 : Int32} {v5 : Int64} {v7 : Int32} {v8 : Int32} {s0 : Int32} {Qr : Int32 → (Int32 × Int32 × (Nat → Int32) × (Nat → Int32) × (Nat → Int32) × (Nat → Int32) × (Nat → Int64) × Int32) → Prop} (hC : XC p s m args c D vwCl (tysX cI cL cO) A 10 bM_event TBL RM) (hret : ∀ (r : Int32) (u : (Int32 × Int32 × (Nat → Int32) × (Nat → Int32) × (Nat → Int32) × (Nat → Int32) × (Nat → Int64) × Int32)), Qr r u → ∀ (pc : Nat) (lv : List (Nat × Value)), decode bM_event pc = .ok (.ireturn, 1) → XW p l e rm_M_event s m args below meth c D vwCl A 10 Q 0 0 (wM ad cI cL cO u.1 msc u.2.1 u.2.2.1 u.2.2.2.1 u.2.2.2.2.1 u.2.2.2.2.2.1 u.2.2.2.2.2.2.1 mnc mnf mns u.2.2.2.2.2.2.2 mrl mrow mw mb mway moff) pc lv [.int r]) (h : M_event_B137 v1 v2 v3 v4 v5 v7 v8 s0 mth mec msrc mitm mknd mplc mclk msd Qr) : XW p l e rm_M_event s m args below meth c D vwCl A 10 Q 0 0 (wM ad cI cL cO mth msc mec msrc mitm mknd mplc mclk mnc mnf mns msd mrl mrow mw mb mway moff) 137 [(0, .ref (ad 0)), (1, .int v1), (2, .int v2), (3, .int v3), (4, .int v4), (5, .long v5), (7, .int v7), (8, .int v8)] [.int s0] := by
  unfold M_event_B137 at h
  refine x_istore (lv' := [(9, .int s0), (0, .ref (ad 0)), (1, .int v1), (2, .int v2), (3, .int v3), (4, .int v4), (5, .long v5), (7, .int v7), (8, .int v8)]) hC dM_event_137 (by decide) rfl ?_
  refine x_aload_n hC dM_event_139 rfl 1 rfl ?_
  refine x_iload hC dM_event_140 7 rfl ?_
  refine x_iload hC dM_event_142 8 rfl ?_
  refine x_iload hC dM_event_144 0 rfl ?_
  refine x_if_ne (tgt := 163) hC dM_event_146 (by decide) (fun c_9 => ?_) (fun c_9 => ?_)
  · have h := h.1 c_9
    refine x_iconst (v := 0) hC dM_event_163 (by decide) ?_
    refine x_lv [1, 2, 3, 4, 5, 6, 0] rfl ?_
    exact M_event_B164_ok hC hret h
  · have h := h.2 c_9
    refine x_aload_n hC dM_event_149 rfl 1 rfl ?_
    refine x_get hC iM 0 wM_0 rfl 2 (by decide) k_m13 rfl rfl dM_event_150 ?_
    refine x_sipush (v := 300) hC dM_event_153 (by decide) ?_
    refine x_icmp_ne (tgt := 163) hC dM_event_156 (by decide) (fun c_19 => ?_) (fun c_19 => ?_)
    · have h := h.1 c_19
      refine x_iconst (v := 0) hC dM_event_163 (by decide) ?_
      refine x_lv [1, 2, 3, 4, 5, 6, 0] rfl ?_
      exact M_event_B164_ok hC hret h
    · have h := h.2 c_19
      refine x_iconst (v := 1) hC dM_event_159 (by decide) ?_
      refine x_goto (tgt := 164) hC dM_event_160 (by decide) ?_
      refine x_lv [1, 2, 3, 4, 5, 6, 0] rfl ?_
      exact M_event_B164_ok hC hret h

set_option maxHeartbeats 4000000 in
set_option maxRecDepth 100000 in
theorem M_event_B106_ok {p : Program} {l : Launch} {e : Env} {s : State} {m : MethodId} {args : Array Value} {below : List Frame} {meth : Method} {c : Code} {Q : State → Prop} {D : va_G} {A : Nat → Prop} {ad : Nat → Nat} {cI cL cO : ClassId} {mth : Int32} {msc : Int32} {mec : Int32} {msrc : (Nat → Int32)} {mitm : (Nat → Int32)} {mknd : (Nat → Int32)} {mplc : (Nat → Int32)} {mclk : (Nat → Int64)} {mnc : Int32} {mnf : (Nat → Int32)} {mns : (Nat → Int32)} {msd : Int32} {mrl : Int32} {mrow : (Nat → Int32)} {mw : (Nat → Int64)} {mb : (Nat → Int64)} {mway : (Nat → Int64)} {moff : (Nat → Int64)} {v1 : Int32} {v2 : Int32} {v3 : Int32} {v4 : Int32} {v5 : Int64} {v7 : Int32} {s0 : Int32} {Qr : Int32 → (Int32 × Int32 × (Nat → Int32) × (Nat → Int32) × (Nat → Int32) × (Nat → Int32) × (Nat → Int64) × Int32) → Prop} (hC : XC p s m args c D vwCl (tysX cI cL cO) A 10 bM_event TBL RM) (hret : ∀ (r : Int32) (u : (Int32 × Int32 × (Nat → Int32) × (Nat → Int32) × (Nat → Int32) × (Nat → Int32) × (Nat → Int64) × Int32)), Qr r u → ∀ (pc : Nat) (lv : List (Nat × Value)), decode bM_event pc = .ok (.ireturn, 1) → XW p l e rm_M_event s m args below meth c D vwCl A 10 Q 0 0 (wM ad cI cL cO u.1 msc u.2.1 u.2.2.1 u.2.2.2.1 u.2.2.2.2.1 u.2.2.2.2.2.1 u.2.2.2.2.2.2.1 mnc mnf mns u.2.2.2.2.2.2.2 mrl mrow mw mb mway moff) pc lv [.int r]) (h : M_event_B106 v1 v2 v3 v4 v5 v7 s0 mth mec msrc mitm mknd mplc mclk msd Qr) : XW p l e rm_M_event s m args below meth c D vwCl A 10 Q 0 0 (wM ad cI cL cO mth msc mec msrc mitm mknd mplc mclk mnc mnf mns msd mrl mrow mw mb mway moff) 106 [(0, .ref (ad 0)), (1, .int v1), (2, .int v2), (3, .int v3), (4, .int v4), (5, .long v5), (7, .int v7)] [.int s0] := by
  unfold M_event_B106 at h
  refine x_istore (lv' := [(8, .int s0), (0, .ref (ad 0)), (1, .int v1), (2, .int v2), (3, .int v3), (4, .int v4), (5, .long v5), (7, .int v7)]) hC dM_event_106 (by decide) rfl ?_
  refine x_iload hC dM_event_108 7 rfl ?_
  refine x_if_ne (tgt := 136) hC dM_event_110 (by decide) (fun c_8 => ?_) (fun c_8 => ?_)
  · have h := h.1 c_8
    refine x_iconst (v := 0) hC dM_event_136 (by decide) ?_
    refine x_lv [1, 2, 3, 4, 5, 6, 7, 0] rfl ?_
    exact M_event_B137_ok hC hret h
  · have h := h.2 c_8
    refine x_iload hC dM_event_113 0 rfl ?_
    refine x_if_ne (tgt := 136) hC dM_event_115 (by decide) (fun c_20 => ?_) (fun c_20 => ?_)
    · have h := h.1 c_20
      refine x_iconst (v := 0) hC dM_event_136 (by decide) ?_
      refine x_lv [1, 2, 3, 4, 5, 6, 7, 0] rfl ?_
      exact M_event_B137_ok hC hret h
    · have h := h.2 c_20
      refine x_aload_n hC dM_event_118 rfl 1 rfl ?_
      refine x_iload_n hC dM_event_119 rfl 2 rfl ?_
      refine x_iload_n hC dM_event_120 rfl 3 rfl ?_
      refine x_iload_n hC dM_event_121 rfl 4 rfl ?_
      refine x_iload hC dM_event_122 5 rfl ?_
      refine x_lload hC dM_event_124 6 rfl ?_
      refine x_callVi (S := Unit) (wf := fun u => (wM ad cI cL cO mth msc mec msrc mitm mknd mplc mclk mnc mnf mns msd mrl mrow mw mb mway moff)) hC [.int v1, .int v2, .int v3, .int v4, .long v5] (fun sz => c_M_find h sz) (by decide) (by decide) k_m19 k_m20 k_m21 (by decide) 5 rfl (by decide +kernel) ⟨by decide, by decide⟩ (Nat.le_of_ble_eq_true rfl) k_m22 k_m23 wM_0 rfl rfl dM_event_126 (fun _ h9 => h9) (fun r_21 u_22 h => ?_)
      refine x_if_le (tgt := 136) hC dM_event_129 (by decide) (fun c_23 => ?_) (fun c_23 => ?_)
      · have h := h.1 c_23
        refine x_iconst (v := 0) hC dM_event_136 (by decide) ?_
        refine x_lv [1, 2, 3, 4, 5, 6, 7, 0] rfl ?_
        exact M_event_B137_ok hC hret h
      · have h := h.2 c_23
        refine x_iconst (v := 1) hC dM_event_132 (by decide) ?_
        refine x_goto (tgt := 137) hC dM_event_133 (by decide) ?_
        refine x_lv [1, 2, 3, 4, 5, 6, 7, 0] rfl ?_
        exact M_event_B137_ok hC hret h

set_option maxHeartbeats 4000000 in
set_option maxRecDepth 100000 in
theorem M_event_B71_ok {p : Program} {l : Launch} {e : Env} {s : State} {m : MethodId} {args : Array Value} {below : List Frame} {meth : Method} {c : Code} {Q : State → Prop} {D : va_G} {A : Nat → Prop} {ad : Nat → Nat} {cI cL cO : ClassId} {mth : Int32} {msc : Int32} {mec : Int32} {msrc : (Nat → Int32)} {mitm : (Nat → Int32)} {mknd : (Nat → Int32)} {mplc : (Nat → Int32)} {mclk : (Nat → Int64)} {mnc : Int32} {mnf : (Nat → Int32)} {mns : (Nat → Int32)} {msd : Int32} {mrl : Int32} {mrow : (Nat → Int32)} {mw : (Nat → Int64)} {mb : (Nat → Int64)} {mway : (Nat → Int64)} {moff : (Nat → Int64)} {v1 : Int32} {v2 : Int32} {v3 : Int32} {v4 : Int32} {v5 : Int64} {v7 : Int32} {s0 : Int32} {Qr : Int32 → (Int32 × Int32 × (Nat → Int32) × (Nat → Int32) × (Nat → Int32) × (Nat → Int32) × (Nat → Int64) × Int32) → Prop} (hC : XC p s m args c D vwCl (tysX cI cL cO) A 10 bM_event TBL RM) (hret : ∀ (r : Int32) (u : (Int32 × Int32 × (Nat → Int32) × (Nat → Int32) × (Nat → Int32) × (Nat → Int32) × (Nat → Int64) × Int32)), Qr r u → ∀ (pc : Nat) (lv : List (Nat × Value)), decode bM_event pc = .ok (.ireturn, 1) → XW p l e rm_M_event s m args below meth c D vwCl A 10 Q 0 0 (wM ad cI cL cO u.1 msc u.2.1 u.2.2.1 u.2.2.2.1 u.2.2.2.2.1 u.2.2.2.2.2.1 u.2.2.2.2.2.2.1 mnc mnf mns u.2.2.2.2.2.2.2 mrl mrow mw mb mway moff) pc lv [.int r]) (h : M_event_B71 v1 v2 v3 v4 v5 v7 s0 mth mec msrc mitm mknd mplc mclk msd Qr) : XW p l e rm_M_event s m args below meth c D vwCl A 10 Q 0 0 (wM ad cI cL cO mth msc mec msrc mitm mknd mplc mclk mnc mnf mns msd mrl mrow mw mb mway moff) 71 [(0, .ref (ad 0)), (1, .int v1), (2, .int v2), (3, .int v3), (4, .int v4), (5, .long v5), (7, .int v7)] [.int s0] := by
  unfold M_event_B71 at h
  refine x_istore (lv' := [(8, .int s0), (0, .ref (ad 0)), (1, .int v1), (2, .int v2), (3, .int v3), (4, .int v4), (5, .long v5), (7, .int v7)]) hC dM_event_71 (by decide) rfl ?_
  refine x_iload hC dM_event_73 0 rfl ?_
  refine x_if_ne (tgt := 101) hC dM_event_75 (by decide) (fun c_7 => ?_) (fun c_7 => ?_)
  · have h := h.1 c_7
    refine x_iconst (v := 1) hC dM_event_101 (by decide) ?_
    refine x_goto (tgt := 106) hC dM_event_102 (by decide) ?_
    refine x_lv [1, 2, 3, 4, 5, 6, 7] rfl ?_
    exact M_event_B106_ok hC hret h
  · have h := h.2 c_7
    refine x_iload_n hC dM_event_78 rfl 4 rfl ?_
    refine x_iconst (v := 1) hC dM_event_79 (by decide) ?_
    refine x_icmp_eq (tgt := 88) hC dM_event_80 (by decide) (fun c_24 => ?_) (fun c_24 => ?_)
    · have h := h.1 c_24
      refine x_iload_n hC dM_event_88 rfl 3 rfl ?_
      refine x_bipush (v := 100) hC dM_event_89 (by decide) ?_
      refine x_icmp_ge (tgt := 101) hC dM_event_91 (by decide) (fun c_25 => ?_) (fun c_25 => ?_)
      · have h := h.1 c_25
        refine x_iconst (v := 1) hC dM_event_101 (by decide) ?_
        refine x_goto (tgt := 106) hC dM_event_102 (by decide) ?_
        refine x_lv [1, 2, 3, 4, 5, 6, 7] rfl ?_
        exact M_event_B106_ok hC hret h
      · have h := h.2 c_25
        refine x_iload hC dM_event_94 5 rfl ?_
        refine x_bipush (v := 100) hC dM_event_96 (by decide) ?_
        refine x_icmp_ge (tgt := 105) hC dM_event_98 (by decide) (fun c_26 => ?_) (fun c_26 => ?_)
        · have h := h.1 c_26
          refine x_iconst (v := 0) hC dM_event_105 (by decide) ?_
          refine x_lv [1, 2, 3, 4, 5, 6, 7] rfl ?_
          exact M_event_B106_ok hC hret h
        · have h := h.2 c_26
          refine x_iconst (v := 1) hC dM_event_101 (by decide) ?_
          refine x_goto (tgt := 106) hC dM_event_102 (by decide) ?_
          refine x_lv [1, 2, 3, 4, 5, 6, 7] rfl ?_
          exact M_event_B106_ok hC hret h
    · have h := h.2 c_24
      refine x_iload_n hC dM_event_83 rfl 4 rfl ?_
      refine x_iconst (v := 2) hC dM_event_84 (by decide) ?_
      refine x_icmp_ne (tgt := 105) hC dM_event_85 (by decide) (fun c_27 => ?_) (fun c_27 => ?_)
      · have h := h.1 c_27
        refine x_iconst (v := 0) hC dM_event_105 (by decide) ?_
        refine x_lv [1, 2, 3, 4, 5, 6, 7] rfl ?_
        exact M_event_B106_ok hC hret h
      · have h := h.2 c_27
        refine x_iload_n hC dM_event_88 rfl 3 rfl ?_
        refine x_bipush (v := 100) hC dM_event_89 (by decide) ?_
        refine x_icmp_ge (tgt := 101) hC dM_event_91 (by decide) (fun c_28 => ?_) (fun c_28 => ?_)
        · have h := h.1 c_28
          refine x_iconst (v := 1) hC dM_event_101 (by decide) ?_
          refine x_goto (tgt := 106) hC dM_event_102 (by decide) ?_
          refine x_lv [1, 2, 3, 4, 5, 6, 7] rfl ?_
          exact M_event_B106_ok hC hret h
        · have h := h.2 c_28
          refine x_iload hC dM_event_94 5 rfl ?_
          refine x_bipush (v := 100) hC dM_event_96 (by decide) ?_
          refine x_icmp_ge (tgt := 105) hC dM_event_98 (by decide) (fun c_29 => ?_) (fun c_29 => ?_)
          · have h := h.1 c_29
            refine x_iconst (v := 0) hC dM_event_105 (by decide) ?_
            refine x_lv [1, 2, 3, 4, 5, 6, 7] rfl ?_
            exact M_event_B106_ok hC hret h
          · have h := h.2 c_29
            refine x_iconst (v := 1) hC dM_event_101 (by decide) ?_
            refine x_goto (tgt := 106) hC dM_event_102 (by decide) ?_
            refine x_lv [1, 2, 3, 4, 5, 6, 7] rfl ?_
            exact M_event_B106_ok hC hret h

set_option maxHeartbeats 4000000 in
set_option maxRecDepth 100000 in
theorem M_event_B25_ok {p : Program} {l : Launch} {e : Env} {s : State} {m : MethodId} {args : Array Value} {below : List Frame} {meth : Method} {c : Code} {Q : State → Prop} {D : va_G} {A : Nat → Prop} {ad : Nat → Nat} {cI cL cO : ClassId} {mth : Int32} {msc : Int32} {mec : Int32} {msrc : (Nat → Int32)} {mitm : (Nat → Int32)} {mknd : (Nat → Int32)} {mplc : (Nat → Int32)} {mclk : (Nat → Int64)} {mnc : Int32} {mnf : (Nat → Int32)} {mns : (Nat → Int32)} {msd : Int32} {mrl : Int32} {mrow : (Nat → Int32)} {mw : (Nat → Int64)} {mb : (Nat → Int64)} {mway : (Nat → Int64)} {moff : (Nat → Int64)} {v1 : Int32} {v2 : Int32} {v3 : Int32} {v4 : Int32} {v5 : Int64} {s0 : Int32} {Qr : Int32 → (Int32 × Int32 × (Nat → Int32) × (Nat → Int32) × (Nat → Int32) × (Nat → Int32) × (Nat → Int64) × Int32) → Prop} (hC : XC p s m args c D vwCl (tysX cI cL cO) A 10 bM_event TBL RM) (hret : ∀ (r : Int32) (u : (Int32 × Int32 × (Nat → Int32) × (Nat → Int32) × (Nat → Int32) × (Nat → Int32) × (Nat → Int64) × Int32)), Qr r u → ∀ (pc : Nat) (lv : List (Nat × Value)), decode bM_event pc = .ok (.ireturn, 1) → XW p l e rm_M_event s m args below meth c D vwCl A 10 Q 0 0 (wM ad cI cL cO u.1 msc u.2.1 u.2.2.1 u.2.2.2.1 u.2.2.2.2.1 u.2.2.2.2.2.1 u.2.2.2.2.2.2.1 mnc mnf mns u.2.2.2.2.2.2.2 mrl mrow mw mb mway moff) pc lv [.int r]) (h : M_event_B25 v1 v2 v3 v4 v5 s0 mth mec msrc mitm mknd mplc mclk msd Qr) : XW p l e rm_M_event s m args below meth c D vwCl A 10 Q 0 0 (wM ad cI cL cO mth msc mec msrc mitm mknd mplc mclk mnc mnf mns msd mrl mrow mw mb mway moff) 25 [(0, .ref (ad 0)), (1, .int v1), (2, .int v2), (3, .int v3), (4, .int v4), (5, .long v5)] [.int s0] := by
  unfold M_event_B25 at h
  refine x_istore (lv' := [(7, .int s0), (0, .ref (ad 0)), (1, .int v1), (2, .int v2), (3, .int v3), (4, .int v4), (5, .long v5)]) hC dM_event_25 (by decide) rfl ?_
  refine x_iload_n hC dM_event_27 rfl 4 rfl ?_
  refine x_i2l (v := v3.toInt64) hC dM_event_28 rfl ?_
  refine x_lconst (v := 0) hC dM_event_29 (by decide) ?_
  refine x_ldc2 (v := 7) hC k_m12 dM_event_30 ?_
  refine x_callSi (S := Unit) (wf := fun u => (wM ad cI cL cO mth msc mec msrc mitm mknd mplc mclk mnc mnf mns msd mrl mrow mw mb mway moff)) hC [.long v3.toInt64, .long 0, .long 7] (fun sz => c_M_within h sz) (by decide) (by decide) k_m8 k_m9 k_m10 (by decide) 3 rfl (by decide +kernel) ⟨by decide, by decide⟩ (Nat.le_of_ble_eq_true rfl) k_m11 rfl dM_event_33 (fun _ h9 => h9) (fun r_4 u_5 h => ?_)
  refine x_if_eq (tgt := 66) hC dM_event_36 (by decide) (fun c_6 => ?_) (fun c_6 => ?_)
  · have h := h.1 c_6
    refine x_iconst (v := 1) hC dM_event_66 (by decide) ?_
    refine x_goto (tgt := 71) hC dM_event_67 (by decide) ?_
    refine x_lv [1, 2, 3, 4, 5, 6, 0] rfl ?_
    exact M_event_B71_ok hC hret h
  · have h := h.2 c_6
    refine x_iload hC dM_event_39 5 rfl ?_
    refine x_i2l (v := v4.toInt64) hC dM_event_41 rfl ?_
    refine x_lconst (v := 0) hC dM_event_42 (by decide) ?_
    refine x_ldc2 (v := 199) hC k_m24 dM_event_43 ?_
    refine x_callSi (S := Unit) (wf := fun u => (wM ad cI cL cO mth msc mec msrc mitm mknd mplc mclk mnc mnf mns msd mrl mrow mw mb mway moff)) hC [.long v4.toInt64, .long 0, .long 199] (fun sz => c_M_within h sz) (by decide) (by decide) k_m8 k_m9 k_m10 (by decide) 3 rfl (by decide +kernel) ⟨by decide, by decide⟩ (Nat.le_of_ble_eq_true rfl) k_m11 rfl dM_event_46 (fun _ h9 => h9) (fun r_30 u_31 h => ?_)
    refine x_if_eq (tgt := 66) hC dM_event_49 (by decide) (fun c_32 => ?_) (fun c_32 => ?_)
    · have h := h.1 c_32
      refine x_iconst (v := 1) hC dM_event_66 (by decide) ?_
      refine x_goto (tgt := 71) hC dM_event_67 (by decide) ?_
      refine x_lv [1, 2, 3, 4, 5, 6, 0] rfl ?_
      exact M_event_B71_ok hC hret h
    · have h := h.2 c_32
      refine x_lload hC dM_event_52 6 rfl ?_
      refine x_ldc2 (v := -1000000000) hC k_m25 dM_event_54 ?_
      refine x_ldc2 (v := 1000000000) hC k_m26 dM_event_57 ?_
      refine x_callSi (S := Unit) (wf := fun u => (wM ad cI cL cO mth msc mec msrc mitm mknd mplc mclk mnc mnf mns msd mrl mrow mw mb mway moff)) hC [.long v5, .long (-1000000000), .long 1000000000] (fun sz => c_M_within h sz) (by decide) (by decide) k_m8 k_m9 k_m10 (by decide) 3 rfl (by decide +kernel) ⟨by decide, by decide⟩ (Nat.le_of_ble_eq_true rfl) k_m11 rfl dM_event_60 (fun _ h9 => h9) (fun r_33 u_34 h => ?_)
      refine x_if_ne (tgt := 70) hC dM_event_63 (by decide) (fun c_35 => ?_) (fun c_35 => ?_)
      · have h := h.1 c_35
        refine x_iconst (v := 0) hC dM_event_70 (by decide) ?_
        refine x_lv [1, 2, 3, 4, 5, 6, 0] rfl ?_
        exact M_event_B71_ok hC hret h
      · have h := h.2 c_35
        refine x_iconst (v := 1) hC dM_event_66 (by decide) ?_
        refine x_goto (tgt := 71) hC dM_event_67 (by decide) ?_
        refine x_lv [1, 2, 3, 4, 5, 6, 0] rfl ?_
        exact M_event_B71_ok hC hret h

set_option maxHeartbeats 4000000 in
set_option maxRecDepth 100000 in
theorem c_M_event {l : Launch} {D : va_G} {ad : Nat → Nat} {cI cL cO : ClassId} {mth : Int32} {msc : Int32} {mec : Int32} {msrc : (Nat → Int32)} {mitm : (Nat → Int32)} {mknd : (Nat → Int32)} {mplc : (Nat → Int32)} {mclk : (Nat → Int64)} {mnc : Int32} {mnf : (Nat → Int32)} {mns : (Nat → Int32)} {msd : Int32} {mrl : Int32} {mrow : (Nat → Int32)} {mw : (Nat → Int64)} {mb : (Nat → Int64)} {mway : (Nat → Int64)} {moff : (Nat → Int64)} {a1 : Int32} {a2 : Int32} {a3 : Int32} {a4 : Int32} {a5 : Int64} {Qr : Int32 → (Int32 × Int32 × (Nat → Int32) × (Nat → Int32) × (Nat → Int32) × (Nat → Int32) × (Nat → Int64) × Int32) → Prop} (h : M_event_wp mth msc mec msrc mitm mknd mplc mclk msd a1 a2 a3 a4 a5 Qr) (sz : Nat) : vx_Met l yM_event (Cond.code yM_event bM_event 10 (some .int) :: TBL) rm_M_event (va_Pc [.ref (ad 0), .int a1, .int a2, .int a3, .int a4, .long a5] (XP D vwCl (tysX cI cL cO) (wM ad cI cL cO mth msc mec msrc mitm mknd mplc mclk mnc mnf mns msd mrl mrow mw mb mway moff) sz)) (va_Qi Qr (fun u t => XB D vwCl (tysX cI cL cO) (va_A (wM ad cI cL cO mth msc mec msrc mitm mknd mplc mclk mnc mnf mns msd mrl mrow mw mb mway moff) sz) (wM ad cI cL cO u.1 msc u.2.1 u.2.2.1 u.2.2.2.1 u.2.2.2.2.1 u.2.2.2.2.2.1 u.2.2.2.2.2.2.1 mnc mnf mns u.2.2.2.2.2.2.2 mrl mrow mw mb mway moff) t) (va_A (wM ad cI cL cO mth msc mec msrc mitm mknd mplc mclk mnc mnf mns msd mrl mrow mw mb mway moff) sz)) (XT D vwCl (tysX cI cL cO) (va_A (wM ad cI cL cO mth msc mec msrc mitm mknd mplc mclk mnc mnf mns msd mrl mrow mw mb mway moff) sz) (wM ad cI cL cO mth msc mec msrc mitm mknd mplc mclk mnc mnf mns msd mrl mrow mw mb mway moff) (fun _ => False)) rm_M_event.cells rm_M_event.slots (va_A (wM ad cI cL cO mth msc mec msrc mitm mknd mplc mclk mnc mnf mns msd mrl mrow mw mb mway moff) sz) := by
  refine x_met [.ref (ad 0), .int a1, .int a2, .int a3, .int a4, .long a5] TBL_good (by decide) (Nat.le_of_ble_eq_true rfl) ?_
  intro p e s m args below meth c hC hr hlk hnm hnh
  have hret : ∀ (ce sl : Nat), ce ≤ rm_M_event.cells → sl ≤ rm_M_event.slots → ∀ (r : Int32) (u : (Int32 × Int32 × (Nat → Int32) × (Nat → Int32) × (Nat → Int32) × (Nat → Int32) × (Nat → Int64) × Int32)), Qr r u → ∀ (pc : Nat) (lv : List (Nat × Value)), decode bM_event pc = .ok (.ireturn, 1) → XW p l e rm_M_event s m args below meth c D vwCl (va_A (wM ad cI cL cO mth msc mec msrc mitm mknd mplc mclk mnc mnf mns msd mrl mrow mw mb mway moff) sz) 10 (vx_MQ below (va_Qi Qr (fun u t => XB D vwCl (tysX cI cL cO) (va_A (wM ad cI cL cO mth msc mec msrc mitm mknd mplc mclk mnc mnf mns msd mrl mrow mw mb mway moff) sz) (wM ad cI cL cO u.1 msc u.2.1 u.2.2.1 u.2.2.2.1 u.2.2.2.2.1 u.2.2.2.2.2.1 u.2.2.2.2.2.2.1 mnc mnf mns u.2.2.2.2.2.2.2 mrl mrow mw mb mway moff) t) (va_A (wM ad cI cL cO mth msc mec msrc mitm mknd mplc mclk mnc mnf mns msd mrl mrow mw mb mway moff) sz)) (XT D vwCl (tysX cI cL cO) (va_A (wM ad cI cL cO mth msc mec msrc mitm mknd mplc mclk mnc mnf mns msd mrl mrow mw mb mway moff) sz) (wM ad cI cL cO mth msc mec msrc mitm mknd mplc mclk mnc mnf mns msd mrl mrow mw mb mway moff) (fun _ => False)) args s rm_M_event.cells rm_M_event.slots (va_A (wM ad cI cL cO mth msc mec msrc mitm mknd mplc mclk mnc mnf mns msd mrl mrow mw mb mway moff) sz)) ce sl (wM ad cI cL cO u.1 msc u.2.1 u.2.2.1 u.2.2.2.1 u.2.2.2.2.1 u.2.2.2.2.2.1 u.2.2.2.2.2.2.1 mnc mnf mns u.2.2.2.2.2.2.2 mrl mrow mw mb mway moff) pc lv [.int r] := fun ce sl h1 h2 r u hq pc lv hd => x_iret (wf := fun u => (wM ad cI cL cO u.1 msc u.2.1 u.2.2.1 u.2.2.2.1 u.2.2.2.2.1 u.2.2.2.2.2.1 u.2.2.2.2.2.2.1 mnc mnf mns u.2.2.2.2.2.2.2 mrl mrow mw mb mway moff)) hC h1 h2 hr hlk hd hq rfl
  show XW p l e rm_M_event s m args below meth c D vwCl (va_A (wM ad cI cL cO mth msc mec msrc mitm mknd mplc mclk mnc mnf mns msd mrl mrow mw mb mway moff) sz) 10 _ 0 0 (wM ad cI cL cO mth msc mec msrc mitm mknd mplc mclk mnc mnf mns msd mrl mrow mw mb mway moff) 0 [(0, .ref (ad 0)), (1, .int a1), (2, .int a2), (3, .int a3), (4, .int a4), (5, .long a5)] []
  unfold M_event_wp at h
  refine x_aload_n hC dM_event_0 rfl 0 rfl ?_
  refine x_iload_n hC dM_event_1 rfl 1 rfl ?_
  refine x_callVi (S := Unit) (wf := fun u => (wM ad cI cL cO mth msc mec msrc mitm mknd mplc mclk mnc mnf mns msd mrl mrow mw mb mway moff)) hC [.int a1] (fun sz => c_M_isSource h sz) (by decide) (by decide) k_m27 k_m28 k_m29 (by decide) 1 rfl (by decide +kernel) ⟨by decide, by decide⟩ (Nat.le_of_ble_eq_true rfl) k_m30 k_m31 wM_0 rfl rfl dM_event_2 (fun _ h9 => h9) (fun r_1 u_2 h => ?_)
  refine x_if_eq (tgt := 20) hC dM_event_5 (by decide) (fun c_3 => ?_) (fun c_3 => ?_)
  · have h := h.1 c_3
    refine x_iconst (v := 1) hC dM_event_20 (by decide) ?_
    refine x_goto (tgt := 25) hC dM_event_21 (by decide) ?_
    refine x_lv [0, 1, 2, 3, 4, 5] rfl ?_
    exact M_event_B25_ok hC (hret _ _ (by decide) (by decide)) h
  · have h := h.2 c_3
    refine x_iload_n hC dM_event_8 rfl 2 rfl ?_
    refine x_i2l (v := a2.toInt64) hC dM_event_9 rfl ?_
    refine x_lconst (v := 0) hC dM_event_10 (by decide) ?_
    refine x_ldc2 (v := 199) hC k_m24 dM_event_11 ?_
    refine x_callSi (S := Unit) (wf := fun u => (wM ad cI cL cO mth msc mec msrc mitm mknd mplc mclk mnc mnf mns msd mrl mrow mw mb mway moff)) hC [.long a2.toInt64, .long 0, .long 199] (fun sz => c_M_within h sz) (by decide) (by decide) k_m8 k_m9 k_m10 (by decide) 3 rfl (by decide +kernel) ⟨by decide, by decide⟩ (Nat.le_of_ble_eq_true rfl) k_m11 rfl dM_event_14 (fun _ h9 => h9) (fun r_36 u_37 h => ?_)
    refine x_if_ne (tgt := 24) hC dM_event_17 (by decide) (fun c_38 => ?_) (fun c_38 => ?_)
    · have h := h.1 c_38
      refine x_iconst (v := 0) hC dM_event_24 (by decide) ?_
      refine x_lv [0, 1, 2, 3, 4, 5] rfl ?_
      exact M_event_B25_ok hC (hret _ _ (by decide) (by decide)) h
    · have h := h.2 c_38
      refine x_iconst (v := 1) hC dM_event_20 (by decide) ?_
      refine x_goto (tgt := 25) hC dM_event_21 (by decide) ?_
      refine x_lv [0, 1, 2, 3, 4, 5] rfl ?_
      exact M_event_B25_ok hC (hret _ _ (by decide) (by decide)) h

/-! EventOrderModel.isEvent(I)Z -/
abbrev rm_M_isEvent : Room := { frames := 1, cells := 0, slots := 0, locals := 25 }
def M_isEvent_wp (mec : Int32) (a1 : Int32) (Qr : Int32 → Unit → Prop) : Prop := M_within_wp a1.toInt64 1 mec.toInt64 (fun (r_1 : Int32) (u_2 : Unit) => x_bool r_1 ∧ Qr r_1 ())
set_option maxHeartbeats 4000000 in
set_option maxRecDepth 100000 in
theorem c_M_isEvent {l : Launch} {D : va_G} {ad : Nat → Nat} {cI cL cO : ClassId} {mth : Int32} {msc : Int32} {mec : Int32} {msrc : (Nat → Int32)} {mitm : (Nat → Int32)} {mknd : (Nat → Int32)} {mplc : (Nat → Int32)} {mclk : (Nat → Int64)} {mnc : Int32} {mnf : (Nat → Int32)} {mns : (Nat → Int32)} {msd : Int32} {mrl : Int32} {mrow : (Nat → Int32)} {mw : (Nat → Int64)} {mb : (Nat → Int64)} {mway : (Nat → Int64)} {moff : (Nat → Int64)} {a1 : Int32} {Qr : Int32 → Unit → Prop} (h : M_isEvent_wp mec a1 Qr) (sz : Nat) : vx_Met l yM_isEvent (Cond.code yM_isEvent bM_isEvent 2 (some .boolean) :: TBL) rm_M_isEvent (va_Pc [.ref (ad 0), .int a1] (XP D vwCl (tysX cI cL cO) (wM ad cI cL cO mth msc mec msrc mitm mknd mplc mclk mnc mnf mns msd mrl mrow mw mb mway moff) sz)) (va_Qi Qr (fun u t => XB D vwCl (tysX cI cL cO) (va_A (wM ad cI cL cO mth msc mec msrc mitm mknd mplc mclk mnc mnf mns msd mrl mrow mw mb mway moff) sz) (wM ad cI cL cO mth msc mec msrc mitm mknd mplc mclk mnc mnf mns msd mrl mrow mw mb mway moff) t) (va_A (wM ad cI cL cO mth msc mec msrc mitm mknd mplc mclk mnc mnf mns msd mrl mrow mw mb mway moff) sz)) (XT D vwCl (tysX cI cL cO) (va_A (wM ad cI cL cO mth msc mec msrc mitm mknd mplc mclk mnc mnf mns msd mrl mrow mw mb mway moff) sz) (wM ad cI cL cO mth msc mec msrc mitm mknd mplc mclk mnc mnf mns msd mrl mrow mw mb mway moff) (fun _ => False)) rm_M_isEvent.cells rm_M_isEvent.slots (va_A (wM ad cI cL cO mth msc mec msrc mitm mknd mplc mclk mnc mnf mns msd mrl mrow mw mb mway moff) sz) := by
  refine x_met [.ref (ad 0), .int a1] TBL_good (by decide) (Nat.le_of_ble_eq_true rfl) ?_
  intro p e s m args below meth c hC hr hlk hnm hnh
  have hret : ∀ (ce sl : Nat), ce ≤ rm_M_isEvent.cells → sl ≤ rm_M_isEvent.slots → ∀ (r : Int32) (u : Unit), x_bool r → Qr r u → ∀ (pc : Nat) (lv : List (Nat × Value)), decode bM_isEvent pc = .ok (.ireturn, 1) → XW p l e rm_M_isEvent s m args below meth c D vwCl (va_A (wM ad cI cL cO mth msc mec msrc mitm mknd mplc mclk mnc mnf mns msd mrl mrow mw mb mway moff) sz) 2 (vx_MQ below (va_Qi Qr (fun u t => XB D vwCl (tysX cI cL cO) (va_A (wM ad cI cL cO mth msc mec msrc mitm mknd mplc mclk mnc mnf mns msd mrl mrow mw mb mway moff) sz) (wM ad cI cL cO mth msc mec msrc mitm mknd mplc mclk mnc mnf mns msd mrl mrow mw mb mway moff) t) (va_A (wM ad cI cL cO mth msc mec msrc mitm mknd mplc mclk mnc mnf mns msd mrl mrow mw mb mway moff) sz)) (XT D vwCl (tysX cI cL cO) (va_A (wM ad cI cL cO mth msc mec msrc mitm mknd mplc mclk mnc mnf mns msd mrl mrow mw mb mway moff) sz) (wM ad cI cL cO mth msc mec msrc mitm mknd mplc mclk mnc mnf mns msd mrl mrow mw mb mway moff) (fun _ => False)) args s rm_M_isEvent.cells rm_M_isEvent.slots (va_A (wM ad cI cL cO mth msc mec msrc mitm mknd mplc mclk mnc mnf mns msd mrl mrow mw mb mway moff) sz)) ce sl (wM ad cI cL cO mth msc mec msrc mitm mknd mplc mclk mnc mnf mns msd mrl mrow mw mb mway moff) pc lv [.int r] := fun ce sl h1 h2 r u hb9 hq pc lv hd => x_zret (wf := fun u => (wM ad cI cL cO mth msc mec msrc mitm mknd mplc mclk mnc mnf mns msd mrl mrow mw mb mway moff)) hC h1 h2 hr hlk hb9 hd hq rfl
  show XW p l e rm_M_isEvent s m args below meth c D vwCl (va_A (wM ad cI cL cO mth msc mec msrc mitm mknd mplc mclk mnc mnf mns msd mrl mrow mw mb mway moff) sz) 2 _ 0 0 (wM ad cI cL cO mth msc mec msrc mitm mknd mplc mclk mnc mnf mns msd mrl mrow mw mb mway moff) 0 [(0, .ref (ad 0)), (1, .int a1)] []
  unfold M_isEvent_wp at h
  refine x_iload_n hC dM_isEvent_0 rfl 1 rfl ?_
  refine x_i2l (v := a1.toInt64) hC dM_isEvent_1 rfl ?_
  refine x_lconst (v := 1) hC dM_isEvent_2 (by decide) ?_
  refine x_aload_n hC dM_isEvent_3 rfl 0 rfl ?_
  refine x_get hC iM 0 wM_0 rfl 2 (by decide) k_m13 rfl rfl dM_isEvent_4 ?_
  refine x_i2l (v := mec.toInt64) hC dM_isEvent_7 rfl ?_
  refine x_callSi (S := Unit) (wf := fun u => (wM ad cI cL cO mth msc mec msrc mitm mknd mplc mclk mnc mnf mns msd mrl mrow mw mb mway moff)) hC [.long a1.toInt64, .long 1, .long mec.toInt64] (fun sz => c_M_within h sz) (by decide) (by decide) k_m8 k_m9 k_m10 (by decide) 3 rfl (by decide +kernel) ⟨by decide, by decide⟩ (Nat.le_of_ble_eq_true rfl) k_m11 rfl dM_isEvent_8 (fun _ h9 => h9) (fun r_1 u_2 h => ?_)
  obtain ⟨hb_3, h⟩ := h
  exact hret _ _ (by decide) (by decide) r_1 () hb_3 h _ _ dM_isEvent_11

/-! EventOrderModel.need(II)I -/
abbrev rm_M_need : Room := { frames := 2, cells := 0, slots := 0, locals := 46 }
def M_need_B47 (v1 : Int32) (v2 : Int32) (s0 : Int32) (s1 : Int32) (s2 : Int32) (mth : Int32) (mnc : Int32) (mnf : (Nat → Int32)) (mns : (Nat → Int32)) (msd : Int32) (Qr : Int32 → (Int32 × Int32 × (Nat → Int32) × (Nat → Int32) × Int32) → Prop) : Prop := M_refused_wp mth s2 s1 s0 (fun (r_6 : Int32) (u_7 : Int32) => ((r_6 = 0 → vp_in mnc 300 ∧ vp_in mnc 300 ∧ Qr (mnc + 1) (u_7, mnc + 1, upd mnf mnc.toNatClampNeg v1, upd mns mnc.toNatClampNeg v2, 0)) ∧ (¬ r_6 = 0 → Qr 0 (u_7, mnc, mnf, mns, msd))))

def M_need_B32 (v1 : Int32) (v2 : Int32) (s0 : Int32) (s1 : Int32) (mth : Int32) (mnc : Int32) (mnf : (Nat → Int32)) (mns : (Nat → Int32)) (msd : Int32) (Qr : Int32 → (Int32 × Int32 × (Nat → Int32) × (Nat → Int32) × Int32) → Prop) : Prop := ((¬ mnc = 300 → M_need_B47 v1 v2 0 s0 s1 mth mnc mnf mns msd Qr) ∧ (mnc = 300 → M_need_B47 v1 v2 1 s0 s1 mth mnc mnf mns msd Qr))

def M_need_B22 (v1 : Int32) (v2 : Int32) (s0 : Int32) (mth : Int32) (mnc : Int32) (mnf : (Nat → Int32)) (mns : (Nat → Int32)) (msd : Int32) (Qr : Int32 → (Int32 × Int32 × (Nat → Int32) × (Nat → Int32) × Int32) → Prop) : Prop := ((¬ v1 = v2 → M_need_B32 v1 v2 0 s0 mth mnc mnf mns msd Qr) ∧ (v1 = v2 → M_need_B32 v1 v2 1 s0 mth mnc mnf mns msd Qr))

def M_need_wp (mth : Int32) (mec : Int32) (mnc : Int32) (mnf : (Nat → Int32)) (mns : (Nat → Int32)) (msd : Int32) (a1 : Int32) (a2 : Int32) (Qr : Int32 → (Int32 × Int32 × (Nat → Int32) × (Nat → Int32) × Int32) → Prop) : Prop := M_isEvent_wp mec a1 (fun (r_1 : Int32) (u_2 : Unit) => ((r_1 = 0 → M_need_B22 a1 a2 1 mth mnc mnf mns msd Qr) ∧ (¬ r_1 = 0 → M_isEvent_wp mec a2 (fun (r_11 : Int32) (u_12 : Unit) => ((¬ r_11 = 0 → M_need_B22 a1 a2 0 mth mnc mnf mns msd Qr) ∧ (r_11 = 0 → M_need_B22 a1 a2 1 mth mnc mnf mns msd Qr))))))
set_option maxHeartbeats 4000000 in
set_option maxRecDepth 100000 in
theorem M_need_B47_ok {p : Program} {l : Launch} {e : Env} {s : State} {m : MethodId} {args : Array Value} {below : List Frame} {meth : Method} {c : Code} {Q : State → Prop} {D : va_G} {A : Nat → Prop} {ad : Nat → Nat} {cI cL cO : ClassId} {mth : Int32} {msc : Int32} {mec : Int32} {msrc : (Nat → Int32)} {mitm : (Nat → Int32)} {mknd : (Nat → Int32)} {mplc : (Nat → Int32)} {mclk : (Nat → Int64)} {mnc : Int32} {mnf : (Nat → Int32)} {mns : (Nat → Int32)} {msd : Int32} {mrl : Int32} {mrow : (Nat → Int32)} {mw : (Nat → Int64)} {mb : (Nat → Int64)} {mway : (Nat → Int64)} {moff : (Nat → Int64)} {v1 : Int32} {v2 : Int32} {s0 : Int32} {s1 : Int32} {s2 : Int32} {Qr : Int32 → (Int32 × Int32 × (Nat → Int32) × (Nat → Int32) × Int32) → Prop} (hC : XC p s m args c D vwCl (tysX cI cL cO) A 3 bM_need TBL RM) (hret : ∀ (r : Int32) (u : (Int32 × Int32 × (Nat → Int32) × (Nat → Int32) × Int32)), Qr r u → ∀ (pc : Nat) (lv : List (Nat × Value)), decode bM_need pc = .ok (.ireturn, 1) → XW p l e rm_M_need s m args below meth c D vwCl A 3 Q 0 0 (wM ad cI cL cO u.1 msc mec msrc mitm mknd mplc mclk u.2.1 u.2.2.1 u.2.2.2.1 u.2.2.2.2 mrl mrow mw mb mway moff) pc lv [.int r]) (h : M_need_B47 v1 v2 s0 s1 s2 mth mnc mnf mns msd Qr) : XW p l e rm_M_need s m args below meth c D vwCl A 3 Q 0 0 (wM ad cI cL cO mth msc mec msrc mitm mknd mplc mclk mnc mnf mns msd mrl mrow mw mb mway moff) 47 [(0, .ref (ad 0)), (1, .int v1), (2, .int v2)] [.int s0, .int s1, .int s2, .ref (ad 0)] := by
  unfold M_need_B47 at h
  refine x_callVi (S := Int32) (wf := fun u => (wM ad cI cL cO u msc mec msrc mitm mknd mplc mclk mnc mnf mns msd mrl mrow mw mb mway moff)) hC [.int s2, .int s1, .int s0] (fun sz => c_M_refused h sz) (by decide) (by decide) k_m3 k_m4 k_m5 (by decide) 3 rfl (by decide +kernel) ⟨by decide, by decide⟩ (Nat.le_of_ble_eq_true rfl) k_m6 k_m7 wM_0 rfl rfl dM_need_47 (fun _ h9 => h9) (fun r_6 u_7 h => ?_)
  refine x_if_eq (tgt := 55) hC dM_need_50 (by decide) (fun c_8 => ?_) (fun c_8 => ?_)
  · have h := h.1 c_8
    refine x_aload_n hC dM_need_55 rfl 0 rfl ?_
    refine x_get hC iM 0 wM_0 rfl 9 (by decide) k_m33 rfl rfl dM_need_56 ?_
    refine x_aload_n hC dM_need_59 rfl 0 rfl ?_
    refine x_get hC iM 0 wM_0 rfl 8 (by decide) k_m32 rfl rfl dM_need_60 ?_
    refine x_iload_n hC dM_need_63 rfl 1 rfl ?_
    obtain ⟨hb_9, h⟩ := h
    refine x_iast (ws' := (wM ad cI cL cO u_7 msc mec msrc mitm mknd mplc mclk mnc (upd mnf mnc.toNatClampNeg v1) mns msd mrl mrow mw mb mway moff)) hC 6 0 wM_6 rfl hb_9 wM_6_set dM_need_64 ?_
    refine x_aload_n hC dM_need_65 rfl 0 rfl ?_
    refine x_get hC iM 0 wM_0 rfl 10 (by decide) k_m34 rfl rfl dM_need_66 ?_
    refine x_aload_n hC dM_need_69 rfl 0 rfl ?_
    refine x_get hC iM 0 wM_0 rfl 8 (by decide) k_m32 rfl rfl dM_need_70 ?_
    refine x_iload_n hC dM_need_73 rfl 2 rfl ?_
    obtain ⟨hb_10, h⟩ := h
    refine x_iast (ws' := (wM ad cI cL cO u_7 msc mec msrc mitm mknd mplc mclk mnc (upd mnf mnc.toNatClampNeg v1) (upd mns mnc.toNatClampNeg v2) msd mrl mrow mw mb mway moff)) hC 7 0 wM_7 rfl hb_10 wM_7_set dM_need_74 ?_
    refine x_aload_n hC dM_need_75 rfl 0 rfl ?_
    refine x_dup hC dM_need_76 rfl ?_
    refine x_get hC iM 0 wM_0 rfl 8 (by decide) k_m32 rfl rfl dM_need_77 ?_
    refine x_iconst (v := 1) hC dM_need_80 (by decide) ?_
    refine x_iadd hC dM_need_81 ?_
    refine x_put (ty := .int) (ws' := (wM ad cI cL cO u_7 msc mec msrc mitm mknd mplc mclk (mnc + 1) (upd mnf mnc.toNatClampNeg v1) (upd mns mnc.toNatClampNeg v2) msd mrl mrow mw mb mway moff)) hC iM 0 wM_0 rfl 8 (by decide) k_m32 rfl tM tM_ok nM rfl (by decide +kernel) rfl rfl (Nat.le_of_ble_eq_true rfl) rfl dM_need_82 ?_
    refine x_aload_n hC dM_need_85 rfl 0 rfl ?_
    refine x_iconst (v := 0) hC dM_need_86 (by decide) ?_
    refine x_put (ty := .boolean) (ws' := (wM ad cI cL cO u_7 msc mec msrc mitm mknd mplc mclk (mnc + 1) (upd mnf mnc.toNatClampNeg v1) (upd mns mnc.toNatClampNeg v2) 0 mrl mrow mw mb mway moff)) hC iM 0 wM_0 rfl 11 (by decide) k_m2 rfl tM tM_ok nM rfl (by decide +kernel) rfl rfl (Nat.le_of_ble_eq_true rfl) rfl dM_need_87 ?_
    refine x_aload_n hC dM_need_90 rfl 0 rfl ?_
    refine x_get hC iM 0 wM_0 rfl 8 (by decide) k_m32 rfl rfl dM_need_91 ?_
    exact hret (mnc + 1) (u_7, mnc + 1, upd mnf mnc.toNatClampNeg v1, upd mns mnc.toNatClampNeg v2, 0) h _ _ dM_need_94
  · have h := h.2 c_8
    refine x_iconst (v := 0) hC dM_need_53 (by decide) ?_
    exact hret 0 (u_7, mnc, mnf, mns, msd) h _ _ dM_need_54

set_option maxHeartbeats 4000000 in
set_option maxRecDepth 100000 in
theorem M_need_B32_ok {p : Program} {l : Launch} {e : Env} {s : State} {m : MethodId} {args : Array Value} {below : List Frame} {meth : Method} {c : Code} {Q : State → Prop} {D : va_G} {A : Nat → Prop} {ad : Nat → Nat} {cI cL cO : ClassId} {mth : Int32} {msc : Int32} {mec : Int32} {msrc : (Nat → Int32)} {mitm : (Nat → Int32)} {mknd : (Nat → Int32)} {mplc : (Nat → Int32)} {mclk : (Nat → Int64)} {mnc : Int32} {mnf : (Nat → Int32)} {mns : (Nat → Int32)} {msd : Int32} {mrl : Int32} {mrow : (Nat → Int32)} {mw : (Nat → Int64)} {mb : (Nat → Int64)} {mway : (Nat → Int64)} {moff : (Nat → Int64)} {v1 : Int32} {v2 : Int32} {s0 : Int32} {s1 : Int32} {Qr : Int32 → (Int32 × Int32 × (Nat → Int32) × (Nat → Int32) × Int32) → Prop} (hC : XC p s m args c D vwCl (tysX cI cL cO) A 3 bM_need TBL RM) (hret : ∀ (r : Int32) (u : (Int32 × Int32 × (Nat → Int32) × (Nat → Int32) × Int32)), Qr r u → ∀ (pc : Nat) (lv : List (Nat × Value)), decode bM_need pc = .ok (.ireturn, 1) → XW p l e rm_M_need s m args below meth c D vwCl A 3 Q 0 0 (wM ad cI cL cO u.1 msc mec msrc mitm mknd mplc mclk u.2.1 u.2.2.1 u.2.2.2.1 u.2.2.2.2 mrl mrow mw mb mway moff) pc lv [.int r]) (h : M_need_B32 v1 v2 s0 s1 mth mnc mnf mns msd Qr) : XW p l e rm_M_need s m args below meth c D vwCl A 3 Q 0 0 (wM ad cI cL cO mth msc mec msrc mitm mknd mplc mclk mnc mnf mns msd mrl mrow mw mb mway moff) 32 [(0, .ref (ad 0)), (1, .int v1), (2, .int v2)] [.int s0, .int s1, .ref (ad 0)] := by
  unfold M_need_B32 at h
  refine x_aload_n hC dM_need_32 rfl 0 rfl ?_
  refine x_get hC iM 0 wM_0 rfl 8 (by decide) k_m32 rfl rfl dM_need_33 ?_
  refine x_sipush (v := 300) hC dM_need_36 (by decide) ?_
  refine x_icmp_ne (tgt := 46) hC dM_need_39 (by decide) (fun c_5 => ?_) (fun c_5 => ?_)
  · have h := h.1 c_5
    refine x_iconst (v := 0) hC dM_need_46 (by decide) ?_
    refine x_lv [0, 1, 2] rfl ?_
    exact M_need_B47_ok hC hret h
  · have h := h.2 c_5
    refine x_iconst (v := 1) hC dM_need_42 (by decide) ?_
    refine x_goto (tgt := 47) hC dM_need_43 (by decide) ?_
    refine x_lv [0, 1, 2] rfl ?_
    exact M_need_B47_ok hC hret h

set_option maxHeartbeats 4000000 in
set_option maxRecDepth 100000 in
theorem M_need_B22_ok {p : Program} {l : Launch} {e : Env} {s : State} {m : MethodId} {args : Array Value} {below : List Frame} {meth : Method} {c : Code} {Q : State → Prop} {D : va_G} {A : Nat → Prop} {ad : Nat → Nat} {cI cL cO : ClassId} {mth : Int32} {msc : Int32} {mec : Int32} {msrc : (Nat → Int32)} {mitm : (Nat → Int32)} {mknd : (Nat → Int32)} {mplc : (Nat → Int32)} {mclk : (Nat → Int64)} {mnc : Int32} {mnf : (Nat → Int32)} {mns : (Nat → Int32)} {msd : Int32} {mrl : Int32} {mrow : (Nat → Int32)} {mw : (Nat → Int64)} {mb : (Nat → Int64)} {mway : (Nat → Int64)} {moff : (Nat → Int64)} {v1 : Int32} {v2 : Int32} {s0 : Int32} {Qr : Int32 → (Int32 × Int32 × (Nat → Int32) × (Nat → Int32) × Int32) → Prop} (hC : XC p s m args c D vwCl (tysX cI cL cO) A 3 bM_need TBL RM) (hret : ∀ (r : Int32) (u : (Int32 × Int32 × (Nat → Int32) × (Nat → Int32) × Int32)), Qr r u → ∀ (pc : Nat) (lv : List (Nat × Value)), decode bM_need pc = .ok (.ireturn, 1) → XW p l e rm_M_need s m args below meth c D vwCl A 3 Q 0 0 (wM ad cI cL cO u.1 msc mec msrc mitm mknd mplc mclk u.2.1 u.2.2.1 u.2.2.2.1 u.2.2.2.2 mrl mrow mw mb mway moff) pc lv [.int r]) (h : M_need_B22 v1 v2 s0 mth mnc mnf mns msd Qr) : XW p l e rm_M_need s m args below meth c D vwCl A 3 Q 0 0 (wM ad cI cL cO mth msc mec msrc mitm mknd mplc mclk mnc mnf mns msd mrl mrow mw mb mway moff) 22 [(0, .ref (ad 0)), (1, .int v1), (2, .int v2)] [.int s0, .ref (ad 0)] := by
  unfold M_need_B22 at h
  refine x_iload_n hC dM_need_22 rfl 1 rfl ?_
  refine x_iload_n hC dM_need_23 rfl 2 rfl ?_
  refine x_icmp_ne (tgt := 31) hC dM_need_24 (by decide) (fun c_4 => ?_) (fun c_4 => ?_)
  · have h := h.1 c_4
    refine x_iconst (v := 0) hC dM_need_31 (by decide) ?_
    refine x_lv [0, 1, 2] rfl ?_
    exact M_need_B32_ok hC hret h
  · have h := h.2 c_4
    refine x_iconst (v := 1) hC dM_need_27 (by decide) ?_
    refine x_goto (tgt := 32) hC dM_need_28 (by decide) ?_
    refine x_lv [0, 1, 2] rfl ?_
    exact M_need_B32_ok hC hret h

set_option maxHeartbeats 4000000 in
set_option maxRecDepth 100000 in
theorem c_M_need {l : Launch} {D : va_G} {ad : Nat → Nat} {cI cL cO : ClassId} {mth : Int32} {msc : Int32} {mec : Int32} {msrc : (Nat → Int32)} {mitm : (Nat → Int32)} {mknd : (Nat → Int32)} {mplc : (Nat → Int32)} {mclk : (Nat → Int64)} {mnc : Int32} {mnf : (Nat → Int32)} {mns : (Nat → Int32)} {msd : Int32} {mrl : Int32} {mrow : (Nat → Int32)} {mw : (Nat → Int64)} {mb : (Nat → Int64)} {mway : (Nat → Int64)} {moff : (Nat → Int64)} {a1 : Int32} {a2 : Int32} {Qr : Int32 → (Int32 × Int32 × (Nat → Int32) × (Nat → Int32) × Int32) → Prop} (h : M_need_wp mth mec mnc mnf mns msd a1 a2 Qr) (sz : Nat) : vx_Met l yM_need (Cond.code yM_need bM_need 3 (some .int) :: TBL) rm_M_need (va_Pc [.ref (ad 0), .int a1, .int a2] (XP D vwCl (tysX cI cL cO) (wM ad cI cL cO mth msc mec msrc mitm mknd mplc mclk mnc mnf mns msd mrl mrow mw mb mway moff) sz)) (va_Qi Qr (fun u t => XB D vwCl (tysX cI cL cO) (va_A (wM ad cI cL cO mth msc mec msrc mitm mknd mplc mclk mnc mnf mns msd mrl mrow mw mb mway moff) sz) (wM ad cI cL cO u.1 msc mec msrc mitm mknd mplc mclk u.2.1 u.2.2.1 u.2.2.2.1 u.2.2.2.2 mrl mrow mw mb mway moff) t) (va_A (wM ad cI cL cO mth msc mec msrc mitm mknd mplc mclk mnc mnf mns msd mrl mrow mw mb mway moff) sz)) (XT D vwCl (tysX cI cL cO) (va_A (wM ad cI cL cO mth msc mec msrc mitm mknd mplc mclk mnc mnf mns msd mrl mrow mw mb mway moff) sz) (wM ad cI cL cO mth msc mec msrc mitm mknd mplc mclk mnc mnf mns msd mrl mrow mw mb mway moff) (fun _ => False)) rm_M_need.cells rm_M_need.slots (va_A (wM ad cI cL cO mth msc mec msrc mitm mknd mplc mclk mnc mnf mns msd mrl mrow mw mb mway moff) sz) := by
  refine x_met [.ref (ad 0), .int a1, .int a2] TBL_good (by decide) (Nat.le_of_ble_eq_true rfl) ?_
  intro p e s m args below meth c hC hr hlk hnm hnh
  have hret : ∀ (ce sl : Nat), ce ≤ rm_M_need.cells → sl ≤ rm_M_need.slots → ∀ (r : Int32) (u : (Int32 × Int32 × (Nat → Int32) × (Nat → Int32) × Int32)), Qr r u → ∀ (pc : Nat) (lv : List (Nat × Value)), decode bM_need pc = .ok (.ireturn, 1) → XW p l e rm_M_need s m args below meth c D vwCl (va_A (wM ad cI cL cO mth msc mec msrc mitm mknd mplc mclk mnc mnf mns msd mrl mrow mw mb mway moff) sz) 3 (vx_MQ below (va_Qi Qr (fun u t => XB D vwCl (tysX cI cL cO) (va_A (wM ad cI cL cO mth msc mec msrc mitm mknd mplc mclk mnc mnf mns msd mrl mrow mw mb mway moff) sz) (wM ad cI cL cO u.1 msc mec msrc mitm mknd mplc mclk u.2.1 u.2.2.1 u.2.2.2.1 u.2.2.2.2 mrl mrow mw mb mway moff) t) (va_A (wM ad cI cL cO mth msc mec msrc mitm mknd mplc mclk mnc mnf mns msd mrl mrow mw mb mway moff) sz)) (XT D vwCl (tysX cI cL cO) (va_A (wM ad cI cL cO mth msc mec msrc mitm mknd mplc mclk mnc mnf mns msd mrl mrow mw mb mway moff) sz) (wM ad cI cL cO mth msc mec msrc mitm mknd mplc mclk mnc mnf mns msd mrl mrow mw mb mway moff) (fun _ => False)) args s rm_M_need.cells rm_M_need.slots (va_A (wM ad cI cL cO mth msc mec msrc mitm mknd mplc mclk mnc mnf mns msd mrl mrow mw mb mway moff) sz)) ce sl (wM ad cI cL cO u.1 msc mec msrc mitm mknd mplc mclk u.2.1 u.2.2.1 u.2.2.2.1 u.2.2.2.2 mrl mrow mw mb mway moff) pc lv [.int r] := fun ce sl h1 h2 r u hq pc lv hd => x_iret (wf := fun u => (wM ad cI cL cO u.1 msc mec msrc mitm mknd mplc mclk u.2.1 u.2.2.1 u.2.2.2.1 u.2.2.2.2 mrl mrow mw mb mway moff)) hC h1 h2 hr hlk hd hq rfl
  show XW p l e rm_M_need s m args below meth c D vwCl (va_A (wM ad cI cL cO mth msc mec msrc mitm mknd mplc mclk mnc mnf mns msd mrl mrow mw mb mway moff) sz) 3 _ 0 0 (wM ad cI cL cO mth msc mec msrc mitm mknd mplc mclk mnc mnf mns msd mrl mrow mw mb mway moff) 0 [(0, .ref (ad 0)), (1, .int a1), (2, .int a2)] []
  unfold M_need_wp at h
  refine x_aload_n hC dM_need_0 rfl 0 rfl ?_
  refine x_aload_n hC dM_need_1 rfl 0 rfl ?_
  refine x_iload_n hC dM_need_2 rfl 1 rfl ?_
  refine x_callVi (S := Unit) (wf := fun u => (wM ad cI cL cO mth msc mec msrc mitm mknd mplc mclk mnc mnf mns msd mrl mrow mw mb mway moff)) hC [.int a1] (fun sz => c_M_isEvent h sz) (by decide) (by decide) k_m35 k_m36 k_m37 (by decide) 1 rfl (by decide +kernel) ⟨by decide, by decide⟩ (Nat.le_of_ble_eq_true rfl) k_m38 k_m39 wM_0 rfl rfl dM_need_3 (fun _ h9 => h9) (fun r_1 u_2 h => ?_)
  refine x_if_eq (tgt := 17) hC dM_need_6 (by decide) (fun c_3 => ?_) (fun c_3 => ?_)
  · have h := h.1 c_3
    refine x_iconst (v := 1) hC dM_need_17 (by decide) ?_
    refine x_goto (tgt := 22) hC dM_need_18 (by decide) ?_
    refine x_lv [0, 1, 2] rfl ?_
    exact M_need_B22_ok hC (hret _ _ (by decide) (by decide)) h
  · have h := h.2 c_3
    refine x_aload_n hC dM_need_9 rfl 0 rfl ?_
    refine x_iload_n hC dM_need_10 rfl 2 rfl ?_
    refine x_callVi (S := Unit) (wf := fun u => (wM ad cI cL cO mth msc mec msrc mitm mknd mplc mclk mnc mnf mns msd mrl mrow mw mb mway moff)) hC [.int a2] (fun sz => c_M_isEvent h sz) (by decide) (by decide) k_m35 k_m36 k_m37 (by decide) 1 rfl (by decide +kernel) ⟨by decide, by decide⟩ (Nat.le_of_ble_eq_true rfl) k_m38 k_m39 wM_0 rfl rfl dM_need_11 (fun _ h9 => h9) (fun r_11 u_12 h => ?_)
    refine x_if_ne (tgt := 21) hC dM_need_14 (by decide) (fun c_13 => ?_) (fun c_13 => ?_)
    · have h := h.1 c_13
      refine x_iconst (v := 0) hC dM_need_21 (by decide) ?_
      refine x_lv [0, 1, 2] rfl ?_
      exact M_need_B22_ok hC (hret _ _ (by decide) (by decide)) h
    · have h := h.2 c_13
      refine x_iconst (v := 1) hC dM_need_17 (by decide) ?_
      refine x_goto (tgt := 22) hC dM_need_18 (by decide) ?_
      refine x_lv [0, 1, 2] rfl ?_
      exact M_need_B22_ok hC (hret _ _ (by decide) (by decide)) h

/-! EventOrderModel.correct(IJ)I -/
abbrev rm_M_correct : Room := { frames := 2, cells := 0, slots := 0, locals := 46 }
def M_correct_B32 (v1 : Int32) (v2 : Int64) (s0 : Int32) (s1 : Int32) (mth : Int32) (mec : Int32) (msrc : (Nat → Int32)) (mitm : (Nat → Int32)) (mknd : (Nat → Int32)) (mplc : (Nat → Int32)) (mclk : (Nat → Int64)) (msd : Int32) (Qr : Int32 → (Int32 × (Nat → Int64) × Int32) → Prop) : Prop := M_refused_wp mth s1 s0 0 (fun (r_7 : Int32) (u_8 : Int32) => ((r_7 = 0 → vp_in v1 301 ∧ vp_in v1 301 ∧ vp_in v1 301 ∧ vp_in v1 301 ∧ M_find_wp mec msrc mitm mknd mplc mclk (msrc v1.toNatClampNeg) (mitm v1.toNatClampNeg) (mknd v1.toNatClampNeg) (mplc v1.toNatClampNeg) v2 (fun (r_14 : Int32) (u_15 : Unit) => ((r_14 ≤ 0 → vp_in v1 301 ∧ Qr 1 (u_8, vp_updL mclk v1.toNatClampNeg v2, 0)) ∧ (¬ r_14 ≤ 0 → Qr 0 (u_8, mclk, msd))))) ∧ (¬ r_7 = 0 → Qr 0 (u_8, mclk, msd))))

def M_correct_B14 (v1 : Int32) (v2 : Int64) (s0 : Int32) (mth : Int32) (mec : Int32) (msrc : (Nat → Int32)) (mitm : (Nat → Int32)) (mknd : (Nat → Int32)) (mplc : (Nat → Int32)) (mclk : (Nat → Int64)) (msd : Int32) (Qr : Int32 → (Int32 × (Nat → Int64) × Int32) → Prop) : Prop := M_within_wp v2 (-1000000000) 1000000000 (fun (r_4 : Int32) (u_5 : Unit) => ((¬ r_4 = 0 → M_correct_B32 v1 v2 0 s0 mth mec msrc mitm mknd mplc mclk msd Qr) ∧ (r_4 = 0 → M_correct_B32 v1 v2 1 s0 mth mec msrc mitm mknd mplc mclk msd Qr)))

def M_correct_wp (mth : Int32) (mec : Int32) (msrc : (Nat → Int32)) (mitm : (Nat → Int32)) (mknd : (Nat → Int32)) (mplc : (Nat → Int32)) (mclk : (Nat → Int64)) (msd : Int32) (a1 : Int32) (a2 : Int64) (Qr : Int32 → (Int32 × (Nat → Int64) × Int32) → Prop) : Prop := M_isEvent_wp mec a1 (fun (r_1 : Int32) (u_2 : Unit) => ((¬ r_1 = 0 → M_correct_B14 a1 a2 0 mth mec msrc mitm mknd mplc mclk msd Qr) ∧ (r_1 = 0 → M_correct_B14 a1 a2 1 mth mec msrc mitm mknd mplc mclk msd Qr)))
set_option maxHeartbeats 4000000 in
set_option maxRecDepth 100000 in
theorem M_correct_B32_ok {p : Program} {l : Launch} {e : Env} {s : State} {m : MethodId} {args : Array Value} {below : List Frame} {meth : Method} {c : Code} {Q : State → Prop} {D : va_G} {A : Nat → Prop} {ad : Nat → Nat} {cI cL cO : ClassId} {mth : Int32} {msc : Int32} {mec : Int32} {msrc : (Nat → Int32)} {mitm : (Nat → Int32)} {mknd : (Nat → Int32)} {mplc : (Nat → Int32)} {mclk : (Nat → Int64)} {mnc : Int32} {mnf : (Nat → Int32)} {mns : (Nat → Int32)} {msd : Int32} {mrl : Int32} {mrow : (Nat → Int32)} {mw : (Nat → Int64)} {mb : (Nat → Int64)} {mway : (Nat → Int64)} {moff : (Nat → Int64)} {v1 : Int32} {v2 : Int64} {s0 : Int32} {s1 : Int32} {Qr : Int32 → (Int32 × (Nat → Int64) × Int32) → Prop} (hC : XC p s m args c D vwCl (tysX cI cL cO) A 4 bM_correct TBL RM) (hret : ∀ (r : Int32) (u : (Int32 × (Nat → Int64) × Int32)), Qr r u → ∀ (pc : Nat) (lv : List (Nat × Value)), decode bM_correct pc = .ok (.ireturn, 1) → XW p l e rm_M_correct s m args below meth c D vwCl A 4 Q 0 0 (wM ad cI cL cO u.1 msc mec msrc mitm mknd mplc u.2.1 mnc mnf mns u.2.2 mrl mrow mw mb mway moff) pc lv [.int r]) (h : M_correct_B32 v1 v2 s0 s1 mth mec msrc mitm mknd mplc mclk msd Qr) : XW p l e rm_M_correct s m args below meth c D vwCl A 4 Q 0 0 (wM ad cI cL cO mth msc mec msrc mitm mknd mplc mclk mnc mnf mns msd mrl mrow mw mb mway moff) 32 [(0, .ref (ad 0)), (1, .int v1), (2, .long v2)] [.int s0, .int s1, .ref (ad 0)] := by
  unfold M_correct_B32 at h
  refine x_iconst (v := 0) hC dM_correct_32 (by decide) ?_
  refine x_callVi (S := Int32) (wf := fun u => (wM ad cI cL cO u msc mec msrc mitm mknd mplc mclk mnc mnf mns msd mrl mrow mw mb mway moff)) hC [.int s1, .int s0, .int 0] (fun sz => c_M_refused h sz) (by decide) (by decide) k_m3 k_m4 k_m5 (by decide) 3 rfl (by decide +kernel) ⟨by decide, by decide⟩ (Nat.le_of_ble_eq_true rfl) k_m6 k_m7 wM_0 rfl rfl dM_correct_33 (fun _ h9 => h9) (fun r_7 u_8 h => ?_)
  refine x_if_eq (tgt := 41) hC dM_correct_36 (by decide) (fun c_9 => ?_) (fun c_9 => ?_)
  · have h := h.1 c_9
    refine x_aload_n hC dM_correct_41 rfl 0 rfl ?_
    refine x_aload_n hC dM_correct_42 rfl 0 rfl ?_
    refine x_get hC iM 0 wM_0 rfl 3 (by decide) k_m14 rfl rfl dM_correct_43 ?_
    refine x_iload_n hC dM_correct_46 rfl 1 rfl ?_
    obtain ⟨hb_10, h⟩ := h
    refine x_iald hC 1 0 wM_1 rfl hb_10 dM_correct_47 ?_
    refine x_aload_n hC dM_correct_48 rfl 0 rfl ?_
    refine x_get hC iM 0 wM_0 rfl 4 (by decide) k_m15 rfl rfl dM_correct_49 ?_
    refine x_iload_n hC dM_correct_52 rfl 1 rfl ?_
    obtain ⟨hb_11, h⟩ := h
    refine x_iald hC 2 0 wM_2 rfl hb_11 dM_correct_53 ?_
    refine x_aload_n hC dM_correct_54 rfl 0 rfl ?_
    refine x_get hC iM 0 wM_0 rfl 5 (by decide) k_m16 rfl rfl dM_correct_55 ?_
    refine x_iload_n hC dM_correct_58 rfl 1 rfl ?_
    obtain ⟨hb_12, h⟩ := h
    refine x_iald hC 3 0 wM_3 rfl hb_12 dM_correct_59 ?_
    refine x_aload_n hC dM_correct_60 rfl 0 rfl ?_
    refine x_get hC iM 0 wM_0 rfl 6 (by decide) k_m17 rfl rfl dM_correct_61 ?_
    refine x_iload_n hC dM_correct_64 rfl 1 rfl ?_
    obtain ⟨hb_13, h⟩ := h
    refine x_iald hC 4 0 wM_4 rfl hb_13 dM_correct_65 ?_
    refine x_lload_n hC dM_correct_66 rfl 2 rfl ?_
    refine x_callVi (S := Unit) (wf := fun u => (wM ad cI cL cO u_8 msc mec msrc mitm mknd mplc mclk mnc mnf mns msd mrl mrow mw mb mway moff)) hC [.int (msrc v1.toNatClampNeg), .int (mitm v1.toNatClampNeg), .int (mknd v1.toNatClampNeg), .int (mplc v1.toNatClampNeg), .long v2] (fun sz => c_M_find h sz) (by decide) (by decide) k_m19 k_m20 k_m21 (by decide) 5 rfl (by decide +kernel) ⟨by decide, by decide⟩ (Nat.le_of_ble_eq_true rfl) k_m22 k_m23 wM_0 rfl rfl dM_correct_67 (fun _ h9 => h9) (fun r_14 u_15 h => ?_)
    refine x_if_le (tgt := 75) hC dM_correct_70 (by decide) (fun c_16 => ?_) (fun c_16 => ?_)
    · have h := h.1 c_16
      refine x_aload_n hC dM_correct_75 rfl 0 rfl ?_
      refine x_get hC iM 0 wM_0 rfl 7 (by decide) k_m18 rfl rfl dM_correct_76 ?_
      refine x_iload_n hC dM_correct_79 rfl 1 rfl ?_
      refine x_lload_n hC dM_correct_80 rfl 2 rfl ?_
      obtain ⟨hb_17, h⟩ := h
      refine x_last (ws' := (wM ad cI cL cO u_8 msc mec msrc mitm mknd mplc (vp_updL mclk v1.toNatClampNeg v2) mnc mnf mns msd mrl mrow mw mb mway moff)) hC 5 1 wM_5 rfl hb_17 wM_5_set dM_correct_81 ?_
      refine x_aload_n hC dM_correct_82 rfl 0 rfl ?_
      refine x_iconst (v := 0) hC dM_correct_83 (by decide) ?_
      refine x_put (ty := .boolean) (ws' := (wM ad cI cL cO u_8 msc mec msrc mitm mknd mplc (vp_updL mclk v1.toNatClampNeg v2) mnc mnf mns 0 mrl mrow mw mb mway moff)) hC iM 0 wM_0 rfl 11 (by decide) k_m2 rfl tM tM_ok nM rfl (by decide +kernel) rfl rfl (Nat.le_of_ble_eq_true rfl) rfl dM_correct_84 ?_
      refine x_iconst (v := 1) hC dM_correct_87 (by decide) ?_
      exact hret 1 (u_8, vp_updL mclk v1.toNatClampNeg v2, 0) h _ _ dM_correct_88
    · have h := h.2 c_16
      refine x_iconst (v := 0) hC dM_correct_73 (by decide) ?_
      exact hret 0 (u_8, mclk, msd) h _ _ dM_correct_74
  · have h := h.2 c_9
    refine x_iconst (v := 0) hC dM_correct_39 (by decide) ?_
    exact hret 0 (u_8, mclk, msd) h _ _ dM_correct_40

set_option maxHeartbeats 4000000 in
set_option maxRecDepth 100000 in
theorem M_correct_B14_ok {p : Program} {l : Launch} {e : Env} {s : State} {m : MethodId} {args : Array Value} {below : List Frame} {meth : Method} {c : Code} {Q : State → Prop} {D : va_G} {A : Nat → Prop} {ad : Nat → Nat} {cI cL cO : ClassId} {mth : Int32} {msc : Int32} {mec : Int32} {msrc : (Nat → Int32)} {mitm : (Nat → Int32)} {mknd : (Nat → Int32)} {mplc : (Nat → Int32)} {mclk : (Nat → Int64)} {mnc : Int32} {mnf : (Nat → Int32)} {mns : (Nat → Int32)} {msd : Int32} {mrl : Int32} {mrow : (Nat → Int32)} {mw : (Nat → Int64)} {mb : (Nat → Int64)} {mway : (Nat → Int64)} {moff : (Nat → Int64)} {v1 : Int32} {v2 : Int64} {s0 : Int32} {Qr : Int32 → (Int32 × (Nat → Int64) × Int32) → Prop} (hC : XC p s m args c D vwCl (tysX cI cL cO) A 4 bM_correct TBL RM) (hret : ∀ (r : Int32) (u : (Int32 × (Nat → Int64) × Int32)), Qr r u → ∀ (pc : Nat) (lv : List (Nat × Value)), decode bM_correct pc = .ok (.ireturn, 1) → XW p l e rm_M_correct s m args below meth c D vwCl A 4 Q 0 0 (wM ad cI cL cO u.1 msc mec msrc mitm mknd mplc u.2.1 mnc mnf mns u.2.2 mrl mrow mw mb mway moff) pc lv [.int r]) (h : M_correct_B14 v1 v2 s0 mth mec msrc mitm mknd mplc mclk msd Qr) : XW p l e rm_M_correct s m args below meth c D vwCl A 4 Q 0 0 (wM ad cI cL cO mth msc mec msrc mitm mknd mplc mclk mnc mnf mns msd mrl mrow mw mb mway moff) 14 [(0, .ref (ad 0)), (1, .int v1), (2, .long v2)] [.int s0, .ref (ad 0)] := by
  unfold M_correct_B14 at h
  refine x_lload_n hC dM_correct_14 rfl 2 rfl ?_
  refine x_ldc2 (v := -1000000000) hC k_m25 dM_correct_15 ?_
  refine x_ldc2 (v := 1000000000) hC k_m26 dM_correct_18 ?_
  refine x_callSi (S := Unit) (wf := fun u => (wM ad cI cL cO mth msc mec msrc mitm mknd mplc mclk mnc mnf mns msd mrl mrow mw mb mway moff)) hC [.long v2, .long (-1000000000), .long 1000000000] (fun sz => c_M_within h sz) (by decide) (by decide) k_m8 k_m9 k_m10 (by decide) 3 rfl (by decide +kernel) ⟨by decide, by decide⟩ (Nat.le_of_ble_eq_true rfl) k_m11 rfl dM_correct_21 (fun _ h9 => h9) (fun r_4 u_5 h => ?_)
  refine x_if_ne (tgt := 31) hC dM_correct_24 (by decide) (fun c_6 => ?_) (fun c_6 => ?_)
  · have h := h.1 c_6
    refine x_iconst (v := 0) hC dM_correct_31 (by decide) ?_
    refine x_lv [0, 1, 2] rfl ?_
    exact M_correct_B32_ok hC hret h
  · have h := h.2 c_6
    refine x_iconst (v := 1) hC dM_correct_27 (by decide) ?_
    refine x_goto (tgt := 32) hC dM_correct_28 (by decide) ?_
    refine x_lv [0, 1, 2] rfl ?_
    exact M_correct_B32_ok hC hret h

set_option maxHeartbeats 4000000 in
set_option maxRecDepth 100000 in
theorem c_M_correct {l : Launch} {D : va_G} {ad : Nat → Nat} {cI cL cO : ClassId} {mth : Int32} {msc : Int32} {mec : Int32} {msrc : (Nat → Int32)} {mitm : (Nat → Int32)} {mknd : (Nat → Int32)} {mplc : (Nat → Int32)} {mclk : (Nat → Int64)} {mnc : Int32} {mnf : (Nat → Int32)} {mns : (Nat → Int32)} {msd : Int32} {mrl : Int32} {mrow : (Nat → Int32)} {mw : (Nat → Int64)} {mb : (Nat → Int64)} {mway : (Nat → Int64)} {moff : (Nat → Int64)} {a1 : Int32} {a2 : Int64} {Qr : Int32 → (Int32 × (Nat → Int64) × Int32) → Prop} (h : M_correct_wp mth mec msrc mitm mknd mplc mclk msd a1 a2 Qr) (sz : Nat) : vx_Met l yM_correct (Cond.code yM_correct bM_correct 4 (some .int) :: TBL) rm_M_correct (va_Pc [.ref (ad 0), .int a1, .long a2] (XP D vwCl (tysX cI cL cO) (wM ad cI cL cO mth msc mec msrc mitm mknd mplc mclk mnc mnf mns msd mrl mrow mw mb mway moff) sz)) (va_Qi Qr (fun u t => XB D vwCl (tysX cI cL cO) (va_A (wM ad cI cL cO mth msc mec msrc mitm mknd mplc mclk mnc mnf mns msd mrl mrow mw mb mway moff) sz) (wM ad cI cL cO u.1 msc mec msrc mitm mknd mplc u.2.1 mnc mnf mns u.2.2 mrl mrow mw mb mway moff) t) (va_A (wM ad cI cL cO mth msc mec msrc mitm mknd mplc mclk mnc mnf mns msd mrl mrow mw mb mway moff) sz)) (XT D vwCl (tysX cI cL cO) (va_A (wM ad cI cL cO mth msc mec msrc mitm mknd mplc mclk mnc mnf mns msd mrl mrow mw mb mway moff) sz) (wM ad cI cL cO mth msc mec msrc mitm mknd mplc mclk mnc mnf mns msd mrl mrow mw mb mway moff) (fun _ => False)) rm_M_correct.cells rm_M_correct.slots (va_A (wM ad cI cL cO mth msc mec msrc mitm mknd mplc mclk mnc mnf mns msd mrl mrow mw mb mway moff) sz) := by
  refine x_met [.ref (ad 0), .int a1, .long a2] TBL_good (by decide) (Nat.le_of_ble_eq_true rfl) ?_
  intro p e s m args below meth c hC hr hlk hnm hnh
  have hret : ∀ (ce sl : Nat), ce ≤ rm_M_correct.cells → sl ≤ rm_M_correct.slots → ∀ (r : Int32) (u : (Int32 × (Nat → Int64) × Int32)), Qr r u → ∀ (pc : Nat) (lv : List (Nat × Value)), decode bM_correct pc = .ok (.ireturn, 1) → XW p l e rm_M_correct s m args below meth c D vwCl (va_A (wM ad cI cL cO mth msc mec msrc mitm mknd mplc mclk mnc mnf mns msd mrl mrow mw mb mway moff) sz) 4 (vx_MQ below (va_Qi Qr (fun u t => XB D vwCl (tysX cI cL cO) (va_A (wM ad cI cL cO mth msc mec msrc mitm mknd mplc mclk mnc mnf mns msd mrl mrow mw mb mway moff) sz) (wM ad cI cL cO u.1 msc mec msrc mitm mknd mplc u.2.1 mnc mnf mns u.2.2 mrl mrow mw mb mway moff) t) (va_A (wM ad cI cL cO mth msc mec msrc mitm mknd mplc mclk mnc mnf mns msd mrl mrow mw mb mway moff) sz)) (XT D vwCl (tysX cI cL cO) (va_A (wM ad cI cL cO mth msc mec msrc mitm mknd mplc mclk mnc mnf mns msd mrl mrow mw mb mway moff) sz) (wM ad cI cL cO mth msc mec msrc mitm mknd mplc mclk mnc mnf mns msd mrl mrow mw mb mway moff) (fun _ => False)) args s rm_M_correct.cells rm_M_correct.slots (va_A (wM ad cI cL cO mth msc mec msrc mitm mknd mplc mclk mnc mnf mns msd mrl mrow mw mb mway moff) sz)) ce sl (wM ad cI cL cO u.1 msc mec msrc mitm mknd mplc u.2.1 mnc mnf mns u.2.2 mrl mrow mw mb mway moff) pc lv [.int r] := fun ce sl h1 h2 r u hq pc lv hd => x_iret (wf := fun u => (wM ad cI cL cO u.1 msc mec msrc mitm mknd mplc u.2.1 mnc mnf mns u.2.2 mrl mrow mw mb mway moff)) hC h1 h2 hr hlk hd hq rfl
  show XW p l e rm_M_correct s m args below meth c D vwCl (va_A (wM ad cI cL cO mth msc mec msrc mitm mknd mplc mclk mnc mnf mns msd mrl mrow mw mb mway moff) sz) 4 _ 0 0 (wM ad cI cL cO mth msc mec msrc mitm mknd mplc mclk mnc mnf mns msd mrl mrow mw mb mway moff) 0 [(0, .ref (ad 0)), (1, .int a1), (2, .long a2)] []
  unfold M_correct_wp at h
  refine x_aload_n hC dM_correct_0 rfl 0 rfl ?_
  refine x_aload_n hC dM_correct_1 rfl 0 rfl ?_
  refine x_iload_n hC dM_correct_2 rfl 1 rfl ?_
  refine x_callVi (S := Unit) (wf := fun u => (wM ad cI cL cO mth msc mec msrc mitm mknd mplc mclk mnc mnf mns msd mrl mrow mw mb mway moff)) hC [.int a1] (fun sz => c_M_isEvent h sz) (by decide) (by decide) k_m35 k_m36 k_m37 (by decide) 1 rfl (by decide +kernel) ⟨by decide, by decide⟩ (Nat.le_of_ble_eq_true rfl) k_m38 k_m39 wM_0 rfl rfl dM_correct_3 (fun _ h9 => h9) (fun r_1 u_2 h => ?_)
  refine x_if_ne (tgt := 13) hC dM_correct_6 (by decide) (fun c_3 => ?_) (fun c_3 => ?_)
  · have h := h.1 c_3
    refine x_iconst (v := 0) hC dM_correct_13 (by decide) ?_
    refine x_lv [0, 1, 2] rfl ?_
    exact M_correct_B14_ok hC (hret _ _ (by decide) (by decide)) h
  · have h := h.2 c_3
    refine x_iconst (v := 1) hC dM_correct_9 (by decide) ?_
    refine x_goto (tgt := 14) hC dM_correct_10 (by decide) ?_
    refine x_lv [0, 1, 2] rfl ?_
    exact M_correct_B14_ok hC (hret _ _ (by decide) (by decide)) h

/-! EventOrderModel.ring(I)I -/
abbrev rm_M_ring : Room := { frames := 1, cells := 0, slots := 0, locals := 25 }
def M_ring_wp (mth : Int32) (mrl : Int32) (mrow : (Nat → Int32)) (a1 : Int32) (Qr : Int32 → Int32 → Prop) : Prop := M_within_wp a1.toInt64 0 ((mrl - 1).toInt64) (fun (r_1 : Int32) (u_2 : Unit) => ((r_1 = 0 → Qr (-1) 0) ∧ (¬ r_1 = 0 → vp_in a1 16 ∧ Qr (mrow a1.toNatClampNeg) 0)))
set_option maxHeartbeats 4000000 in
set_option maxRecDepth 100000 in
theorem c_M_ring {l : Launch} {D : va_G} {ad : Nat → Nat} {cI cL cO : ClassId} {mth : Int32} {msc : Int32} {mec : Int32} {msrc : (Nat → Int32)} {mitm : (Nat → Int32)} {mknd : (Nat → Int32)} {mplc : (Nat → Int32)} {mclk : (Nat → Int64)} {mnc : Int32} {mnf : (Nat → Int32)} {mns : (Nat → Int32)} {msd : Int32} {mrl : Int32} {mrow : (Nat → Int32)} {mw : (Nat → Int64)} {mb : (Nat → Int64)} {mway : (Nat → Int64)} {moff : (Nat → Int64)} {a1 : Int32} {Qr : Int32 → Int32 → Prop} (h : M_ring_wp mth mrl mrow a1 Qr) (sz : Nat) : vx_Met l yM_ring (Cond.code yM_ring bM_ring 2 (some .int) :: TBL) rm_M_ring (va_Pc [.ref (ad 0), .int a1] (XP D vwCl (tysX cI cL cO) (wM ad cI cL cO mth msc mec msrc mitm mknd mplc mclk mnc mnf mns msd mrl mrow mw mb mway moff) sz)) (va_Qi Qr (fun u t => XB D vwCl (tysX cI cL cO) (va_A (wM ad cI cL cO mth msc mec msrc mitm mknd mplc mclk mnc mnf mns msd mrl mrow mw mb mway moff) sz) (wM ad cI cL cO u msc mec msrc mitm mknd mplc mclk mnc mnf mns msd mrl mrow mw mb mway moff) t) (va_A (wM ad cI cL cO mth msc mec msrc mitm mknd mplc mclk mnc mnf mns msd mrl mrow mw mb mway moff) sz)) (XT D vwCl (tysX cI cL cO) (va_A (wM ad cI cL cO mth msc mec msrc mitm mknd mplc mclk mnc mnf mns msd mrl mrow mw mb mway moff) sz) (wM ad cI cL cO mth msc mec msrc mitm mknd mplc mclk mnc mnf mns msd mrl mrow mw mb mway moff) (fun _ => False)) rm_M_ring.cells rm_M_ring.slots (va_A (wM ad cI cL cO mth msc mec msrc mitm mknd mplc mclk mnc mnf mns msd mrl mrow mw mb mway moff) sz) := by
  refine x_met [.ref (ad 0), .int a1] TBL_good (by decide) (Nat.le_of_ble_eq_true rfl) ?_
  intro p e s m args below meth c hC hr hlk hnm hnh
  have hret : ∀ (ce sl : Nat), ce ≤ rm_M_ring.cells → sl ≤ rm_M_ring.slots → ∀ (r : Int32) (u : Int32), Qr r u → ∀ (pc : Nat) (lv : List (Nat × Value)), decode bM_ring pc = .ok (.ireturn, 1) → XW p l e rm_M_ring s m args below meth c D vwCl (va_A (wM ad cI cL cO mth msc mec msrc mitm mknd mplc mclk mnc mnf mns msd mrl mrow mw mb mway moff) sz) 2 (vx_MQ below (va_Qi Qr (fun u t => XB D vwCl (tysX cI cL cO) (va_A (wM ad cI cL cO mth msc mec msrc mitm mknd mplc mclk mnc mnf mns msd mrl mrow mw mb mway moff) sz) (wM ad cI cL cO u msc mec msrc mitm mknd mplc mclk mnc mnf mns msd mrl mrow mw mb mway moff) t) (va_A (wM ad cI cL cO mth msc mec msrc mitm mknd mplc mclk mnc mnf mns msd mrl mrow mw mb mway moff) sz)) (XT D vwCl (tysX cI cL cO) (va_A (wM ad cI cL cO mth msc mec msrc mitm mknd mplc mclk mnc mnf mns msd mrl mrow mw mb mway moff) sz) (wM ad cI cL cO mth msc mec msrc mitm mknd mplc mclk mnc mnf mns msd mrl mrow mw mb mway moff) (fun _ => False)) args s rm_M_ring.cells rm_M_ring.slots (va_A (wM ad cI cL cO mth msc mec msrc mitm mknd mplc mclk mnc mnf mns msd mrl mrow mw mb mway moff) sz)) ce sl (wM ad cI cL cO u msc mec msrc mitm mknd mplc mclk mnc mnf mns msd mrl mrow mw mb mway moff) pc lv [.int r] := fun ce sl h1 h2 r u hq pc lv hd => x_iret (wf := fun u => (wM ad cI cL cO u msc mec msrc mitm mknd mplc mclk mnc mnf mns msd mrl mrow mw mb mway moff)) hC h1 h2 hr hlk hd hq rfl
  show XW p l e rm_M_ring s m args below meth c D vwCl (va_A (wM ad cI cL cO mth msc mec msrc mitm mknd mplc mclk mnc mnf mns msd mrl mrow mw mb mway moff) sz) 2 _ 0 0 (wM ad cI cL cO mth msc mec msrc mitm mknd mplc mclk mnc mnf mns msd mrl mrow mw mb mway moff) 0 [(0, .ref (ad 0)), (1, .int a1)] []
  unfold M_ring_wp at h
  refine x_aload_n hC dM_ring_0 rfl 0 rfl ?_
  refine x_iconst (v := 0) hC dM_ring_1 (by decide) ?_
  refine x_put (ty := .int) (ws' := (wM ad cI cL cO 0 msc mec msrc mitm mknd mplc mclk mnc mnf mns msd mrl mrow mw mb mway moff)) hC iM 0 wM_0 rfl 0 (by decide) k_m0 rfl tM tM_ok nM rfl (by decide +kernel) rfl rfl (Nat.le_of_ble_eq_true rfl) rfl dM_ring_2 ?_
  refine x_iload_n hC dM_ring_5 rfl 1 rfl ?_
  refine x_i2l (v := a1.toInt64) hC dM_ring_6 rfl ?_
  refine x_lconst (v := 0) hC dM_ring_7 (by decide) ?_
  refine x_aload_n hC dM_ring_8 rfl 0 rfl ?_
  refine x_get hC iM 0 wM_0 rfl 12 (by decide) k_m40 rfl rfl dM_ring_9 ?_
  refine x_iconst (v := 1) hC dM_ring_12 (by decide) ?_
  refine x_isub hC dM_ring_13 ?_
  refine x_i2l (v := (mrl - 1).toInt64) hC dM_ring_14 rfl ?_
  refine x_callSi (S := Unit) (wf := fun u => (wM ad cI cL cO 0 msc mec msrc mitm mknd mplc mclk mnc mnf mns msd mrl mrow mw mb mway moff)) hC [.long a1.toInt64, .long 0, .long ((mrl - 1).toInt64)] (fun sz => c_M_within h sz) (by decide) (by decide) k_m8 k_m9 k_m10 (by decide) 3 rfl (by decide +kernel) ⟨by decide, by decide⟩ (Nat.le_of_ble_eq_true rfl) k_m11 rfl dM_ring_15 (fun _ h9 => h9) (fun r_1 u_2 h => ?_)
  refine x_if_eq (tgt := 30) hC dM_ring_18 (by decide) (fun c_3 => ?_) (fun c_3 => ?_)
  · have h := h.1 c_3
    refine x_iconst (v := -1) hC dM_ring_30 (by decide) ?_
    exact hret _ _ (by decide) (by decide) (-1) 0 h _ _ dM_ring_31
  · have h := h.2 c_3
    refine x_aload_n hC dM_ring_21 rfl 0 rfl ?_
    refine x_get hC iM 0 wM_0 rfl 13 (by decide) k_m41 rfl rfl dM_ring_22 ?_
    refine x_iload_n hC dM_ring_25 rfl 1 rfl ?_
    obtain ⟨hb_4, h⟩ := h
    refine x_iald hC 8 0 wM_8 rfl hb_4 dM_ring_26 ?_
    refine x_goto (tgt := 31) hC dM_ring_27 (by decide) ?_
    exact hret _ _ (by decide) (by decide) (mrow a1.toNatClampNeg) 0 h _ _ dM_ring_31

/-! EventOrderModel.ask(II)I -/
abbrev rm_M_ask : Room := { frames := 1, cells := 0, slots := 0, locals := 25 }
def M_ask_L33 (v1 : Int32) (v2 : Int32) (mec : Int32) (msrc : (Nat → Int32)) (mitm : (Nat → Int32)) (mknd : (Nat → Int32)) (mplc : (Nat → Int32)) (Qx : Int32 → Prop) : Nat → Int32 → Int32 → Prop
  | 0, _, _ => False
  | n + 1, v3, v4 => ((mec < v4 → Qx v3) ∧ (¬ mec < v4 → ((¬ v1 = 0 → ((¬ v1 = 1 → ((¬ v1 = 2 → vp_in v4 301 ∧ ((¬ (mknd v4.toNatClampNeg) = v2 → M_ask_L33 v1 v2 mec msrc mitm mknd mplc Qx n v3 (v4 + 1)) ∧ ((mknd v4.toNatClampNeg) = v2 → M_ask_L33 v1 v2 mec msrc mitm mknd mplc Qx n (v3 + 1) (v4 + 1)))) ∧ (v1 = 2 → vp_in v4 301 ∧ ((¬ (msrc v4.toNatClampNeg) = v2 → M_ask_L33 v1 v2 mec msrc mitm mknd mplc Qx n v3 (v4 + 1)) ∧ ((msrc v4.toNatClampNeg) = v2 → M_ask_L33 v1 v2 mec msrc mitm mknd mplc Qx n (v3 + 1) (v4 + 1)))))) ∧ (v1 = 1 → vp_in v4 301 ∧ ((¬ (mplc v4.toNatClampNeg) = v2 → M_ask_L33 v1 v2 mec msrc mitm mknd mplc Qx n v3 (v4 + 1)) ∧ ((mplc v4.toNatClampNeg) = v2 → M_ask_L33 v1 v2 mec msrc mitm mknd mplc Qx n (v3 + 1) (v4 + 1)))))) ∧ (v1 = 0 → vp_in v4 301 ∧ ((¬ (mitm v4.toNatClampNeg) = v2 → M_ask_L33 v1 v2 mec msrc mitm mknd mplc Qx n v3 (v4 + 1)) ∧ ((mitm v4.toNatClampNeg) = v2 → M_ask_L33 v1 v2 mec msrc mitm mknd mplc Qx n (v3 + 1) (v4 + 1)))))))

def M_ask_B18 (v1 : Int32) (v2 : Int32) (s0 : Int32) (mth : Int32) (mec : Int32) (msrc : (Nat → Int32)) (mitm : (Nat → Int32)) (mknd : (Nat → Int32)) (mplc : (Nat → Int32)) (Qr : Int32 → Int32 → Prop) : Prop := M_refused_wp mth s0 0 0 (fun (r_4 : Int32) (u_5 : Int32) => ((r_4 = 0 → (∃ n_20 : Nat, M_ask_L33 v1 v2 mec msrc mitm mknd mplc (fun (v3_19 : Int32) => Qr v3_19 u_5) n_20 0 1)) ∧ (¬ r_4 = 0 → Qr 0 u_5)))

def M_ask_wp (mth : Int32) (mec : Int32) (msrc : (Nat → Int32)) (mitm : (Nat → Int32)) (mknd : (Nat → Int32)) (mplc : (Nat → Int32)) (a1 : Int32) (a2 : Int32) (Qr : Int32 → Int32 → Prop) : Prop := M_within_wp a1.toInt64 0 3 (fun (r_1 : Int32) (u_2 : Unit) => ((¬ r_1 = 0 → M_ask_B18 a1 a2 0 mth mec msrc mitm mknd mplc Qr) ∧ (r_1 = 0 → M_ask_B18 a1 a2 1 mth mec msrc mitm mknd mplc Qr)))
set_option maxHeartbeats 4000000 in
set_option maxRecDepth 100000 in
theorem M_ask_L33_ok {p : Program} {l : Launch} {e : Env} {s : State} {m : MethodId} {args : Array Value} {below : List Frame} {meth : Method} {c : Code} {Q : State → Prop} {D : va_G} {A : Nat → Prop} {ad : Nat → Nat} {cI cL cO : ClassId} {mth : Int32} {msc : Int32} {mec : Int32} {msrc : (Nat → Int32)} {mitm : (Nat → Int32)} {mknd : (Nat → Int32)} {mplc : (Nat → Int32)} {mclk : (Nat → Int64)} {mnc : Int32} {mnf : (Nat → Int32)} {mns : (Nat → Int32)} {msd : Int32} {mrl : Int32} {mrow : (Nat → Int32)} {mw : (Nat → Int64)} {mb : (Nat → Int64)} {mway : (Nat → Int64)} {moff : (Nat → Int64)} {v1 : Int32} {v2 : Int32} {Qx : Int32 → Prop} (hC : XC p s m args c D vwCl (tysX cI cL cO) A 6 bM_ask TBL RM)  (hexit : ∀ (v3 : Int32), Qx v3 → XW p l e rm_M_ask s m args below meth c D vwCl A 6 Q 0 0 (wM ad cI cL cO mth msc mec msrc mitm mknd mplc mclk mnc mnf mns msd mrl mrow mw mb mway moff) 115 [(3, .int v3)] []) : ∀ (n : Nat) (v3 : Int32) (v4 : Int32), M_ask_L33 v1 v2 mec msrc mitm mknd mplc Qx n v3 v4 → XW p l e rm_M_ask s m args below meth c D vwCl A 6 Q 0 0 (wM ad cI cL cO mth msc mec msrc mitm mknd mplc mclk mnc mnf mns msd mrl mrow mw mb mway moff) 33 [(0, .ref (ad 0)), (1, .int v1), (2, .int v2), (3, .int v3), (4, .int v4)] [] := by
  intro n
  induction n with
  | zero => intro v3 v4 h; exact False.elim h
  | succ n ih =>
    intro v3 v4 h
    unfold M_ask_L33 at h
    refine x_iload hC dM_ask_33 4 rfl ?_
    refine x_aload_n hC dM_ask_35 rfl 0 rfl ?_
    refine x_get hC iM 0 wM_0 rfl 2 (by decide) k_m13 rfl rfl dM_ask_36 ?_
    refine x_icmp_gt (tgt := 115) hC dM_ask_39 (by decide) (fun c_7 => ?_) (fun c_7 => ?_)
    · have h := h.1 c_7
      refine x_lv [3] rfl ?_
      exact hexit v3 h
    · have h := h.2 c_7
      refine x_iload_n hC dM_ask_42 rfl 1 rfl ?_
      refine x_if_ne (tgt := 56) hC dM_ask_43 (by decide) (fun c_8 => ?_) (fun c_8 => ?_)
      · have h := h.1 c_8
        refine x_iload_n hC dM_ask_56 rfl 1 rfl ?_
        refine x_iconst (v := 1) hC dM_ask_57 (by decide) ?_
        refine x_icmp_ne (tgt := 71) hC dM_ask_58 (by decide) (fun c_9 => ?_) (fun c_9 => ?_)
        · have h := h.1 c_9
          refine x_iload_n hC dM_ask_71 rfl 1 rfl ?_
          refine x_iconst (v := 2) hC dM_ask_72 (by decide) ?_
          refine x_icmp_ne (tgt := 86) hC dM_ask_73 (by decide) (fun c_10 => ?_) (fun c_10 => ?_)
          · have h := h.1 c_10
            refine x_aload_n hC dM_ask_86 rfl 0 rfl ?_
            refine x_get hC iM 0 wM_0 rfl 5 (by decide) k_m16 rfl rfl dM_ask_87 ?_
            refine x_iload hC dM_ask_90 4 rfl ?_
            obtain ⟨hb_11, h⟩ := h
            refine x_iald hC 3 0 wM_3 rfl hb_11 dM_ask_92 ?_
            refine x_istore (lv' := [(5, .int (mknd v4.toNatClampNeg)), (0, .ref (ad 0)), (1, .int v1), (2, .int v2), (3, .int v3), (4, .int v4)]) hC dM_ask_93 (by decide) rfl ?_
            refine x_iload hC dM_ask_95 0 rfl ?_
            refine x_iload_n hC dM_ask_97 rfl 3 rfl ?_
            refine x_icmp_ne (tgt := 107) hC dM_ask_98 (by decide) (fun c_12 => ?_) (fun c_12 => ?_)
            · have h := h.1 c_12
              refine x_iload_n hC dM_ask_107 rfl 4 rfl ?_
              refine x_istore_n (lv' := [(3, .int v3), (5, .int (mknd v4.toNatClampNeg)), (0, .ref (ad 0)), (1, .int v1), (2, .int v2), (4, .int v4)]) hC dM_ask_108 rfl (by decide) rfl ?_
              refine x_iinc (v := v4 + 1) (lv' := [(4, .int (v4 + 1)), (3, .int v3), (5, .int (mknd v4.toNatClampNeg)), (0, .ref (ad 0)), (1, .int v1), (2, .int v2)]) hC dM_ask_109 5 rfl rfl (by decide) rfl ?_
              refine x_goto (tgt := 33) hC dM_ask_112 (by decide) ?_
              refine x_lv [3, 4, 5, 1, 0] rfl ?_
              exact ih v3 (v4 + 1) h
            · have h := h.2 c_12
              refine x_iload_n hC dM_ask_101 rfl 4 rfl ?_
              refine x_iconst (v := 1) hC dM_ask_102 (by decide) ?_
              refine x_iadd hC dM_ask_103 ?_
              refine x_goto (tgt := 108) hC dM_ask_104 (by decide) ?_
              refine x_istore_n (lv' := [(3, .int (v3 + 1)), (5, .int (mknd v4.toNatClampNeg)), (0, .ref (ad 0)), (1, .int v1), (2, .int v2), (4, .int v4)]) hC dM_ask_108 rfl (by decide) rfl ?_
              refine x_iinc (v := v4 + 1) (lv' := [(4, .int (v4 + 1)), (3, .int (v3 + 1)), (5, .int (mknd v4.toNatClampNeg)), (0, .ref (ad 0)), (1, .int v1), (2, .int v2)]) hC dM_ask_109 5 rfl rfl (by decide) rfl ?_
              refine x_goto (tgt := 33) hC dM_ask_112 (by decide) ?_
              refine x_lv [3, 4, 5, 1, 0] rfl ?_
              exact ih (v3 + 1) (v4 + 1) h
          · have h := h.2 c_10
            refine x_aload_n hC dM_ask_76 rfl 0 rfl ?_
            refine x_get hC iM 0 wM_0 rfl 3 (by decide) k_m14 rfl rfl dM_ask_77 ?_
            refine x_iload hC dM_ask_80 4 rfl ?_
            obtain ⟨hb_13, h⟩ := h
            refine x_iald hC 1 0 wM_1 rfl hb_13 dM_ask_82 ?_
            refine x_goto (tgt := 93) hC dM_ask_83 (by decide) ?_
            refine x_istore (lv' := [(5, .int (msrc v4.toNatClampNeg)), (0, .ref (ad 0)), (1, .int v1), (2, .int v2), (3, .int v3), (4, .int v4)]) hC dM_ask_93 (by decide) rfl ?_
            refine x_iload hC dM_ask_95 0 rfl ?_
            refine x_iload_n hC dM_ask_97 rfl 3 rfl ?_
            refine x_icmp_ne (tgt := 107) hC dM_ask_98 (by decide) (fun c_14 => ?_) (fun c_14 => ?_)
            · have h := h.1 c_14
              refine x_iload_n hC dM_ask_107 rfl 4 rfl ?_
              refine x_istore_n (lv' := [(3, .int v3), (5, .int (msrc v4.toNatClampNeg)), (0, .ref (ad 0)), (1, .int v1), (2, .int v2), (4, .int v4)]) hC dM_ask_108 rfl (by decide) rfl ?_
              refine x_iinc (v := v4 + 1) (lv' := [(4, .int (v4 + 1)), (3, .int v3), (5, .int (msrc v4.toNatClampNeg)), (0, .ref (ad 0)), (1, .int v1), (2, .int v2)]) hC dM_ask_109 5 rfl rfl (by decide) rfl ?_
              refine x_goto (tgt := 33) hC dM_ask_112 (by decide) ?_
              refine x_lv [3, 4, 5, 1, 0] rfl ?_
              exact ih v3 (v4 + 1) h
            · have h := h.2 c_14
              refine x_iload_n hC dM_ask_101 rfl 4 rfl ?_
              refine x_iconst (v := 1) hC dM_ask_102 (by decide) ?_
              refine x_iadd hC dM_ask_103 ?_
              refine x_goto (tgt := 108) hC dM_ask_104 (by decide) ?_
              refine x_istore_n (lv' := [(3, .int (v3 + 1)), (5, .int (msrc v4.toNatClampNeg)), (0, .ref (ad 0)), (1, .int v1), (2, .int v2), (4, .int v4)]) hC dM_ask_108 rfl (by decide) rfl ?_
              refine x_iinc (v := v4 + 1) (lv' := [(4, .int (v4 + 1)), (3, .int (v3 + 1)), (5, .int (msrc v4.toNatClampNeg)), (0, .ref (ad 0)), (1, .int v1), (2, .int v2)]) hC dM_ask_109 5 rfl rfl (by decide) rfl ?_
              refine x_goto (tgt := 33) hC dM_ask_112 (by decide) ?_
              refine x_lv [3, 4, 5, 1, 0] rfl ?_
              exact ih (v3 + 1) (v4 + 1) h
        · have h := h.2 c_9
          refine x_aload_n hC dM_ask_61 rfl 0 rfl ?_
          refine x_get hC iM 0 wM_0 rfl 6 (by decide) k_m17 rfl rfl dM_ask_62 ?_
          refine x_iload hC dM_ask_65 4 rfl ?_
          obtain ⟨hb_15, h⟩ := h
          refine x_iald hC 4 0 wM_4 rfl hb_15 dM_ask_67 ?_
          refine x_goto (tgt := 93) hC dM_ask_68 (by decide) ?_
          refine x_istore (lv' := [(5, .int (mplc v4.toNatClampNeg)), (0, .ref (ad 0)), (1, .int v1), (2, .int v2), (3, .int v3), (4, .int v4)]) hC dM_ask_93 (by decide) rfl ?_
          refine x_iload hC dM_ask_95 0 rfl ?_
          refine x_iload_n hC dM_ask_97 rfl 3 rfl ?_
          refine x_icmp_ne (tgt := 107) hC dM_ask_98 (by decide) (fun c_16 => ?_) (fun c_16 => ?_)
          · have h := h.1 c_16
            refine x_iload_n hC dM_ask_107 rfl 4 rfl ?_
            refine x_istore_n (lv' := [(3, .int v3), (5, .int (mplc v4.toNatClampNeg)), (0, .ref (ad 0)), (1, .int v1), (2, .int v2), (4, .int v4)]) hC dM_ask_108 rfl (by decide) rfl ?_
            refine x_iinc (v := v4 + 1) (lv' := [(4, .int (v4 + 1)), (3, .int v3), (5, .int (mplc v4.toNatClampNeg)), (0, .ref (ad 0)), (1, .int v1), (2, .int v2)]) hC dM_ask_109 5 rfl rfl (by decide) rfl ?_
            refine x_goto (tgt := 33) hC dM_ask_112 (by decide) ?_
            refine x_lv [3, 4, 5, 1, 0] rfl ?_
            exact ih v3 (v4 + 1) h
          · have h := h.2 c_16
            refine x_iload_n hC dM_ask_101 rfl 4 rfl ?_
            refine x_iconst (v := 1) hC dM_ask_102 (by decide) ?_
            refine x_iadd hC dM_ask_103 ?_
            refine x_goto (tgt := 108) hC dM_ask_104 (by decide) ?_
            refine x_istore_n (lv' := [(3, .int (v3 + 1)), (5, .int (mplc v4.toNatClampNeg)), (0, .ref (ad 0)), (1, .int v1), (2, .int v2), (4, .int v4)]) hC dM_ask_108 rfl (by decide) rfl ?_
            refine x_iinc (v := v4 + 1) (lv' := [(4, .int (v4 + 1)), (3, .int (v3 + 1)), (5, .int (mplc v4.toNatClampNeg)), (0, .ref (ad 0)), (1, .int v1), (2, .int v2)]) hC dM_ask_109 5 rfl rfl (by decide) rfl ?_
            refine x_goto (tgt := 33) hC dM_ask_112 (by decide) ?_
            refine x_lv [3, 4, 5, 1, 0] rfl ?_
            exact ih (v3 + 1) (v4 + 1) h
      · have h := h.2 c_8
        refine x_aload_n hC dM_ask_46 rfl 0 rfl ?_
        refine x_get hC iM 0 wM_0 rfl 4 (by decide) k_m15 rfl rfl dM_ask_47 ?_
        refine x_iload hC dM_ask_50 4 rfl ?_
        obtain ⟨hb_17, h⟩ := h
        refine x_iald hC 2 0 wM_2 rfl hb_17 dM_ask_52 ?_
        refine x_goto (tgt := 93) hC dM_ask_53 (by decide) ?_
        refine x_istore (lv' := [(5, .int (mitm v4.toNatClampNeg)), (0, .ref (ad 0)), (1, .int v1), (2, .int v2), (3, .int v3), (4, .int v4)]) hC dM_ask_93 (by decide) rfl ?_
        refine x_iload hC dM_ask_95 0 rfl ?_
        refine x_iload_n hC dM_ask_97 rfl 3 rfl ?_
        refine x_icmp_ne (tgt := 107) hC dM_ask_98 (by decide) (fun c_18 => ?_) (fun c_18 => ?_)
        · have h := h.1 c_18
          refine x_iload_n hC dM_ask_107 rfl 4 rfl ?_
          refine x_istore_n (lv' := [(3, .int v3), (5, .int (mitm v4.toNatClampNeg)), (0, .ref (ad 0)), (1, .int v1), (2, .int v2), (4, .int v4)]) hC dM_ask_108 rfl (by decide) rfl ?_
          refine x_iinc (v := v4 + 1) (lv' := [(4, .int (v4 + 1)), (3, .int v3), (5, .int (mitm v4.toNatClampNeg)), (0, .ref (ad 0)), (1, .int v1), (2, .int v2)]) hC dM_ask_109 5 rfl rfl (by decide) rfl ?_
          refine x_goto (tgt := 33) hC dM_ask_112 (by decide) ?_
          refine x_lv [3, 4, 5, 1, 0] rfl ?_
          exact ih v3 (v4 + 1) h
        · have h := h.2 c_18
          refine x_iload_n hC dM_ask_101 rfl 4 rfl ?_
          refine x_iconst (v := 1) hC dM_ask_102 (by decide) ?_
          refine x_iadd hC dM_ask_103 ?_
          refine x_goto (tgt := 108) hC dM_ask_104 (by decide) ?_
          refine x_istore_n (lv' := [(3, .int (v3 + 1)), (5, .int (mitm v4.toNatClampNeg)), (0, .ref (ad 0)), (1, .int v1), (2, .int v2), (4, .int v4)]) hC dM_ask_108 rfl (by decide) rfl ?_
          refine x_iinc (v := v4 + 1) (lv' := [(4, .int (v4 + 1)), (3, .int (v3 + 1)), (5, .int (mitm v4.toNatClampNeg)), (0, .ref (ad 0)), (1, .int v1), (2, .int v2)]) hC dM_ask_109 5 rfl rfl (by decide) rfl ?_
          refine x_goto (tgt := 33) hC dM_ask_112 (by decide) ?_
          refine x_lv [3, 4, 5, 1, 0] rfl ?_
          exact ih (v3 + 1) (v4 + 1) h

set_option maxHeartbeats 4000000 in
set_option maxRecDepth 100000 in
theorem M_ask_B18_ok {p : Program} {l : Launch} {e : Env} {s : State} {m : MethodId} {args : Array Value} {below : List Frame} {meth : Method} {c : Code} {Q : State → Prop} {D : va_G} {A : Nat → Prop} {ad : Nat → Nat} {cI cL cO : ClassId} {mth : Int32} {msc : Int32} {mec : Int32} {msrc : (Nat → Int32)} {mitm : (Nat → Int32)} {mknd : (Nat → Int32)} {mplc : (Nat → Int32)} {mclk : (Nat → Int64)} {mnc : Int32} {mnf : (Nat → Int32)} {mns : (Nat → Int32)} {msd : Int32} {mrl : Int32} {mrow : (Nat → Int32)} {mw : (Nat → Int64)} {mb : (Nat → Int64)} {mway : (Nat → Int64)} {moff : (Nat → Int64)} {v1 : Int32} {v2 : Int32} {s0 : Int32} {Qr : Int32 → Int32 → Prop} (hC : XC p s m args c D vwCl (tysX cI cL cO) A 6 bM_ask TBL RM) (hret : ∀ (r : Int32) (u : Int32), Qr r u → ∀ (pc : Nat) (lv : List (Nat × Value)), decode bM_ask pc = .ok (.ireturn, 1) → XW p l e rm_M_ask s m args below meth c D vwCl A 6 Q 0 0 (wM ad cI cL cO u msc mec msrc mitm mknd mplc mclk mnc mnf mns msd mrl mrow mw mb mway moff) pc lv [.int r]) (h : M_ask_B18 v1 v2 s0 mth mec msrc mitm mknd mplc Qr) : XW p l e rm_M_ask s m args below meth c D vwCl A 6 Q 0 0 (wM ad cI cL cO mth msc mec msrc mitm mknd mplc mclk mnc mnf mns msd mrl mrow mw mb mway moff) 18 [(0, .ref (ad 0)), (1, .int v1), (2, .int v2)] [.int s0, .ref (ad 0)] := by
  unfold M_ask_B18 at h
  refine x_iconst (v := 0) hC dM_ask_18 (by decide) ?_
  refine x_iconst (v := 0) hC dM_ask_19 (by decide) ?_
  refine x_callVi (S := Int32) (wf := fun u => (wM ad cI cL cO u msc mec msrc mitm mknd mplc mclk mnc mnf mns msd mrl mrow mw mb mway moff)) hC [.int s0, .int 0, .int 0] (fun sz => c_M_refused h sz) (by decide) (by decide) k_m3 k_m4 k_m5 (by decide) 3 rfl (by decide +kernel) ⟨by decide, by decide⟩ (Nat.le_of_ble_eq_true rfl) k_m6 k_m7 wM_0 rfl rfl dM_ask_20 (fun _ h9 => h9) (fun r_4 u_5 h => ?_)
  refine x_if_eq (tgt := 28) hC dM_ask_23 (by decide) (fun c_6 => ?_) (fun c_6 => ?_)
  · have h := h.1 c_6
    refine x_iconst (v := 0) hC dM_ask_28 (by decide) ?_
    refine x_istore_n (lv' := [(3, .int 0), (0, .ref (ad 0)), (1, .int v1), (2, .int v2)]) hC dM_ask_29 rfl (by decide) rfl ?_
    refine x_iconst (v := 1) hC dM_ask_30 (by decide) ?_
    refine x_istore (lv' := [(4, .int 1), (3, .int 0), (0, .ref (ad 0)), (1, .int v1), (2, .int v2)]) hC dM_ask_31 (by decide) rfl ?_
    obtain ⟨n_20, h⟩ := h
    refine x_lv [2, 3, 4, 1, 0] rfl ?_
    refine M_ask_L33_ok hC (fun v3_19 h => ?_) n_20 0 1 h
    refine x_iload_n hC dM_ask_115 rfl 0 rfl ?_
    exact hret v3_19 u_5 h _ _ dM_ask_116
  · have h := h.2 c_6
    refine x_iconst (v := 0) hC dM_ask_26 (by decide) ?_
    exact hret 0 u_5 h _ _ dM_ask_27

set_option maxHeartbeats 4000000 in
set_option maxRecDepth 100000 in
theorem c_M_ask {l : Launch} {D : va_G} {ad : Nat → Nat} {cI cL cO : ClassId} {mth : Int32} {msc : Int32} {mec : Int32} {msrc : (Nat → Int32)} {mitm : (Nat → Int32)} {mknd : (Nat → Int32)} {mplc : (Nat → Int32)} {mclk : (Nat → Int64)} {mnc : Int32} {mnf : (Nat → Int32)} {mns : (Nat → Int32)} {msd : Int32} {mrl : Int32} {mrow : (Nat → Int32)} {mw : (Nat → Int64)} {mb : (Nat → Int64)} {mway : (Nat → Int64)} {moff : (Nat → Int64)} {a1 : Int32} {a2 : Int32} {Qr : Int32 → Int32 → Prop} (h : M_ask_wp mth mec msrc mitm mknd mplc a1 a2 Qr) (sz : Nat) : vx_Met l yM_ask (Cond.code yM_ask bM_ask 6 (some .int) :: TBL) rm_M_ask (va_Pc [.ref (ad 0), .int a1, .int a2] (XP D vwCl (tysX cI cL cO) (wM ad cI cL cO mth msc mec msrc mitm mknd mplc mclk mnc mnf mns msd mrl mrow mw mb mway moff) sz)) (va_Qi Qr (fun u t => XB D vwCl (tysX cI cL cO) (va_A (wM ad cI cL cO mth msc mec msrc mitm mknd mplc mclk mnc mnf mns msd mrl mrow mw mb mway moff) sz) (wM ad cI cL cO u msc mec msrc mitm mknd mplc mclk mnc mnf mns msd mrl mrow mw mb mway moff) t) (va_A (wM ad cI cL cO mth msc mec msrc mitm mknd mplc mclk mnc mnf mns msd mrl mrow mw mb mway moff) sz)) (XT D vwCl (tysX cI cL cO) (va_A (wM ad cI cL cO mth msc mec msrc mitm mknd mplc mclk mnc mnf mns msd mrl mrow mw mb mway moff) sz) (wM ad cI cL cO mth msc mec msrc mitm mknd mplc mclk mnc mnf mns msd mrl mrow mw mb mway moff) (fun _ => False)) rm_M_ask.cells rm_M_ask.slots (va_A (wM ad cI cL cO mth msc mec msrc mitm mknd mplc mclk mnc mnf mns msd mrl mrow mw mb mway moff) sz) := by
  refine x_met [.ref (ad 0), .int a1, .int a2] TBL_good (by decide) (Nat.le_of_ble_eq_true rfl) ?_
  intro p e s m args below meth c hC hr hlk hnm hnh
  have hret : ∀ (ce sl : Nat), ce ≤ rm_M_ask.cells → sl ≤ rm_M_ask.slots → ∀ (r : Int32) (u : Int32), Qr r u → ∀ (pc : Nat) (lv : List (Nat × Value)), decode bM_ask pc = .ok (.ireturn, 1) → XW p l e rm_M_ask s m args below meth c D vwCl (va_A (wM ad cI cL cO mth msc mec msrc mitm mknd mplc mclk mnc mnf mns msd mrl mrow mw mb mway moff) sz) 6 (vx_MQ below (va_Qi Qr (fun u t => XB D vwCl (tysX cI cL cO) (va_A (wM ad cI cL cO mth msc mec msrc mitm mknd mplc mclk mnc mnf mns msd mrl mrow mw mb mway moff) sz) (wM ad cI cL cO u msc mec msrc mitm mknd mplc mclk mnc mnf mns msd mrl mrow mw mb mway moff) t) (va_A (wM ad cI cL cO mth msc mec msrc mitm mknd mplc mclk mnc mnf mns msd mrl mrow mw mb mway moff) sz)) (XT D vwCl (tysX cI cL cO) (va_A (wM ad cI cL cO mth msc mec msrc mitm mknd mplc mclk mnc mnf mns msd mrl mrow mw mb mway moff) sz) (wM ad cI cL cO mth msc mec msrc mitm mknd mplc mclk mnc mnf mns msd mrl mrow mw mb mway moff) (fun _ => False)) args s rm_M_ask.cells rm_M_ask.slots (va_A (wM ad cI cL cO mth msc mec msrc mitm mknd mplc mclk mnc mnf mns msd mrl mrow mw mb mway moff) sz)) ce sl (wM ad cI cL cO u msc mec msrc mitm mknd mplc mclk mnc mnf mns msd mrl mrow mw mb mway moff) pc lv [.int r] := fun ce sl h1 h2 r u hq pc lv hd => x_iret (wf := fun u => (wM ad cI cL cO u msc mec msrc mitm mknd mplc mclk mnc mnf mns msd mrl mrow mw mb mway moff)) hC h1 h2 hr hlk hd hq rfl
  show XW p l e rm_M_ask s m args below meth c D vwCl (va_A (wM ad cI cL cO mth msc mec msrc mitm mknd mplc mclk mnc mnf mns msd mrl mrow mw mb mway moff) sz) 6 _ 0 0 (wM ad cI cL cO mth msc mec msrc mitm mknd mplc mclk mnc mnf mns msd mrl mrow mw mb mway moff) 0 [(0, .ref (ad 0)), (1, .int a1), (2, .int a2)] []
  unfold M_ask_wp at h
  refine x_aload_n hC dM_ask_0 rfl 0 rfl ?_
  refine x_iload_n hC dM_ask_1 rfl 1 rfl ?_
  refine x_i2l (v := a1.toInt64) hC dM_ask_2 rfl ?_
  refine x_lconst (v := 0) hC dM_ask_3 (by decide) ?_
  refine x_ldc2 (v := 3) hC k_m42 dM_ask_4 ?_
  refine x_callSi (S := Unit) (wf := fun u => (wM ad cI cL cO mth msc mec msrc mitm mknd mplc mclk mnc mnf mns msd mrl mrow mw mb mway moff)) hC [.long a1.toInt64, .long 0, .long 3] (fun sz => c_M_within h sz) (by decide) (by decide) k_m8 k_m9 k_m10 (by decide) 3 rfl (by decide +kernel) ⟨by decide, by decide⟩ (Nat.le_of_ble_eq_true rfl) k_m11 rfl dM_ask_7 (fun _ h9 => h9) (fun r_1 u_2 h => ?_)
  refine x_if_ne (tgt := 17) hC dM_ask_10 (by decide) (fun c_3 => ?_) (fun c_3 => ?_)
  · have h := h.1 c_3
    refine x_iconst (v := 0) hC dM_ask_17 (by decide) ?_
    refine x_lv [0, 1, 2] rfl ?_
    exact M_ask_B18_ok hC (hret _ _ (by decide) (by decide)) h
  · have h := h.2 c_3
    refine x_iconst (v := 1) hC dM_ask_13 (by decide) ?_
    refine x_goto (tgt := 18) hC dM_ask_14 (by decide) ?_
    refine x_lv [0, 1, 2] rfl ?_
    exact M_ask_B18_ok hC (hret _ _ (by decide) (by decide)) h

