def w0Ev (cI cL cO : ClassId) (a : Nat) (u : Nat → Nat) : va_W := ((((([(a, .inr (1, [.ref (u 0), .ref (u 1), .ref (u 2), .ref (u 3), .ref (u 4), .int 0]))] ++ [((u 0), .inl (cI, 301, .inl (fun _ => 0)))]) ++ [((u 1), .inl (cI, 301, .inl (fun _ => 0)))]) ++ [((u 2), .inl (cI, 301, .inl (fun _ => 0)))]) ++ [((u 3), .inl (cI, 301, .inl (fun _ => 0)))]) ++ [((u 4), .inl (cL, 301, .inr (.inl (fun _ => 0))))])
abbrev rm_Events_init : Room := { frames := 1, cells := 5, slots := 1505, locals := 20 }
set_option maxHeartbeats 4000000 in
set_option maxRecDepth 100000 in
theorem c_Events_init {l : Launch} {D : va_G} {cI cL cO : ClassId} {a : Nat} (sz : Nat) : Met l yEv_init (Cond.code yEv_init bEv_init 1 none :: TBL) rm_Events_init (va_Pc [.ref a] (fun U => XP D vwCl (tysX cI cL cO) [(a, .inr (1, [.null, .null, .null, .null, .null, .int 0]))] sz U ∧ XO U)) (va_Qv (fun _ => True) (fun (u : Nat → Nat) t => XB D vwCl (tysX cI cL cO) (va_A [(a, .inr (1, [.null, .null, .null, .null, .null, .int 0]))] sz) (w0Ev cI cL cO a u) t) (va_A [(a, .inr (1, [.null, .null, .null, .null, .null, .int 0]))] sz)) rm_Events_init.cells rm_Events_init.slots (va_A [(a, .inr (1, [.null, .null, .null, .null, .null, .int 0]))] sz) := by
  refine x_metP [.ref a] TBL_good (by decide) (Nat.le_of_ble_eq_true rfl) ?_
  intro p e s m args below meth c hC hr hlk hnm hO
  show XW p l e rm_Events_init s m args below meth c D vwCl (va_A [(a, .inr (1, [.null, .null, .null, .null, .null, .int 0]))] sz) 1 _ 0 0 [(a, .inr (1, [.null, .null, .null, .null, .null, .int 0]))] 0 [(0, .ref a)] []
  refine x_aload_n hC dEv_init_0 rfl 0 rfl ?_
  refine x_objInit hC k_c0 k_c1 k_c2 dEv_init_1 (by decide) (by decide) ?_
  refine x_aload_n hC dEv_init_4 rfl 0 rfl ?_
  refine x_sipush (v := 301) hC dEv_init_5 (by decide) ?_
  refine x_newi hC 301 0 rfl k_c3 (by decide) (by decide) (by decide) (by decide) (by decide) dEv_init_8 (fun q1 => ?_)
  refine x_putF (ty := .array .int) (ws' := ([(a, .inr (1, [.ref q1, .null, .null, .null, .null, .int 0]))] ++ [(q1, .inl (cI, 301, .inl (fun _ => 0)))])) hC iEv 0 rfl rfl 0 (by decide) k_c4 rfl tEv tEv_ok nEv rfl hnm rfl (by decide +kernel) rfl rfl (Nat.le_of_ble_eq_true rfl) rfl dEv_init_10 ?_
  refine x_aload_n hC dEv_init_13 rfl 0 rfl ?_
  refine x_sipush (v := 301) hC dEv_init_14 (by decide) ?_
  refine x_newi hC 301 0 rfl k_c3 (by decide) (by decide) (by decide) (by decide) (by decide) dEv_init_17 (fun q2 => ?_)
  refine x_putF (ty := .array .int) (ws' := (([(a, .inr (1, [.ref q1, .ref q2, .null, .null, .null, .int 0]))] ++ [(q1, .inl (cI, 301, .inl (fun _ => 0)))]) ++ [(q2, .inl (cI, 301, .inl (fun _ => 0)))])) hC iEv 0 rfl rfl 1 (by decide) k_c5 rfl tEv tEv_ok nEv rfl hnm rfl (by decide +kernel) rfl rfl (Nat.le_of_ble_eq_true rfl) rfl dEv_init_19 ?_
  refine x_aload_n hC dEv_init_22 rfl 0 rfl ?_
  refine x_sipush (v := 301) hC dEv_init_23 (by decide) ?_
  refine x_newi hC 301 0 rfl k_c3 (by decide) (by decide) (by decide) (by decide) (by decide) dEv_init_26 (fun q3 => ?_)
  refine x_putF (ty := .array .int) (ws' := ((([(a, .inr (1, [.ref q1, .ref q2, .ref q3, .null, .null, .int 0]))] ++ [(q1, .inl (cI, 301, .inl (fun _ => 0)))]) ++ [(q2, .inl (cI, 301, .inl (fun _ => 0)))]) ++ [(q3, .inl (cI, 301, .inl (fun _ => 0)))])) hC iEv 0 rfl rfl 2 (by decide) k_c6 rfl tEv tEv_ok nEv rfl hnm rfl (by decide +kernel) rfl rfl (Nat.le_of_ble_eq_true rfl) rfl dEv_init_28 ?_
  refine x_aload_n hC dEv_init_31 rfl 0 rfl ?_
  refine x_sipush (v := 301) hC dEv_init_32 (by decide) ?_
  refine x_newi hC 301 0 rfl k_c3 (by decide) (by decide) (by decide) (by decide) (by decide) dEv_init_35 (fun q4 => ?_)
  refine x_putF (ty := .array .int) (ws' := (((([(a, .inr (1, [.ref q1, .ref q2, .ref q3, .ref q4, .null, .int 0]))] ++ [(q1, .inl (cI, 301, .inl (fun _ => 0)))]) ++ [(q2, .inl (cI, 301, .inl (fun _ => 0)))]) ++ [(q3, .inl (cI, 301, .inl (fun _ => 0)))]) ++ [(q4, .inl (cI, 301, .inl (fun _ => 0)))])) hC iEv 0 rfl rfl 3 (by decide) k_c7 rfl tEv tEv_ok nEv rfl hnm rfl (by decide +kernel) rfl rfl (Nat.le_of_ble_eq_true rfl) rfl dEv_init_37 ?_
  refine x_aload_n hC dEv_init_40 rfl 0 rfl ?_
  refine x_sipush (v := 301) hC dEv_init_41 (by decide) ?_
  refine x_newl hC 301 1 rfl k_c8 (by decide) (by decide) (by decide) (by decide) (by decide) dEv_init_44 (fun q5 => ?_)
  refine x_putF (ty := .array .long) (ws' := ((((([(a, .inr (1, [.ref q1, .ref q2, .ref q3, .ref q4, .ref q5, .int 0]))] ++ [(q1, .inl (cI, 301, .inl (fun _ => 0)))]) ++ [(q2, .inl (cI, 301, .inl (fun _ => 0)))]) ++ [(q3, .inl (cI, 301, .inl (fun _ => 0)))]) ++ [(q4, .inl (cI, 301, .inl (fun _ => 0)))]) ++ [(q5, .inl (cL, 301, .inr (.inl (fun _ => 0))))])) hC iEv 0 rfl rfl 4 (by decide) k_c9 rfl tEv tEv_ok nEv rfl hnm rfl (by decide +kernel) rfl rfl (Nat.le_of_ble_eq_true rfl) rfl dEv_init_46 ?_
  refine x_aload_n hC dEv_init_49 rfl 0 rfl ?_
  refine x_iconst (v := 0) hC dEv_init_50 (by decide) ?_
  refine x_put (ty := .int) (ws' := ((((([(a, .inr (1, [.ref q1, .ref q2, .ref q3, .ref q4, .ref q5, .int 0]))] ++ [(q1, .inl (cI, 301, .inl (fun _ => 0)))]) ++ [(q2, .inl (cI, 301, .inl (fun _ => 0)))]) ++ [(q3, .inl (cI, 301, .inl (fun _ => 0)))]) ++ [(q4, .inl (cI, 301, .inl (fun _ => 0)))]) ++ [(q5, .inl (cL, 301, .inr (.inl (fun _ => 0))))])) hC iEv 0 rfl rfl 5 (by decide) k_c10 rfl tEv tEv_ok nEv rfl (by decide +kernel) rfl rfl (Nat.le_of_ble_eq_true rfl) rfl dEv_init_51 ?_
  exact x_vretP (u := fun k => ([q1, q2, q3, q4, q5] : List Nat).getD k 0) (wf := fun u => w0Ev cI cL cO a u) hC (by decide) (by decide) hr hlk dEv_init_54 trivial rfl
def w0Nd (cI cL cO : ClassId) (a : Nat) (u : Nat → Nat) : va_W := (([(a, .inr (2, [.ref (u 0), .ref (u 1), .int 0]))] ++ [((u 0), .inl (cI, 300, .inl (fun _ => 0)))]) ++ [((u 1), .inl (cI, 300, .inl (fun _ => 0)))])
abbrev rm_Needs_init : Room := { frames := 1, cells := 2, slots := 600, locals := 20 }
set_option maxHeartbeats 4000000 in
set_option maxRecDepth 100000 in
theorem c_Needs_init {l : Launch} {D : va_G} {cI cL cO : ClassId} {a : Nat} (sz : Nat) : Met l yNd_init (Cond.code yNd_init bNd_init 1 none :: TBL) rm_Needs_init (va_Pc [.ref a] (fun U => XP D vwCl (tysX cI cL cO) [(a, .inr (2, [.null, .null, .int 0]))] sz U ∧ XO U)) (va_Qv (fun _ => True) (fun (u : Nat → Nat) t => XB D vwCl (tysX cI cL cO) (va_A [(a, .inr (2, [.null, .null, .int 0]))] sz) (w0Nd cI cL cO a u) t) (va_A [(a, .inr (2, [.null, .null, .int 0]))] sz)) rm_Needs_init.cells rm_Needs_init.slots (va_A [(a, .inr (2, [.null, .null, .int 0]))] sz) := by
  refine x_metP [.ref a] TBL_good (by decide) (Nat.le_of_ble_eq_true rfl) ?_
  intro p e s m args below meth c hC hr hlk hnm hO
  show XW p l e rm_Needs_init s m args below meth c D vwCl (va_A [(a, .inr (2, [.null, .null, .int 0]))] sz) 1 _ 0 0 [(a, .inr (2, [.null, .null, .int 0]))] 0 [(0, .ref a)] []
  refine x_aload_n hC dNd_init_0 rfl 0 rfl ?_
  refine x_objInit hC k_c11 k_c1 k_c2 dNd_init_1 (by decide) (by decide) ?_
  refine x_aload_n hC dNd_init_4 rfl 0 rfl ?_
  refine x_sipush (v := 300) hC dNd_init_5 (by decide) ?_
  refine x_newi hC 300 0 rfl k_c3 (by decide) (by decide) (by decide) (by decide) (by decide) dNd_init_8 (fun q1 => ?_)
  refine x_putF (ty := .array .int) (ws' := ([(a, .inr (2, [.ref q1, .null, .int 0]))] ++ [(q1, .inl (cI, 300, .inl (fun _ => 0)))])) hC iNd 0 rfl rfl 0 (by decide) k_c12 rfl tNd tNd_ok nNd rfl hnm rfl (by decide +kernel) rfl rfl (Nat.le_of_ble_eq_true rfl) rfl dNd_init_10 ?_
  refine x_aload_n hC dNd_init_13 rfl 0 rfl ?_
  refine x_sipush (v := 300) hC dNd_init_14 (by decide) ?_
  refine x_newi hC 300 0 rfl k_c3 (by decide) (by decide) (by decide) (by decide) (by decide) dNd_init_17 (fun q2 => ?_)
  refine x_putF (ty := .array .int) (ws' := (([(a, .inr (2, [.ref q1, .ref q2, .int 0]))] ++ [(q1, .inl (cI, 300, .inl (fun _ => 0)))]) ++ [(q2, .inl (cI, 300, .inl (fun _ => 0)))])) hC iNd 0 rfl rfl 1 (by decide) k_c13 rfl tNd tNd_ok nNd rfl hnm rfl (by decide +kernel) rfl rfl (Nat.le_of_ble_eq_true rfl) rfl dNd_init_19 ?_
  refine x_aload_n hC dNd_init_22 rfl 0 rfl ?_
  refine x_iconst (v := 0) hC dNd_init_23 (by decide) ?_
  refine x_put (ty := .int) (ws' := (([(a, .inr (2, [.ref q1, .ref q2, .int 0]))] ++ [(q1, .inl (cI, 300, .inl (fun _ => 0)))]) ++ [(q2, .inl (cI, 300, .inl (fun _ => 0)))])) hC iNd 0 rfl rfl 2 (by decide) k_c14 rfl tNd tNd_ok nNd rfl (by decide +kernel) rfl rfl (Nat.le_of_ble_eq_true rfl) rfl dNd_init_24 ?_
  exact x_vretP (u := fun k => ([q1, q2] : List Nat).getD k 0) (wf := fun u => w0Nd cI cL cO a u) hC (by decide) (by decide) hr hlk dNd_init_27 trivial rfl
def w0Li (cI cL cO : ClassId) (a : Nat) (u : Nat → Nat) : va_W := ((([(a, .inr (3, [.ref (u 0), .ref (u 1), .ref (u 2)]))] ++ (((u 0), .inl (cO, 16, .inr (.inr (.inr (.inr (fun i => some ((u 0) + 1 + i))))))) :: x_grid (fun i => i) cL ((u 0) + 1) 16 16 (fun _ _ => 0))) ++ (((u 1), .inl (cO, 16, .inr (.inr (.inr (.inr (fun i => some ((u 1) + 1 + i))))))) :: x_grid (fun i => i) cL ((u 1) + 1) 16 16 (fun _ _ => 0))) ++ [((u 2), .inl (cL, 16, .inr (.inl (fun _ => 0))))])
abbrev rm_Limits_init : Room := { frames := 1, cells := 35, slots := 560, locals := 20 }
set_option maxHeartbeats 4000000 in
set_option maxRecDepth 100000 in
theorem c_Limits_init {l : Launch} {D : va_G} {cI cL cO : ClassId} {a : Nat} (sz : Nat) : Met l yLi_init (Cond.code yLi_init bLi_init 1 none :: TBL) rm_Limits_init (va_Pc [.ref a] (fun U => XP D vwCl (tysX cI cL cO) [(a, .inr (3, [.null, .null, .null]))] sz U ∧ XO U)) (va_Qv (fun _ => True) (fun (u : Nat → Nat) t => XB D vwCl (tysX cI cL cO) (va_A [(a, .inr (3, [.null, .null, .null]))] sz) (w0Li cI cL cO a u) t) (va_A [(a, .inr (3, [.null, .null, .null]))] sz)) rm_Limits_init.cells rm_Limits_init.slots (va_A [(a, .inr (3, [.null, .null, .null]))] sz) := by
  refine x_metP [.ref a] TBL_good (by decide) (Nat.le_of_ble_eq_true rfl) ?_
  intro p e s m args below meth c hC hr hlk hnm hO
  show XW p l e rm_Limits_init s m args below meth c D vwCl (va_A [(a, .inr (3, [.null, .null, .null]))] sz) 1 _ 0 0 [(a, .inr (3, [.null, .null, .null]))] 0 [(0, .ref a)] []
  refine x_aload_n hC dLi_init_0 rfl 0 rfl ?_
  refine x_objInit hC k_c15 k_c1 k_c2 dLi_init_1 (by decide) (by decide) ?_
  refine x_aload_n hC dLi_init_4 rfl 0 rfl ?_
  refine x_bipush (v := 16) hC dLi_init_5 (by decide) ?_
  refine x_bipush (v := 16) hC dLi_init_7 (by decide) ?_
  refine x_mna hC 2 1 rfl rfl k_c16 hO k_c8 16 16 (by decide) (by decide) (by decide) (by decide) (by decide) (by decide) (by decide) (by decide) dLi_init_9 (fun q1 => ?_)
  refine x_putF (ty := .array (.array .long)) (ws' := ([(a, .inr (3, [.ref q1, .null, .null]))] ++ ((q1, .inl (cO, 16, .inr (.inr (.inr (.inr (fun i => some (q1 + 1 + i))))))) :: x_grid (fun i => i) cL (q1 + 1) 16 16 (fun _ _ => 0)))) hC iLi 0 rfl rfl 0 (by decide) k_c17 rfl tLi tLi_ok nLi rfl hnm rfl (by decide +kernel) rfl rfl (Nat.le_of_ble_eq_true rfl) rfl dLi_init_13 ?_
  refine x_aload_n hC dLi_init_16 rfl 0 rfl ?_
  refine x_bipush (v := 16) hC dLi_init_17 (by decide) ?_
  refine x_bipush (v := 16) hC dLi_init_19 (by decide) ?_
  refine x_mna hC 2 1 rfl rfl k_c16 hO k_c8 16 16 (by decide) (by decide) (by decide) (by decide) (by decide) (by decide) (by decide) (by decide) dLi_init_21 (fun q2 => ?_)
  refine x_putF (ty := .array (.array .long)) (ws' := (([(a, .inr (3, [.ref q1, .ref q2, .null]))] ++ ((q1, .inl (cO, 16, .inr (.inr (.inr (.inr (fun i => some (q1 + 1 + i))))))) :: x_grid (fun i => i) cL (q1 + 1) 16 16 (fun _ _ => 0))) ++ ((q2, .inl (cO, 16, .inr (.inr (.inr (.inr (fun i => some (q2 + 1 + i))))))) :: x_grid (fun i => i) cL (q2 + 1) 16 16 (fun _ _ => 0)))) hC iLi 0 rfl rfl 1 (by decide) k_c18 rfl tLi tLi_ok nLi rfl hnm rfl (by decide +kernel) rfl rfl (Nat.le_of_ble_eq_true rfl) rfl dLi_init_25 ?_
  refine x_aload_n hC dLi_init_28 rfl 0 rfl ?_
  refine x_bipush (v := 16) hC dLi_init_29 (by decide) ?_
  refine x_newl hC 16 1 rfl k_c8 (by decide) (by decide) (by decide) (by decide) (by decide) dLi_init_31 (fun q3 => ?_)
  refine x_putF (ty := .array .long) (ws' := ((([(a, .inr (3, [.ref q1, .ref q2, .ref q3]))] ++ ((q1, .inl (cO, 16, .inr (.inr (.inr (.inr (fun i => some (q1 + 1 + i))))))) :: x_grid (fun i => i) cL (q1 + 1) 16 16 (fun _ _ => 0))) ++ ((q2, .inl (cO, 16, .inr (.inr (.inr (.inr (fun i => some (q2 + 1 + i))))))) :: x_grid (fun i => i) cL (q2 + 1) 16 16 (fun _ _ => 0))) ++ [(q3, .inl (cL, 16, .inr (.inl (fun _ => 0))))])) hC iLi 0 rfl rfl 2 (by decide) k_c19 rfl tLi tLi_ok nLi rfl hnm rfl (by decide +kernel) rfl rfl (Nat.le_of_ble_eq_true rfl) rfl dLi_init_33 ?_
  exact x_vretP (u := fun k => ([q1, q2, q3] : List Nat).getD k 0) (wf := fun u => w0Li cI cL cO a u) hC (by decide) (by decide) hr hlk dLi_init_36 trivial rfl
def w0Rg (cI cL cO : ClassId) (a : Nat) (u : Nat → Nat) : va_W := (([(a, .inr (4, [.ref (u 0), .ref (u 1), .int 0]))] ++ [((u 0), .inl (cI, 16, .inl (fun _ => 0)))]) ++ (((u 1), .inl (cO, 17, .inr (.inr (.inr (.inr (fun i => some ((u 1) + 1 + i))))))) :: x_grid (fun i => i) cL ((u 1) + 1) 17 16 (fun _ _ => 0)))
abbrev rm_Ring_init : Room := { frames := 1, cells := 19, slots := 305, locals := 20 }
set_option maxHeartbeats 4000000 in
set_option maxRecDepth 100000 in
theorem c_Ring_init {l : Launch} {D : va_G} {cI cL cO : ClassId} {a : Nat} (sz : Nat) : Met l yRg_init (Cond.code yRg_init bRg_init 1 none :: TBL) rm_Ring_init (va_Pc [.ref a] (fun U => XP D vwCl (tysX cI cL cO) [(a, .inr (4, [.null, .null, .int 0]))] sz U ∧ XO U)) (va_Qv (fun _ => True) (fun (u : Nat → Nat) t => XB D vwCl (tysX cI cL cO) (va_A [(a, .inr (4, [.null, .null, .int 0]))] sz) (w0Rg cI cL cO a u) t) (va_A [(a, .inr (4, [.null, .null, .int 0]))] sz)) rm_Ring_init.cells rm_Ring_init.slots (va_A [(a, .inr (4, [.null, .null, .int 0]))] sz) := by
  refine x_metP [.ref a] TBL_good (by decide) (Nat.le_of_ble_eq_true rfl) ?_
  intro p e s m args below meth c hC hr hlk hnm hO
  show XW p l e rm_Ring_init s m args below meth c D vwCl (va_A [(a, .inr (4, [.null, .null, .int 0]))] sz) 1 _ 0 0 [(a, .inr (4, [.null, .null, .int 0]))] 0 [(0, .ref a)] []
  refine x_aload_n hC dRg_init_0 rfl 0 rfl ?_
  refine x_objInit hC k_c20 k_c1 k_c2 dRg_init_1 (by decide) (by decide) ?_
  refine x_aload_n hC dRg_init_4 rfl 0 rfl ?_
  refine x_bipush (v := 16) hC dRg_init_5 (by decide) ?_
  refine x_newi hC 16 0 rfl k_c3 (by decide) (by decide) (by decide) (by decide) (by decide) dRg_init_7 (fun q1 => ?_)
  refine x_putF (ty := .array .int) (ws' := ([(a, .inr (4, [.ref q1, .null, .int 0]))] ++ [(q1, .inl (cI, 16, .inl (fun _ => 0)))])) hC iRg 0 rfl rfl 0 (by decide) k_c21 rfl tRg tRg_ok nRg rfl hnm rfl (by decide +kernel) rfl rfl (Nat.le_of_ble_eq_true rfl) rfl dRg_init_9 ?_
  refine x_aload_n hC dRg_init_12 rfl 0 rfl ?_
  refine x_bipush (v := 17) hC dRg_init_13 (by decide) ?_
  refine x_bipush (v := 16) hC dRg_init_15 (by decide) ?_
  refine x_mna hC 2 1 rfl rfl k_c22 hO k_c8 17 16 (by decide) (by decide) (by decide) (by decide) (by decide) (by decide) (by decide) (by decide) dRg_init_17 (fun q2 => ?_)
  refine x_putF (ty := .array (.array .long)) (ws' := (([(a, .inr (4, [.ref q1, .ref q2, .int 0]))] ++ [(q1, .inl (cI, 16, .inl (fun _ => 0)))]) ++ ((q2, .inl (cO, 17, .inr (.inr (.inr (.inr (fun i => some (q2 + 1 + i))))))) :: x_grid (fun i => i) cL (q2 + 1) 17 16 (fun _ _ => 0)))) hC iRg 0 rfl rfl 1 (by decide) k_c23 rfl tRg tRg_ok nRg rfl hnm rfl (by decide +kernel) rfl rfl (Nat.le_of_ble_eq_true rfl) rfl dRg_init_21 ?_
  refine x_aload_n hC dRg_init_24 rfl 0 rfl ?_
  refine x_iconst (v := 0) hC dRg_init_25 (by decide) ?_
  refine x_put (ty := .int) (ws' := (([(a, .inr (4, [.ref q1, .ref q2, .int 0]))] ++ [(q1, .inl (cI, 16, .inl (fun _ => 0)))]) ++ ((q2, .inl (cO, 17, .inr (.inr (.inr (.inr (fun i => some (q2 + 1 + i))))))) :: x_grid (fun i => i) cL (q2 + 1) 17 16 (fun _ _ => 0)))) hC iRg 0 rfl rfl 2 (by decide) k_c24 rfl tRg tRg_ok nRg rfl (by decide +kernel) rfl rfl (Nat.le_of_ble_eq_true rfl) rfl dRg_init_26 ?_
  exact x_vretP (u := fun k => ([q1, q2] : List Nat).getD k 0) (wf := fun u => w0Rg cI cL cO a u) hC (by decide) (by decide) hr hlk dRg_init_29 trivial rfl
def w0Tl (cI cL cO : ClassId) (a : Nat) (u : Nat → Nat) : va_W := (([(a, .inr (5, [.ref (u 0), .ref (u 1), .int 0]))] ++ [((u 0), .inl (cL, 301, .inr (.inl (fun _ => 0))))]) ++ [((u 1), .inl (cI, 300, .inl (fun _ => 0)))])
abbrev rm_Timeline_init : Room := { frames := 1, cells := 2, slots := 601, locals := 20 }
set_option maxHeartbeats 4000000 in
set_option maxRecDepth 100000 in
theorem c_Timeline_init {l : Launch} {D : va_G} {cI cL cO : ClassId} {a : Nat} (sz : Nat) : Met l yTl_init (Cond.code yTl_init bTl_init 1 none :: TBL) rm_Timeline_init (va_Pc [.ref a] (fun U => XP D vwCl (tysX cI cL cO) [(a, .inr (5, [.null, .null, .int 0]))] sz U ∧ XO U)) (va_Qv (fun _ => True) (fun (u : Nat → Nat) t => XB D vwCl (tysX cI cL cO) (va_A [(a, .inr (5, [.null, .null, .int 0]))] sz) (w0Tl cI cL cO a u) t) (va_A [(a, .inr (5, [.null, .null, .int 0]))] sz)) rm_Timeline_init.cells rm_Timeline_init.slots (va_A [(a, .inr (5, [.null, .null, .int 0]))] sz) := by
  refine x_metP [.ref a] TBL_good (by decide) (Nat.le_of_ble_eq_true rfl) ?_
  intro p e s m args below meth c hC hr hlk hnm hO
  show XW p l e rm_Timeline_init s m args below meth c D vwCl (va_A [(a, .inr (5, [.null, .null, .int 0]))] sz) 1 _ 0 0 [(a, .inr (5, [.null, .null, .int 0]))] 0 [(0, .ref a)] []
  refine x_aload_n hC dTl_init_0 rfl 0 rfl ?_
  refine x_objInit hC k_c25 k_c1 k_c2 dTl_init_1 (by decide) (by decide) ?_
  refine x_aload_n hC dTl_init_4 rfl 0 rfl ?_
  refine x_sipush (v := 301) hC dTl_init_5 (by decide) ?_
  refine x_newl hC 301 1 rfl k_c8 (by decide) (by decide) (by decide) (by decide) (by decide) dTl_init_8 (fun q1 => ?_)
  refine x_putF (ty := .array .long) (ws' := ([(a, .inr (5, [.ref q1, .null, .int 0]))] ++ [(q1, .inl (cL, 301, .inr (.inl (fun _ => 0))))])) hC iTl 0 rfl rfl 0 (by decide) k_c26 rfl tTl tTl_ok nTl rfl hnm rfl (by decide +kernel) rfl rfl (Nat.le_of_ble_eq_true rfl) rfl dTl_init_10 ?_
  refine x_aload_n hC dTl_init_13 rfl 0 rfl ?_
  refine x_sipush (v := 300) hC dTl_init_14 (by decide) ?_
  refine x_newi hC 300 0 rfl k_c3 (by decide) (by decide) (by decide) (by decide) (by decide) dTl_init_17 (fun q2 => ?_)
  refine x_putF (ty := .array .int) (ws' := (([(a, .inr (5, [.ref q1, .ref q2, .int 0]))] ++ [(q1, .inl (cL, 301, .inr (.inl (fun _ => 0))))]) ++ [(q2, .inl (cI, 300, .inl (fun _ => 0)))])) hC iTl 0 rfl rfl 1 (by decide) k_c27 rfl tTl tTl_ok nTl rfl hnm rfl (by decide +kernel) rfl rfl (Nat.le_of_ble_eq_true rfl) rfl dTl_init_19 ?_
  refine x_aload_n hC dTl_init_22 rfl 0 rfl ?_
  refine x_iconst (v := 0) hC dTl_init_23 (by decide) ?_
  refine x_put (ty := .int) (ws' := (([(a, .inr (5, [.ref q1, .ref q2, .int 0]))] ++ [(q1, .inl (cL, 301, .inr (.inl (fun _ => 0))))]) ++ [(q2, .inl (cI, 300, .inl (fun _ => 0)))])) hC iTl 0 rfl rfl 2 (by decide) k_c28 rfl tTl tTl_ok nTl rfl (by decide +kernel) rfl rfl (Nat.le_of_ble_eq_true rfl) rfl dTl_init_24 ?_
  exact x_vretP (u := fun k => ([q1, q2] : List Nat).getD k 0) (wf := fun u => w0Tl cI cL cO a u) hC (by decide) (by decide) hr hlk dTl_init_27 trivial rfl
