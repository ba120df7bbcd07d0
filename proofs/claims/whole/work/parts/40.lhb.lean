theorem x_in01 : vp_in 0 1 := by unfold vp_in; decide
theorem wX_len {ad : Nat → Nat} {cI cL cO : ClassId} {sc : Int32} {sd : Int32} {src : (Nat → Int32)} {itm : (Nat → Int32)} {knd : (Nat → Int32)} {plc : (Nat → Int32)} {clk : (Nat → Int64)} {ec : Int32} {nf : (Nat → Int32)} {ns : (Nat → Int32)} {nc : Int32} {wt : (Nat → Nat → Int64)} {bd : (Nat → Nat → Int64)} {off : (Nat → Int64)} {row : (Nat → Int32)} {hw : (Nat → Nat → Int64)} {rl : Int32} {tm : (Nat → Int64)} {ord : (Nat → Int32)} {tc : Int32} : (wX ad cI cL cO sc sd src itm knd plc clk ec nf ns nc wt bd off row hw rl tm ord tc).length = 69 := by simp [wX, x_grid_len]
theorem wM_len {ad : Nat → Nat} {cI cL cO : ClassId} {mth : Int32} {msc : Int32} {mec : Int32} {msrc : (Nat → Int32)} {mitm : (Nat → Int32)} {mknd : (Nat → Int32)} {mplc : (Nat → Int32)} {mclk : (Nat → Int64)} {mnc : Int32} {mnf : (Nat → Int32)} {mns : (Nat → Int32)} {msd : Int32} {mrl : Int32} {mrow : (Nat → Int32)} {mw : (Nat → Int64)} {mb : (Nat → Int64)} {mway : (Nat → Int64)} {moff : (Nat → Int64)} : (wM ad cI cL cO mth msc mec msrc mitm mknd mplc mclk mnc mnf mns msd mrl mrow mw mb mway moff).length = 13 := rfl
def L_source_wp (sc : Int32) (sd : Int32) (out : Nat → Int64) (Qr : Int32 → (Int32 × Int32 × (Nat → Int64)) → Prop) : Prop := X_source_wp sc sd (fun (r : Int32) (u : (Int32 × Int32)) => Qr 0 (u.1, u.2, (vp_updL out (0 : Int32).toNatClampNeg r.toInt64))) (fun (k : Nat) => ((k = 3 → Qr 1 (sc, sd, out)) ∧ (¬ k = 3 → False)))
abbrev rm_L_source : Room := { frames := 7, cells := 1, slots := 6, locals := 141 }
abbrev hh_L_source : List (Nat × Nat × Nat × Nat) := [(0, 8, 11, 13)]
set_option maxHeartbeats 4000000 in
set_option maxRecDepth 100000 in
theorem c_L_source {l : Launch} {D : va_G} {ad : Nat → Nat} {o : Nat} {cI cL cO : ClassId} {sc : Int32} {sd : Int32} {src : (Nat → Int32)} {itm : (Nat → Int32)} {knd : (Nat → Int32)} {plc : (Nat → Int32)} {clk : (Nat → Int64)} {ec : Int32} {nf : (Nat → Int32)} {ns : (Nat → Int32)} {nc : Int32} {wt : (Nat → Nat → Int64)} {bd : (Nat → Nat → Int64)} {off : (Nat → Int64)} {row : (Nat → Int32)} {hw : (Nat → Nat → Int64)} {rl : Int32} {tm : (Nat → Int64)} {ord : (Nat → Int32)} {tc : Int32} {out : Nat → Int64} {Qr : Int32 → (Int32 × Int32 × (Nat → Int64)) → Prop} (htr : l.stackTraces = false) (h : L_source_wp sc sd out  Qr) (sz : Nat) : vx_Met l yL_source (Cond.codeWith yL_source bL_source 3 (some .int) hh_L_source :: TBL) rm_L_source (va_Pc [.ref (ad 0), .ref o] (fun U => XP D vwCl (tysX cI cL cO) (wX ad cI cL cO sc sd src itm knd plc clk ec nf ns nc wt bd off row hw rl tm ord tc ++ [(o, .inl (cL, 1, .inr (.inl out)))]) sz U ∧ XN U)) (va_Qi Qr (fun u t => XB D vwCl (tysX cI cL cO) (va_A (wX ad cI cL cO sc sd src itm knd plc clk ec nf ns nc wt bd off row hw rl tm ord tc ++ [(o, .inl (cL, 1, .inr (.inl out)))]) sz) (wX ad cI cL cO u.1 u.2.1 src itm knd plc clk ec nf ns nc wt bd off row hw rl tm ord tc ++ [(o, .inl (cL, 1, .inr (.inl u.2.2)))]) t) (va_A (wX ad cI cL cO sc sd src itm knd plc clk ec nf ns nc wt bd off row hw rl tm ord tc ++ [(o, .inl (cL, 1, .inr (.inl out)))]) sz)) (XT D vwCl (tysX cI cL cO) (va_A (wX ad cI cL cO sc sd src itm knd plc clk ec nf ns nc wt bd off row hw rl tm ord tc ++ [(o, .inl (cL, 1, .inr (.inl out)))]) sz) (wX ad cI cL cO sc sd src itm knd plc clk ec nf ns nc wt bd off row hw rl tm ord tc ++ [(o, .inl (cL, 1, .inr (.inl out)))]) (fun _ => False)) rm_L_source.cells rm_L_source.slots (va_A (wX ad cI cL cO sc sd src itm knd plc clk ec nf ns nc wt bd off row hw rl tm ord tc ++ [(o, .inl (cL, 1, .inr (.inl out)))]) sz) := by
  refine x_metH [.ref (ad 0), .ref o] TBL_good (by decide) (Nat.le_of_ble_eq_true rfl) ?_
  intro p e s m args below meth c hC hr hlk htab hN
  show XW p l e rm_L_source s m args below meth c D vwCl (va_A (wX ad cI cL cO sc sd src itm knd plc clk ec nf ns nc wt bd off row hw rl tm ord tc ++ [(o, .inl (cL, 1, .inr (.inl out)))]) sz) 3 _ 0 0 (wX ad cI cL cO sc sd src itm knd plc clk ec nf ns nc wt bd off row hw rl tm ord tc ++ [(o, .inl (cL, 1, .inr (.inl out)))]) 0 [(0, .ref (ad 0)), (1, .ref o)] []
  unfold L_source_wp at h
  refine x_aload_n hC dL_source_0 rfl 1 rfl ?_
  refine x_iconst (v := 0) hC dL_source_1 (by decide) ?_
  refine x_aload_n hC dL_source_2 rfl 0 rfl ?_
  refine x_fVci (S := (Int32 × Int32)) (wl := []) (w1 := (wX ad cI cL cO sc sd src itm knd plc clk ec nf ns nc wt bd off row hw rl tm ord tc)) (wr := [(o, .inl (cL, 1, .inr (.inl out)))]) (wf := fun u => (wX ad cI cL cO u.1 u.2 src itm knd plc clk ec nf ns nc wt bd off row hw rl tm ord tc)) (wf2 := fun u => (wX ad cI cL cO u.1 u.2 src itm knd plc clk ec nf ns nc wt bd off row hw rl tm ord tc) ++ [(o, .inl (cL, 1, .inr (.inl out)))]) hC [] (by rfl) (fun u => rfl) (fun sz => c_X_source htr h sz) (by decide) (by decide) k_l0 k_l1 k_l2 (by decide) 0 rfl (by decide +kernel) ⟨by decide, by decide⟩ (Nat.le_of_ble_eq_true rfl) k_l3 k_l4 wX_0 rfl rfl dL_source_3 hN (fun kx hx => by
    rcases kx with _ | _ | _ | _ | kx
    · exact (hx.2 (by simp)).elim
    · exact (hx.2 (by simp)).elim
    · exact (hx.2 (by simp)).elim
    · refine ⟨[], ⟨0, 8, 11, 13⟩, [], x_ex 3, htab.trans rfl, fun _ h9 => absurd h9 List.not_mem_nil, by decide, by decide, k_l5, k_lx6, fun q => ?_⟩
      refine x_astore_n (lv' := ((2, .ref q) :: [(0, .ref (ad 0)), (1, .ref o)])) hC dL_source_11 rfl (by decide) rfl ?_
      refine x_iconst (v := 1) hC dL_source_12 (by decide) ?_
      refine x_iret (u := (sc, sd, out)) (wf := fun u => (wX ad cI cL cO u.1 u.2.1 src itm knd plc clk ec nf ns nc wt bd off row hw rl tm ord tc ++ [(o, .inl (cL, 1, .inr (.inl u.2.2)))])) hC ?_ ?_ hr hlk dL_source_13 (hx.1 rfl) rfl <;> decide
    · exact (hx.2 (by simp)).elim) (fun r u h => ?_)
  refine x_i2l (v := r.toInt64) hC dL_source_6 rfl ?_
  refine x_last (ws' := (wX ad cI cL cO u.1 u.2 src itm knd plc clk ec nf ns nc wt bd off row hw rl tm ord tc ++ [(o, .inl (cL, 1, .inr (.inl (vp_updL out (0 : Int32).toNatClampNeg r.toInt64))))])) hC (69 + 0) 1 (x_app_get wX_len rfl) rfl x_in01 (x_app_set wX_len rfl) dL_source_7 ?_
  refine x_goto (tgt := 14) hC dL_source_8 (by decide) ?_
  refine x_iconst (v := 0) hC dL_source_14 (by decide) ?_
  refine x_iret (u := (u.1, u.2, (vp_updL out (0 : Int32).toNatClampNeg r.toInt64))) (wf := fun u => (wX ad cI cL cO u.1 u.2.1 src itm knd plc clk ec nf ns nc wt bd off row hw rl tm ord tc ++ [(o, .inl (cL, 1, .inr (.inl u.2.2)))])) hC ?_ ?_ hr hlk dL_source_15 h rfl <;> decide
def L_event_wp (sc : Int32) (sd : Int32) (src : (Nat → Int32)) (itm : (Nat → Int32)) (knd : (Nat → Int32)) (plc : (Nat → Int32)) (clk : (Nat → Int64)) (ec : Int32) (out : Nat → Int64) (a1 : Int32) (a2 : Int32) (a3 : Int32) (a4 : Int32) (a5 : Int64) (Qr : Int32 → (Int32 × (Nat → Int32) × (Nat → Int32) × (Nat → Int32) × (Nat → Int32) × (Nat → Int64) × Int32 × (Nat → Int64)) → Prop) : Prop := X_event_wp sc sd src itm knd plc clk ec a1 a2 a3 a4 a5 (fun (r : Int32) (u : (Int32 × (Nat → Int32) × (Nat → Int32) × (Nat → Int32) × (Nat → Int32) × (Nat → Int64) × Int32)) => Qr 0 (u.1, u.2.1, u.2.2.1, u.2.2.2.1, u.2.2.2.2.1, u.2.2.2.2.2.1, u.2.2.2.2.2.2, (vp_updL out (0 : Int32).toNatClampNeg r.toInt64))) (fun (k : Nat) => ((k = 0 → Qr 1 (sd, src, itm, knd, plc, clk, ec, out)) ∧ (¬ k = 0 → ((k = 1 → Qr 2 (sd, src, itm, knd, plc, clk, ec, out)) ∧ (¬ k = 1 → ((k = 3 → Qr 3 (sd, src, itm, knd, plc, clk, ec, out)) ∧ (¬ k = 3 → False)))))))
abbrev rm_L_event : Room := { frames := 8, cells := 5, slots := 30, locals := 168 }
abbrev hh_L_event : List (Nat × Nat × Nat × Nat) := [(0, 16, 19, 19), (0, 16, 23, 21), (0, 16, 27, 13)]
set_option maxHeartbeats 4000000 in
set_option maxRecDepth 100000 in
theorem c_L_event {l : Launch} {D : va_G} {ad : Nat → Nat} {o : Nat} {cI cL cO : ClassId} {sc : Int32} {sd : Int32} {src : (Nat → Int32)} {itm : (Nat → Int32)} {knd : (Nat → Int32)} {plc : (Nat → Int32)} {clk : (Nat → Int64)} {ec : Int32} {nf : (Nat → Int32)} {ns : (Nat → Int32)} {nc : Int32} {wt : (Nat → Nat → Int64)} {bd : (Nat → Nat → Int64)} {off : (Nat → Int64)} {row : (Nat → Int32)} {hw : (Nat → Nat → Int64)} {rl : Int32} {tm : (Nat → Int64)} {ord : (Nat → Int32)} {tc : Int32} {out : Nat → Int64} {a1 : Int32} {a2 : Int32} {a3 : Int32} {a4 : Int32} {a5 : Int64} {Qr : Int32 → (Int32 × (Nat → Int32) × (Nat → Int32) × (Nat → Int32) × (Nat → Int32) × (Nat → Int64) × Int32 × (Nat → Int64)) → Prop} (htr : l.stackTraces = false) (h : L_event_wp sc sd src itm knd plc clk ec out a1 a2 a3 a4 a5 Qr) (sz : Nat) : vx_Met l yL_event (Cond.codeWith yL_event bL_event 9 (some .int) hh_L_event :: TBL) rm_L_event (va_Pc [.ref (ad 0), .int a1, .int a2, .int a3, .int a4, .long a5, .ref o] (fun U => XP D vwCl (tysX cI cL cO) (wX ad cI cL cO sc sd src itm knd plc clk ec nf ns nc wt bd off row hw rl tm ord tc ++ [(o, .inl (cL, 1, .inr (.inl out)))]) sz U ∧ XN U)) (va_Qi Qr (fun u t => XB D vwCl (tysX cI cL cO) (va_A (wX ad cI cL cO sc sd src itm knd plc clk ec nf ns nc wt bd off row hw rl tm ord tc ++ [(o, .inl (cL, 1, .inr (.inl out)))]) sz) (wX ad cI cL cO sc u.1 u.2.1 u.2.2.1 u.2.2.2.1 u.2.2.2.2.1 u.2.2.2.2.2.1 u.2.2.2.2.2.2.1 nf ns nc wt bd off row hw rl tm ord tc ++ [(o, .inl (cL, 1, .inr (.inl u.2.2.2.2.2.2.2)))]) t) (va_A (wX ad cI cL cO sc sd src itm knd plc clk ec nf ns nc wt bd off row hw rl tm ord tc ++ [(o, .inl (cL, 1, .inr (.inl out)))]) sz)) (XT D vwCl (tysX cI cL cO) (va_A (wX ad cI cL cO sc sd src itm knd plc clk ec nf ns nc wt bd off row hw rl tm ord tc ++ [(o, .inl (cL, 1, .inr (.inl out)))]) sz) (wX ad cI cL cO sc sd src itm knd plc clk ec nf ns nc wt bd off row hw rl tm ord tc ++ [(o, .inl (cL, 1, .inr (.inl out)))]) (fun _ => False)) rm_L_event.cells rm_L_event.slots (va_A (wX ad cI cL cO sc sd src itm knd plc clk ec nf ns nc wt bd off row hw rl tm ord tc ++ [(o, .inl (cL, 1, .inr (.inl out)))]) sz) := by
  refine x_metH [.ref (ad 0), .int a1, .int a2, .int a3, .int a4, .long a5, .ref o] TBL_good (by decide) (Nat.le_of_ble_eq_true rfl) ?_
  intro p e s m args below meth c hC hr hlk htab hN
  show XW p l e rm_L_event s m args below meth c D vwCl (va_A (wX ad cI cL cO sc sd src itm knd plc clk ec nf ns nc wt bd off row hw rl tm ord tc ++ [(o, .inl (cL, 1, .inr (.inl out)))]) sz) 9 _ 0 0 (wX ad cI cL cO sc sd src itm knd plc clk ec nf ns nc wt bd off row hw rl tm ord tc ++ [(o, .inl (cL, 1, .inr (.inl out)))]) 0 [(0, .ref (ad 0)), (1, .int a1), (2, .int a2), (3, .int a3), (4, .int a4), (5, .long a5), (7, .ref o)] []
  unfold L_event_wp at h
  refine x_aload hC dL_event_0 6 rfl ?_
  refine x_iconst (v := 0) hC dL_event_2 (by decide) ?_
  refine x_aload_n hC dL_event_3 rfl 0 rfl ?_
  refine x_iload_n hC dL_event_4 rfl 1 rfl ?_
  refine x_iload_n hC dL_event_5 rfl 2 rfl ?_
  refine x_iload_n hC dL_event_6 rfl 3 rfl ?_
  refine x_iload hC dL_event_7 4 rfl ?_
  refine x_lload hC dL_event_9 5 rfl ?_
  refine x_fVci (S := (Int32 × (Nat → Int32) × (Nat → Int32) × (Nat → Int32) × (Nat → Int32) × (Nat → Int64) × Int32)) (wl := []) (w1 := (wX ad cI cL cO sc sd src itm knd plc clk ec nf ns nc wt bd off row hw rl tm ord tc)) (wr := [(o, .inl (cL, 1, .inr (.inl out)))]) (wf := fun u => (wX ad cI cL cO sc u.1 u.2.1 u.2.2.1 u.2.2.2.1 u.2.2.2.2.1 u.2.2.2.2.2.1 u.2.2.2.2.2.2 nf ns nc wt bd off row hw rl tm ord tc)) (wf2 := fun u => (wX ad cI cL cO sc u.1 u.2.1 u.2.2.1 u.2.2.2.1 u.2.2.2.2.1 u.2.2.2.2.2.1 u.2.2.2.2.2.2 nf ns nc wt bd off row hw rl tm ord tc) ++ [(o, .inl (cL, 1, .inr (.inl out)))]) hC [.int a1, .int a2, .int a3, .int a4, .long a5] (by rfl) (fun u => rfl) (fun sz => c_X_event htr h sz) (by decide) (by decide) k_l7 k_l8 k_l9 (by decide) 5 rfl (by decide +kernel) ⟨by decide, by decide⟩ (Nat.le_of_ble_eq_true rfl) k_l10 k_l11 wX_0 rfl rfl dL_event_11 hN (fun kx hx => by
    rcases kx with _ | _ | _ | _ | kx
    · refine ⟨[], ⟨0, 16, 19, 19⟩, [⟨0, 16, 23, 21⟩, ⟨0, 16, 27, 13⟩], x_ex 0, htab.trans rfl, fun _ h9 => absurd h9 List.not_mem_nil, by decide, by decide, k_l12, k_lx13, fun q => ?_⟩
      refine x_astore (lv' := ((8, .ref q) :: [(0, .ref (ad 0)), (1, .int a1), (2, .int a2), (3, .int a3), (4, .int a4), (5, .long a5), (7, .ref o)])) hC dL_event_19 (by decide) rfl ?_
      refine x_iconst (v := 1) hC dL_event_21 (by decide) ?_
      refine x_iret (u := (sd, src, itm, knd, plc, clk, ec, out)) (wf := fun u => (wX ad cI cL cO sc u.1 u.2.1 u.2.2.1 u.2.2.2.1 u.2.2.2.2.1 u.2.2.2.2.2.1 u.2.2.2.2.2.2.1 nf ns nc wt bd off row hw rl tm ord tc ++ [(o, .inl (cL, 1, .inr (.inl u.2.2.2.2.2.2.2)))])) hC ?_ ?_ hr hlk dL_event_22 (hx.1 rfl) rfl <;> decide
    · refine ⟨[⟨0, 16, 19, 19⟩], ⟨0, 16, 23, 21⟩, [⟨0, 16, 27, 13⟩], x_ex 1, htab.trans rfl, List.forall_mem_cons.mpr ⟨Or.inr ⟨by decide, x_ex 0, k_l12, by decide +kernel⟩, fun _ h9 => absurd h9 List.not_mem_nil⟩, by decide, by decide, k_l14, k_lx15, fun q => ?_⟩
      refine x_astore (lv' := ((8, .ref q) :: [(0, .ref (ad 0)), (1, .int a1), (2, .int a2), (3, .int a3), (4, .int a4), (5, .long a5), (7, .ref o)])) hC dL_event_23 (by decide) rfl ?_
      refine x_iconst (v := 2) hC dL_event_25 (by decide) ?_
      refine x_iret (u := (sd, src, itm, knd, plc, clk, ec, out)) (wf := fun u => (wX ad cI cL cO sc u.1 u.2.1 u.2.2.1 u.2.2.2.1 u.2.2.2.2.1 u.2.2.2.2.2.1 u.2.2.2.2.2.2.1 nf ns nc wt bd off row hw rl tm ord tc ++ [(o, .inl (cL, 1, .inr (.inl u.2.2.2.2.2.2.2)))])) hC ?_ ?_ hr hlk dL_event_26 ((hx.2 (by simp)).1 rfl) rfl <;> decide
    · exact (((hx.2 (by simp)).2 (by simp)).2 (by simp)).elim
    · refine ⟨[⟨0, 16, 19, 19⟩, ⟨0, 16, 23, 21⟩], ⟨0, 16, 27, 13⟩, [], x_ex 3, htab.trans rfl, List.forall_mem_cons.mpr ⟨Or.inr ⟨by decide, x_ex 0, k_l12, by decide +kernel⟩, List.forall_mem_cons.mpr ⟨Or.inr ⟨by decide, x_ex 1, k_l14, by decide +kernel⟩, fun _ h9 => absurd h9 List.not_mem_nil⟩⟩, by decide, by decide, k_l5, k_lx6, fun q => ?_⟩
      refine x_astore (lv' := ((8, .ref q) :: [(0, .ref (ad 0)), (1, .int a1), (2, .int a2), (3, .int a3), (4, .int a4), (5, .long a5), (7, .ref o)])) hC dL_event_27 (by decide) rfl ?_
      refine x_iconst (v := 3) hC dL_event_29 (by decide) ?_
      refine x_iret (u := (sd, src, itm, knd, plc, clk, ec, out)) (wf := fun u => (wX ad cI cL cO sc u.1 u.2.1 u.2.2.1 u.2.2.2.1 u.2.2.2.2.1 u.2.2.2.2.2.1 u.2.2.2.2.2.2.1 nf ns nc wt bd off row hw rl tm ord tc ++ [(o, .inl (cL, 1, .inr (.inl u.2.2.2.2.2.2.2)))])) hC ?_ ?_ hr hlk dL_event_30 (((hx.2 (by simp)).2 (by simp)).1 rfl) rfl <;> decide
    · exact (((hx.2 (by simp)).2 (by simp)).2 (by simp)).elim) (fun r u h => ?_)
  refine x_i2l (v := r.toInt64) hC dL_event_14 rfl ?_
  refine x_last (ws' := (wX ad cI cL cO sc u.1 u.2.1 u.2.2.1 u.2.2.2.1 u.2.2.2.2.1 u.2.2.2.2.2.1 u.2.2.2.2.2.2 nf ns nc wt bd off row hw rl tm ord tc ++ [(o, .inl (cL, 1, .inr (.inl (vp_updL out (0 : Int32).toNatClampNeg r.toInt64))))])) hC (69 + 0) 1 (x_app_get wX_len rfl) rfl x_in01 (x_app_set wX_len rfl) dL_event_15 ?_
  refine x_goto (tgt := 31) hC dL_event_16 (by decide) ?_
  refine x_iconst (v := 0) hC dL_event_31 (by decide) ?_
  refine x_iret (u := (u.1, u.2.1, u.2.2.1, u.2.2.2.1, u.2.2.2.2.1, u.2.2.2.2.2.1, u.2.2.2.2.2.2, (vp_updL out (0 : Int32).toNatClampNeg r.toInt64))) (wf := fun u => (wX ad cI cL cO sc u.1 u.2.1 u.2.2.1 u.2.2.2.1 u.2.2.2.2.1 u.2.2.2.2.2.1 u.2.2.2.2.2.2.1 nf ns nc wt bd off row hw rl tm ord tc ++ [(o, .inl (cL, 1, .inr (.inl u.2.2.2.2.2.2.2)))])) hC ?_ ?_ hr hlk dL_event_32 h rfl <;> decide
def L_need_wp (sd : Int32) (ec : Int32) (nf : (Nat → Int32)) (ns : (Nat → Int32)) (nc : Int32) (out : Nat → Int64) (a1 : Int32) (a2 : Int32) (Qr : Int32 → (Int32 × (Nat → Int32) × (Nat → Int32) × Int32 × (Nat → Int64)) → Prop) : Prop := X_need_wp sd ec nf ns nc a1 a2 (fun (r : Int32) (u : (Int32 × (Nat → Int32) × (Nat → Int32) × Int32)) => Qr 0 (u.1, u.2.1, u.2.2.1, u.2.2.2, (vp_updL out (0 : Int32).toNatClampNeg r.toInt64))) (fun (k : Nat) => ((k = 0 → Qr 1 (sd, nf, ns, nc, out)) ∧ (¬ k = 0 → ((k = 1 → Qr 2 (sd, nf, ns, nc, out)) ∧ (¬ k = 1 → ((k = 3 → Qr 3 (sd, nf, ns, nc, out)) ∧ (¬ k = 3 → False)))))))
abbrev rm_L_need : Room := { frames := 8, cells := 3, slots := 18, locals := 163 }
abbrev hh_L_need : List (Nat × Nat × Nat × Nat) := [(0, 10, 13, 19), (0, 10, 17, 21), (0, 10, 21, 13)]
set_option maxHeartbeats 4000000 in
set_option maxRecDepth 100000 in
theorem c_L_need {l : Launch} {D : va_G} {ad : Nat → Nat} {o : Nat} {cI cL cO : ClassId} {sc : Int32} {sd : Int32} {src : (Nat → Int32)} {itm : (Nat → Int32)} {knd : (Nat → Int32)} {plc : (Nat → Int32)} {clk : (Nat → Int64)} {ec : Int32} {nf : (Nat → Int32)} {ns : (Nat → Int32)} {nc : Int32} {wt : (Nat → Nat → Int64)} {bd : (Nat → Nat → Int64)} {off : (Nat → Int64)} {row : (Nat → Int32)} {hw : (Nat → Nat → Int64)} {rl : Int32} {tm : (Nat → Int64)} {ord : (Nat → Int32)} {tc : Int32} {out : Nat → Int64} {a1 : Int32} {a2 : Int32} {Qr : Int32 → (Int32 × (Nat → Int32) × (Nat → Int32) × Int32 × (Nat → Int64)) → Prop} (htr : l.stackTraces = false) (h : L_need_wp sd ec nf ns nc out a1 a2 Qr) (sz : Nat) : vx_Met l yL_need (Cond.codeWith yL_need bL_need 5 (some .int) hh_L_need :: TBL) rm_L_need (va_Pc [.ref (ad 0), .int a1, .int a2, .ref o] (fun U => XP D vwCl (tysX cI cL cO) (wX ad cI cL cO sc sd src itm knd plc clk ec nf ns nc wt bd off row hw rl tm ord tc ++ [(o, .inl (cL, 1, .inr (.inl out)))]) sz U ∧ XN U)) (va_Qi Qr (fun u t => XB D vwCl (tysX cI cL cO) (va_A (wX ad cI cL cO sc sd src itm knd plc clk ec nf ns nc wt bd off row hw rl tm ord tc ++ [(o, .inl (cL, 1, .inr (.inl out)))]) sz) (wX ad cI cL cO sc u.1 src itm knd plc clk ec u.2.1 u.2.2.1 u.2.2.2.1 wt bd off row hw rl tm ord tc ++ [(o, .inl (cL, 1, .inr (.inl u.2.2.2.2)))]) t) (va_A (wX ad cI cL cO sc sd src itm knd plc clk ec nf ns nc wt bd off row hw rl tm ord tc ++ [(o, .inl (cL, 1, .inr (.inl out)))]) sz)) (XT D vwCl (tysX cI cL cO) (va_A (wX ad cI cL cO sc sd src itm knd plc clk ec nf ns nc wt bd off row hw rl tm ord tc ++ [(o, .inl (cL, 1, .inr (.inl out)))]) sz) (wX ad cI cL cO sc sd src itm knd plc clk ec nf ns nc wt bd off row hw rl tm ord tc ++ [(o, .inl (cL, 1, .inr (.inl out)))]) (fun _ => False)) rm_L_need.cells rm_L_need.slots (va_A (wX ad cI cL cO sc sd src itm knd plc clk ec nf ns nc wt bd off row hw rl tm ord tc ++ [(o, .inl (cL, 1, .inr (.inl out)))]) sz) := by
  refine x_metH [.ref (ad 0), .int a1, .int a2, .ref o] TBL_good (by decide) (Nat.le_of_ble_eq_true rfl) ?_
  intro p e s m args below meth c hC hr hlk htab hN
  show XW p l e rm_L_need s m args below meth c D vwCl (va_A (wX ad cI cL cO sc sd src itm knd plc clk ec nf ns nc wt bd off row hw rl tm ord tc ++ [(o, .inl (cL, 1, .inr (.inl out)))]) sz) 5 _ 0 0 (wX ad cI cL cO sc sd src itm knd plc clk ec nf ns nc wt bd off row hw rl tm ord tc ++ [(o, .inl (cL, 1, .inr (.inl out)))]) 0 [(0, .ref (ad 0)), (1, .int a1), (2, .int a2), (3, .ref o)] []
  unfold L_need_wp at h
  refine x_aload_n hC dL_need_0 rfl 3 rfl ?_
  refine x_iconst (v := 0) hC dL_need_1 (by decide) ?_
  refine x_aload_n hC dL_need_2 rfl 0 rfl ?_
  refine x_iload_n hC dL_need_3 rfl 1 rfl ?_
  refine x_iload_n hC dL_need_4 rfl 2 rfl ?_
  refine x_fVci (S := (Int32 × (Nat → Int32) × (Nat → Int32) × Int32)) (wl := []) (w1 := (wX ad cI cL cO sc sd src itm knd plc clk ec nf ns nc wt bd off row hw rl tm ord tc)) (wr := [(o, .inl (cL, 1, .inr (.inl out)))]) (wf := fun u => (wX ad cI cL cO sc u.1 src itm knd plc clk ec u.2.1 u.2.2.1 u.2.2.2 wt bd off row hw rl tm ord tc)) (wf2 := fun u => (wX ad cI cL cO sc u.1 src itm knd plc clk ec u.2.1 u.2.2.1 u.2.2.2 wt bd off row hw rl tm ord tc) ++ [(o, .inl (cL, 1, .inr (.inl out)))]) hC [.int a1, .int a2] (by rfl) (fun u => rfl) (fun sz => c_X_need htr h sz) (by decide) (by decide) k_l16 k_l17 k_l18 (by decide) 2 rfl (by decide +kernel) ⟨by decide, by decide⟩ (Nat.le_of_ble_eq_true rfl) k_l19 k_l20 wX_0 rfl rfl dL_need_5 hN (fun kx hx => by
    rcases kx with _ | _ | _ | _ | kx
    · refine ⟨[], ⟨0, 10, 13, 19⟩, [⟨0, 10, 17, 21⟩, ⟨0, 10, 21, 13⟩], x_ex 0, htab.trans rfl, fun _ h9 => absurd h9 List.not_mem_nil, by decide, by decide, k_l12, k_lx13, fun q => ?_⟩
      refine x_astore (lv' := ((4, .ref q) :: [(0, .ref (ad 0)), (1, .int a1), (2, .int a2), (3, .ref o)])) hC dL_need_13 (by decide) rfl ?_
      refine x_iconst (v := 1) hC dL_need_15 (by decide) ?_
      refine x_iret (u := (sd, nf, ns, nc, out)) (wf := fun u => (wX ad cI cL cO sc u.1 src itm knd plc clk ec u.2.1 u.2.2.1 u.2.2.2.1 wt bd off row hw rl tm ord tc ++ [(o, .inl (cL, 1, .inr (.inl u.2.2.2.2)))])) hC ?_ ?_ hr hlk dL_need_16 (hx.1 rfl) rfl <;> decide
    · refine ⟨[⟨0, 10, 13, 19⟩], ⟨0, 10, 17, 21⟩, [⟨0, 10, 21, 13⟩], x_ex 1, htab.trans rfl, List.forall_mem_cons.mpr ⟨Or.inr ⟨by decide, x_ex 0, k_l12, by decide +kernel⟩, fun _ h9 => absurd h9 List.not_mem_nil⟩, by decide, by decide, k_l14, k_lx15, fun q => ?_⟩
      refine x_astore (lv' := ((4, .ref q) :: [(0, .ref (ad 0)), (1, .int a1), (2, .int a2), (3, .ref o)])) hC dL_need_17 (by decide) rfl ?_
      refine x_iconst (v := 2) hC dL_need_19 (by decide) ?_
      refine x_iret (u := (sd, nf, ns, nc, out)) (wf := fun u => (wX ad cI cL cO sc u.1 src itm knd plc clk ec u.2.1 u.2.2.1 u.2.2.2.1 wt bd off row hw rl tm ord tc ++ [(o, .inl (cL, 1, .inr (.inl u.2.2.2.2)))])) hC ?_ ?_ hr hlk dL_need_20 ((hx.2 (by simp)).1 rfl) rfl <;> decide
    · exact (((hx.2 (by simp)).2 (by simp)).2 (by simp)).elim
    · refine ⟨[⟨0, 10, 13, 19⟩, ⟨0, 10, 17, 21⟩], ⟨0, 10, 21, 13⟩, [], x_ex 3, htab.trans rfl, List.forall_mem_cons.mpr ⟨Or.inr ⟨by decide, x_ex 0, k_l12, by decide +kernel⟩, List.forall_mem_cons.mpr ⟨Or.inr ⟨by decide, x_ex 1, k_l14, by decide +kernel⟩, fun _ h9 => absurd h9 List.not_mem_nil⟩⟩, by decide, by decide, k_l5, k_lx6, fun q => ?_⟩
      refine x_astore (lv' := ((4, .ref q) :: [(0, .ref (ad 0)), (1, .int a1), (2, .int a2), (3, .ref o)])) hC dL_need_21 (by decide) rfl ?_
      refine x_iconst (v := 3) hC dL_need_23 (by decide) ?_
      refine x_iret (u := (sd, nf, ns, nc, out)) (wf := fun u => (wX ad cI cL cO sc u.1 src itm knd plc clk ec u.2.1 u.2.2.1 u.2.2.2.1 wt bd off row hw rl tm ord tc ++ [(o, .inl (cL, 1, .inr (.inl u.2.2.2.2)))])) hC ?_ ?_ hr hlk dL_need_24 (((hx.2 (by simp)).2 (by simp)).1 rfl) rfl <;> decide
    · exact (((hx.2 (by simp)).2 (by simp)).2 (by simp)).elim) (fun r u h => ?_)
  refine x_i2l (v := r.toInt64) hC dL_need_8 rfl ?_
  refine x_last (ws' := (wX ad cI cL cO sc u.1 src itm knd plc clk ec u.2.1 u.2.2.1 u.2.2.2 wt bd off row hw rl tm ord tc ++ [(o, .inl (cL, 1, .inr (.inl (vp_updL out (0 : Int32).toNatClampNeg r.toInt64))))])) hC (69 + 0) 1 (x_app_get wX_len rfl) rfl x_in01 (x_app_set wX_len rfl) dL_need_9 ?_
  refine x_goto (tgt := 25) hC dL_need_10 (by decide) ?_
  refine x_iconst (v := 0) hC dL_need_25 (by decide) ?_
  refine x_iret (u := (u.1, u.2.1, u.2.2.1, u.2.2.2, (vp_updL out (0 : Int32).toNatClampNeg r.toInt64))) (wf := fun u => (wX ad cI cL cO sc u.1 src itm knd plc clk ec u.2.1 u.2.2.1 u.2.2.2.1 wt bd off row hw rl tm ord tc ++ [(o, .inl (cL, 1, .inr (.inl u.2.2.2.2)))])) hC ?_ ?_ hr hlk dL_need_26 h rfl <;> decide
def L_offset_wp (sc : Int32) (sd : Int32) (off : (Nat → Int64)) (out : Nat → Int64) (a1 : Int32) (Qr : Int32 → (Nat → Int64) → Prop) : Prop := X_offset_wp sc sd off a1 (fun (r : Int64) (u : Unit) => Qr 0 (vp_updL out (0 : Int32).toNatClampNeg r)) (fun (k : Nat) => ((k = 0 → Qr 1 out) ∧ (¬ k = 0 → ((k = 2 → Qr 2 out) ∧ (¬ k = 2 → False)))))
abbrev rm_L_offset : Room := { frames := 8, cells := 2, slots := 12, locals := 162 }
abbrev hh_L_offset : List (Nat × Nat × Nat × Nat) := [(0, 8, 11, 19), (0, 8, 14, 31)]
set_option maxHeartbeats 4000000 in
set_option maxRecDepth 100000 in
theorem c_L_offset {l : Launch} {D : va_G} {ad : Nat → Nat} {o : Nat} {cI cL cO : ClassId} {sc : Int32} {sd : Int32} {src : (Nat → Int32)} {itm : (Nat → Int32)} {knd : (Nat → Int32)} {plc : (Nat → Int32)} {clk : (Nat → Int64)} {ec : Int32} {nf : (Nat → Int32)} {ns : (Nat → Int32)} {nc : Int32} {wt : (Nat → Nat → Int64)} {bd : (Nat → Nat → Int64)} {off : (Nat → Int64)} {row : (Nat → Int32)} {hw : (Nat → Nat → Int64)} {rl : Int32} {tm : (Nat → Int64)} {ord : (Nat → Int32)} {tc : Int32} {out : Nat → Int64} {a1 : Int32} {Qr : Int32 → (Nat → Int64) → Prop} (htr : l.stackTraces = false) (h : L_offset_wp sc sd off out a1 Qr) (sz : Nat) : vx_Met l yL_offset (Cond.codeWith yL_offset bL_offset 4 (some .int) hh_L_offset :: TBL) rm_L_offset (va_Pc [.ref (ad 0), .int a1, .ref o] (fun U => XP D vwCl (tysX cI cL cO) (wX ad cI cL cO sc sd src itm knd plc clk ec nf ns nc wt bd off row hw rl tm ord tc ++ [(o, .inl (cL, 1, .inr (.inl out)))]) sz U ∧ XN U)) (va_Qi Qr (fun u t => XB D vwCl (tysX cI cL cO) (va_A (wX ad cI cL cO sc sd src itm knd plc clk ec nf ns nc wt bd off row hw rl tm ord tc ++ [(o, .inl (cL, 1, .inr (.inl out)))]) sz) (wX ad cI cL cO sc sd src itm knd plc clk ec nf ns nc wt bd off row hw rl tm ord tc ++ [(o, .inl (cL, 1, .inr (.inl u)))]) t) (va_A (wX ad cI cL cO sc sd src itm knd plc clk ec nf ns nc wt bd off row hw rl tm ord tc ++ [(o, .inl (cL, 1, .inr (.inl out)))]) sz)) (XT D vwCl (tysX cI cL cO) (va_A (wX ad cI cL cO sc sd src itm knd plc clk ec nf ns nc wt bd off row hw rl tm ord tc ++ [(o, .inl (cL, 1, .inr (.inl out)))]) sz) (wX ad cI cL cO sc sd src itm knd plc clk ec nf ns nc wt bd off row hw rl tm ord tc ++ [(o, .inl (cL, 1, .inr (.inl out)))]) (fun _ => False)) rm_L_offset.cells rm_L_offset.slots (va_A (wX ad cI cL cO sc sd src itm knd plc clk ec nf ns nc wt bd off row hw rl tm ord tc ++ [(o, .inl (cL, 1, .inr (.inl out)))]) sz) := by
  refine x_metH [.ref (ad 0), .int a1, .ref o] TBL_good (by decide) (Nat.le_of_ble_eq_true rfl) ?_
  intro p e s m args below meth c hC hr hlk htab hN
  show XW p l e rm_L_offset s m args below meth c D vwCl (va_A (wX ad cI cL cO sc sd src itm knd plc clk ec nf ns nc wt bd off row hw rl tm ord tc ++ [(o, .inl (cL, 1, .inr (.inl out)))]) sz) 4 _ 0 0 (wX ad cI cL cO sc sd src itm knd plc clk ec nf ns nc wt bd off row hw rl tm ord tc ++ [(o, .inl (cL, 1, .inr (.inl out)))]) 0 [(0, .ref (ad 0)), (1, .int a1), (2, .ref o)] []
  unfold L_offset_wp at h
  refine x_aload_n hC dL_offset_0 rfl 2 rfl ?_
  refine x_iconst (v := 0) hC dL_offset_1 (by decide) ?_
  refine x_aload_n hC dL_offset_2 rfl 0 rfl ?_
  refine x_iload_n hC dL_offset_3 rfl 1 rfl ?_
  refine x_fVcl (S := Unit) (wl := []) (w1 := (wX ad cI cL cO sc sd src itm knd plc clk ec nf ns nc wt bd off row hw rl tm ord tc)) (wr := [(o, .inl (cL, 1, .inr (.inl out)))]) (wf := fun u => (wX ad cI cL cO sc sd src itm knd plc clk ec nf ns nc wt bd off row hw rl tm ord tc)) (wf2 := fun u => (wX ad cI cL cO sc sd src itm knd plc clk ec nf ns nc wt bd off row hw rl tm ord tc) ++ [(o, .inl (cL, 1, .inr (.inl out)))]) hC [.int a1] (by rfl) (fun u => rfl) (fun sz => c_X_offset htr h sz) (by decide) (by decide) k_l21 k_l22 k_l23 (by decide) 1 rfl (by decide +kernel) ⟨by decide, by decide⟩ (Nat.le_of_ble_eq_true rfl) k_l24 k_l25 wX_0 rfl rfl dL_offset_4 hN (fun kx hx => by
    rcases kx with _ | _ | _ | _ | kx
    · refine ⟨[], ⟨0, 8, 11, 19⟩, [⟨0, 8, 14, 31⟩], x_ex 0, htab.trans rfl, fun _ h9 => absurd h9 List.not_mem_nil, by decide, by decide, k_l12, k_lx13, fun q => ?_⟩
      refine x_astore_n (lv' := ((3, .ref q) :: [(0, .ref (ad 0)), (1, .int a1), (2, .ref o)])) hC dL_offset_11 rfl (by decide) rfl ?_
      refine x_iconst (v := 1) hC dL_offset_12 (by decide) ?_
      refine x_iret (u := out) (wf := fun u => (wX ad cI cL cO sc sd src itm knd plc clk ec nf ns nc wt bd off row hw rl tm ord tc ++ [(o, .inl (cL, 1, .inr (.inl u)))])) hC ?_ ?_ hr hlk dL_offset_13 (hx.1 rfl) rfl <;> decide
    · exact ((hx.2 (by simp)).2 (by simp)).elim
    · refine ⟨[⟨0, 8, 11, 19⟩], ⟨0, 8, 14, 31⟩, [], x_ex 2, htab.trans rfl, List.forall_mem_cons.mpr ⟨Or.inr ⟨by decide, x_ex 0, k_l12, by decide +kernel⟩, fun _ h9 => absurd h9 List.not_mem_nil⟩, by decide, by decide, k_l26, k_lx27, fun q => ?_⟩
      refine x_astore_n (lv' := ((3, .ref q) :: [(0, .ref (ad 0)), (1, .int a1), (2, .ref o)])) hC dL_offset_14 rfl (by decide) rfl ?_
      refine x_iconst (v := 2) hC dL_offset_15 (by decide) ?_
      refine x_iret (u := out) (wf := fun u => (wX ad cI cL cO sc sd src itm knd plc clk ec nf ns nc wt bd off row hw rl tm ord tc ++ [(o, .inl (cL, 1, .inr (.inl u)))])) hC ?_ ?_ hr hlk dL_offset_16 ((hx.2 (by simp)).1 rfl) rfl <;> decide
    · exact ((hx.2 (by simp)).2 (by simp)).elim
    · exact ((hx.2 (by simp)).2 (by simp)).elim) (fun r u h => ?_)
  refine x_last (ws' := (wX ad cI cL cO sc sd src itm knd plc clk ec nf ns nc wt bd off row hw rl tm ord tc ++ [(o, .inl (cL, 1, .inr (.inl (vp_updL out (0 : Int32).toNatClampNeg r))))])) hC (69 + 0) 1 (x_app_get wX_len rfl) rfl x_in01 (x_app_set wX_len rfl) dL_offset_7 ?_
  refine x_goto (tgt := 17) hC dL_offset_8 (by decide) ?_
  refine x_iconst (v := 0) hC dL_offset_17 (by decide) ?_
  refine x_iret (u := (vp_updL out (0 : Int32).toNatClampNeg r)) (wf := fun u => (wX ad cI cL cO sc sd src itm knd plc clk ec nf ns nc wt bd off row hw rl tm ord tc ++ [(o, .inl (cL, 1, .inr (.inl u)))])) hC ?_ ?_ hr hlk dL_offset_18 h rfl <;> decide
def L_bound_wp (sc : Int32) (sd : Int32) (bd : (Nat → Nat → Int64)) (out : Nat → Int64) (a1 : Int32) (a2 : Int32) (Qr : Int32 → (Nat → Int64) → Prop) : Prop := X_bound_wp sc sd bd a1 a2 (fun (r : Int64) (u : Unit) => Qr 0 (vp_updL out (0 : Int32).toNatClampNeg r)) (fun (k : Nat) => ((k = 0 → Qr 1 out) ∧ (¬ k = 0 → ((k = 2 → Qr 2 out) ∧ (¬ k = 2 → False)))))
abbrev rm_L_bound : Room := { frames := 8, cells := 3, slots := 18, locals := 163 }
abbrev hh_L_bound : List (Nat × Nat × Nat × Nat) := [(0, 9, 12, 19), (0, 9, 16, 31)]
set_option maxHeartbeats 4000000 in
set_option maxRecDepth 100000 in
theorem c_L_bound {l : Launch} {D : va_G} {ad : Nat → Nat} {o : Nat} {cI cL cO : ClassId} {sc : Int32} {sd : Int32} {src : (Nat → Int32)} {itm : (Nat → Int32)} {knd : (Nat → Int32)} {plc : (Nat → Int32)} {clk : (Nat → Int64)} {ec : Int32} {nf : (Nat → Int32)} {ns : (Nat → Int32)} {nc : Int32} {wt : (Nat → Nat → Int64)} {bd : (Nat → Nat → Int64)} {off : (Nat → Int64)} {row : (Nat → Int32)} {hw : (Nat → Nat → Int64)} {rl : Int32} {tm : (Nat → Int64)} {ord : (Nat → Int32)} {tc : Int32} {out : Nat → Int64} {a1 : Int32} {a2 : Int32} {Qr : Int32 → (Nat → Int64) → Prop} (htr : l.stackTraces = false) (h : L_bound_wp sc sd bd out a1 a2 Qr) (sz : Nat) : vx_Met l yL_bound (Cond.codeWith yL_bound bL_bound 5 (some .int) hh_L_bound :: TBL) rm_L_bound (va_Pc [.ref (ad 0), .int a1, .int a2, .ref o] (fun U => XP D vwCl (tysX cI cL cO) (wX ad cI cL cO sc sd src itm knd plc clk ec nf ns nc wt bd off row hw rl tm ord tc ++ [(o, .inl (cL, 1, .inr (.inl out)))]) sz U ∧ XN U)) (va_Qi Qr (fun u t => XB D vwCl (tysX cI cL cO) (va_A (wX ad cI cL cO sc sd src itm knd plc clk ec nf ns nc wt bd off row hw rl tm ord tc ++ [(o, .inl (cL, 1, .inr (.inl out)))]) sz) (wX ad cI cL cO sc sd src itm knd plc clk ec nf ns nc wt bd off row hw rl tm ord tc ++ [(o, .inl (cL, 1, .inr (.inl u)))]) t) (va_A (wX ad cI cL cO sc sd src itm knd plc clk ec nf ns nc wt bd off row hw rl tm ord tc ++ [(o, .inl (cL, 1, .inr (.inl out)))]) sz)) (XT D vwCl (tysX cI cL cO) (va_A (wX ad cI cL cO sc sd src itm knd plc clk ec nf ns nc wt bd off row hw rl tm ord tc ++ [(o, .inl (cL, 1, .inr (.inl out)))]) sz) (wX ad cI cL cO sc sd src itm knd plc clk ec nf ns nc wt bd off row hw rl tm ord tc ++ [(o, .inl (cL, 1, .inr (.inl out)))]) (fun _ => False)) rm_L_bound.cells rm_L_bound.slots (va_A (wX ad cI cL cO sc sd src itm knd plc clk ec nf ns nc wt bd off row hw rl tm ord tc ++ [(o, .inl (cL, 1, .inr (.inl out)))]) sz) := by
  refine x_metH [.ref (ad 0), .int a1, .int a2, .ref o] TBL_good (by decide) (Nat.le_of_ble_eq_true rfl) ?_
  intro p e s m args below meth c hC hr hlk htab hN
  show XW p l e rm_L_bound s m args below meth c D vwCl (va_A (wX ad cI cL cO sc sd src itm knd plc clk ec nf ns nc wt bd off row hw rl tm ord tc ++ [(o, .inl (cL, 1, .inr (.inl out)))]) sz) 5 _ 0 0 (wX ad cI cL cO sc sd src itm knd plc clk ec nf ns nc wt bd off row hw rl tm ord tc ++ [(o, .inl (cL, 1, .inr (.inl out)))]) 0 [(0, .ref (ad 0)), (1, .int a1), (2, .int a2), (3, .ref o)] []
  unfold L_bound_wp at h
  refine x_aload_n hC dL_bound_0 rfl 3 rfl ?_
  refine x_iconst (v := 0) hC dL_bound_1 (by decide) ?_
  refine x_aload_n hC dL_bound_2 rfl 0 rfl ?_
  refine x_iload_n hC dL_bound_3 rfl 1 rfl ?_
  refine x_iload_n hC dL_bound_4 rfl 2 rfl ?_
  refine x_fVcl (S := Unit) (wl := []) (w1 := (wX ad cI cL cO sc sd src itm knd plc clk ec nf ns nc wt bd off row hw rl tm ord tc)) (wr := [(o, .inl (cL, 1, .inr (.inl out)))]) (wf := fun u => (wX ad cI cL cO sc sd src itm knd plc clk ec nf ns nc wt bd off row hw rl tm ord tc)) (wf2 := fun u => (wX ad cI cL cO sc sd src itm knd plc clk ec nf ns nc wt bd off row hw rl tm ord tc) ++ [(o, .inl (cL, 1, .inr (.inl out)))]) hC [.int a1, .int a2] (by rfl) (fun u => rfl) (fun sz => c_X_bound htr h sz) (by decide) (by decide) k_l28 k_l29 k_l30 (by decide) 2 rfl (by decide +kernel) ⟨by decide, by decide⟩ (Nat.le_of_ble_eq_true rfl) k_l31 k_l32 wX_0 rfl rfl dL_bound_5 hN (fun kx hx => by
    rcases kx with _ | _ | _ | _ | kx
    · refine ⟨[], ⟨0, 9, 12, 19⟩, [⟨0, 9, 16, 31⟩], x_ex 0, htab.trans rfl, fun _ h9 => absurd h9 List.not_mem_nil, by decide, by decide, k_l12, k_lx13, fun q => ?_⟩
      refine x_astore (lv' := ((4, .ref q) :: [(0, .ref (ad 0)), (1, .int a1), (2, .int a2), (3, .ref o)])) hC dL_bound_12 (by decide) rfl ?_
      refine x_iconst (v := 1) hC dL_bound_14 (by decide) ?_
      refine x_iret (u := out) (wf := fun u => (wX ad cI cL cO sc sd src itm knd plc clk ec nf ns nc wt bd off row hw rl tm ord tc ++ [(o, .inl (cL, 1, .inr (.inl u)))])) hC ?_ ?_ hr hlk dL_bound_15 (hx.1 rfl) rfl <;> decide
    · exact ((hx.2 (by simp)).2 (by simp)).elim
    · refine ⟨[⟨0, 9, 12, 19⟩], ⟨0, 9, 16, 31⟩, [], x_ex 2, htab.trans rfl, List.forall_mem_cons.mpr ⟨Or.inr ⟨by decide, x_ex 0, k_l12, by decide +kernel⟩, fun _ h9 => absurd h9 List.not_mem_nil⟩, by decide, by decide, k_l26, k_lx27, fun q => ?_⟩
      refine x_astore (lv' := ((4, .ref q) :: [(0, .ref (ad 0)), (1, .int a1), (2, .int a2), (3, .ref o)])) hC dL_bound_16 (by decide) rfl ?_
      refine x_iconst (v := 2) hC dL_bound_18 (by decide) ?_
      refine x_iret (u := out) (wf := fun u => (wX ad cI cL cO sc sd src itm knd plc clk ec nf ns nc wt bd off row hw rl tm ord tc ++ [(o, .inl (cL, 1, .inr (.inl u)))])) hC ?_ ?_ hr hlk dL_bound_19 ((hx.2 (by simp)).1 rfl) rfl <;> decide
    · exact ((hx.2 (by simp)).2 (by simp)).elim
    · exact ((hx.2 (by simp)).2 (by simp)).elim) (fun r u h => ?_)
  refine x_last (ws' := (wX ad cI cL cO sc sd src itm knd plc clk ec nf ns nc wt bd off row hw rl tm ord tc ++ [(o, .inl (cL, 1, .inr (.inl (vp_updL out (0 : Int32).toNatClampNeg r))))])) hC (69 + 0) 1 (x_app_get wX_len rfl) rfl x_in01 (x_app_set wX_len rfl) dL_bound_8 ?_
  refine x_goto (tgt := 20) hC dL_bound_9 (by decide) ?_
  refine x_iconst (v := 0) hC dL_bound_20 (by decide) ?_
  refine x_iret (u := (vp_updL out (0 : Int32).toNatClampNeg r)) (wf := fun u => (wX ad cI cL cO sc sd src itm knd plc clk ec nf ns nc wt bd off row hw rl tm ord tc ++ [(o, .inl (cL, 1, .inr (.inl u)))])) hC ?_ ?_ hr hlk dL_bound_21 h rfl <;> decide
def L_corrected_wp (sd : Int32) (ec : Int32) (tm : (Nat → Int64)) (out : Nat → Int64) (a1 : Int32) (Qr : Int32 → (Nat → Int64) → Prop) : Prop := X_corrected_wp sd ec tm a1 (fun (r : Int64) (u : Unit) => Qr 0 (vp_updL out (0 : Int32).toNatClampNeg r)) (fun (k : Nat) => ((k = 0 → Qr 1 out) ∧ (¬ k = 0 → ((k = 2 → Qr 2 out) ∧ (¬ k = 2 → False)))))
abbrev rm_L_corrected : Room := { frames := 8, cells := 2, slots := 12, locals := 162 }
abbrev hh_L_corrected : List (Nat × Nat × Nat × Nat) := [(0, 8, 11, 19), (0, 8, 14, 31)]
set_option maxHeartbeats 4000000 in
set_option maxRecDepth 100000 in
theorem c_L_corrected {l : Launch} {D : va_G} {ad : Nat → Nat} {o : Nat} {cI cL cO : ClassId} {sc : Int32} {sd : Int32} {src : (Nat → Int32)} {itm : (Nat → Int32)} {knd : (Nat → Int32)} {plc : (Nat → Int32)} {clk : (Nat → Int64)} {ec : Int32} {nf : (Nat → Int32)} {ns : (Nat → Int32)} {nc : Int32} {wt : (Nat → Nat → Int64)} {bd : (Nat → Nat → Int64)} {off : (Nat → Int64)} {row : (Nat → Int32)} {hw : (Nat → Nat → Int64)} {rl : Int32} {tm : (Nat → Int64)} {ord : (Nat → Int32)} {tc : Int32} {out : Nat → Int64} {a1 : Int32} {Qr : Int32 → (Nat → Int64) → Prop} (htr : l.stackTraces = false) (h : L_corrected_wp sd ec tm out a1 Qr) (sz : Nat) : vx_Met l yL_corrected (Cond.codeWith yL_corrected bL_corrected 4 (some .int) hh_L_corrected :: TBL) rm_L_corrected (va_Pc [.ref (ad 0), .int a1, .ref o] (fun U => XP D vwCl (tysX cI cL cO) (wX ad cI cL cO sc sd src itm knd plc clk ec nf ns nc wt bd off row hw rl tm ord tc ++ [(o, .inl (cL, 1, .inr (.inl out)))]) sz U ∧ XN U)) (va_Qi Qr (fun u t => XB D vwCl (tysX cI cL cO) (va_A (wX ad cI cL cO sc sd src itm knd plc clk ec nf ns nc wt bd off row hw rl tm ord tc ++ [(o, .inl (cL, 1, .inr (.inl out)))]) sz) (wX ad cI cL cO sc sd src itm knd plc clk ec nf ns nc wt bd off row hw rl tm ord tc ++ [(o, .inl (cL, 1, .inr (.inl u)))]) t) (va_A (wX ad cI cL cO sc sd src itm knd plc clk ec nf ns nc wt bd off row hw rl tm ord tc ++ [(o, .inl (cL, 1, .inr (.inl out)))]) sz)) (XT D vwCl (tysX cI cL cO) (va_A (wX ad cI cL cO sc sd src itm knd plc clk ec nf ns nc wt bd off row hw rl tm ord tc ++ [(o, .inl (cL, 1, .inr (.inl out)))]) sz) (wX ad cI cL cO sc sd src itm knd plc clk ec nf ns nc wt bd off row hw rl tm ord tc ++ [(o, .inl (cL, 1, .inr (.inl out)))]) (fun _ => False)) rm_L_corrected.cells rm_L_corrected.slots (va_A (wX ad cI cL cO sc sd src itm knd plc clk ec nf ns nc wt bd off row hw rl tm ord tc ++ [(o, .inl (cL, 1, .inr (.inl out)))]) sz) := by
  refine x_metH [.ref (ad 0), .int a1, .ref o] TBL_good (by decide) (Nat.le_of_ble_eq_true rfl) ?_
  intro p e s m args below meth c hC hr hlk htab hN
  show XW p l e rm_L_corrected s m args below meth c D vwCl (va_A (wX ad cI cL cO sc sd src itm knd plc clk ec nf ns nc wt bd off row hw rl tm ord tc ++ [(o, .inl (cL, 1, .inr (.inl out)))]) sz) 4 _ 0 0 (wX ad cI cL cO sc sd src itm knd plc clk ec nf ns nc wt bd off row hw rl tm ord tc ++ [(o, .inl (cL, 1, .inr (.inl out)))]) 0 [(0, .ref (ad 0)), (1, .int a1), (2, .ref o)] []
  unfold L_corrected_wp at h
  refine x_aload_n hC dL_corrected_0 rfl 2 rfl ?_
  refine x_iconst (v := 0) hC dL_corrected_1 (by decide) ?_
  refine x_aload_n hC dL_corrected_2 rfl 0 rfl ?_
  refine x_iload_n hC dL_corrected_3 rfl 1 rfl ?_
  refine x_fVcl (S := Unit) (wl := []) (w1 := (wX ad cI cL cO sc sd src itm knd plc clk ec nf ns nc wt bd off row hw rl tm ord tc)) (wr := [(o, .inl (cL, 1, .inr (.inl out)))]) (wf := fun u => (wX ad cI cL cO sc sd src itm knd plc clk ec nf ns nc wt bd off row hw rl tm ord tc)) (wf2 := fun u => (wX ad cI cL cO sc sd src itm knd plc clk ec nf ns nc wt bd off row hw rl tm ord tc) ++ [(o, .inl (cL, 1, .inr (.inl out)))]) hC [.int a1] (by rfl) (fun u => rfl) (fun sz => c_X_corrected htr h sz) (by decide) (by decide) k_l33 k_l34 k_l35 (by decide) 1 rfl (by decide +kernel) ⟨by decide, by decide⟩ (Nat.le_of_ble_eq_true rfl) k_l36 k_l37 wX_0 rfl rfl dL_corrected_4 hN (fun kx hx => by
    rcases kx with _ | _ | _ | _ | kx
    · refine ⟨[], ⟨0, 8, 11, 19⟩, [⟨0, 8, 14, 31⟩], x_ex 0, htab.trans rfl, fun _ h9 => absurd h9 List.not_mem_nil, by decide, by decide, k_l12, k_lx13, fun q => ?_⟩
      refine x_astore_n (lv' := ((3, .ref q) :: [(0, .ref (ad 0)), (1, .int a1), (2, .ref o)])) hC dL_corrected_11 rfl (by decide) rfl ?_
      refine x_iconst (v := 1) hC dL_corrected_12 (by decide) ?_
      refine x_iret (u := out) (wf := fun u => (wX ad cI cL cO sc sd src itm knd plc clk ec nf ns nc wt bd off row hw rl tm ord tc ++ [(o, .inl (cL, 1, .inr (.inl u)))])) hC ?_ ?_ hr hlk dL_corrected_13 (hx.1 rfl) rfl <;> decide
    · exact ((hx.2 (by simp)).2 (by simp)).elim
    · refine ⟨[⟨0, 8, 11, 19⟩], ⟨0, 8, 14, 31⟩, [], x_ex 2, htab.trans rfl, List.forall_mem_cons.mpr ⟨Or.inr ⟨by decide, x_ex 0, k_l12, by decide +kernel⟩, fun _ h9 => absurd h9 List.not_mem_nil⟩, by decide, by decide, k_l26, k_lx27, fun q => ?_⟩
      refine x_astore_n (lv' := ((3, .ref q) :: [(0, .ref (ad 0)), (1, .int a1), (2, .ref o)])) hC dL_corrected_14 rfl (by decide) rfl ?_
      refine x_iconst (v := 2) hC dL_corrected_15 (by decide) ?_
      refine x_iret (u := out) (wf := fun u => (wX ad cI cL cO sc sd src itm knd plc clk ec nf ns nc wt bd off row hw rl tm ord tc ++ [(o, .inl (cL, 1, .inr (.inl u)))])) hC ?_ ?_ hr hlk dL_corrected_16 ((hx.2 (by simp)).1 rfl) rfl <;> decide
    · exact ((hx.2 (by simp)).2 (by simp)).elim
    · exact ((hx.2 (by simp)).2 (by simp)).elim) (fun r u h => ?_)
  refine x_last (ws' := (wX ad cI cL cO sc sd src itm knd plc clk ec nf ns nc wt bd off row hw rl tm ord tc ++ [(o, .inl (cL, 1, .inr (.inl (vp_updL out (0 : Int32).toNatClampNeg r))))])) hC (69 + 0) 1 (x_app_get wX_len rfl) rfl x_in01 (x_app_set wX_len rfl) dL_corrected_7 ?_
  refine x_goto (tgt := 17) hC dL_corrected_8 (by decide) ?_
  refine x_iconst (v := 0) hC dL_corrected_17 (by decide) ?_
  refine x_iret (u := (vp_updL out (0 : Int32).toNatClampNeg r)) (wf := fun u => (wX ad cI cL cO sc sd src itm knd plc clk ec nf ns nc wt bd off row hw rl tm ord tc ++ [(o, .inl (cL, 1, .inr (.inl u)))])) hC ?_ ?_ hr hlk dL_corrected_18 h rfl <;> decide
def L_ordered_wp (sd : Int32) (itm : (Nat → Int32)) (ord : (Nat → Int32)) (tc : Int32) (out : Nat → Int64) (a1 : Int32) (a2 : Int32) (Qr : Int32 → (Nat → Int64) → Prop) : Prop := X_ordered_wp sd itm ord tc a1 a2 (fun (r : Int32) (u : Unit) => Qr 0 (vp_updL out (0 : Int32).toNatClampNeg r.toInt64)) (fun (k : Nat) => ((k = 0 → Qr 1 out) ∧ (¬ k = 0 → ((k = 2 → Qr 2 out) ∧ (¬ k = 2 → False)))))
abbrev rm_L_ordered : Room := { frames := 8, cells := 2, slots := 12, locals := 162 }
abbrev hh_L_ordered : List (Nat × Nat × Nat × Nat) := [(0, 10, 13, 19), (0, 10, 17, 31)]
set_option maxHeartbeats 4000000 in
set_option maxRecDepth 100000 in
theorem c_L_ordered {l : Launch} {D : va_G} {ad : Nat → Nat} {o : Nat} {cI cL cO : ClassId} {sc : Int32} {sd : Int32} {src : (Nat → Int32)} {itm : (Nat → Int32)} {knd : (Nat → Int32)} {plc : (Nat → Int32)} {clk : (Nat → Int64)} {ec : Int32} {nf : (Nat → Int32)} {ns : (Nat → Int32)} {nc : Int32} {wt : (Nat → Nat → Int64)} {bd : (Nat → Nat → Int64)} {off : (Nat → Int64)} {row : (Nat → Int32)} {hw : (Nat → Nat → Int64)} {rl : Int32} {tm : (Nat → Int64)} {ord : (Nat → Int32)} {tc : Int32} {out : Nat → Int64} {a1 : Int32} {a2 : Int32} {Qr : Int32 → (Nat → Int64) → Prop} (htr : l.stackTraces = false) (h : L_ordered_wp sd itm ord tc out a1 a2 Qr) (sz : Nat) : vx_Met l yL_ordered (Cond.codeWith yL_ordered bL_ordered 5 (some .int) hh_L_ordered :: TBL) rm_L_ordered (va_Pc [.ref (ad 0), .int a1, .int a2, .ref o] (fun U => XP D vwCl (tysX cI cL cO) (wX ad cI cL cO sc sd src itm knd plc clk ec nf ns nc wt bd off row hw rl tm ord tc ++ [(o, .inl (cL, 1, .inr (.inl out)))]) sz U ∧ XN U)) (va_Qi Qr (fun u t => XB D vwCl (tysX cI cL cO) (va_A (wX ad cI cL cO sc sd src itm knd plc clk ec nf ns nc wt bd off row hw rl tm ord tc ++ [(o, .inl (cL, 1, .inr (.inl out)))]) sz) (wX ad cI cL cO sc sd src itm knd plc clk ec nf ns nc wt bd off row hw rl tm ord tc ++ [(o, .inl (cL, 1, .inr (.inl u)))]) t) (va_A (wX ad cI cL cO sc sd src itm knd plc clk ec nf ns nc wt bd off row hw rl tm ord tc ++ [(o, .inl (cL, 1, .inr (.inl out)))]) sz)) (XT D vwCl (tysX cI cL cO) (va_A (wX ad cI cL cO sc sd src itm knd plc clk ec nf ns nc wt bd off row hw rl tm ord tc ++ [(o, .inl (cL, 1, .inr (.inl out)))]) sz) (wX ad cI cL cO sc sd src itm knd plc clk ec nf ns nc wt bd off row hw rl tm ord tc ++ [(o, .inl (cL, 1, .inr (.inl out)))]) (fun _ => False)) rm_L_ordered.cells rm_L_ordered.slots (va_A (wX ad cI cL cO sc sd src itm knd plc clk ec nf ns nc wt bd off row hw rl tm ord tc ++ [(o, .inl (cL, 1, .inr (.inl out)))]) sz) := by
  refine x_metH [.ref (ad 0), .int a1, .int a2, .ref o] TBL_good (by decide) (Nat.le_of_ble_eq_true rfl) ?_
  intro p e s m args below meth c hC hr hlk htab hN
  show XW p l e rm_L_ordered s m args below meth c D vwCl (va_A (wX ad cI cL cO sc sd src itm knd plc clk ec nf ns nc wt bd off row hw rl tm ord tc ++ [(o, .inl (cL, 1, .inr (.inl out)))]) sz) 5 _ 0 0 (wX ad cI cL cO sc sd src itm knd plc clk ec nf ns nc wt bd off row hw rl tm ord tc ++ [(o, .inl (cL, 1, .inr (.inl out)))]) 0 [(0, .ref (ad 0)), (1, .int a1), (2, .int a2), (3, .ref o)] []
  unfold L_ordered_wp at h
  refine x_aload_n hC dL_ordered_0 rfl 3 rfl ?_
  refine x_iconst (v := 0) hC dL_ordered_1 (by decide) ?_
  refine x_aload_n hC dL_ordered_2 rfl 0 rfl ?_
  refine x_iload_n hC dL_ordered_3 rfl 1 rfl ?_
  refine x_iload_n hC dL_ordered_4 rfl 2 rfl ?_
  refine x_fVci (S := Unit) (wl := []) (w1 := (wX ad cI cL cO sc sd src itm knd plc clk ec nf ns nc wt bd off row hw rl tm ord tc)) (wr := [(o, .inl (cL, 1, .inr (.inl out)))]) (wf := fun u => (wX ad cI cL cO sc sd src itm knd plc clk ec nf ns nc wt bd off row hw rl tm ord tc)) (wf2 := fun u => (wX ad cI cL cO sc sd src itm knd plc clk ec nf ns nc wt bd off row hw rl tm ord tc) ++ [(o, .inl (cL, 1, .inr (.inl out)))]) hC [.int a1, .int a2] (by rfl) (fun u => rfl) (fun sz => c_X_ordered htr h sz) (by decide) (by decide) k_l38 k_l39 k_l40 (by decide) 2 rfl (by decide +kernel) ⟨by decide, by decide⟩ (Nat.le_of_ble_eq_true rfl) k_l41 k_l42 wX_0 rfl rfl dL_ordered_5 hN (fun kx hx => by
    rcases kx with _ | _ | _ | _ | kx
    · refine ⟨[], ⟨0, 10, 13, 19⟩, [⟨0, 10, 17, 31⟩], x_ex 0, htab.trans rfl, fun _ h9 => absurd h9 List.not_mem_nil, by decide, by decide, k_l12, k_lx13, fun q => ?_⟩
      refine x_astore (lv' := ((4, .ref q) :: [(0, .ref (ad 0)), (1, .int a1), (2, .int a2), (3, .ref o)])) hC dL_ordered_13 (by decide) rfl ?_
      refine x_iconst (v := 1) hC dL_ordered_15 (by decide) ?_
      refine x_iret (u := out) (wf := fun u => (wX ad cI cL cO sc sd src itm knd plc clk ec nf ns nc wt bd off row hw rl tm ord tc ++ [(o, .inl (cL, 1, .inr (.inl u)))])) hC ?_ ?_ hr hlk dL_ordered_16 (hx.1 rfl) rfl <;> decide
    · exact ((hx.2 (by simp)).2 (by simp)).elim
    · refine ⟨[⟨0, 10, 13, 19⟩], ⟨0, 10, 17, 31⟩, [], x_ex 2, htab.trans rfl, List.forall_mem_cons.mpr ⟨Or.inr ⟨by decide, x_ex 0, k_l12, by decide +kernel⟩, fun _ h9 => absurd h9 List.not_mem_nil⟩, by decide, by decide, k_l26, k_lx27, fun q => ?_⟩
      refine x_astore (lv' := ((4, .ref q) :: [(0, .ref (ad 0)), (1, .int a1), (2, .int a2), (3, .ref o)])) hC dL_ordered_17 (by decide) rfl ?_
      refine x_iconst (v := 2) hC dL_ordered_19 (by decide) ?_
      refine x_iret (u := out) (wf := fun u => (wX ad cI cL cO sc sd src itm knd plc clk ec nf ns nc wt bd off row hw rl tm ord tc ++ [(o, .inl (cL, 1, .inr (.inl u)))])) hC ?_ ?_ hr hlk dL_ordered_20 ((hx.2 (by simp)).1 rfl) rfl <;> decide
    · exact ((hx.2 (by simp)).2 (by simp)).elim
    · exact ((hx.2 (by simp)).2 (by simp)).elim) (fun r u h => ?_)
  refine x_i2l (v := r.toInt64) hC dL_ordered_8 rfl ?_
  refine x_last (ws' := (wX ad cI cL cO sc sd src itm knd plc clk ec nf ns nc wt bd off row hw rl tm ord tc ++ [(o, .inl (cL, 1, .inr (.inl (vp_updL out (0 : Int32).toNatClampNeg r.toInt64))))])) hC (69 + 0) 1 (x_app_get wX_len rfl) rfl x_in01 (x_app_set wX_len rfl) dL_ordered_9 ?_
  refine x_goto (tgt := 21) hC dL_ordered_10 (by decide) ?_
  refine x_iconst (v := 0) hC dL_ordered_21 (by decide) ?_
  refine x_iret (u := (vp_updL out (0 : Int32).toNatClampNeg r.toInt64)) (wf := fun u => (wX ad cI cL cO sc sd src itm knd plc clk ec nf ns nc wt bd off row hw rl tm ord tc ++ [(o, .inl (cL, 1, .inr (.inl u)))])) hC ?_ ?_ hr hlk dL_ordered_22 h rfl <;> decide
def L_implied_wp (sd : Int32) (itm : (Nat → Int32)) (knd : (Nat → Int32)) (plc : (Nat → Int32)) (tm : (Nat → Int64)) (ord : (Nat → Int32)) (tc : Int32) (out : Nat → Int64) (a1 : Int32) (a2 : Int32) (Qr : Int32 → (Nat → Int64) → Prop) : Prop := X_implied_wp sd itm knd plc tm ord tc a1 a2 (fun (r : Int32) (u : Unit) => Qr 0 (vp_updL out (0 : Int32).toNatClampNeg r.toInt64)) (fun (k : Nat) => ((k = 0 → Qr 1 out) ∧ (¬ k = 0 → ((k = 2 → Qr 2 out) ∧ (¬ k = 2 → False)))))
abbrev rm_L_implied : Room := { frames := 8, cells := 1, slots := 6, locals := 162 }
abbrev hh_L_implied : List (Nat × Nat × Nat × Nat) := [(0, 10, 13, 19), (0, 10, 17, 31)]
set_option maxHeartbeats 4000000 in
set_option maxRecDepth 100000 in
theorem c_L_implied {l : Launch} {D : va_G} {ad : Nat → Nat} {o : Nat} {cI cL cO : ClassId} {sc : Int32} {sd : Int32} {src : (Nat → Int32)} {itm : (Nat → Int32)} {knd : (Nat → Int32)} {plc : (Nat → Int32)} {clk : (Nat → Int64)} {ec : Int32} {nf : (Nat → Int32)} {ns : (Nat → Int32)} {nc : Int32} {wt : (Nat → Nat → Int64)} {bd : (Nat → Nat → Int64)} {off : (Nat → Int64)} {row : (Nat → Int32)} {hw : (Nat → Nat → Int64)} {rl : Int32} {tm : (Nat → Int64)} {ord : (Nat → Int32)} {tc : Int32} {out : Nat → Int64} {a1 : Int32} {a2 : Int32} {Qr : Int32 → (Nat → Int64) → Prop} (htr : l.stackTraces = false) (h : L_implied_wp sd itm knd plc tm ord tc out a1 a2 Qr) (sz : Nat) : vx_Met l yL_implied (Cond.codeWith yL_implied bL_implied 5 (some .int) hh_L_implied :: TBL) rm_L_implied (va_Pc [.ref (ad 0), .int a1, .int a2, .ref o] (fun U => XP D vwCl (tysX cI cL cO) (wX ad cI cL cO sc sd src itm knd plc clk ec nf ns nc wt bd off row hw rl tm ord tc ++ [(o, .inl (cL, 1, .inr (.inl out)))]) sz U ∧ XN U)) (va_Qi Qr (fun u t => XB D vwCl (tysX cI cL cO) (va_A (wX ad cI cL cO sc sd src itm knd plc clk ec nf ns nc wt bd off row hw rl tm ord tc ++ [(o, .inl (cL, 1, .inr (.inl out)))]) sz) (wX ad cI cL cO sc sd src itm knd plc clk ec nf ns nc wt bd off row hw rl tm ord tc ++ [(o, .inl (cL, 1, .inr (.inl u)))]) t) (va_A (wX ad cI cL cO sc sd src itm knd plc clk ec nf ns nc wt bd off row hw rl tm ord tc ++ [(o, .inl (cL, 1, .inr (.inl out)))]) sz)) (XT D vwCl (tysX cI cL cO) (va_A (wX ad cI cL cO sc sd src itm knd plc clk ec nf ns nc wt bd off row hw rl tm ord tc ++ [(o, .inl (cL, 1, .inr (.inl out)))]) sz) (wX ad cI cL cO sc sd src itm knd plc clk ec nf ns nc wt bd off row hw rl tm ord tc ++ [(o, .inl (cL, 1, .inr (.inl out)))]) (fun _ => False)) rm_L_implied.cells rm_L_implied.slots (va_A (wX ad cI cL cO sc sd src itm knd plc clk ec nf ns nc wt bd off row hw rl tm ord tc ++ [(o, .inl (cL, 1, .inr (.inl out)))]) sz) := by
  refine x_metH [.ref (ad 0), .int a1, .int a2, .ref o] TBL_good (by decide) (Nat.le_of_ble_eq_true rfl) ?_
  intro p e s m args below meth c hC hr hlk htab hN
  show XW p l e rm_L_implied s m args below meth c D vwCl (va_A (wX ad cI cL cO sc sd src itm knd plc clk ec nf ns nc wt bd off row hw rl tm ord tc ++ [(o, .inl (cL, 1, .inr (.inl out)))]) sz) 5 _ 0 0 (wX ad cI cL cO sc sd src itm knd plc clk ec nf ns nc wt bd off row hw rl tm ord tc ++ [(o, .inl (cL, 1, .inr (.inl out)))]) 0 [(0, .ref (ad 0)), (1, .int a1), (2, .int a2), (3, .ref o)] []
  unfold L_implied_wp at h
  refine x_aload_n hC dL_implied_0 rfl 3 rfl ?_
  refine x_iconst (v := 0) hC dL_implied_1 (by decide) ?_
  refine x_aload_n hC dL_implied_2 rfl 0 rfl ?_
  refine x_iload_n hC dL_implied_3 rfl 1 rfl ?_
  refine x_iload_n hC dL_implied_4 rfl 2 rfl ?_
  refine x_fVci (S := Unit) (wl := []) (w1 := (wX ad cI cL cO sc sd src itm knd plc clk ec nf ns nc wt bd off row hw rl tm ord tc)) (wr := [(o, .inl (cL, 1, .inr (.inl out)))]) (wf := fun u => (wX ad cI cL cO sc sd src itm knd plc clk ec nf ns nc wt bd off row hw rl tm ord tc)) (wf2 := fun u => (wX ad cI cL cO sc sd src itm knd plc clk ec nf ns nc wt bd off row hw rl tm ord tc) ++ [(o, .inl (cL, 1, .inr (.inl out)))]) hC [.int a1, .int a2] (by rfl) (fun u => rfl) (fun sz => c_X_implied htr h sz) (by decide) (by decide) k_l43 k_l44 k_l45 (by decide) 2 rfl (by decide +kernel) ⟨by decide, by decide⟩ (Nat.le_of_ble_eq_true rfl) k_l46 k_l47 wX_0 rfl rfl dL_implied_5 hN (fun kx hx => by
    rcases kx with _ | _ | _ | _ | kx
    · refine ⟨[], ⟨0, 10, 13, 19⟩, [⟨0, 10, 17, 31⟩], x_ex 0, htab.trans rfl, fun _ h9 => absurd h9 List.not_mem_nil, by decide, by decide, k_l12, k_lx13, fun q => ?_⟩
      refine x_astore (lv' := ((4, .ref q) :: [(0, .ref (ad 0)), (1, .int a1), (2, .int a2), (3, .ref o)])) hC dL_implied_13 (by decide) rfl ?_
      refine x_iconst (v := 1) hC dL_implied_15 (by decide) ?_
      refine x_iret (u := out) (wf := fun u => (wX ad cI cL cO sc sd src itm knd plc clk ec nf ns nc wt bd off row hw rl tm ord tc ++ [(o, .inl (cL, 1, .inr (.inl u)))])) hC ?_ ?_ hr hlk dL_implied_16 (hx.1 rfl) rfl <;> decide
    · exact ((hx.2 (by simp)).2 (by simp)).elim
    · refine ⟨[⟨0, 10, 13, 19⟩], ⟨0, 10, 17, 31⟩, [], x_ex 2, htab.trans rfl, List.forall_mem_cons.mpr ⟨Or.inr ⟨by decide, x_ex 0, k_l12, by decide +kernel⟩, fun _ h9 => absurd h9 List.not_mem_nil⟩, by decide, by decide, k_l26, k_lx27, fun q => ?_⟩
      refine x_astore (lv' := ((4, .ref q) :: [(0, .ref (ad 0)), (1, .int a1), (2, .int a2), (3, .ref o)])) hC dL_implied_17 (by decide) rfl ?_
      refine x_iconst (v := 2) hC dL_implied_19 (by decide) ?_
      refine x_iret (u := out) (wf := fun u => (wX ad cI cL cO sc sd src itm knd plc clk ec nf ns nc wt bd off row hw rl tm ord tc ++ [(o, .inl (cL, 1, .inr (.inl u)))])) hC ?_ ?_ hr hlk dL_implied_20 ((hx.2 (by simp)).1 rfl) rfl <;> decide
    · exact ((hx.2 (by simp)).2 (by simp)).elim
    · exact ((hx.2 (by simp)).2 (by simp)).elim) (fun r u h => ?_)
  refine x_i2l (v := r.toInt64) hC dL_implied_8 rfl ?_
  refine x_last (ws' := (wX ad cI cL cO sc sd src itm knd plc clk ec nf ns nc wt bd off row hw rl tm ord tc ++ [(o, .inl (cL, 1, .inr (.inl (vp_updL out (0 : Int32).toNatClampNeg r.toInt64))))])) hC (69 + 0) 1 (x_app_get wX_len rfl) rfl x_in01 (x_app_set wX_len rfl) dL_implied_9 ?_
  refine x_goto (tgt := 21) hC dL_implied_10 (by decide) ?_
  refine x_iconst (v := 0) hC dL_implied_21 (by decide) ?_
  refine x_iret (u := (vp_updL out (0 : Int32).toNatClampNeg r.toInt64)) (wf := fun u => (wX ad cI cL cO sc sd src itm knd plc clk ec nf ns nc wt bd off row hw rl tm ord tc ++ [(o, .inl (cL, 1, .inr (.inl u)))])) hC ?_ ?_ hr hlk dL_implied_22 h rfl <;> decide
def L_correct_wp (sd : Int32) (src : (Nat → Int32)) (itm : (Nat → Int32)) (knd : (Nat → Int32)) (plc : (Nat → Int32)) (clk : (Nat → Int64)) (ec : Int32) (out : Nat → Int64) (a1 : Int32) (a2 : Int64) (Qr : Int32 → (Int32 × (Nat → Int64) × (Nat → Int64)) → Prop) : Prop := X_correct_wp sd src itm knd plc clk ec a1 a2 (fun (r : Int32) (u : (Int32 × (Nat → Int64))) => Qr 0 (u.1, u.2, (vp_updL out (0 : Int32).toNatClampNeg r.toInt64))) (fun (k : Nat) => ((k = 0 → Qr 1 (sd, clk, out)) ∧ (¬ k = 0 → ((k = 1 → Qr 2 (sd, clk, out)) ∧ (¬ k = 1 → False)))))
abbrev rm_L_correct : Room := { frames := 8, cells := 2, slots := 12, locals := 164 }
abbrev hh_L_correct : List (Nat × Nat × Nat × Nat) := [(0, 11, 14, 19), (0, 11, 18, 21)]
set_option maxHeartbeats 4000000 in
set_option maxRecDepth 100000 in
theorem c_L_correct {l : Launch} {D : va_G} {ad : Nat → Nat} {o : Nat} {cI cL cO : ClassId} {sc : Int32} {sd : Int32} {src : (Nat → Int32)} {itm : (Nat → Int32)} {knd : (Nat → Int32)} {plc : (Nat → Int32)} {clk : (Nat → Int64)} {ec : Int32} {nf : (Nat → Int32)} {ns : (Nat → Int32)} {nc : Int32} {wt : (Nat → Nat → Int64)} {bd : (Nat → Nat → Int64)} {off : (Nat → Int64)} {row : (Nat → Int32)} {hw : (Nat → Nat → Int64)} {rl : Int32} {tm : (Nat → Int64)} {ord : (Nat → Int32)} {tc : Int32} {out : Nat → Int64} {a1 : Int32} {a2 : Int64} {Qr : Int32 → (Int32 × (Nat → Int64) × (Nat → Int64)) → Prop} (htr : l.stackTraces = false) (h : L_correct_wp sd src itm knd plc clk ec out a1 a2 Qr) (sz : Nat) : vx_Met l yL_correct (Cond.codeWith yL_correct bL_correct 6 (some .int) hh_L_correct :: TBL) rm_L_correct (va_Pc [.ref (ad 0), .int a1, .long a2, .ref o] (fun U => XP D vwCl (tysX cI cL cO) (wX ad cI cL cO sc sd src itm knd plc clk ec nf ns nc wt bd off row hw rl tm ord tc ++ [(o, .inl (cL, 1, .inr (.inl out)))]) sz U ∧ XN U)) (va_Qi Qr (fun u t => XB D vwCl (tysX cI cL cO) (va_A (wX ad cI cL cO sc sd src itm knd plc clk ec nf ns nc wt bd off row hw rl tm ord tc ++ [(o, .inl (cL, 1, .inr (.inl out)))]) sz) (wX ad cI cL cO sc u.1 src itm knd plc u.2.1 ec nf ns nc wt bd off row hw rl tm ord tc ++ [(o, .inl (cL, 1, .inr (.inl u.2.2)))]) t) (va_A (wX ad cI cL cO sc sd src itm knd plc clk ec nf ns nc wt bd off row hw rl tm ord tc ++ [(o, .inl (cL, 1, .inr (.inl out)))]) sz)) (XT D vwCl (tysX cI cL cO) (va_A (wX ad cI cL cO sc sd src itm knd plc clk ec nf ns nc wt bd off row hw rl tm ord tc ++ [(o, .inl (cL, 1, .inr (.inl out)))]) sz) (wX ad cI cL cO sc sd src itm knd plc clk ec nf ns nc wt bd off row hw rl tm ord tc ++ [(o, .inl (cL, 1, .inr (.inl out)))]) (fun _ => False)) rm_L_correct.cells rm_L_correct.slots (va_A (wX ad cI cL cO sc sd src itm knd plc clk ec nf ns nc wt bd off row hw rl tm ord tc ++ [(o, .inl (cL, 1, .inr (.inl out)))]) sz) := by
  refine x_metH [.ref (ad 0), .int a1, .long a2, .ref o] TBL_good (by decide) (Nat.le_of_ble_eq_true rfl) ?_
  intro p e s m args below meth c hC hr hlk htab hN
  show XW p l e rm_L_correct s m args below meth c D vwCl (va_A (wX ad cI cL cO sc sd src itm knd plc clk ec nf ns nc wt bd off row hw rl tm ord tc ++ [(o, .inl (cL, 1, .inr (.inl out)))]) sz) 6 _ 0 0 (wX ad cI cL cO sc sd src itm knd plc clk ec nf ns nc wt bd off row hw rl tm ord tc ++ [(o, .inl (cL, 1, .inr (.inl out)))]) 0 [(0, .ref (ad 0)), (1, .int a1), (2, .long a2), (4, .ref o)] []
  unfold L_correct_wp at h
  refine x_aload hC dL_correct_0 3 rfl ?_
  refine x_iconst (v := 0) hC dL_correct_2 (by decide) ?_
  refine x_aload_n hC dL_correct_3 rfl 0 rfl ?_
  refine x_iload_n hC dL_correct_4 rfl 1 rfl ?_
  refine x_lload_n hC dL_correct_5 rfl 2 rfl ?_
  refine x_fVci (S := (Int32 × (Nat → Int64))) (wl := []) (w1 := (wX ad cI cL cO sc sd src itm knd plc clk ec nf ns nc wt bd off row hw rl tm ord tc)) (wr := [(o, .inl (cL, 1, .inr (.inl out)))]) (wf := fun u => (wX ad cI cL cO sc u.1 src itm knd plc u.2 ec nf ns nc wt bd off row hw rl tm ord tc)) (wf2 := fun u => (wX ad cI cL cO sc u.1 src itm knd plc u.2 ec nf ns nc wt bd off row hw rl tm ord tc) ++ [(o, .inl (cL, 1, .inr (.inl out)))]) hC [.int a1, .long a2] (by rfl) (fun u => rfl) (fun sz => c_X_correct htr h sz) (by decide) (by decide) k_l48 k_l49 k_l50 (by decide) 2 rfl (by decide +kernel) ⟨by decide, by decide⟩ (Nat.le_of_ble_eq_true rfl) k_l51 k_l52 wX_0 rfl rfl dL_correct_6 hN (fun kx hx => by
    rcases kx with _ | _ | _ | _ | kx
    · refine ⟨[], ⟨0, 11, 14, 19⟩, [⟨0, 11, 18, 21⟩], x_ex 0, htab.trans rfl, fun _ h9 => absurd h9 List.not_mem_nil, by decide, by decide, k_l12, k_lx13, fun q => ?_⟩
      refine x_astore (lv' := ((5, .ref q) :: [(0, .ref (ad 0)), (1, .int a1), (2, .long a2), (4, .ref o)])) hC dL_correct_14 (by decide) rfl ?_
      refine x_iconst (v := 1) hC dL_correct_16 (by decide) ?_
      refine x_iret (u := (sd, clk, out)) (wf := fun u => (wX ad cI cL cO sc u.1 src itm knd plc u.2.1 ec nf ns nc wt bd off row hw rl tm ord tc ++ [(o, .inl (cL, 1, .inr (.inl u.2.2)))])) hC ?_ ?_ hr hlk dL_correct_17 (hx.1 rfl) rfl <;> decide
    · refine ⟨[⟨0, 11, 14, 19⟩], ⟨0, 11, 18, 21⟩, [], x_ex 1, htab.trans rfl, List.forall_mem_cons.mpr ⟨Or.inr ⟨by decide, x_ex 0, k_l12, by decide +kernel⟩, fun _ h9 => absurd h9 List.not_mem_nil⟩, by decide, by decide, k_l14, k_lx15, fun q => ?_⟩
      refine x_astore (lv' := ((5, .ref q) :: [(0, .ref (ad 0)), (1, .int a1), (2, .long a2), (4, .ref o)])) hC dL_correct_18 (by decide) rfl ?_
      refine x_iconst (v := 2) hC dL_correct_20 (by decide) ?_
      refine x_iret (u := (sd, clk, out)) (wf := fun u => (wX ad cI cL cO sc u.1 src itm knd plc u.2.1 ec nf ns nc wt bd off row hw rl tm ord tc ++ [(o, .inl (cL, 1, .inr (.inl u.2.2)))])) hC ?_ ?_ hr hlk dL_correct_21 ((hx.2 (by simp)).1 rfl) rfl <;> decide
    · exact ((hx.2 (by simp)).2 (by simp)).elim
    · exact ((hx.2 (by simp)).2 (by simp)).elim
    · exact ((hx.2 (by simp)).2 (by simp)).elim) (fun r u h => ?_)
  refine x_i2l (v := r.toInt64) hC dL_correct_9 rfl ?_
  refine x_last (ws' := (wX ad cI cL cO sc u.1 src itm knd plc u.2 ec nf ns nc wt bd off row hw rl tm ord tc ++ [(o, .inl (cL, 1, .inr (.inl (vp_updL out (0 : Int32).toNatClampNeg r.toInt64))))])) hC (69 + 0) 1 (x_app_get wX_len rfl) rfl x_in01 (x_app_set wX_len rfl) dL_correct_10 ?_
  refine x_goto (tgt := 22) hC dL_correct_11 (by decide) ?_
  refine x_iconst (v := 0) hC dL_correct_22 (by decide) ?_
  refine x_iret (u := (u.1, u.2, (vp_updL out (0 : Int32).toNatClampNeg r.toInt64))) (wf := fun u => (wX ad cI cL cO sc u.1 src itm knd plc u.2.1 ec nf ns nc wt bd off row hw rl tm ord tc ++ [(o, .inl (cL, 1, .inr (.inl u.2.2)))])) hC ?_ ?_ hr hlk dL_correct_23 h rfl <;> decide
def L_ask_wp (src : (Nat → Int32)) (itm : (Nat → Int32)) (knd : (Nat → Int32)) (plc : (Nat → Int32)) (ec : Int32) (out : Nat → Int64) (a1 : Int32) (a2 : Int32) (Qr : Int32 → (Nat → Int64) → Prop) : Prop := X_ask_wp src itm knd plc ec a1 a2 (fun (r : Int32) (u : Unit) => Qr 0 (vp_updL out (0 : Int32).toNatClampNeg r.toInt64)) (fun (k : Nat) => ((k = 1 → Qr 1 out) ∧ (¬ k = 1 → False)))
abbrev rm_L_ask : Room := { frames := 7, cells := 1, slots := 6, locals := 142 }
abbrev hh_L_ask : List (Nat × Nat × Nat × Nat) := [(0, 10, 13, 21)]
set_option maxHeartbeats 4000000 in
set_option maxRecDepth 100000 in
theorem c_L_ask {l : Launch} {D : va_G} {ad : Nat → Nat} {o : Nat} {cI cL cO : ClassId} {sc : Int32} {sd : Int32} {src : (Nat → Int32)} {itm : (Nat → Int32)} {knd : (Nat → Int32)} {plc : (Nat → Int32)} {clk : (Nat → Int64)} {ec : Int32} {nf : (Nat → Int32)} {ns : (Nat → Int32)} {nc : Int32} {wt : (Nat → Nat → Int64)} {bd : (Nat → Nat → Int64)} {off : (Nat → Int64)} {row : (Nat → Int32)} {hw : (Nat → Nat → Int64)} {rl : Int32} {tm : (Nat → Int64)} {ord : (Nat → Int32)} {tc : Int32} {out : Nat → Int64} {a1 : Int32} {a2 : Int32} {Qr : Int32 → (Nat → Int64) → Prop} (htr : l.stackTraces = false) (h : L_ask_wp src itm knd plc ec out a1 a2 Qr) (sz : Nat) : vx_Met l yL_ask (Cond.codeWith yL_ask bL_ask 5 (some .int) hh_L_ask :: TBL) rm_L_ask (va_Pc [.ref (ad 0), .int a1, .int a2, .ref o] (fun U => XP D vwCl (tysX cI cL cO) (wX ad cI cL cO sc sd src itm knd plc clk ec nf ns nc wt bd off row hw rl tm ord tc ++ [(o, .inl (cL, 1, .inr (.inl out)))]) sz U ∧ XN U)) (va_Qi Qr (fun u t => XB D vwCl (tysX cI cL cO) (va_A (wX ad cI cL cO sc sd src itm knd plc clk ec nf ns nc wt bd off row hw rl tm ord tc ++ [(o, .inl (cL, 1, .inr (.inl out)))]) sz) (wX ad cI cL cO sc sd src itm knd plc clk ec nf ns nc wt bd off row hw rl tm ord tc ++ [(o, .inl (cL, 1, .inr (.inl u)))]) t) (va_A (wX ad cI cL cO sc sd src itm knd plc clk ec nf ns nc wt bd off row hw rl tm ord tc ++ [(o, .inl (cL, 1, .inr (.inl out)))]) sz)) (XT D vwCl (tysX cI cL cO) (va_A (wX ad cI cL cO sc sd src itm knd plc clk ec nf ns nc wt bd off row hw rl tm ord tc ++ [(o, .inl (cL, 1, .inr (.inl out)))]) sz) (wX ad cI cL cO sc sd src itm knd plc clk ec nf ns nc wt bd off row hw rl tm ord tc ++ [(o, .inl (cL, 1, .inr (.inl out)))]) (fun _ => False)) rm_L_ask.cells rm_L_ask.slots (va_A (wX ad cI cL cO sc sd src itm knd plc clk ec nf ns nc wt bd off row hw rl tm ord tc ++ [(o, .inl (cL, 1, .inr (.inl out)))]) sz) := by
  refine x_metH [.ref (ad 0), .int a1, .int a2, .ref o] TBL_good (by decide) (Nat.le_of_ble_eq_true rfl) ?_
  intro p e s m args below meth c hC hr hlk htab hN
  show XW p l e rm_L_ask s m args below meth c D vwCl (va_A (wX ad cI cL cO sc sd src itm knd plc clk ec nf ns nc wt bd off row hw rl tm ord tc ++ [(o, .inl (cL, 1, .inr (.inl out)))]) sz) 5 _ 0 0 (wX ad cI cL cO sc sd src itm knd plc clk ec nf ns nc wt bd off row hw rl tm ord tc ++ [(o, .inl (cL, 1, .inr (.inl out)))]) 0 [(0, .ref (ad 0)), (1, .int a1), (2, .int a2), (3, .ref o)] []
  unfold L_ask_wp at h
  refine x_aload_n hC dL_ask_0 rfl 3 rfl ?_
  refine x_iconst (v := 0) hC dL_ask_1 (by decide) ?_
  refine x_aload_n hC dL_ask_2 rfl 0 rfl ?_
  refine x_iload_n hC dL_ask_3 rfl 1 rfl ?_
  refine x_iload_n hC dL_ask_4 rfl 2 rfl ?_
  refine x_fVci (S := Unit) (wl := []) (w1 := (wX ad cI cL cO sc sd src itm knd plc clk ec nf ns nc wt bd off row hw rl tm ord tc)) (wr := [(o, .inl (cL, 1, .inr (.inl out)))]) (wf := fun u => (wX ad cI cL cO sc sd src itm knd plc clk ec nf ns nc wt bd off row hw rl tm ord tc)) (wf2 := fun u => (wX ad cI cL cO sc sd src itm knd plc clk ec nf ns nc wt bd off row hw rl tm ord tc) ++ [(o, .inl (cL, 1, .inr (.inl out)))]) hC [.int a1, .int a2] (by rfl) (fun u => rfl) (fun sz => c_X_ask htr h sz) (by decide) (by decide) k_l53 k_l54 k_l55 (by decide) 2 rfl (by decide +kernel) ⟨by decide, by decide⟩ (Nat.le_of_ble_eq_true rfl) k_l56 k_l57 wX_0 rfl rfl dL_ask_5 hN (fun kx hx => by
    rcases kx with _ | _ | _ | _ | kx
    · exact (hx.2 (by simp)).elim
    · refine ⟨[], ⟨0, 10, 13, 21⟩, [], x_ex 1, htab.trans rfl, fun _ h9 => absurd h9 List.not_mem_nil, by decide, by decide, k_l14, k_lx15, fun q => ?_⟩
      refine x_astore (lv' := ((4, .ref q) :: [(0, .ref (ad 0)), (1, .int a1), (2, .int a2), (3, .ref o)])) hC dL_ask_13 (by decide) rfl ?_
      refine x_iconst (v := 1) hC dL_ask_15 (by decide) ?_
      refine x_iret (u := out) (wf := fun u => (wX ad cI cL cO sc sd src itm knd plc clk ec nf ns nc wt bd off row hw rl tm ord tc ++ [(o, .inl (cL, 1, .inr (.inl u)))])) hC ?_ ?_ hr hlk dL_ask_16 (hx.1 rfl) rfl <;> decide
    · exact (hx.2 (by simp)).elim
    · exact (hx.2 (by simp)).elim
    · exact (hx.2 (by simp)).elim) (fun r u h => ?_)
  refine x_i2l (v := r.toInt64) hC dL_ask_8 rfl ?_
  refine x_last (ws' := (wX ad cI cL cO sc sd src itm knd plc clk ec nf ns nc wt bd off row hw rl tm ord tc ++ [(o, .inl (cL, 1, .inr (.inl (vp_updL out (0 : Int32).toNatClampNeg r.toInt64))))])) hC (69 + 0) 1 (x_app_get wX_len rfl) rfl x_in01 (x_app_set wX_len rfl) dL_ask_9 ?_
  refine x_goto (tgt := 17) hC dL_ask_10 (by decide) ?_
  refine x_iconst (v := 0) hC dL_ask_17 (by decide) ?_
  refine x_iret (u := (vp_updL out (0 : Int32).toNatClampNeg r.toInt64)) (wf := fun u => (wX ad cI cL cO sc sd src itm knd plc clk ec nf ns nc wt bd off row hw rl tm ord tc ++ [(o, .inl (cL, 1, .inr (.inl u)))])) hC ?_ ?_ hr hlk dL_ask_18 h rfl <;> decide
