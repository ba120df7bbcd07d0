def LC_0 (L : Nat) (xs : Nat → Int32) (i : Int32) (Qn : Int32 → Int32 → (Nat → Int32) → (Nat → Int32) → (Nat → Int32) → (Nat → Int32) → (Nat → Int64) → Int32 → (Nat → Int32) → (Nat → Int32) → Int32 → (Nat → Nat → Int64) → (Nat → Nat → Int64) → (Nat → Int64) → (Nat → Int32) → (Nat → Nat → Int64) → Int32 → (Nat → Int64) → (Nat → Int32) → Int32 → Int32 → Int32 → Int32 → (Nat → Int32) → (Nat → Int32) → (Nat → Int32) → (Nat → Int32) → (Nat → Int64) → Int32 → (Nat → Int32) → (Nat → Int32) → Int32 → Int32 → (Nat → Int32) → (Nat → Int64) → (Nat → Int64) → (Nat → Int64) → (Nat → Int64) → (Nat → Int64) → Prop) (sc : Int32) (sd : Int32) (src : (Nat → Int32)) (itm : (Nat → Int32)) (knd : (Nat → Int32)) (plc : (Nat → Int32)) (clk : (Nat → Int64)) (ec : Int32) (nf : (Nat → Int32)) (ns : (Nat → Int32)) (nc : Int32) (wt : (Nat → Nat → Int64)) (bd : (Nat → Nat → Int64)) (off : (Nat → Int64)) (row : (Nat → Int32)) (hw : (Nat → Nat → Int64)) (rl : Int32) (tm : (Nat → Int64)) (ord : (Nat → Int32)) (tc : Int32) (mth : Int32) (msc : Int32) (mec : Int32) (msrc : (Nat → Int32)) (mitm : (Nat → Int32)) (mknd : (Nat → Int32)) (mplc : (Nat → Int32)) (mclk : (Nat → Int64)) (mnc : Int32) (mnf : (Nat → Int32)) (mns : (Nat → Int32)) (msd : Int32) (mrl : Int32) (mrow : (Nat → Int32)) (mw : (Nat → Int64)) (mb : (Nat → Int64)) (mway : (Nat → Int64)) (moff : (Nat → Int64)) (out : Nat → Int64) : Prop := L_source_wp sc sd out (fun (r_1 : Int32) (u_2 : (Int32 × Int32 × (Nat → Int64))) => M_source_wp mth msc msd (fun (r_3 : Int32) (u_4 : (Int32 × Int32 × Int32)) => M_thrown_wp u_4.1 (fun (r_5 : Int32) (u_6 : Unit) => ((r_5 = r_1 → ((¬ r_1 = 0 → Qn u_2.1 u_2.2.1 src itm knd plc clk ec nf ns nc wt bd off row hw rl tm ord tc u_4.1 u_4.2.1 mec msrc mitm mknd mplc mclk mnc mnf mns u_4.2.2 mrl mrow mw mb mway moff u_2.2.2) ∧ (r_1 = 0 → (((u_2.2.2 (0 : Int32).toNatClampNeg) = r_3.toInt64 → Qn u_2.1 u_2.2.1 src itm knd plc clk ec nf ns nc wt bd off row hw rl tm ord tc u_4.1 u_4.2.1 mec msrc mitm mknd mplc mclk mnc mnf mns u_4.2.2 mrl mrow mw mb mway moff u_2.2.2) ∧ (¬ (u_2.2.2 (0 : Int32).toNatClampNeg) = r_3.toInt64 → False))))) ∧ (¬ r_5 = r_1 → False)))))
set_option maxHeartbeats 4000000 in
set_option maxRecDepth 100000 in
theorem LC_0_ok {p : Program} {l : Launch} {e : Env} {s : State} {m : MethodId} {args : Array Value} {below : List Frame} {meth : Method} {c : Code} {Q : State → Prop} {D : va_G} {A : Nat → Prop} {ad am : Nat → Nat} {o b0 L ce sl : Nat} {xs : Nat → Int32} {cI cL cO : ClassId} {i : Int32} {Qn : Int32 → Int32 → (Nat → Int32) → (Nat → Int32) → (Nat → Int32) → (Nat → Int32) → (Nat → Int64) → Int32 → (Nat → Int32) → (Nat → Int32) → Int32 → (Nat → Nat → Int64) → (Nat → Nat → Int64) → (Nat → Int64) → (Nat → Int32) → (Nat → Nat → Int64) → Int32 → (Nat → Int64) → (Nat → Int32) → Int32 → Int32 → Int32 → Int32 → (Nat → Int32) → (Nat → Int32) → (Nat → Int32) → (Nat → Int32) → (Nat → Int64) → Int32 → (Nat → Int32) → (Nat → Int32) → Int32 → Int32 → (Nat → Int32) → (Nat → Int64) → (Nat → Int64) → (Nat → Int64) → (Nat → Int64) → (Nat → Int64) → Prop} {sc : Int32} {sd : Int32} {src : (Nat → Int32)} {itm : (Nat → Int32)} {knd : (Nat → Int32)} {plc : (Nat → Int32)} {clk : (Nat → Int64)} {ec : Int32} {nf : (Nat → Int32)} {ns : (Nat → Int32)} {nc : Int32} {wt : (Nat → Nat → Int64)} {bd : (Nat → Nat → Int64)} {off : (Nat → Int64)} {row : (Nat → Int32)} {hw : (Nat → Nat → Int64)} {rl : Int32} {tm : (Nat → Int64)} {ord : (Nat → Int32)} {tc : Int32} {mth : Int32} {msc : Int32} {mec : Int32} {msrc : (Nat → Int32)} {mitm : (Nat → Int32)} {mknd : (Nat → Int32)} {mplc : (Nat → Int32)} {mclk : (Nat → Int64)} {mnc : Int32} {mnf : (Nat → Int32)} {mns : (Nat → Int32)} {msd : Int32} {mrl : Int32} {mrow : (Nat → Int32)} {mw : (Nat → Int64)} {mb : (Nat → Int64)} {mway : (Nat → Int64)} {moff : (Nat → Int64)} {out : Nat → Int64} (hC : XC p s m args c D vwCl (tysX cI cL cO) A 8 code TBL RL) (htr : l.stackTraces = false) (hN : XN s) (hX : va_X b0 L xs s s.heap) (hbl : b0 < s.heap.size) (hbA : ¬ A b0) (hce : ce + 8 ≤ 601024) (hsl : sl + 48 ≤ 7293034) (hexit : ∀ (sc : Int32) (sd : Int32) (src : (Nat → Int32)) (itm : (Nat → Int32)) (knd : (Nat → Int32)) (plc : (Nat → Int32)) (clk : (Nat → Int64)) (ec : Int32) (nf : (Nat → Int32)) (ns : (Nat → Int32)) (nc : Int32) (wt : (Nat → Nat → Int64)) (bd : (Nat → Nat → Int64)) (off : (Nat → Int64)) (row : (Nat → Int32)) (hw : (Nat → Nat → Int64)) (rl : Int32) (tm : (Nat → Int64)) (ord : (Nat → Int32)) (tc : Int32) (mth : Int32) (msc : Int32) (mec : Int32) (msrc : (Nat → Int32)) (mitm : (Nat → Int32)) (mknd : (Nat → Int32)) (mplc : (Nat → Int32)) (mclk : (Nat → Int64)) (mnc : Int32) (mnf : (Nat → Int32)) (mns : (Nat → Int32)) (msd : Int32) (mrl : Int32) (mrow : (Nat → Int32)) (mw : (Nat → Int64)) (mb : (Nat → Int64)) (mway : (Nat → Int64)) (moff : (Nat → Int64)) (out : Nat → Int64), Qn sc sd src itm knd plc clk ec nf ns nc wt bd off row hw rl tm ord tc mth msc mec msrc mitm mknd mplc mclk mnc mnf mns msd mrl mrow mw mb mway moff out → XW p l e room_1 s m args below meth c D vwCl A 8 Q (ce + 8) (sl + 48) ((wM am cI cL cO mth msc mec msrc mitm mknd mplc mclk mnc mnf mns msd mrl mrow mw mb mway moff) ++ ((wX ad cI cL cO sc sd src itm knd plc clk ec nf ns nc wt bd off row hw rl tm ord tc) ++ [(o, .inl (cL, 1, .inr (.inl out)))])) 873 [(0, .ref b0), (1, .ref (ad 0)), (2, .ref (am 0)), (3, .ref o), (4, .int i)] []) (h : LC_0 L xs i Qn sc sd src itm knd plc clk ec nf ns nc wt bd off row hw rl tm ord tc mth msc mec msrc mitm mknd mplc mclk mnc mnf mns msd mrl mrow mw mb mway moff out) : XW p l e room_1 s m args below meth c D vwCl A 8 Q ce sl ((wM am cI cL cO mth msc mec msrc mitm mknd mplc mclk mnc mnf mns msd mrl mrow mw mb mway moff) ++ ((wX ad cI cL cO sc sd src itm knd plc clk ec nf ns nc wt bd off row hw rl tm ord tc) ++ [(o, .inl (cL, 1, .inr (.inl out)))])) 104 [(0, .ref b0), (1, .ref (ad 0)), (2, .ref (am 0)), (3, .ref o), (4, .int i)] [] := by
  have hce2 : ce + 8 ≤ room_1.cells := hce
  have hsl2 : sl + 48 ≤ room_1.slots := hsl
  unfold LC_0 at h
  refine x_aload_n hC dL_law_104 rfl 1 rfl ?_
  refine x_aload_n hC dL_law_105 rfl 3 rfl ?_
  refine x_fSi (S := (Int32 × Int32 × (Nat → Int64))) (wl := (wM am cI cL cO mth msc mec msrc mitm mknd mplc mclk mnc mnf mns msd mrl mrow mw mb mway moff)) (w1 := (wX ad cI cL cO sc sd src itm knd plc clk ec nf ns nc wt bd off row hw rl tm ord tc ++ [(o, .inl (cL, 1, .inr (.inl out)))])) (wr := []) (wf := fun u => (wX ad cI cL cO u.1 u.2.1 src itm knd plc clk ec nf ns nc wt bd off row hw rl tm ord tc) ++ [(o, .inl (cL, 1, .inr (.inl u.2.2)))]) (wf2 := fun u => (wM am cI cL cO mth msc mec msrc mitm mknd mplc mclk mnc mnf mns msd mrl mrow mw mb mway moff) ++ ((wX ad cI cL cO u.1 u.2.1 src itm knd plc clk ec nf ns nc wt bd off row hw rl tm ord tc) ++ [(o, .inl (cL, 1, .inr (.inl u.2.2)))])) hC [.ref (ad 0), .ref o] (by rw [List.append_nil]) (fun u => by rw [List.append_nil]) (fun sz => c_L_source htr h sz) (by decide) (by decide) k_l58 k_l59 k_l60 (by decide) 2 rfl (by decide +kernel) ⟨Nat.le_trans (show ce + 1 ≤ ce + 8 by omega) hce2, Nat.le_trans (show sl + 6 ≤ sl + 48 by omega) hsl2⟩ (Nat.le_of_ble_eq_true rfl) k_l61 rfl dL_law_106 hN (fun _ h9 => h9) (fun r_1 u_2 h => ?_)
  refine x_istore (lv' := [(5, .int r_1), (0, .ref b0), (1, .ref (ad 0)), (2, .ref (am 0)), (3, .ref o), (4, .int i)]) hC dL_law_109 (by decide) rfl ?_
  refine x_aload_n hC dL_law_111 rfl 3 rfl ?_
  refine x_fVi (S := (Int32 × Int32 × Int32)) (wl := []) (w1 := (wM am cI cL cO mth msc mec msrc mitm mknd mplc mclk mnc mnf mns msd mrl mrow mw mb mway moff)) (wr := (wX ad cI cL cO u_2.1 u_2.2.1 src itm knd plc clk ec nf ns nc wt bd off row hw rl tm ord tc ++ [(o, .inl (cL, 1, .inr (.inl u_2.2.2)))])) (wf := fun u => (wM am cI cL cO u.1 u.2.1 mec msrc mitm mknd mplc mclk mnc mnf mns u.2.2 mrl mrow mw mb mway moff)) (wf2 := fun u => (wM am cI cL cO u.1 u.2.1 mec msrc mitm mknd mplc mclk mnc mnf mns u.2.2 mrl mrow mw mb mway moff) ++ ((wX ad cI cL cO u_2.1 u_2.2.1 src itm knd plc clk ec nf ns nc wt bd off row hw rl tm ord tc) ++ [(o, .inl (cL, 1, .inr (.inl u_2.2.2)))])) hC [] (by rfl) (fun u => rfl) (fun sz => c_M_source h sz) (by decide) (by decide) k_l62 k_l63 k_l64 (by decide) 0 rfl (by decide +kernel) ⟨Nat.le_trans (show ce + 1 ≤ ce + 8 by omega) hce2, Nat.le_trans (show sl + 6 ≤ sl + 48 by omega) hsl2⟩ (Nat.le_of_ble_eq_true rfl) k_l65 k_l66 wM_0 rfl rfl dL_law_112 (fun _ h9 => h9) (fun r_3 u_4 h => ?_)
  refine x_istore (lv' := [(6, .int r_3), (5, .int r_1), (0, .ref b0), (1, .ref (ad 0)), (2, .ref (am 0)), (3, .ref o), (4, .int i)]) hC dL_law_115 (by decide) rfl ?_
  refine x_aload_n hC dL_law_117 rfl 4 rfl ?_
  refine x_fVi (S := Unit) (wl := []) (w1 := (wM am cI cL cO u_4.1 u_4.2.1 mec msrc mitm mknd mplc mclk mnc mnf mns u_4.2.2 mrl mrow mw mb mway moff)) (wr := (wX ad cI cL cO u_2.1 u_2.2.1 src itm knd plc clk ec nf ns nc wt bd off row hw rl tm ord tc ++ [(o, .inl (cL, 1, .inr (.inl u_2.2.2)))])) (wf := fun u => (wM am cI cL cO u_4.1 u_4.2.1 mec msrc mitm mknd mplc mclk mnc mnf mns u_4.2.2 mrl mrow mw mb mway moff)) (wf2 := fun u => (wM am cI cL cO u_4.1 u_4.2.1 mec msrc mitm mknd mplc mclk mnc mnf mns u_4.2.2 mrl mrow mw mb mway moff) ++ ((wX ad cI cL cO u_2.1 u_2.2.1 src itm knd plc clk ec nf ns nc wt bd off row hw rl tm ord tc) ++ [(o, .inl (cL, 1, .inr (.inl u_2.2.2)))])) hC [] (by rfl) (fun u => rfl) (fun sz => c_M_thrown h sz) (by decide) (by decide) k_l67 k_l68 k_l69 (by decide) 0 rfl (by decide +kernel) ⟨Nat.le_trans (show ce + 1 ≤ ce + 8 by omega) hce2, Nat.le_trans (show sl + 6 ≤ sl + 48 by omega) hsl2⟩ (Nat.le_of_ble_eq_true rfl) k_l70 k_l71 wM_0 rfl rfl dL_law_118 (fun _ h9 => h9) (fun r_5 u_6 h => ?_)
  refine x_iload hC dL_law_121 1 rfl ?_
  refine x_icmp_eq (tgt := 128) hC dL_law_123 (by decide) (fun c_7 => ?_) (fun c_7 => ?_)
  · have h := h.1 c_7
    refine x_iload hC dL_law_128 1 rfl ?_
    refine x_if_ne (tgt := 145) hC dL_law_130 (by decide) (fun c_8 => ?_) (fun c_8 => ?_)
    · have h := h.1 c_8
      refine x_goto (tgt := 873) hC dL_law_145 (by decide) ?_
      refine x_lv (lv' := [(0, .ref b0), (1, .ref (ad 0)), (2, .ref (am 0)), (3, .ref o), (4, .int i)]) [2, 3, 4, 5, 6] rfl ?_
      refine x_widen (k := ce + 8) (n := sl + 48) (by show ce + 1 ≤ ce + 8; omega) (by show sl + 6 ≤ sl + 48; omega) ?_
      exact hexit u_2.1 u_2.2.1 src itm knd plc clk ec nf ns nc wt bd off row hw rl tm ord tc u_4.1 u_4.2.1 mec msrc mitm mknd mplc mclk mnc mnf mns u_4.2.2 mrl mrow mw mb mway moff u_2.2.2 h
    · have h := h.2 c_8
      refine x_aload_n hC dL_law_133 rfl 5 rfl ?_
      refine x_iconst (v := 0) hC dL_law_134 (by decide) ?_
      refine x_lald hC (13 + (69 + 0)) 1 (x_app_get wM_len (x_app_get wX_len rfl)) rfl x_in01 dL_law_135 ?_
      refine x_iload hC dL_law_136 0 rfl ?_
      refine x_i2l (v := r_3.toInt64) hC dL_law_138 rfl ?_
      refine x_lcmp_eq (tgt := 145) hC dL_law_139 dL_law_140 (by decide) (fun c_9 => ?_) (fun c_9 => ?_)
      · have h := h.1 c_9
        refine x_goto (tgt := 873) hC dL_law_145 (by decide) ?_
        refine x_lv (lv' := [(0, .ref b0), (1, .ref (ad 0)), (2, .ref (am 0)), (3, .ref o), (4, .int i)]) [2, 3, 4, 5, 6] rfl ?_
        refine x_widen (k := ce + 8) (n := sl + 48) (by show ce + 1 ≤ ce + 8; omega) (by show sl + 6 ≤ sl + 48; omega) ?_
        exact hexit u_2.1 u_2.2.1 src itm knd plc clk ec nf ns nc wt bd off row hw rl tm ord tc u_4.1 u_4.2.1 mec msrc mitm mknd mplc mclk mnc mnf mns u_4.2.2 mrl mrow mw mb mway moff u_2.2.2 h
      · have h := h.2 c_9
        refine x_iconst (v := 0) hC dL_law_143 (by decide) ?_
        exact h.elim
  · have h := h.2 c_7
    refine x_iconst (v := 0) hC dL_law_126 (by decide) ?_
    exact h.elim
def LC_1 (L : Nat) (xs : Nat → Int32) (i : Int32) (Qn : Int32 → Int32 → (Nat → Int32) → (Nat → Int32) → (Nat → Int32) → (Nat → Int32) → (Nat → Int64) → Int32 → (Nat → Int32) → (Nat → Int32) → Int32 → (Nat → Nat → Int64) → (Nat → Nat → Int64) → (Nat → Int64) → (Nat → Int32) → (Nat → Nat → Int64) → Int32 → (Nat → Int64) → (Nat → Int32) → Int32 → Int32 → Int32 → Int32 → (Nat → Int32) → (Nat → Int32) → (Nat → Int32) → (Nat → Int32) → (Nat → Int64) → Int32 → (Nat → Int32) → (Nat → Int32) → Int32 → Int32 → (Nat → Int32) → (Nat → Int64) → (Nat → Int64) → (Nat → Int64) → (Nat → Int64) → (Nat → Int64) → Prop) (sc : Int32) (sd : Int32) (src : (Nat → Int32)) (itm : (Nat → Int32)) (knd : (Nat → Int32)) (plc : (Nat → Int32)) (clk : (Nat → Int64)) (ec : Int32) (nf : (Nat → Int32)) (ns : (Nat → Int32)) (nc : Int32) (wt : (Nat → Nat → Int64)) (bd : (Nat → Nat → Int64)) (off : (Nat → Int64)) (row : (Nat → Int32)) (hw : (Nat → Nat → Int64)) (rl : Int32) (tm : (Nat → Int64)) (ord : (Nat → Int32)) (tc : Int32) (mth : Int32) (msc : Int32) (mec : Int32) (msrc : (Nat → Int32)) (mitm : (Nat → Int32)) (mknd : (Nat → Int32)) (mplc : (Nat → Int32)) (mclk : (Nat → Int64)) (mnc : Int32) (mnf : (Nat → Int32)) (mns : (Nat → Int32)) (msd : Int32) (mrl : Int32) (mrow : (Nat → Int32)) (mw : (Nat → Int64)) (mb : (Nat → Int64)) (mway : (Nat → Int64)) (moff : (Nat → Int64)) (out : Nat → Int64) : Prop := vp_in (i + 1) L ∧ vp_in (i + 2) L ∧ vp_in (i + 3) L ∧ vp_in (i + 4) L ∧ vp_in (i + 5) L ∧ vp_in (i + 6) L ∧ L_event_wp sc sd src itm knd plc clk ec out (xs (i + 1).toNatClampNeg) (xs (i + 2).toNatClampNeg) (xs (i + 3).toNatClampNeg) (xs (i + 4).toNatClampNeg) ((((xs (i + 5).toNatClampNeg).toInt64) <<< ((32 : Int32).toInt64 &&& 63)) ||| (((xs (i + 6).toNatClampNeg).toInt64) &&& 4294967295)) (fun (r_7 : Int32) (u_8 : (Int32 × (Nat → Int32) × (Nat → Int32) × (Nat → Int32) × (Nat → Int32) × (Nat → Int64) × Int32 × (Nat → Int64))) => vp_in (i + 1) L ∧ vp_in (i + 2) L ∧ vp_in (i + 3) L ∧ vp_in (i + 4) L ∧ vp_in (i + 5) L ∧ vp_in (i + 6) L ∧ M_event_wp mth msc mec msrc mitm mknd mplc mclk msd (xs (i + 1).toNatClampNeg) (xs (i + 2).toNatClampNeg) (xs (i + 3).toNatClampNeg) (xs (i + 4).toNatClampNeg) ((((xs (i + 5).toNatClampNeg).toInt64) <<< ((32 : Int32).toInt64 &&& 63)) ||| (((xs (i + 6).toNatClampNeg).toInt64) &&& 4294967295)) (fun (r_15 : Int32) (u_16 : (Int32 × Int32 × (Nat → Int32) × (Nat → Int32) × (Nat → Int32) × (Nat → Int32) × (Nat → Int64) × Int32)) => M_thrown_wp u_16.1 (fun (r_17 : Int32) (u_18 : Unit) => ((r_17 = r_7 → ((¬ r_7 = 0 → Qn sc u_8.1 u_8.2.1 u_8.2.2.1 u_8.2.2.2.1 u_8.2.2.2.2.1 u_8.2.2.2.2.2.1 u_8.2.2.2.2.2.2.1 nf ns nc wt bd off row hw rl tm ord tc u_16.1 msc u_16.2.1 u_16.2.2.1 u_16.2.2.2.1 u_16.2.2.2.2.1 u_16.2.2.2.2.2.1 u_16.2.2.2.2.2.2.1 mnc mnf mns u_16.2.2.2.2.2.2.2 mrl mrow mw mb mway moff u_8.2.2.2.2.2.2.2) ∧ (r_7 = 0 → (((u_8.2.2.2.2.2.2.2 (0 : Int32).toNatClampNeg) = r_15.toInt64 → Qn sc u_8.1 u_8.2.1 u_8.2.2.1 u_8.2.2.2.1 u_8.2.2.2.2.1 u_8.2.2.2.2.2.1 u_8.2.2.2.2.2.2.1 nf ns nc wt bd off row hw rl tm ord tc u_16.1 msc u_16.2.1 u_16.2.2.1 u_16.2.2.2.1 u_16.2.2.2.2.1 u_16.2.2.2.2.2.1 u_16.2.2.2.2.2.2.1 mnc mnf mns u_16.2.2.2.2.2.2.2 mrl mrow mw mb mway moff u_8.2.2.2.2.2.2.2) ∧ (¬ (u_8.2.2.2.2.2.2.2 (0 : Int32).toNatClampNeg) = r_15.toInt64 → False))))) ∧ (¬ r_17 = r_7 → False)))))
set_option maxHeartbeats 4000000 in
set_option maxRecDepth 100000 in
theorem LC_1_ok {p : Program} {l : Launch} {e : Env} {s : State} {m : MethodId} {args : Array Value} {below : List Frame} {meth : Method} {c : Code} {Q : State → Prop} {D : va_G} {A : Nat → Prop} {ad am : Nat → Nat} {o b0 L ce sl : Nat} {xs : Nat → Int32} {cI cL cO : ClassId} {i : Int32} {Qn : Int32 → Int32 → (Nat → Int32) → (Nat → Int32) → (Nat → Int32) → (Nat → Int32) → (Nat → Int64) → Int32 → (Nat → Int32) → (Nat → Int32) → Int32 → (Nat → Nat → Int64) → (Nat → Nat → Int64) → (Nat → Int64) → (Nat → Int32) → (Nat → Nat → Int64) → Int32 → (Nat → Int64) → (Nat → Int32) → Int32 → Int32 → Int32 → Int32 → (Nat → Int32) → (Nat → Int32) → (Nat → Int32) → (Nat → Int32) → (Nat → Int64) → Int32 → (Nat → Int32) → (Nat → Int32) → Int32 → Int32 → (Nat → Int32) → (Nat → Int64) → (Nat → Int64) → (Nat → Int64) → (Nat → Int64) → (Nat → Int64) → Prop} {sc : Int32} {sd : Int32} {src : (Nat → Int32)} {itm : (Nat → Int32)} {knd : (Nat → Int32)} {plc : (Nat → Int32)} {clk : (Nat → Int64)} {ec : Int32} {nf : (Nat → Int32)} {ns : (Nat → Int32)} {nc : Int32} {wt : (Nat → Nat → Int64)} {bd : (Nat → Nat → Int64)} {off : (Nat → Int64)} {row : (Nat → Int32)} {hw : (Nat → Nat → Int64)} {rl : Int32} {tm : (Nat → Int64)} {ord : (Nat → Int32)} {tc : Int32} {mth : Int32} {msc : Int32} {mec : Int32} {msrc : (Nat → Int32)} {mitm : (Nat → Int32)} {mknd : (Nat → Int32)} {mplc : (Nat → Int32)} {mclk : (Nat → Int64)} {mnc : Int32} {mnf : (Nat → Int32)} {mns : (Nat → Int32)} {msd : Int32} {mrl : Int32} {mrow : (Nat → Int32)} {mw : (Nat → Int64)} {mb : (Nat → Int64)} {mway : (Nat → Int64)} {moff : (Nat → Int64)} {out : Nat → Int64} (hC : XC p s m args c D vwCl (tysX cI cL cO) A 8 code TBL RL) (htr : l.stackTraces = false) (hN : XN s) (hX : va_X b0 L xs s s.heap) (hbl : b0 < s.heap.size) (hbA : ¬ A b0) (hce : ce + 8 ≤ 601024) (hsl : sl + 48 ≤ 7293034) (hexit : ∀ (sc : Int32) (sd : Int32) (src : (Nat → Int32)) (itm : (Nat → Int32)) (knd : (Nat → Int32)) (plc : (Nat → Int32)) (clk : (Nat → Int64)) (ec : Int32) (nf : (Nat → Int32)) (ns : (Nat → Int32)) (nc : Int32) (wt : (Nat → Nat → Int64)) (bd : (Nat → Nat → Int64)) (off : (Nat → Int64)) (row : (Nat → Int32)) (hw : (Nat → Nat → Int64)) (rl : Int32) (tm : (Nat → Int64)) (ord : (Nat → Int32)) (tc : Int32) (mth : Int32) (msc : Int32) (mec : Int32) (msrc : (Nat → Int32)) (mitm : (Nat → Int32)) (mknd : (Nat → Int32)) (mplc : (Nat → Int32)) (mclk : (Nat → Int64)) (mnc : Int32) (mnf : (Nat → Int32)) (mns : (Nat → Int32)) (msd : Int32) (mrl : Int32) (mrow : (Nat → Int32)) (mw : (Nat → Int64)) (mb : (Nat → Int64)) (mway : (Nat → Int64)) (moff : (Nat → Int64)) (out : Nat → Int64), Qn sc sd src itm knd plc clk ec nf ns nc wt bd off row hw rl tm ord tc mth msc mec msrc mitm mknd mplc mclk mnc mnf mns msd mrl mrow mw mb mway moff out → XW p l e room_1 s m args below meth c D vwCl A 8 Q (ce + 8) (sl + 48) ((wM am cI cL cO mth msc mec msrc mitm mknd mplc mclk mnc mnf mns msd mrl mrow mw mb mway moff) ++ ((wX ad cI cL cO sc sd src itm knd plc clk ec nf ns nc wt bd off row hw rl tm ord tc) ++ [(o, .inl (cL, 1, .inr (.inl out)))])) 873 [(0, .ref b0), (1, .ref (ad 0)), (2, .ref (am 0)), (3, .ref o), (4, .int i)] []) (h : LC_1 L xs i Qn sc sd src itm knd plc clk ec nf ns nc wt bd off row hw rl tm ord tc mth msc mec msrc mitm mknd mplc mclk mnc mnf mns msd mrl mrow mw mb mway moff out) : XW p l e room_1 s m args below meth c D vwCl A 8 Q ce sl ((wM am cI cL cO mth msc mec msrc mitm mknd mplc mclk mnc mnf mns msd mrl mrow mw mb mway moff) ++ ((wX ad cI cL cO sc sd src itm knd plc clk ec nf ns nc wt bd off row hw rl tm ord tc) ++ [(o, .inl (cL, 1, .inr (.inl out)))])) 148 [(0, .ref b0), (1, .ref (ad 0)), (2, .ref (am 0)), (3, .ref o), (4, .int i)] [] := by
  have hce2 : ce + 8 ≤ room_1.cells := hce
  have hsl2 : sl + 48 ≤ room_1.slots := hsl
  unfold LC_1 at h
  refine x_aload_n hC dL_law_148 rfl 1 rfl ?_
  refine x_aload_n hC dL_law_149 rfl 0 rfl ?_
  refine x_iload hC dL_law_150 4 rfl ?_
  refine x_iconst (v := 1) hC dL_law_152 (by decide) ?_
  refine x_iadd hC dL_law_153 ?_
  obtain ⟨hb_1, h⟩ := h
  refine x_sld hC hX hbl hbA hb_1 dL_law_154 ?_
  refine x_aload_n hC dL_law_155 rfl 0 rfl ?_
  refine x_iload hC dL_law_156 4 rfl ?_
  refine x_iconst (v := 2) hC dL_law_158 (by decide) ?_
  refine x_iadd hC dL_law_159 ?_
  obtain ⟨hb_2, h⟩ := h
  refine x_sld hC hX hbl hbA hb_2 dL_law_160 ?_
  refine x_aload_n hC dL_law_161 rfl 0 rfl ?_
  refine x_iload hC dL_law_162 4 rfl ?_
  refine x_iconst (v := 3) hC dL_law_164 (by decide) ?_
  refine x_iadd hC dL_law_165 ?_
  obtain ⟨hb_3, h⟩ := h
  refine x_sld hC hX hbl hbA hb_3 dL_law_166 ?_
  refine x_aload_n hC dL_law_167 rfl 0 rfl ?_
  refine x_iload hC dL_law_168 4 rfl ?_
  refine x_iconst (v := 4) hC dL_law_170 (by decide) ?_
  refine x_iadd hC dL_law_171 ?_
  obtain ⟨hb_4, h⟩ := h
  refine x_sld hC hX hbl hbA hb_4 dL_law_172 ?_
  refine x_aload_n hC dL_law_173 rfl 0 rfl ?_
  refine x_iload hC dL_law_174 4 rfl ?_
  refine x_iconst (v := 5) hC dL_law_176 (by decide) ?_
  refine x_iadd hC dL_law_177 ?_
  obtain ⟨hb_5, h⟩ := h
  refine x_sld hC hX hbl hbA hb_5 dL_law_178 ?_
  refine x_i2l (v := (xs (i + 5).toNatClampNeg).toInt64) hC dL_law_179 rfl ?_
  refine x_bipush (v := 32) hC dL_law_180 (by decide) ?_
  refine x_lshl (v := ((xs (i + 5).toNatClampNeg).toInt64) <<< ((32 : Int32).toInt64 &&& 63)) hC dL_law_182 rfl ?_
  refine x_aload_n hC dL_law_183 rfl 0 rfl ?_
  refine x_iload hC dL_law_184 4 rfl ?_
  refine x_bipush (v := 6) hC dL_law_186 (by decide) ?_
  refine x_iadd hC dL_law_188 ?_
  obtain ⟨hb_6, h⟩ := h
  refine x_sld hC hX hbl hbA hb_6 dL_law_189 ?_
  refine x_i2l (v := (xs (i + 6).toNatClampNeg).toInt64) hC dL_law_190 rfl ?_
  refine x_ldc2 (v := 4294967295) hC k_l72 dL_law_191 ?_
  refine x_land hC dL_law_194 ?_
  refine x_lor hC dL_law_195 ?_
  refine x_aload_n hC dL_law_196 rfl 3 rfl ?_
  refine x_fSi (S := (Int32 × (Nat → Int32) × (Nat → Int32) × (Nat → Int32) × (Nat → Int32) × (Nat → Int64) × Int32 × (Nat → Int64))) (wl := (wM am cI cL cO mth msc mec msrc mitm mknd mplc mclk mnc mnf mns msd mrl mrow mw mb mway moff)) (w1 := (wX ad cI cL cO sc sd src itm knd plc clk ec nf ns nc wt bd off row hw rl tm ord tc ++ [(o, .inl (cL, 1, .inr (.inl out)))])) (wr := []) (wf := fun u => (wX ad cI cL cO sc u.1 u.2.1 u.2.2.1 u.2.2.2.1 u.2.2.2.2.1 u.2.2.2.2.2.1 u.2.2.2.2.2.2.1 nf ns nc wt bd off row hw rl tm ord tc) ++ [(o, .inl (cL, 1, .inr (.inl u.2.2.2.2.2.2.2)))]) (wf2 := fun u => (wM am cI cL cO mth msc mec msrc mitm mknd mplc mclk mnc mnf mns msd mrl mrow mw mb mway moff) ++ ((wX ad cI cL cO sc u.1 u.2.1 u.2.2.1 u.2.2.2.1 u.2.2.2.2.1 u.2.2.2.2.2.1 u.2.2.2.2.2.2.1 nf ns nc wt bd off row hw rl tm ord tc) ++ [(o, .inl (cL, 1, .inr (.inl u.2.2.2.2.2.2.2)))])) hC [.ref (ad 0), .int (xs (i + 1).toNatClampNeg), .int (xs (i + 2).toNatClampNeg), .int (xs (i + 3).toNatClampNeg), .int (xs (i + 4).toNatClampNeg), .long ((((xs (i + 5).toNatClampNeg).toInt64) <<< ((32 : Int32).toInt64 &&& 63)) ||| (((xs (i + 6).toNatClampNeg).toInt64) &&& 4294967295)), .ref o] (by rw [List.append_nil]) (fun u => by rw [List.append_nil]) (fun sz => c_L_event htr h sz) (by decide) (by decide) k_l73 k_l74 k_l75 (by decide) 7 rfl (by decide +kernel) ⟨Nat.le_trans (show ce + 5 ≤ ce + 8 by omega) hce2, Nat.le_trans (show sl + 30 ≤ sl + 48 by omega) hsl2⟩ (Nat.le_of_ble_eq_true rfl) k_l76 rfl dL_law_197 hN (fun _ h9 => h9) (fun r_7 u_8 h => ?_)
  refine x_istore (lv' := [(5, .int r_7), (0, .ref b0), (1, .ref (ad 0)), (2, .ref (am 0)), (3, .ref o), (4, .int i)]) hC dL_law_200 (by decide) rfl ?_
  refine x_aload_n hC dL_law_202 rfl 3 rfl ?_
  refine x_aload_n hC dL_law_203 rfl 1 rfl ?_
  refine x_iload hC dL_law_204 5 rfl ?_
  refine x_iconst (v := 1) hC dL_law_206 (by decide) ?_
  refine x_iadd hC dL_law_207 ?_
  obtain ⟨hb_9, h⟩ := h
  refine x_sld hC hX hbl hbA hb_9 dL_law_208 ?_
  refine x_aload_n hC dL_law_209 rfl 1 rfl ?_
  refine x_iload hC dL_law_210 5 rfl ?_
  refine x_iconst (v := 2) hC dL_law_212 (by decide) ?_
  refine x_iadd hC dL_law_213 ?_
  obtain ⟨hb_10, h⟩ := h
  refine x_sld hC hX hbl hbA hb_10 dL_law_214 ?_
  refine x_aload_n hC dL_law_215 rfl 1 rfl ?_
  refine x_iload hC dL_law_216 5 rfl ?_
  refine x_iconst (v := 3) hC dL_law_218 (by decide) ?_
  refine x_iadd hC dL_law_219 ?_
  obtain ⟨hb_11, h⟩ := h
  refine x_sld hC hX hbl hbA hb_11 dL_law_220 ?_
  refine x_aload_n hC dL_law_221 rfl 1 rfl ?_
  refine x_iload hC dL_law_222 5 rfl ?_
  refine x_iconst (v := 4) hC dL_law_224 (by decide) ?_
  refine x_iadd hC dL_law_225 ?_
  obtain ⟨hb_12, h⟩ := h
  refine x_sld hC hX hbl hbA hb_12 dL_law_226 ?_
  refine x_aload_n hC dL_law_227 rfl 1 rfl ?_
  refine x_iload hC dL_law_228 5 rfl ?_
  refine x_iconst (v := 5) hC dL_law_230 (by decide) ?_
  refine x_iadd hC dL_law_231 ?_
  obtain ⟨hb_13, h⟩ := h
  refine x_sld hC hX hbl hbA hb_13 dL_law_232 ?_
  refine x_i2l (v := (xs (i + 5).toNatClampNeg).toInt64) hC dL_law_233 rfl ?_
  refine x_bipush (v := 32) hC dL_law_234 (by decide) ?_
  refine x_lshl (v := ((xs (i + 5).toNatClampNeg).toInt64) <<< ((32 : Int32).toInt64 &&& 63)) hC dL_law_236 rfl ?_
  refine x_aload_n hC dL_law_237 rfl 1 rfl ?_
  refine x_iload hC dL_law_238 5 rfl ?_
  refine x_bipush (v := 6) hC dL_law_240 (by decide) ?_
  refine x_iadd hC dL_law_242 ?_
  obtain ⟨hb_14, h⟩ := h
  refine x_sld hC hX hbl hbA hb_14 dL_law_243 ?_
  refine x_i2l (v := (xs (i + 6).toNatClampNeg).toInt64) hC dL_law_244 rfl ?_
  refine x_ldc2 (v := 4294967295) hC k_l72 dL_law_245 ?_
  refine x_land hC dL_law_248 ?_
  refine x_lor hC dL_law_249 ?_
  refine x_fVi (S := (Int32 × Int32 × (Nat → Int32) × (Nat → Int32) × (Nat → Int32) × (Nat → Int32) × (Nat → Int64) × Int32)) (wl := []) (w1 := (wM am cI cL cO mth msc mec msrc mitm mknd mplc mclk mnc mnf mns msd mrl mrow mw mb mway moff)) (wr := (wX ad cI cL cO sc u_8.1 u_8.2.1 u_8.2.2.1 u_8.2.2.2.1 u_8.2.2.2.2.1 u_8.2.2.2.2.2.1 u_8.2.2.2.2.2.2.1 nf ns nc wt bd off row hw rl tm ord tc ++ [(o, .inl (cL, 1, .inr (.inl u_8.2.2.2.2.2.2.2)))])) (wf := fun u => (wM am cI cL cO u.1 msc u.2.1 u.2.2.1 u.2.2.2.1 u.2.2.2.2.1 u.2.2.2.2.2.1 u.2.2.2.2.2.2.1 mnc mnf mns u.2.2.2.2.2.2.2 mrl mrow mw mb mway moff)) (wf2 := fun u => (wM am cI cL cO u.1 msc u.2.1 u.2.2.1 u.2.2.2.1 u.2.2.2.2.1 u.2.2.2.2.2.1 u.2.2.2.2.2.2.1 mnc mnf mns u.2.2.2.2.2.2.2 mrl mrow mw mb mway moff) ++ ((wX ad cI cL cO sc u_8.1 u_8.2.1 u_8.2.2.1 u_8.2.2.2.1 u_8.2.2.2.2.1 u_8.2.2.2.2.2.1 u_8.2.2.2.2.2.2.1 nf ns nc wt bd off row hw rl tm ord tc) ++ [(o, .inl (cL, 1, .inr (.inl u_8.2.2.2.2.2.2.2)))])) hC [.int (xs (i + 1).toNatClampNeg), .int (xs (i + 2).toNatClampNeg), .int (xs (i + 3).toNatClampNeg), .int (xs (i + 4).toNatClampNeg), .long ((((xs (i + 5).toNatClampNeg).toInt64) <<< ((32 : Int32).toInt64 &&& 63)) ||| (((xs (i + 6).toNatClampNeg).toInt64) &&& 4294967295))] (by rfl) (fun u => rfl) (fun sz => c_M_event h sz) (by decide) (by decide) k_l77 k_l78 k_l79 (by decide) 5 rfl (by decide +kernel) ⟨Nat.le_trans (show ce + 5 ≤ ce + 8 by omega) hce2, Nat.le_trans (show sl + 30 ≤ sl + 48 by omega) hsl2⟩ (Nat.le_of_ble_eq_true rfl) k_l80 k_l81 wM_0 rfl rfl dL_law_250 (fun _ h9 => h9) (fun r_15 u_16 h => ?_)
  refine x_istore (lv' := [(6, .int r_15), (5, .int r_7), (0, .ref b0), (1, .ref (ad 0)), (2, .ref (am 0)), (3, .ref o), (4, .int i)]) hC dL_law_253 (by decide) rfl ?_
  refine x_aload_n hC dL_law_255 rfl 4 rfl ?_
  refine x_fVi (S := Unit) (wl := []) (w1 := (wM am cI cL cO u_16.1 msc u_16.2.1 u_16.2.2.1 u_16.2.2.2.1 u_16.2.2.2.2.1 u_16.2.2.2.2.2.1 u_16.2.2.2.2.2.2.1 mnc mnf mns u_16.2.2.2.2.2.2.2 mrl mrow mw mb mway moff)) (wr := (wX ad cI cL cO sc u_8.1 u_8.2.1 u_8.2.2.1 u_8.2.2.2.1 u_8.2.2.2.2.1 u_8.2.2.2.2.2.1 u_8.2.2.2.2.2.2.1 nf ns nc wt bd off row hw rl tm ord tc ++ [(o, .inl (cL, 1, .inr (.inl u_8.2.2.2.2.2.2.2)))])) (wf := fun u => (wM am cI cL cO u_16.1 msc u_16.2.1 u_16.2.2.1 u_16.2.2.2.1 u_16.2.2.2.2.1 u_16.2.2.2.2.2.1 u_16.2.2.2.2.2.2.1 mnc mnf mns u_16.2.2.2.2.2.2.2 mrl mrow mw mb mway moff)) (wf2 := fun u => (wM am cI cL cO u_16.1 msc u_16.2.1 u_16.2.2.1 u_16.2.2.2.1 u_16.2.2.2.2.1 u_16.2.2.2.2.2.1 u_16.2.2.2.2.2.2.1 mnc mnf mns u_16.2.2.2.2.2.2.2 mrl mrow mw mb mway moff) ++ ((wX ad cI cL cO sc u_8.1 u_8.2.1 u_8.2.2.1 u_8.2.2.2.1 u_8.2.2.2.2.1 u_8.2.2.2.2.2.1 u_8.2.2.2.2.2.2.1 nf ns nc wt bd off row hw rl tm ord tc) ++ [(o, .inl (cL, 1, .inr (.inl u_8.2.2.2.2.2.2.2)))])) hC [] (by rfl) (fun u => rfl) (fun sz => c_M_thrown h sz) (by decide) (by decide) k_l67 k_l68 k_l69 (by decide) 0 rfl (by decide +kernel) ⟨Nat.le_trans (show ce + 5 ≤ ce + 8 by omega) hce2, Nat.le_trans (show sl + 30 ≤ sl + 48 by omega) hsl2⟩ (Nat.le_of_ble_eq_true rfl) k_l70 k_l71 wM_0 rfl rfl dL_law_256 (fun _ h9 => h9) (fun r_17 u_18 h => ?_)
  refine x_iload hC dL_law_259 1 rfl ?_
  refine x_icmp_eq (tgt := 266) hC dL_law_261 (by decide) (fun c_19 => ?_) (fun c_19 => ?_)
  · have h := h.1 c_19
    refine x_iload hC dL_law_266 1 rfl ?_
    refine x_if_ne (tgt := 283) hC dL_law_268 (by decide) (fun c_20 => ?_) (fun c_20 => ?_)
    · have h := h.1 c_20
      refine x_goto (tgt := 873) hC dL_law_283 (by decide) ?_
      refine x_lv (lv' := [(0, .ref b0), (1, .ref (ad 0)), (2, .ref (am 0)), (3, .ref o), (4, .int i)]) [2, 3, 4, 5, 6] rfl ?_
      refine x_widen (k := ce + 8) (n := sl + 48) (by show ce + 5 ≤ ce + 8; omega) (by show sl + 30 ≤ sl + 48; omega) ?_
      exact hexit sc u_8.1 u_8.2.1 u_8.2.2.1 u_8.2.2.2.1 u_8.2.2.2.2.1 u_8.2.2.2.2.2.1 u_8.2.2.2.2.2.2.1 nf ns nc wt bd off row hw rl tm ord tc u_16.1 msc u_16.2.1 u_16.2.2.1 u_16.2.2.2.1 u_16.2.2.2.2.1 u_16.2.2.2.2.2.1 u_16.2.2.2.2.2.2.1 mnc mnf mns u_16.2.2.2.2.2.2.2 mrl mrow mw mb mway moff u_8.2.2.2.2.2.2.2 h
    · have h := h.2 c_20
      refine x_aload_n hC dL_law_271 rfl 5 rfl ?_
      refine x_iconst (v := 0) hC dL_law_272 (by decide) ?_
      refine x_lald hC (13 + (69 + 0)) 1 (x_app_get wM_len (x_app_get wX_len rfl)) rfl x_in01 dL_law_273 ?_
      refine x_iload hC dL_law_274 0 rfl ?_
      refine x_i2l (v := r_15.toInt64) hC dL_law_276 rfl ?_
      refine x_lcmp_eq (tgt := 283) hC dL_law_277 dL_law_278 (by decide) (fun c_21 => ?_) (fun c_21 => ?_)
      · have h := h.1 c_21
        refine x_goto (tgt := 873) hC dL_law_283 (by decide) ?_
        refine x_lv (lv' := [(0, .ref b0), (1, .ref (ad 0)), (2, .ref (am 0)), (3, .ref o), (4, .int i)]) [2, 3, 4, 5, 6] rfl ?_
        refine x_widen (k := ce + 8) (n := sl + 48) (by show ce + 5 ≤ ce + 8; omega) (by show sl + 30 ≤ sl + 48; omega) ?_
        exact hexit sc u_8.1 u_8.2.1 u_8.2.2.1 u_8.2.2.2.1 u_8.2.2.2.2.1 u_8.2.2.2.2.2.1 u_8.2.2.2.2.2.2.1 nf ns nc wt bd off row hw rl tm ord tc u_16.1 msc u_16.2.1 u_16.2.2.1 u_16.2.2.2.1 u_16.2.2.2.2.1 u_16.2.2.2.2.2.1 u_16.2.2.2.2.2.2.1 mnc mnf mns u_16.2.2.2.2.2.2.2 mrl mrow mw mb mway moff u_8.2.2.2.2.2.2.2 h
      · have h := h.2 c_21
        refine x_iconst (v := 0) hC dL_law_281 (by decide) ?_
        exact h.elim
  · have h := h.2 c_19
    refine x_iconst (v := 0) hC dL_law_264 (by decide) ?_
    exact h.elim
def LC_2 (L : Nat) (xs : Nat → Int32) (i : Int32) (Qn : Int32 → Int32 → (Nat → Int32) → (Nat → Int32) → (Nat → Int32) → (Nat → Int32) → (Nat → Int64) → Int32 → (Nat → Int32) → (Nat → Int32) → Int32 → (Nat → Nat → Int64) → (Nat → Nat → Int64) → (Nat → Int64) → (Nat → Int32) → (Nat → Nat → Int64) → Int32 → (Nat → Int64) → (Nat → Int32) → Int32 → Int32 → Int32 → Int32 → (Nat → Int32) → (Nat → Int32) → (Nat → Int32) → (Nat → Int32) → (Nat → Int64) → Int32 → (Nat → Int32) → (Nat → Int32) → Int32 → Int32 → (Nat → Int32) → (Nat → Int64) → (Nat → Int64) → (Nat → Int64) → (Nat → Int64) → (Nat → Int64) → Prop) (sc : Int32) (sd : Int32) (src : (Nat → Int32)) (itm : (Nat → Int32)) (knd : (Nat → Int32)) (plc : (Nat → Int32)) (clk : (Nat → Int64)) (ec : Int32) (nf : (Nat → Int32)) (ns : (Nat → Int32)) (nc : Int32) (wt : (Nat → Nat → Int64)) (bd : (Nat → Nat → Int64)) (off : (Nat → Int64)) (row : (Nat → Int32)) (hw : (Nat → Nat → Int64)) (rl : Int32) (tm : (Nat → Int64)) (ord : (Nat → Int32)) (tc : Int32) (mth : Int32) (msc : Int32) (mec : Int32) (msrc : (Nat → Int32)) (mitm : (Nat → Int32)) (mknd : (Nat → Int32)) (mplc : (Nat → Int32)) (mclk : (Nat → Int64)) (mnc : Int32) (mnf : (Nat → Int32)) (mns : (Nat → Int32)) (msd : Int32) (mrl : Int32) (mrow : (Nat → Int32)) (mw : (Nat → Int64)) (mb : (Nat → Int64)) (mway : (Nat → Int64)) (moff : (Nat → Int64)) (out : Nat → Int64) : Prop := vp_in (i + 1) L ∧ vp_in (i + 2) L ∧ L_need_wp sd ec nf ns nc out (xs (i + 1).toNatClampNeg) (xs (i + 2).toNatClampNeg) (fun (r_3 : Int32) (u_4 : (Int32 × (Nat → Int32) × (Nat → Int32) × Int32 × (Nat → Int64))) => vp_in (i + 1) L ∧ vp_in (i + 2) L ∧ M_need_wp mth mec mnc mnf mns msd (xs (i + 1).toNatClampNeg) (xs (i + 2).toNatClampNeg) (fun (r_7 : Int32) (u_8 : (Int32 × Int32 × (Nat → Int32) × (Nat → Int32) × Int32)) => M_thrown_wp u_8.1 (fun (r_9 : Int32) (u_10 : Unit) => ((r_9 = r_3 → ((¬ r_3 = 0 → Qn sc u_4.1 src itm knd plc clk ec u_4.2.1 u_4.2.2.1 u_4.2.2.2.1 wt bd off row hw rl tm ord tc u_8.1 msc mec msrc mitm mknd mplc mclk u_8.2.1 u_8.2.2.1 u_8.2.2.2.1 u_8.2.2.2.2 mrl mrow mw mb mway moff u_4.2.2.2.2) ∧ (r_3 = 0 → (((u_4.2.2.2.2 (0 : Int32).toNatClampNeg) = r_7.toInt64 → Qn sc u_4.1 src itm knd plc clk ec u_4.2.1 u_4.2.2.1 u_4.2.2.2.1 wt bd off row hw rl tm ord tc u_8.1 msc mec msrc mitm mknd mplc mclk u_8.2.1 u_8.2.2.1 u_8.2.2.2.1 u_8.2.2.2.2 mrl mrow mw mb mway moff u_4.2.2.2.2) ∧ (¬ (u_4.2.2.2.2 (0 : Int32).toNatClampNeg) = r_7.toInt64 → False))))) ∧ (¬ r_9 = r_3 → False)))))
set_option maxHeartbeats 4000000 in
set_option maxRecDepth 100000 in
theorem LC_2_ok {p : Program} {l : Launch} {e : Env} {s : State} {m : MethodId} {args : Array Value} {below : List Frame} {meth : Method} {c : Code} {Q : State → Prop} {D : va_G} {A : Nat → Prop} {ad am : Nat → Nat} {o b0 L ce sl : Nat} {xs : Nat → Int32} {cI cL cO : ClassId} {i : Int32} {Qn : Int32 → Int32 → (Nat → Int32) → (Nat → Int32) → (Nat → Int32) → (Nat → Int32) → (Nat → Int64) → Int32 → (Nat → Int32) → (Nat → Int32) → Int32 → (Nat → Nat → Int64) → (Nat → Nat → Int64) → (Nat → Int64) → (Nat → Int32) → (Nat → Nat → Int64) → Int32 → (Nat → Int64) → (Nat → Int32) → Int32 → Int32 → Int32 → Int32 → (Nat → Int32) → (Nat → Int32) → (Nat → Int32) → (Nat → Int32) → (Nat → Int64) → Int32 → (Nat → Int32) → (Nat → Int32) → Int32 → Int32 → (Nat → Int32) → (Nat → Int64) → (Nat → Int64) → (Nat → Int64) → (Nat → Int64) → (Nat → Int64) → Prop} {sc : Int32} {sd : Int32} {src : (Nat → Int32)} {itm : (Nat → Int32)} {knd : (Nat → Int32)} {plc : (Nat → Int32)} {clk : (Nat → Int64)} {ec : Int32} {nf : (Nat → Int32)} {ns : (Nat → Int32)} {nc : Int32} {wt : (Nat → Nat → Int64)} {bd : (Nat → Nat → Int64)} {off : (Nat → Int64)} {row : (Nat → Int32)} {hw : (Nat → Nat → Int64)} {rl : Int32} {tm : (Nat → Int64)} {ord : (Nat → Int32)} {tc : Int32} {mth : Int32} {msc : Int32} {mec : Int32} {msrc : (Nat → Int32)} {mitm : (Nat → Int32)} {mknd : (Nat → Int32)} {mplc : (Nat → Int32)} {mclk : (Nat → Int64)} {mnc : Int32} {mnf : (Nat → Int32)} {mns : (Nat → Int32)} {msd : Int32} {mrl : Int32} {mrow : (Nat → Int32)} {mw : (Nat → Int64)} {mb : (Nat → Int64)} {mway : (Nat → Int64)} {moff : (Nat → Int64)} {out : Nat → Int64} (hC : XC p s m args c D vwCl (tysX cI cL cO) A 8 code TBL RL) (htr : l.stackTraces = false) (hN : XN s) (hX : va_X b0 L xs s s.heap) (hbl : b0 < s.heap.size) (hbA : ¬ A b0) (hce : ce + 8 ≤ 601024) (hsl : sl + 48 ≤ 7293034) (hexit : ∀ (sc : Int32) (sd : Int32) (src : (Nat → Int32)) (itm : (Nat → Int32)) (knd : (Nat → Int32)) (plc : (Nat → Int32)) (clk : (Nat → Int64)) (ec : Int32) (nf : (Nat → Int32)) (ns : (Nat → Int32)) (nc : Int32) (wt : (Nat → Nat → Int64)) (bd : (Nat → Nat → Int64)) (off : (Nat → Int64)) (row : (Nat → Int32)) (hw : (Nat → Nat → Int64)) (rl : Int32) (tm : (Nat → Int64)) (ord : (Nat → Int32)) (tc : Int32) (mth : Int32) (msc : Int32) (mec : Int32) (msrc : (Nat → Int32)) (mitm : (Nat → Int32)) (mknd : (Nat → Int32)) (mplc : (Nat → Int32)) (mclk : (Nat → Int64)) (mnc : Int32) (mnf : (Nat → Int32)) (mns : (Nat → Int32)) (msd : Int32) (mrl : Int32) (mrow : (Nat → Int32)) (mw : (Nat → Int64)) (mb : (Nat → Int64)) (mway : (Nat → Int64)) (moff : (Nat → Int64)) (out : Nat → Int64), Qn sc sd src itm knd plc clk ec nf ns nc wt bd off row hw rl tm ord tc mth msc mec msrc mitm mknd mplc mclk mnc mnf mns msd mrl mrow mw mb mway moff out → XW p l e room_1 s m args below meth c D vwCl A 8 Q (ce + 8) (sl + 48) ((wM am cI cL cO mth msc mec msrc mitm mknd mplc mclk mnc mnf mns msd mrl mrow mw mb mway moff) ++ ((wX ad cI cL cO sc sd src itm knd plc clk ec nf ns nc wt bd off row hw rl tm ord tc) ++ [(o, .inl (cL, 1, .inr (.inl out)))])) 873 [(0, .ref b0), (1, .ref (ad 0)), (2, .ref (am 0)), (3, .ref o), (4, .int i)] []) (h : LC_2 L xs i Qn sc sd src itm knd plc clk ec nf ns nc wt bd off row hw rl tm ord tc mth msc mec msrc mitm mknd mplc mclk mnc mnf mns msd mrl mrow mw mb mway moff out) : XW p l e room_1 s m args below meth c D vwCl A 8 Q ce sl ((wM am cI cL cO mth msc mec msrc mitm mknd mplc mclk mnc mnf mns msd mrl mrow mw mb mway moff) ++ ((wX ad cI cL cO sc sd src itm knd plc clk ec nf ns nc wt bd off row hw rl tm ord tc) ++ [(o, .inl (cL, 1, .inr (.inl out)))])) 286 [(0, .ref b0), (1, .ref (ad 0)), (2, .ref (am 0)), (3, .ref o), (4, .int i)] [] := by
  have hce2 : ce + 8 ≤ room_1.cells := hce
  have hsl2 : sl + 48 ≤ room_1.slots := hsl
  unfold LC_2 at h
  refine x_aload_n hC dL_law_286 rfl 1 rfl ?_
  refine x_aload_n hC dL_law_287 rfl 0 rfl ?_
  refine x_iload hC dL_law_288 4 rfl ?_
  refine x_iconst (v := 1) hC dL_law_290 (by decide) ?_
  refine x_iadd hC dL_law_291 ?_
  obtain ⟨hb_1, h⟩ := h
  refine x_sld hC hX hbl hbA hb_1 dL_law_292 ?_
  refine x_aload_n hC dL_law_293 rfl 0 rfl ?_
  refine x_iload hC dL_law_294 4 rfl ?_
  refine x_iconst (v := 2) hC dL_law_296 (by decide) ?_
  refine x_iadd hC dL_law_297 ?_
  obtain ⟨hb_2, h⟩ := h
  refine x_sld hC hX hbl hbA hb_2 dL_law_298 ?_
  refine x_aload_n hC dL_law_299 rfl 3 rfl ?_
  refine x_fSi (S := (Int32 × (Nat → Int32) × (Nat → Int32) × Int32 × (Nat → Int64))) (wl := (wM am cI cL cO mth msc mec msrc mitm mknd mplc mclk mnc mnf mns msd mrl mrow mw mb mway moff)) (w1 := (wX ad cI cL cO sc sd src itm knd plc clk ec nf ns nc wt bd off row hw rl tm ord tc ++ [(o, .inl (cL, 1, .inr (.inl out)))])) (wr := []) (wf := fun u => (wX ad cI cL cO sc u.1 src itm knd plc clk ec u.2.1 u.2.2.1 u.2.2.2.1 wt bd off row hw rl tm ord tc) ++ [(o, .inl (cL, 1, .inr (.inl u.2.2.2.2)))]) (wf2 := fun u => (wM am cI cL cO mth msc mec msrc mitm mknd mplc mclk mnc mnf mns msd mrl mrow mw mb mway moff) ++ ((wX ad cI cL cO sc u.1 src itm knd plc clk ec u.2.1 u.2.2.1 u.2.2.2.1 wt bd off row hw rl tm ord tc) ++ [(o, .inl (cL, 1, .inr (.inl u.2.2.2.2)))])) hC [.ref (ad 0), .int (xs (i + 1).toNatClampNeg), .int (xs (i + 2).toNatClampNeg), .ref o] (by rw [List.append_nil]) (fun u => by rw [List.append_nil]) (fun sz => c_L_need htr h sz) (by decide) (by decide) k_l82 k_l83 k_l84 (by decide) 4 rfl (by decide +kernel) ⟨Nat.le_trans (show ce + 3 ≤ ce + 8 by omega) hce2, Nat.le_trans (show sl + 18 ≤ sl + 48 by omega) hsl2⟩ (Nat.le_of_ble_eq_true rfl) k_l85 rfl dL_law_300 hN (fun _ h9 => h9) (fun r_3 u_4 h => ?_)
  refine x_istore (lv' := [(5, .int r_3), (0, .ref b0), (1, .ref (ad 0)), (2, .ref (am 0)), (3, .ref o), (4, .int i)]) hC dL_law_303 (by decide) rfl ?_
  refine x_aload_n hC dL_law_305 rfl 3 rfl ?_
  refine x_aload_n hC dL_law_306 rfl 1 rfl ?_
  refine x_iload hC dL_law_307 5 rfl ?_
  refine x_iconst (v := 1) hC dL_law_309 (by decide) ?_
  refine x_iadd hC dL_law_310 ?_
  obtain ⟨hb_5, h⟩ := h
  refine x_sld hC hX hbl hbA hb_5 dL_law_311 ?_
  refine x_aload_n hC dL_law_312 rfl 1 rfl ?_
  refine x_iload hC dL_law_313 5 rfl ?_
  refine x_iconst (v := 2) hC dL_law_315 (by decide) ?_
  refine x_iadd hC dL_law_316 ?_
  obtain ⟨hb_6, h⟩ := h
  refine x_sld hC hX hbl hbA hb_6 dL_law_317 ?_
  refine x_fVi (S := (Int32 × Int32 × (Nat → Int32) × (Nat → Int32) × Int32)) (wl := []) (w1 := (wM am cI cL cO mth msc mec msrc mitm mknd mplc mclk mnc mnf mns msd mrl mrow mw mb mway moff)) (wr := (wX ad cI cL cO sc u_4.1 src itm knd plc clk ec u_4.2.1 u_4.2.2.1 u_4.2.2.2.1 wt bd off row hw rl tm ord tc ++ [(o, .inl (cL, 1, .inr (.inl u_4.2.2.2.2)))])) (wf := fun u => (wM am cI cL cO u.1 msc mec msrc mitm mknd mplc mclk u.2.1 u.2.2.1 u.2.2.2.1 u.2.2.2.2 mrl mrow mw mb mway moff)) (wf2 := fun u => (wM am cI cL cO u.1 msc mec msrc mitm mknd mplc mclk u.2.1 u.2.2.1 u.2.2.2.1 u.2.2.2.2 mrl mrow mw mb mway moff) ++ ((wX ad cI cL cO sc u_4.1 src itm knd plc clk ec u_4.2.1 u_4.2.2.1 u_4.2.2.2.1 wt bd off row hw rl tm ord tc) ++ [(o, .inl (cL, 1, .inr (.inl u_4.2.2.2.2)))])) hC [.int (xs (i + 1).toNatClampNeg), .int (xs (i + 2).toNatClampNeg)] (by rfl) (fun u => rfl) (fun sz => c_M_need h sz) (by decide) (by decide) k_l86 k_l87 k_l88 (by decide) 2 rfl (by decide +kernel) ⟨Nat.le_trans (show ce + 3 ≤ ce + 8 by omega) hce2, Nat.le_trans (show sl + 18 ≤ sl + 48 by omega) hsl2⟩ (Nat.le_of_ble_eq_true rfl) k_l89 k_l90 wM_0 rfl rfl dL_law_318 (fun _ h9 => h9) (fun r_7 u_8 h => ?_)
  refine x_istore (lv' := [(6, .int r_7), (5, .int r_3), (0, .ref b0), (1, .ref (ad 0)), (2, .ref (am 0)), (3, .ref o), (4, .int i)]) hC dL_law_321 (by decide) rfl ?_
  refine x_aload_n hC dL_law_323 rfl 4 rfl ?_
  refine x_fVi (S := Unit) (wl := []) (w1 := (wM am cI cL cO u_8.1 msc mec msrc mitm mknd mplc mclk u_8.2.1 u_8.2.2.1 u_8.2.2.2.1 u_8.2.2.2.2 mrl mrow mw mb mway moff)) (wr := (wX ad cI cL cO sc u_4.1 src itm knd plc clk ec u_4.2.1 u_4.2.2.1 u_4.2.2.2.1 wt bd off row hw rl tm ord tc ++ [(o, .inl (cL, 1, .inr (.inl u_4.2.2.2.2)))])) (wf := fun u => (wM am cI cL cO u_8.1 msc mec msrc mitm mknd mplc mclk u_8.2.1 u_8.2.2.1 u_8.2.2.2.1 u_8.2.2.2.2 mrl mrow mw mb mway moff)) (wf2 := fun u => (wM am cI cL cO u_8.1 msc mec msrc mitm mknd mplc mclk u_8.2.1 u_8.2.2.1 u_8.2.2.2.1 u_8.2.2.2.2 mrl mrow mw mb mway moff) ++ ((wX ad cI cL cO sc u_4.1 src itm knd plc clk ec u_4.2.1 u_4.2.2.1 u_4.2.2.2.1 wt bd off row hw rl tm ord tc) ++ [(o, .inl (cL, 1, .inr (.inl u_4.2.2.2.2)))])) hC [] (by rfl) (fun u => rfl) (fun sz => c_M_thrown h sz) (by decide) (by decide) k_l67 k_l68 k_l69 (by decide) 0 rfl (by decide +kernel) ⟨Nat.le_trans (show ce + 3 ≤ ce + 8 by omega) hce2, Nat.le_trans (show sl + 18 ≤ sl + 48 by omega) hsl2⟩ (Nat.le_of_ble_eq_true rfl) k_l70 k_l71 wM_0 rfl rfl dL_law_324 (fun _ h9 => h9) (fun r_9 u_10 h => ?_)
  refine x_iload hC dL_law_327 1 rfl ?_
  refine x_icmp_eq (tgt := 334) hC dL_law_329 (by decide) (fun c_11 => ?_) (fun c_11 => ?_)
  · have h := h.1 c_11
    refine x_iload hC dL_law_334 1 rfl ?_
    refine x_if_ne (tgt := 351) hC dL_law_336 (by decide) (fun c_12 => ?_) (fun c_12 => ?_)
    · have h := h.1 c_12
      refine x_goto (tgt := 873) hC dL_law_351 (by decide) ?_
      refine x_lv (lv' := [(0, .ref b0), (1, .ref (ad 0)), (2, .ref (am 0)), (3, .ref o), (4, .int i)]) [2, 3, 4, 5, 6] rfl ?_
      refine x_widen (k := ce + 8) (n := sl + 48) (by show ce + 3 ≤ ce + 8; omega) (by show sl + 18 ≤ sl + 48; omega) ?_
      exact hexit sc u_4.1 src itm knd plc clk ec u_4.2.1 u_4.2.2.1 u_4.2.2.2.1 wt bd off row hw rl tm ord tc u_8.1 msc mec msrc mitm mknd mplc mclk u_8.2.1 u_8.2.2.1 u_8.2.2.2.1 u_8.2.2.2.2 mrl mrow mw mb mway moff u_4.2.2.2.2 h
    · have h := h.2 c_12
      refine x_aload_n hC dL_law_339 rfl 5 rfl ?_
      refine x_iconst (v := 0) hC dL_law_340 (by decide) ?_
      refine x_lald hC (13 + (69 + 0)) 1 (x_app_get wM_len (x_app_get wX_len rfl)) rfl x_in01 dL_law_341 ?_
      refine x_iload hC dL_law_342 0 rfl ?_
      refine x_i2l (v := r_7.toInt64) hC dL_law_344 rfl ?_
      refine x_lcmp_eq (tgt := 351) hC dL_law_345 dL_law_346 (by decide) (fun c_13 => ?_) (fun c_13 => ?_)
      · have h := h.1 c_13
        refine x_goto (tgt := 873) hC dL_law_351 (by decide) ?_
        refine x_lv (lv' := [(0, .ref b0), (1, .ref (ad 0)), (2, .ref (am 0)), (3, .ref o), (4, .int i)]) [2, 3, 4, 5, 6] rfl ?_
        refine x_widen (k := ce + 8) (n := sl + 48) (by show ce + 3 ≤ ce + 8; omega) (by show sl + 18 ≤ sl + 48; omega) ?_
        exact hexit sc u_4.1 src itm knd plc clk ec u_4.2.1 u_4.2.2.1 u_4.2.2.2.1 wt bd off row hw rl tm ord tc u_8.1 msc mec msrc mitm mknd mplc mclk u_8.2.1 u_8.2.2.1 u_8.2.2.2.1 u_8.2.2.2.2 mrl mrow mw mb mway moff u_4.2.2.2.2 h
      · have h := h.2 c_13
        refine x_iconst (v := 0) hC dL_law_349 (by decide) ?_
        exact h.elim
  · have h := h.2 c_11
    refine x_iconst (v := 0) hC dL_law_332 (by decide) ?_
    exact h.elim
def LC_3 (L : Nat) (xs : Nat → Int32) (i : Int32) (Qn : Int32 → Int32 → (Nat → Int32) → (Nat → Int32) → (Nat → Int32) → (Nat → Int32) → (Nat → Int64) → Int32 → (Nat → Int32) → (Nat → Int32) → Int32 → (Nat → Nat → Int64) → (Nat → Nat → Int64) → (Nat → Int64) → (Nat → Int32) → (Nat → Nat → Int64) → Int32 → (Nat → Int64) → (Nat → Int32) → Int32 → Int32 → Int32 → Int32 → (Nat → Int32) → (Nat → Int32) → (Nat → Int32) → (Nat → Int32) → (Nat → Int64) → Int32 → (Nat → Int32) → (Nat → Int32) → Int32 → Int32 → (Nat → Int32) → (Nat → Int64) → (Nat → Int64) → (Nat → Int64) → (Nat → Int64) → (Nat → Int64) → Prop) (sc : Int32) (sd : Int32) (src : (Nat → Int32)) (itm : (Nat → Int32)) (knd : (Nat → Int32)) (plc : (Nat → Int32)) (clk : (Nat → Int64)) (ec : Int32) (nf : (Nat → Int32)) (ns : (Nat → Int32)) (nc : Int32) (wt : (Nat → Nat → Int64)) (bd : (Nat → Nat → Int64)) (off : (Nat → Int64)) (row : (Nat → Int32)) (hw : (Nat → Nat → Int64)) (rl : Int32) (tm : (Nat → Int64)) (ord : (Nat → Int32)) (tc : Int32) (mth : Int32) (msc : Int32) (mec : Int32) (msrc : (Nat → Int32)) (mitm : (Nat → Int32)) (mknd : (Nat → Int32)) (mplc : (Nat → Int32)) (mclk : (Nat → Int64)) (mnc : Int32) (mnf : (Nat → Int32)) (mns : (Nat → Int32)) (msd : Int32) (mrl : Int32) (mrow : (Nat → Int32)) (mw : (Nat → Int64)) (mb : (Nat → Int64)) (mway : (Nat → Int64)) (moff : (Nat → Int64)) (out : Nat → Int64) : Prop := X_settle_wp sc sd src plc clk ec nf ns nc wt bd off row hw rl tm ord tc (fun (r_1 : Int32) (u_2 : (Int32 × (Nat → Nat → Int64) × (Nat → Nat → Int64) × (Nat → Int64) × (Nat → Int32) × (Nat → Nat → Int64) × Int32 × (Nat → Int64) × (Nat → Int32) × Int32)) => M_settle_wp mth msrc mclk mnc mnf mns msd mrl mrow mw mb mway moff (fun (r_3 : Int32) (u_4 : (Int32 × Int32 × Int32 × (Nat → Int32) × (Nat → Int64) × (Nat → Int64) × (Nat → Int64) × (Nat → Int64))) => ((r_1 = r_3 → Qn sc u_2.1 src itm knd plc clk ec nf ns nc u_2.2.1 u_2.2.2.1 u_2.2.2.2.1 u_2.2.2.2.2.1 u_2.2.2.2.2.2.1 u_2.2.2.2.2.2.2.1 u_2.2.2.2.2.2.2.2.1 u_2.2.2.2.2.2.2.2.2.1 u_2.2.2.2.2.2.2.2.2.2 u_4.1 msc mec msrc mitm mknd mplc mclk mnc mnf mns u_4.2.1 u_4.2.2.1 u_4.2.2.2.1 u_4.2.2.2.2.1 u_4.2.2.2.2.2.1 u_4.2.2.2.2.2.2.1 u_4.2.2.2.2.2.2.2 out) ∧ (¬ r_1 = r_3 → False))))
set_option maxHeartbeats 4000000 in
set_option maxRecDepth 100000 in
theorem LC_3_ok {p : Program} {l : Launch} {e : Env} {s : State} {m : MethodId} {args : Array Value} {below : List Frame} {meth : Method} {c : Code} {Q : State → Prop} {D : va_G} {A : Nat → Prop} {ad am : Nat → Nat} {o b0 L ce sl : Nat} {xs : Nat → Int32} {cI cL cO : ClassId} {i : Int32} {Qn : Int32 → Int32 → (Nat → Int32) → (Nat → Int32) → (Nat → Int32) → (Nat → Int32) → (Nat → Int64) → Int32 → (Nat → Int32) → (Nat → Int32) → Int32 → (Nat → Nat → Int64) → (Nat → Nat → Int64) → (Nat → Int64) → (Nat → Int32) → (Nat → Nat → Int64) → Int32 → (Nat → Int64) → (Nat → Int32) → Int32 → Int32 → Int32 → Int32 → (Nat → Int32) → (Nat → Int32) → (Nat → Int32) → (Nat → Int32) → (Nat → Int64) → Int32 → (Nat → Int32) → (Nat → Int32) → Int32 → Int32 → (Nat → Int32) → (Nat → Int64) → (Nat → Int64) → (Nat → Int64) → (Nat → Int64) → (Nat → Int64) → Prop} {sc : Int32} {sd : Int32} {src : (Nat → Int32)} {itm : (Nat → Int32)} {knd : (Nat → Int32)} {plc : (Nat → Int32)} {clk : (Nat → Int64)} {ec : Int32} {nf : (Nat → Int32)} {ns : (Nat → Int32)} {nc : Int32} {wt : (Nat → Nat → Int64)} {bd : (Nat → Nat → Int64)} {off : (Nat → Int64)} {row : (Nat → Int32)} {hw : (Nat → Nat → Int64)} {rl : Int32} {tm : (Nat → Int64)} {ord : (Nat → Int32)} {tc : Int32} {mth : Int32} {msc : Int32} {mec : Int32} {msrc : (Nat → Int32)} {mitm : (Nat → Int32)} {mknd : (Nat → Int32)} {mplc : (Nat → Int32)} {mclk : (Nat → Int64)} {mnc : Int32} {mnf : (Nat → Int32)} {mns : (Nat → Int32)} {msd : Int32} {mrl : Int32} {mrow : (Nat → Int32)} {mw : (Nat → Int64)} {mb : (Nat → Int64)} {mway : (Nat → Int64)} {moff : (Nat → Int64)} {out : Nat → Int64} (hC : XC p s m args c D vwCl (tysX cI cL cO) A 8 code TBL RL) (htr : l.stackTraces = false) (hN : XN s) (hX : va_X b0 L xs s s.heap) (hbl : b0 < s.heap.size) (hbA : ¬ A b0) (hce : ce + 8 ≤ 601024) (hsl : sl + 48 ≤ 7293034) (hexit : ∀ (sc : Int32) (sd : Int32) (src : (Nat → Int32)) (itm : (Nat → Int32)) (knd : (Nat → Int32)) (plc : (Nat → Int32)) (clk : (Nat → Int64)) (ec : Int32) (nf : (Nat → Int32)) (ns : (Nat → Int32)) (nc : Int32) (wt : (Nat → Nat → Int64)) (bd : (Nat → Nat → Int64)) (off : (Nat → Int64)) (row : (Nat → Int32)) (hw : (Nat → Nat → Int64)) (rl : Int32) (tm : (Nat → Int64)) (ord : (Nat → Int32)) (tc : Int32) (mth : Int32) (msc : Int32) (mec : Int32) (msrc : (Nat → Int32)) (mitm : (Nat → Int32)) (mknd : (Nat → Int32)) (mplc : (Nat → Int32)) (mclk : (Nat → Int64)) (mnc : Int32) (mnf : (Nat → Int32)) (mns : (Nat → Int32)) (msd : Int32) (mrl : Int32) (mrow : (Nat → Int32)) (mw : (Nat → Int64)) (mb : (Nat → Int64)) (mway : (Nat → Int64)) (moff : (Nat → Int64)) (out : Nat → Int64), Qn sc sd src itm knd plc clk ec nf ns nc wt bd off row hw rl tm ord tc mth msc mec msrc mitm mknd mplc mclk mnc mnf mns msd mrl mrow mw mb mway moff out → XW p l e room_1 s m args below meth c D vwCl A 8 Q (ce + 8) (sl + 48) ((wM am cI cL cO mth msc mec msrc mitm mknd mplc mclk mnc mnf mns msd mrl mrow mw mb mway moff) ++ ((wX ad cI cL cO sc sd src itm knd plc clk ec nf ns nc wt bd off row hw rl tm ord tc) ++ [(o, .inl (cL, 1, .inr (.inl out)))])) 873 [(0, .ref b0), (1, .ref (ad 0)), (2, .ref (am 0)), (3, .ref o), (4, .int i)] []) (h : LC_3 L xs i Qn sc sd src itm knd plc clk ec nf ns nc wt bd off row hw rl tm ord tc mth msc mec msrc mitm mknd mplc mclk mnc mnf mns msd mrl mrow mw mb mway moff out) : XW p l e room_1 s m args below meth c D vwCl A 8 Q ce sl ((wM am cI cL cO mth msc mec msrc mitm mknd mplc mclk mnc mnf mns msd mrl mrow mw mb mway moff) ++ ((wX ad cI cL cO sc sd src itm knd plc clk ec nf ns nc wt bd off row hw rl tm ord tc) ++ [(o, .inl (cL, 1, .inr (.inl out)))])) 354 [(0, .ref b0), (1, .ref (ad 0)), (2, .ref (am 0)), (3, .ref o), (4, .int i)] [] := by
  have hce2 : ce + 8 ≤ room_1.cells := hce
  have hsl2 : sl + 48 ≤ room_1.slots := hsl
  unfold LC_3 at h
  refine x_aload_n hC dL_law_354 rfl 1 rfl ?_
  refine x_fVi (S := (Int32 × (Nat → Nat → Int64) × (Nat → Nat → Int64) × (Nat → Int64) × (Nat → Int32) × (Nat → Nat → Int64) × Int32 × (Nat → Int64) × (Nat → Int32) × Int32)) (wl := (wM am cI cL cO mth msc mec msrc mitm mknd mplc mclk mnc mnf mns msd mrl mrow mw mb mway moff)) (w1 := (wX ad cI cL cO sc sd src itm knd plc clk ec nf ns nc wt bd off row hw rl tm ord tc)) (wr := [(o, .inl (cL, 1, .inr (.inl out)))]) (wf := fun u => (wX ad cI cL cO sc u.1 src itm knd plc clk ec nf ns nc u.2.1 u.2.2.1 u.2.2.2.1 u.2.2.2.2.1 u.2.2.2.2.2.1 u.2.2.2.2.2.2.1 u.2.2.2.2.2.2.2.1 u.2.2.2.2.2.2.2.2.1 u.2.2.2.2.2.2.2.2.2)) (wf2 := fun u => (wM am cI cL cO mth msc mec msrc mitm mknd mplc mclk mnc mnf mns msd mrl mrow mw mb mway moff) ++ ((wX ad cI cL cO sc u.1 src itm knd plc clk ec nf ns nc u.2.1 u.2.2.1 u.2.2.2.1 u.2.2.2.2.1 u.2.2.2.2.2.1 u.2.2.2.2.2.2.1 u.2.2.2.2.2.2.2.1 u.2.2.2.2.2.2.2.2.1 u.2.2.2.2.2.2.2.2.2) ++ [(o, .inl (cL, 1, .inr (.inl out)))])) hC [] (by rfl) (fun u => rfl) (fun sz => c_X_settle h sz) (by decide) (by decide) k_l91 k_l92 k_l93 (by decide) 0 rfl (by decide +kernel) ⟨Nat.le_trans (show ce + 0 ≤ ce + 8 by omega) hce2, Nat.le_trans (show sl + 0 ≤ sl + 48 by omega) hsl2⟩ (Nat.le_of_ble_eq_true rfl) k_l94 k_l95 wX_0 rfl rfl dL_law_355 (fun _ h9 => h9) (fun r_1 u_2 h => ?_)
  refine x_aload_n hC dL_law_358 rfl 2 rfl ?_
  refine x_fVi (S := (Int32 × Int32 × Int32 × (Nat → Int32) × (Nat → Int64) × (Nat → Int64) × (Nat → Int64) × (Nat → Int64))) (wl := []) (w1 := (wM am cI cL cO mth msc mec msrc mitm mknd mplc mclk mnc mnf mns msd mrl mrow mw mb mway moff)) (wr := (wX ad cI cL cO sc u_2.1 src itm knd plc clk ec nf ns nc u_2.2.1 u_2.2.2.1 u_2.2.2.2.1 u_2.2.2.2.2.1 u_2.2.2.2.2.2.1 u_2.2.2.2.2.2.2.1 u_2.2.2.2.2.2.2.2.1 u_2.2.2.2.2.2.2.2.2.1 u_2.2.2.2.2.2.2.2.2.2 ++ [(o, .inl (cL, 1, .inr (.inl out)))])) (wf := fun u => (wM am cI cL cO u.1 msc mec msrc mitm mknd mplc mclk mnc mnf mns u.2.1 u.2.2.1 u.2.2.2.1 u.2.2.2.2.1 u.2.2.2.2.2.1 u.2.2.2.2.2.2.1 u.2.2.2.2.2.2.2)) (wf2 := fun u => (wM am cI cL cO u.1 msc mec msrc mitm mknd mplc mclk mnc mnf mns u.2.1 u.2.2.1 u.2.2.2.1 u.2.2.2.2.1 u.2.2.2.2.2.1 u.2.2.2.2.2.2.1 u.2.2.2.2.2.2.2) ++ ((wX ad cI cL cO sc u_2.1 src itm knd plc clk ec nf ns nc u_2.2.1 u_2.2.2.1 u_2.2.2.2.1 u_2.2.2.2.2.1 u_2.2.2.2.2.2.1 u_2.2.2.2.2.2.2.1 u_2.2.2.2.2.2.2.2.1 u_2.2.2.2.2.2.2.2.2.1 u_2.2.2.2.2.2.2.2.2.2) ++ [(o, .inl (cL, 1, .inr (.inl out)))])) hC [] (by rfl) (fun u => rfl) (fun sz => c_M_settle h sz) (by decide) (by decide) k_l96 k_l97 k_l98 (by decide) 0 rfl (by decide +kernel) ⟨Nat.le_trans (show ce + 0 ≤ ce + 8 by omega) hce2, Nat.le_trans (show sl + 0 ≤ sl + 48 by omega) hsl2⟩ (Nat.le_of_ble_eq_true rfl) k_l99 k_l100 wM_0 rfl rfl dL_law_359 (fun _ h9 => h9) (fun r_3 u_4 h => ?_)
  refine x_icmp_eq (tgt := 873) hC dL_law_362 (by decide) (fun c_5 => ?_) (fun c_5 => ?_)
  · have h := h.1 c_5
    refine x_lv (lv' := [(0, .ref b0), (1, .ref (ad 0)), (2, .ref (am 0)), (3, .ref o), (4, .int i)]) [0, 1, 2, 3, 4] rfl ?_
    refine x_widen (k := ce + 8) (n := sl + 48) (by show ce + 0 ≤ ce + 8; omega) (by show sl + 0 ≤ sl + 48; omega) ?_
    exact hexit sc u_2.1 src itm knd plc clk ec nf ns nc u_2.2.1 u_2.2.2.1 u_2.2.2.2.1 u_2.2.2.2.2.1 u_2.2.2.2.2.2.1 u_2.2.2.2.2.2.2.1 u_2.2.2.2.2.2.2.2.1 u_2.2.2.2.2.2.2.2.2.1 u_2.2.2.2.2.2.2.2.2.2 u_4.1 msc mec msrc mitm mknd mplc mclk mnc mnf mns u_4.2.1 u_4.2.2.1 u_4.2.2.2.1 u_4.2.2.2.2.1 u_4.2.2.2.2.2.1 u_4.2.2.2.2.2.2.1 u_4.2.2.2.2.2.2.2 out h
  · have h := h.2 c_5
    refine x_iconst (v := 0) hC dL_law_365 (by decide) ?_
    exact h.elim
def LC_4 (L : Nat) (xs : Nat → Int32) (i : Int32) (Qn : Int32 → Int32 → (Nat → Int32) → (Nat → Int32) → (Nat → Int32) → (Nat → Int32) → (Nat → Int64) → Int32 → (Nat → Int32) → (Nat → Int32) → Int32 → (Nat → Nat → Int64) → (Nat → Nat → Int64) → (Nat → Int64) → (Nat → Int32) → (Nat → Nat → Int64) → Int32 → (Nat → Int64) → (Nat → Int32) → Int32 → Int32 → Int32 → Int32 → (Nat → Int32) → (Nat → Int32) → (Nat → Int32) → (Nat → Int32) → (Nat → Int64) → Int32 → (Nat → Int32) → (Nat → Int32) → Int32 → Int32 → (Nat → Int32) → (Nat → Int64) → (Nat → Int64) → (Nat → Int64) → (Nat → Int64) → (Nat → Int64) → Prop) (sc : Int32) (sd : Int32) (src : (Nat → Int32)) (itm : (Nat → Int32)) (knd : (Nat → Int32)) (plc : (Nat → Int32)) (clk : (Nat → Int64)) (ec : Int32) (nf : (Nat → Int32)) (ns : (Nat → Int32)) (nc : Int32) (wt : (Nat → Nat → Int64)) (bd : (Nat → Nat → Int64)) (off : (Nat → Int64)) (row : (Nat → Int32)) (hw : (Nat → Nat → Int64)) (rl : Int32) (tm : (Nat → Int64)) (ord : (Nat → Int32)) (tc : Int32) (mth : Int32) (msc : Int32) (mec : Int32) (msrc : (Nat → Int32)) (mitm : (Nat → Int32)) (mknd : (Nat → Int32)) (mplc : (Nat → Int32)) (mclk : (Nat → Int64)) (mnc : Int32) (mnf : (Nat → Int32)) (mns : (Nat → Int32)) (msd : Int32) (mrl : Int32) (mrow : (Nat → Int32)) (mw : (Nat → Int64)) (mb : (Nat → Int64)) (mway : (Nat → Int64)) (moff : (Nat → Int64)) (out : Nat → Int64) : Prop := vp_in (i + 1) L ∧ X_ring_wp row rl (xs (i + 1).toNatClampNeg) (fun (r_2 : Int32) (u_3 : Unit) => vp_in (i + 1) L ∧ M_ring_wp mth mrl mrow (xs (i + 1).toNatClampNeg) (fun (r_5 : Int32) (u_6 : Int32) => ((r_2 = r_5 → Qn sc sd src itm knd plc clk ec nf ns nc wt bd off row hw rl tm ord tc u_6 msc mec msrc mitm mknd mplc mclk mnc mnf mns msd mrl mrow mw mb mway moff out) ∧ (¬ r_2 = r_5 → False))))
set_option maxHeartbeats 4000000 in
set_option maxRecDepth 100000 in
theorem LC_4_ok {p : Program} {l : Launch} {e : Env} {s : State} {m : MethodId} {args : Array Value} {below : List Frame} {meth : Method} {c : Code} {Q : State → Prop} {D : va_G} {A : Nat → Prop} {ad am : Nat → Nat} {o b0 L ce sl : Nat} {xs : Nat → Int32} {cI cL cO : ClassId} {i : Int32} {Qn : Int32 → Int32 → (Nat → Int32) → (Nat → Int32) → (Nat → Int32) → (Nat → Int32) → (Nat → Int64) → Int32 → (Nat → Int32) → (Nat → Int32) → Int32 → (Nat → Nat → Int64) → (Nat → Nat → Int64) → (Nat → Int64) → (Nat → Int32) → (Nat → Nat → Int64) → Int32 → (Nat → Int64) → (Nat → Int32) → Int32 → Int32 → Int32 → Int32 → (Nat → Int32) → (Nat → Int32) → (Nat → Int32) → (Nat → Int32) → (Nat → Int64) → Int32 → (Nat → Int32) → (Nat → Int32) → Int32 → Int32 → (Nat → Int32) → (Nat → Int64) → (Nat → Int64) → (Nat → Int64) → (Nat → Int64) → (Nat → Int64) → Prop} {sc : Int32} {sd : Int32} {src : (Nat → Int32)} {itm : (Nat → Int32)} {knd : (Nat → Int32)} {plc : (Nat → Int32)} {clk : (Nat → Int64)} {ec : Int32} {nf : (Nat → Int32)} {ns : (Nat → Int32)} {nc : Int32} {wt : (Nat → Nat → Int64)} {bd : (Nat → Nat → Int64)} {off : (Nat → Int64)} {row : (Nat → Int32)} {hw : (Nat → Nat → Int64)} {rl : Int32} {tm : (Nat → Int64)} {ord : (Nat → Int32)} {tc : Int32} {mth : Int32} {msc : Int32} {mec : Int32} {msrc : (Nat → Int32)} {mitm : (Nat → Int32)} {mknd : (Nat → Int32)} {mplc : (Nat → Int32)} {mclk : (Nat → Int64)} {mnc : Int32} {mnf : (Nat → Int32)} {mns : (Nat → Int32)} {msd : Int32} {mrl : Int32} {mrow : (Nat → Int32)} {mw : (Nat → Int64)} {mb : (Nat → Int64)} {mway : (Nat → Int64)} {moff : (Nat → Int64)} {out : Nat → Int64} (hC : XC p s m args c D vwCl (tysX cI cL cO) A 8 code TBL RL) (htr : l.stackTraces = false) (hN : XN s) (hX : va_X b0 L xs s s.heap) (hbl : b0 < s.heap.size) (hbA : ¬ A b0) (hce : ce + 8 ≤ 601024) (hsl : sl + 48 ≤ 7293034) (hexit : ∀ (sc : Int32) (sd : Int32) (src : (Nat → Int32)) (itm : (Nat → Int32)) (knd : (Nat → Int32)) (plc : (Nat → Int32)) (clk : (Nat → Int64)) (ec : Int32) (nf : (Nat → Int32)) (ns : (Nat → Int32)) (nc : Int32) (wt : (Nat → Nat → Int64)) (bd : (Nat → Nat → Int64)) (off : (Nat → Int64)) (row : (Nat → Int32)) (hw : (Nat → Nat → Int64)) (rl : Int32) (tm : (Nat → Int64)) (ord : (Nat → Int32)) (tc : Int32) (mth : Int32) (msc : Int32) (mec : Int32) (msrc : (Nat → Int32)) (mitm : (Nat → Int32)) (mknd : (Nat → Int32)) (mplc : (Nat → Int32)) (mclk : (Nat → Int64)) (mnc : Int32) (mnf : (Nat → Int32)) (mns : (Nat → Int32)) (msd : Int32) (mrl : Int32) (mrow : (Nat → Int32)) (mw : (Nat → Int64)) (mb : (Nat → Int64)) (mway : (Nat → Int64)) (moff : (Nat → Int64)) (out : Nat → Int64), Qn sc sd src itm knd plc clk ec nf ns nc wt bd off row hw rl tm ord tc mth msc mec msrc mitm mknd mplc mclk mnc mnf mns msd mrl mrow mw mb mway moff out → XW p l e room_1 s m args below meth c D vwCl A 8 Q (ce + 8) (sl + 48) ((wM am cI cL cO mth msc mec msrc mitm mknd mplc mclk mnc mnf mns msd mrl mrow mw mb mway moff) ++ ((wX ad cI cL cO sc sd src itm knd plc clk ec nf ns nc wt bd off row hw rl tm ord tc) ++ [(o, .inl (cL, 1, .inr (.inl out)))])) 873 [(0, .ref b0), (1, .ref (ad 0)), (2, .ref (am 0)), (3, .ref o), (4, .int i)] []) (h : LC_4 L xs i Qn sc sd src itm knd plc clk ec nf ns nc wt bd off row hw rl tm ord tc mth msc mec msrc mitm mknd mplc mclk mnc mnf mns msd mrl mrow mw mb mway moff out) : XW p l e room_1 s m args below meth c D vwCl A 8 Q ce sl ((wM am cI cL cO mth msc mec msrc mitm mknd mplc mclk mnc mnf mns msd mrl mrow mw mb mway moff) ++ ((wX ad cI cL cO sc sd src itm knd plc clk ec nf ns nc wt bd off row hw rl tm ord tc) ++ [(o, .inl (cL, 1, .inr (.inl out)))])) 367 [(0, .ref b0), (1, .ref (ad 0)), (2, .ref (am 0)), (3, .ref o), (4, .int i)] [] := by
  have hce2 : ce + 8 ≤ room_1.cells := hce
  have hsl2 : sl + 48 ≤ room_1.slots := hsl
  unfold LC_4 at h
  refine x_aload_n hC dL_law_367 rfl 1 rfl ?_
  refine x_aload_n hC dL_law_368 rfl 0 rfl ?_
  refine x_iload hC dL_law_369 4 rfl ?_
  refine x_iconst (v := 1) hC dL_law_371 (by decide) ?_
  refine x_iadd hC dL_law_372 ?_
  obtain ⟨hb_1, h⟩ := h
  refine x_sld hC hX hbl hbA hb_1 dL_law_373 ?_
  refine x_fVi (S := Unit) (wl := (wM am cI cL cO mth msc mec msrc mitm mknd mplc mclk mnc mnf mns msd mrl mrow mw mb mway moff)) (w1 := (wX ad cI cL cO sc sd src itm knd plc clk ec nf ns nc wt bd off row hw rl tm ord tc)) (wr := [(o, .inl (cL, 1, .inr (.inl out)))]) (wf := fun u => (wX ad cI cL cO sc sd src itm knd plc clk ec nf ns nc wt bd off row hw rl tm ord tc)) (wf2 := fun u => (wM am cI cL cO mth msc mec msrc mitm mknd mplc mclk mnc mnf mns msd mrl mrow mw mb mway moff) ++ ((wX ad cI cL cO sc sd src itm knd plc clk ec nf ns nc wt bd off row hw rl tm ord tc) ++ [(o, .inl (cL, 1, .inr (.inl out)))])) hC [.int (xs (i + 1).toNatClampNeg)] (by rfl) (fun u => rfl) (fun sz => c_X_ring h sz) (by decide) (by decide) k_l101 k_l102 k_l103 (by decide) 1 rfl (by decide +kernel) ⟨Nat.le_trans (show ce + 0 ≤ ce + 8 by omega) hce2, Nat.le_trans (show sl + 0 ≤ sl + 48 by omega) hsl2⟩ (Nat.le_of_ble_eq_true rfl) k_l104 k_l105 wX_0 rfl rfl dL_law_374 (fun _ h9 => h9) (fun r_2 u_3 h => ?_)
  refine x_aload_n hC dL_law_377 rfl 2 rfl ?_
  refine x_aload_n hC dL_law_378 rfl 0 rfl ?_
  refine x_iload hC dL_law_379 4 rfl ?_
  refine x_iconst (v := 1) hC dL_law_381 (by decide) ?_
  refine x_iadd hC dL_law_382 ?_
  obtain ⟨hb_4, h⟩ := h
  refine x_sld hC hX hbl hbA hb_4 dL_law_383 ?_
  refine x_fVi (S := Int32) (wl := []) (w1 := (wM am cI cL cO mth msc mec msrc mitm mknd mplc mclk mnc mnf mns msd mrl mrow mw mb mway moff)) (wr := (wX ad cI cL cO sc sd src itm knd plc clk ec nf ns nc wt bd off row hw rl tm ord tc ++ [(o, .inl (cL, 1, .inr (.inl out)))])) (wf := fun u => (wM am cI cL cO u msc mec msrc mitm mknd mplc mclk mnc mnf mns msd mrl mrow mw mb mway moff)) (wf2 := fun u => (wM am cI cL cO u msc mec msrc mitm mknd mplc mclk mnc mnf mns msd mrl mrow mw mb mway moff) ++ ((wX ad cI cL cO sc sd src itm knd plc clk ec nf ns nc wt bd off row hw rl tm ord tc) ++ [(o, .inl (cL, 1, .inr (.inl out)))])) hC [.int (xs (i + 1).toNatClampNeg)] (by rfl) (fun u => rfl) (fun sz => c_M_ring h sz) (by decide) (by decide) k_l106 k_l107 k_l108 (by decide) 1 rfl (by decide +kernel) ⟨Nat.le_trans (show ce + 0 ≤ ce + 8 by omega) hce2, Nat.le_trans (show sl + 0 ≤ sl + 48 by omega) hsl2⟩ (Nat.le_of_ble_eq_true rfl) k_l109 k_l110 wM_0 rfl rfl dL_law_384 (fun _ h9 => h9) (fun r_5 u_6 h => ?_)
  refine x_icmp_eq (tgt := 873) hC dL_law_387 (by decide) (fun c_7 => ?_) (fun c_7 => ?_)
  · have h := h.1 c_7
    refine x_lv (lv' := [(0, .ref b0), (1, .ref (ad 0)), (2, .ref (am 0)), (3, .ref o), (4, .int i)]) [0, 1, 2, 3, 4] rfl ?_
    refine x_widen (k := ce + 8) (n := sl + 48) (by show ce + 0 ≤ ce + 8; omega) (by show sl + 0 ≤ sl + 48; omega) ?_
    exact hexit sc sd src itm knd plc clk ec nf ns nc wt bd off row hw rl tm ord tc u_6 msc mec msrc mitm mknd mplc mclk mnc mnf mns msd mrl mrow mw mb mway moff out h
  · have h := h.2 c_7
    refine x_iconst (v := 0) hC dL_law_390 (by decide) ?_
    exact h.elim
def LC_5 (L : Nat) (xs : Nat → Int32) (i : Int32) (Qn : Int32 → Int32 → (Nat → Int32) → (Nat → Int32) → (Nat → Int32) → (Nat → Int32) → (Nat → Int64) → Int32 → (Nat → Int32) → (Nat → Int32) → Int32 → (Nat → Nat → Int64) → (Nat → Nat → Int64) → (Nat → Int64) → (Nat → Int32) → (Nat → Nat → Int64) → Int32 → (Nat → Int64) → (Nat → Int32) → Int32 → Int32 → Int32 → Int32 → (Nat → Int32) → (Nat → Int32) → (Nat → Int32) → (Nat → Int32) → (Nat → Int64) → Int32 → (Nat → Int32) → (Nat → Int32) → Int32 → Int32 → (Nat → Int32) → (Nat → Int64) → (Nat → Int64) → (Nat → Int64) → (Nat → Int64) → (Nat → Int64) → Prop) (sc : Int32) (sd : Int32) (src : (Nat → Int32)) (itm : (Nat → Int32)) (knd : (Nat → Int32)) (plc : (Nat → Int32)) (clk : (Nat → Int64)) (ec : Int32) (nf : (Nat → Int32)) (ns : (Nat → Int32)) (nc : Int32) (wt : (Nat → Nat → Int64)) (bd : (Nat → Nat → Int64)) (off : (Nat → Int64)) (row : (Nat → Int32)) (hw : (Nat → Nat → Int64)) (rl : Int32) (tm : (Nat → Int64)) (ord : (Nat → Int32)) (tc : Int32) (mth : Int32) (msc : Int32) (mec : Int32) (msrc : (Nat → Int32)) (mitm : (Nat → Int32)) (mknd : (Nat → Int32)) (mplc : (Nat → Int32)) (mclk : (Nat → Int64)) (mnc : Int32) (mnf : (Nat → Int32)) (mns : (Nat → Int32)) (msd : Int32) (mrl : Int32) (mrow : (Nat → Int32)) (mw : (Nat → Int64)) (mb : (Nat → Int64)) (mway : (Nat → Int64)) (moff : (Nat → Int64)) (out : Nat → Int64) : Prop := vp_in (i + 1) L ∧ L_offset_wp sc sd off out (xs (i + 1).toNatClampNeg) (fun (r_2 : Int32) (u_3 : (Nat → Int64)) => vp_in (i + 1) L ∧ M_offset_wp mth msc msd moff (xs (i + 1).toNatClampNeg) (fun (r_5 : Int64) (u_6 : Int32) => M_thrown_wp u_6 (fun (r_7 : Int32) (u_8 : Unit) => ((r_7 = r_2 → ((¬ r_2 = 0 → Qn sc sd src itm knd plc clk ec nf ns nc wt bd off row hw rl tm ord tc u_6 msc mec msrc mitm mknd mplc mclk mnc mnf mns msd mrl mrow mw mb mway moff u_3) ∧ (r_2 = 0 → (((u_3 (0 : Int32).toNatClampNeg) = r_5 → Qn sc sd src itm knd plc clk ec nf ns nc wt bd off row hw rl tm ord tc u_6 msc mec msrc mitm mknd mplc mclk mnc mnf mns msd mrl mrow mw mb mway moff u_3) ∧ (¬ (u_3 (0 : Int32).toNatClampNeg) = r_5 → False))))) ∧ (¬ r_7 = r_2 → False)))))
set_option maxHeartbeats 4000000 in
set_option maxRecDepth 100000 in
theorem LC_5_ok {p : Program} {l : Launch} {e : Env} {s : State} {m : MethodId} {args : Array Value} {below : List Frame} {meth : Method} {c : Code} {Q : State → Prop} {D : va_G} {A : Nat → Prop} {ad am : Nat → Nat} {o b0 L ce sl : Nat} {xs : Nat → Int32} {cI cL cO : ClassId} {i : Int32} {Qn : Int32 → Int32 → (Nat → Int32) → (Nat → Int32) → (Nat → Int32) → (Nat → Int32) → (Nat → Int64) → Int32 → (Nat → Int32) → (Nat → Int32) → Int32 → (Nat → Nat → Int64) → (Nat → Nat → Int64) → (Nat → Int64) → (Nat → Int32) → (Nat → Nat → Int64) → Int32 → (Nat → Int64) → (Nat → Int32) → Int32 → Int32 → Int32 → Int32 → (Nat → Int32) → (Nat → Int32) → (Nat → Int32) → (Nat → Int32) → (Nat → Int64) → Int32 → (Nat → Int32) → (Nat → Int32) → Int32 → Int32 → (Nat → Int32) → (Nat → Int64) → (Nat → Int64) → (Nat → Int64) → (Nat → Int64) → (Nat → Int64) → Prop} {sc : Int32} {sd : Int32} {src : (Nat → Int32)} {itm : (Nat → Int32)} {knd : (Nat → Int32)} {plc : (Nat → Int32)} {clk : (Nat → Int64)} {ec : Int32} {nf : (Nat → Int32)} {ns : (Nat → Int32)} {nc : Int32} {wt : (Nat → Nat → Int64)} {bd : (Nat → Nat → Int64)} {off : (Nat → Int64)} {row : (Nat → Int32)} {hw : (Nat → Nat → Int64)} {rl : Int32} {tm : (Nat → Int64)} {ord : (Nat → Int32)} {tc : Int32} {mth : Int32} {msc : Int32} {mec : Int32} {msrc : (Nat → Int32)} {mitm : (Nat → Int32)} {mknd : (Nat → Int32)} {mplc : (Nat → Int32)} {mclk : (Nat → Int64)} {mnc : Int32} {mnf : (Nat → Int32)} {mns : (Nat → Int32)} {msd : Int32} {mrl : Int32} {mrow : (Nat → Int32)} {mw : (Nat → Int64)} {mb : (Nat → Int64)} {mway : (Nat → Int64)} {moff : (Nat → Int64)} {out : Nat → Int64} (hC : XC p s m args c D vwCl (tysX cI cL cO) A 8 code TBL RL) (htr : l.stackTraces = false) (hN : XN s) (hX : va_X b0 L xs s s.heap) (hbl : b0 < s.heap.size) (hbA : ¬ A b0) (hce : ce + 8 ≤ 601024) (hsl : sl + 48 ≤ 7293034) (hexit : ∀ (sc : Int32) (sd : Int32) (src : (Nat → Int32)) (itm : (Nat → Int32)) (knd : (Nat → Int32)) (plc : (Nat → Int32)) (clk : (Nat → Int64)) (ec : Int32) (nf : (Nat → Int32)) (ns : (Nat → Int32)) (nc : Int32) (wt : (Nat → Nat → Int64)) (bd : (Nat → Nat → Int64)) (off : (Nat → Int64)) (row : (Nat → Int32)) (hw : (Nat → Nat → Int64)) (rl : Int32) (tm : (Nat → Int64)) (ord : (Nat → Int32)) (tc : Int32) (mth : Int32) (msc : Int32) (mec : Int32) (msrc : (Nat → Int32)) (mitm : (Nat → Int32)) (mknd : (Nat → Int32)) (mplc : (Nat → Int32)) (mclk : (Nat → Int64)) (mnc : Int32) (mnf : (Nat → Int32)) (mns : (Nat → Int32)) (msd : Int32) (mrl : Int32) (mrow : (Nat → Int32)) (mw : (Nat → Int64)) (mb : (Nat → Int64)) (mway : (Nat → Int64)) (moff : (Nat → Int64)) (out : Nat → Int64), Qn sc sd src itm knd plc clk ec nf ns nc wt bd off row hw rl tm ord tc mth msc mec msrc mitm mknd mplc mclk mnc mnf mns msd mrl mrow mw mb mway moff out → XW p l e room_1 s m args below meth c D vwCl A 8 Q (ce + 8) (sl + 48) ((wM am cI cL cO mth msc mec msrc mitm mknd mplc mclk mnc mnf mns msd mrl mrow mw mb mway moff) ++ ((wX ad cI cL cO sc sd src itm knd plc clk ec nf ns nc wt bd off row hw rl tm ord tc) ++ [(o, .inl (cL, 1, .inr (.inl out)))])) 873 [(0, .ref b0), (1, .ref (ad 0)), (2, .ref (am 0)), (3, .ref o), (4, .int i)] []) (h : LC_5 L xs i Qn sc sd src itm knd plc clk ec nf ns nc wt bd off row hw rl tm ord tc mth msc mec msrc mitm mknd mplc mclk mnc mnf mns msd mrl mrow mw mb mway moff out) : XW p l e room_1 s m args below meth c D vwCl A 8 Q ce sl ((wM am cI cL cO mth msc mec msrc mitm mknd mplc mclk mnc mnf mns msd mrl mrow mw mb mway moff) ++ ((wX ad cI cL cO sc sd src itm knd plc clk ec nf ns nc wt bd off row hw rl tm ord tc) ++ [(o, .inl (cL, 1, .inr (.inl out)))])) 392 [(0, .ref b0), (1, .ref (ad 0)), (2, .ref (am 0)), (3, .ref o), (4, .int i)] [] := by
  have hce2 : ce + 8 ≤ room_1.cells := hce
  have hsl2 : sl + 48 ≤ room_1.slots := hsl
  unfold LC_5 at h
  refine x_aload_n hC dL_law_392 rfl 1 rfl ?_
  refine x_aload_n hC dL_law_393 rfl 0 rfl ?_
  refine x_iload hC dL_law_394 4 rfl ?_
  refine x_iconst (v := 1) hC dL_law_396 (by decide) ?_
  refine x_iadd hC dL_law_397 ?_
  obtain ⟨hb_1, h⟩ := h
  refine x_sld hC hX hbl hbA hb_1 dL_law_398 ?_
  refine x_aload_n hC dL_law_399 rfl 3 rfl ?_
  refine x_fSi (S := (Nat → Int64)) (wl := (wM am cI cL cO mth msc mec msrc mitm mknd mplc mclk mnc mnf mns msd mrl mrow mw mb mway moff)) (w1 := (wX ad cI cL cO sc sd src itm knd plc clk ec nf ns nc wt bd off row hw rl tm ord tc ++ [(o, .inl (cL, 1, .inr (.inl out)))])) (wr := []) (wf := fun u => (wX ad cI cL cO sc sd src itm knd plc clk ec nf ns nc wt bd off row hw rl tm ord tc) ++ [(o, .inl (cL, 1, .inr (.inl u)))]) (wf2 := fun u => (wM am cI cL cO mth msc mec msrc mitm mknd mplc mclk mnc mnf mns msd mrl mrow mw mb mway moff) ++ ((wX ad cI cL cO sc sd src itm knd plc clk ec nf ns nc wt bd off row hw rl tm ord tc) ++ [(o, .inl (cL, 1, .inr (.inl u)))])) hC [.ref (ad 0), .int (xs (i + 1).toNatClampNeg), .ref o] (by rw [List.append_nil]) (fun u => by rw [List.append_nil]) (fun sz => c_L_offset htr h sz) (by decide) (by decide) k_l111 k_l112 k_l113 (by decide) 3 rfl (by decide +kernel) ⟨Nat.le_trans (show ce + 2 ≤ ce + 8 by omega) hce2, Nat.le_trans (show sl + 12 ≤ sl + 48 by omega) hsl2⟩ (Nat.le_of_ble_eq_true rfl) k_l114 rfl dL_law_400 hN (fun _ h9 => h9) (fun r_2 u_3 h => ?_)
  refine x_istore (lv' := [(5, .int r_2), (0, .ref b0), (1, .ref (ad 0)), (2, .ref (am 0)), (3, .ref o), (4, .int i)]) hC dL_law_403 (by decide) rfl ?_
  refine x_aload_n hC dL_law_405 rfl 3 rfl ?_
  refine x_aload_n hC dL_law_406 rfl 1 rfl ?_
  refine x_iload hC dL_law_407 5 rfl ?_
  refine x_iconst (v := 1) hC dL_law_409 (by decide) ?_
  refine x_iadd hC dL_law_410 ?_
  obtain ⟨hb_4, h⟩ := h
  refine x_sld hC hX hbl hbA hb_4 dL_law_411 ?_
  refine x_fVl (S := Int32) (wl := []) (w1 := (wM am cI cL cO mth msc mec msrc mitm mknd mplc mclk mnc mnf mns msd mrl mrow mw mb mway moff)) (wr := (wX ad cI cL cO sc sd src itm knd plc clk ec nf ns nc wt bd off row hw rl tm ord tc ++ [(o, .inl (cL, 1, .inr (.inl u_3)))])) (wf := fun u => (wM am cI cL cO u msc mec msrc mitm mknd mplc mclk mnc mnf mns msd mrl mrow mw mb mway moff)) (wf2 := fun u => (wM am cI cL cO u msc mec msrc mitm mknd mplc mclk mnc mnf mns msd mrl mrow mw mb mway moff) ++ ((wX ad cI cL cO sc sd src itm knd plc clk ec nf ns nc wt bd off row hw rl tm ord tc) ++ [(o, .inl (cL, 1, .inr (.inl u_3)))])) hC [.int (xs (i + 1).toNatClampNeg)] (by rfl) (fun u => rfl) (fun sz => c_M_offset h sz) (by decide) (by decide) k_l115 k_l116 k_l117 (by decide) 1 rfl (by decide +kernel) ⟨Nat.le_trans (show ce + 2 ≤ ce + 8 by omega) hce2, Nat.le_trans (show sl + 12 ≤ sl + 48 by omega) hsl2⟩ (Nat.le_of_ble_eq_true rfl) k_l118 k_l119 wM_0 rfl rfl dL_law_412 (fun _ h9 => h9) (fun r_5 u_6 h => ?_)
  refine x_lstore (lv' := [(6, .long r_5), (5, .int r_2), (0, .ref b0), (1, .ref (ad 0)), (2, .ref (am 0)), (3, .ref o), (4, .int i)]) hC dL_law_415 (by decide) rfl ?_
  refine x_aload_n hC dL_law_417 rfl 4 rfl ?_
  refine x_fVi (S := Unit) (wl := []) (w1 := (wM am cI cL cO u_6 msc mec msrc mitm mknd mplc mclk mnc mnf mns msd mrl mrow mw mb mway moff)) (wr := (wX ad cI cL cO sc sd src itm knd plc clk ec nf ns nc wt bd off row hw rl tm ord tc ++ [(o, .inl (cL, 1, .inr (.inl u_3)))])) (wf := fun u => (wM am cI cL cO u_6 msc mec msrc mitm mknd mplc mclk mnc mnf mns msd mrl mrow mw mb mway moff)) (wf2 := fun u => (wM am cI cL cO u_6 msc mec msrc mitm mknd mplc mclk mnc mnf mns msd mrl mrow mw mb mway moff) ++ ((wX ad cI cL cO sc sd src itm knd plc clk ec nf ns nc wt bd off row hw rl tm ord tc) ++ [(o, .inl (cL, 1, .inr (.inl u_3)))])) hC [] (by rfl) (fun u => rfl) (fun sz => c_M_thrown h sz) (by decide) (by decide) k_l67 k_l68 k_l69 (by decide) 0 rfl (by decide +kernel) ⟨Nat.le_trans (show ce + 2 ≤ ce + 8 by omega) hce2, Nat.le_trans (show sl + 12 ≤ sl + 48 by omega) hsl2⟩ (Nat.le_of_ble_eq_true rfl) k_l70 k_l71 wM_0 rfl rfl dL_law_418 (fun _ h9 => h9) (fun r_7 u_8 h => ?_)
  refine x_iload hC dL_law_421 1 rfl ?_
  refine x_icmp_eq (tgt := 428) hC dL_law_423 (by decide) (fun c_9 => ?_) (fun c_9 => ?_)
  · have h := h.1 c_9
    refine x_iload hC dL_law_428 1 rfl ?_
    refine x_if_ne (tgt := 444) hC dL_law_430 (by decide) (fun c_10 => ?_) (fun c_10 => ?_)
    · have h := h.1 c_10
      refine x_goto (tgt := 873) hC dL_law_444 (by decide) ?_
      refine x_lv (lv' := [(0, .ref b0), (1, .ref (ad 0)), (2, .ref (am 0)), (3, .ref o), (4, .int i)]) [2, 3, 4, 5, 6] rfl ?_
      refine x_widen (k := ce + 8) (n := sl + 48) (by show ce + 2 ≤ ce + 8; omega) (by show sl + 12 ≤ sl + 48; omega) ?_
      exact hexit sc sd src itm knd plc clk ec nf ns nc wt bd off row hw rl tm ord tc u_6 msc mec msrc mitm mknd mplc mclk mnc mnf mns msd mrl mrow mw mb mway moff u_3 h
    · have h := h.2 c_10
      refine x_aload_n hC dL_law_433 rfl 5 rfl ?_
      refine x_iconst (v := 0) hC dL_law_434 (by decide) ?_
      refine x_lald hC (13 + (69 + 0)) 1 (x_app_get wM_len (x_app_get wX_len rfl)) rfl x_in01 dL_law_435 ?_
      refine x_lload hC dL_law_436 0 rfl ?_
      refine x_lcmp_eq (tgt := 444) hC dL_law_438 dL_law_439 (by decide) (fun c_11 => ?_) (fun c_11 => ?_)
      · have h := h.1 c_11
        refine x_goto (tgt := 873) hC dL_law_444 (by decide) ?_
        refine x_lv (lv' := [(0, .ref b0), (1, .ref (ad 0)), (2, .ref (am 0)), (3, .ref o), (4, .int i)]) [2, 3, 4, 5, 6] rfl ?_
        refine x_widen (k := ce + 8) (n := sl + 48) (by show ce + 2 ≤ ce + 8; omega) (by show sl + 12 ≤ sl + 48; omega) ?_
        exact hexit sc sd src itm knd plc clk ec nf ns nc wt bd off row hw rl tm ord tc u_6 msc mec msrc mitm mknd mplc mclk mnc mnf mns msd mrl mrow mw mb mway moff u_3 h
      · have h := h.2 c_11
        refine x_iconst (v := 0) hC dL_law_442 (by decide) ?_
        exact h.elim
  · have h := h.2 c_9
    refine x_iconst (v := 0) hC dL_law_426 (by decide) ?_
    exact h.elim
def LC_6 (L : Nat) (xs : Nat → Int32) (i : Int32) (Qn : Int32 → Int32 → (Nat → Int32) → (Nat → Int32) → (Nat → Int32) → (Nat → Int32) → (Nat → Int64) → Int32 → (Nat → Int32) → (Nat → Int32) → Int32 → (Nat → Nat → Int64) → (Nat → Nat → Int64) → (Nat → Int64) → (Nat → Int32) → (Nat → Nat → Int64) → Int32 → (Nat → Int64) → (Nat → Int32) → Int32 → Int32 → Int32 → Int32 → (Nat → Int32) → (Nat → Int32) → (Nat → Int32) → (Nat → Int32) → (Nat → Int64) → Int32 → (Nat → Int32) → (Nat → Int32) → Int32 → Int32 → (Nat → Int32) → (Nat → Int64) → (Nat → Int64) → (Nat → Int64) → (Nat → Int64) → (Nat → Int64) → Prop) (sc : Int32) (sd : Int32) (src : (Nat → Int32)) (itm : (Nat → Int32)) (knd : (Nat → Int32)) (plc : (Nat → Int32)) (clk : (Nat → Int64)) (ec : Int32) (nf : (Nat → Int32)) (ns : (Nat → Int32)) (nc : Int32) (wt : (Nat → Nat → Int64)) (bd : (Nat → Nat → Int64)) (off : (Nat → Int64)) (row : (Nat → Int32)) (hw : (Nat → Nat → Int64)) (rl : Int32) (tm : (Nat → Int64)) (ord : (Nat → Int32)) (tc : Int32) (mth : Int32) (msc : Int32) (mec : Int32) (msrc : (Nat → Int32)) (mitm : (Nat → Int32)) (mknd : (Nat → Int32)) (mplc : (Nat → Int32)) (mclk : (Nat → Int64)) (mnc : Int32) (mnf : (Nat → Int32)) (mns : (Nat → Int32)) (msd : Int32) (mrl : Int32) (mrow : (Nat → Int32)) (mw : (Nat → Int64)) (mb : (Nat → Int64)) (mway : (Nat → Int64)) (moff : (Nat → Int64)) (out : Nat → Int64) : Prop := vp_in (i + 1) L ∧ vp_in (i + 2) L ∧ L_bound_wp sc sd bd out (xs (i + 1).toNatClampNeg) (xs (i + 2).toNatClampNeg) (fun (r_3 : Int32) (u_4 : (Nat → Int64)) => vp_in (i + 1) L ∧ vp_in (i + 2) L ∧ M_bound_wp mth msc msd mb (xs (i + 1).toNatClampNeg) (xs (i + 2).toNatClampNeg) (fun (r_7 : Int64) (u_8 : Int32) => M_thrown_wp u_8 (fun (r_9 : Int32) (u_10 : Unit) => ((r_9 = r_3 → ((¬ r_3 = 0 → Qn sc sd src itm knd plc clk ec nf ns nc wt bd off row hw rl tm ord tc u_8 msc mec msrc mitm mknd mplc mclk mnc mnf mns msd mrl mrow mw mb mway moff u_4) ∧ (r_3 = 0 → (((u_4 (0 : Int32).toNatClampNeg) = r_7 → Qn sc sd src itm knd plc clk ec nf ns nc wt bd off row hw rl tm ord tc u_8 msc mec msrc mitm mknd mplc mclk mnc mnf mns msd mrl mrow mw mb mway moff u_4) ∧ (¬ (u_4 (0 : Int32).toNatClampNeg) = r_7 → False))))) ∧ (¬ r_9 = r_3 → False)))))
set_option maxHeartbeats 4000000 in
set_option maxRecDepth 100000 in
theorem LC_6_ok {p : Program} {l : Launch} {e : Env} {s : State} {m : MethodId} {args : Array Value} {below : List Frame} {meth : Method} {c : Code} {Q : State → Prop} {D : va_G} {A : Nat → Prop} {ad am : Nat → Nat} {o b0 L ce sl : Nat} {xs : Nat → Int32} {cI cL cO : ClassId} {i : Int32} {Qn : Int32 → Int32 → (Nat → Int32) → (Nat → Int32) → (Nat → Int32) → (Nat → Int32) → (Nat → Int64) → Int32 → (Nat → Int32) → (Nat → Int32) → Int32 → (Nat → Nat → Int64) → (Nat → Nat → Int64) → (Nat → Int64) → (Nat → Int32) → (Nat → Nat → Int64) → Int32 → (Nat → Int64) → (Nat → Int32) → Int32 → Int32 → Int32 → Int32 → (Nat → Int32) → (Nat → Int32) → (Nat → Int32) → (Nat → Int32) → (Nat → Int64) → Int32 → (Nat → Int32) → (Nat → Int32) → Int32 → Int32 → (Nat → Int32) → (Nat → Int64) → (Nat → Int64) → (Nat → Int64) → (Nat → Int64) → (Nat → Int64) → Prop} {sc : Int32} {sd : Int32} {src : (Nat → Int32)} {itm : (Nat → Int32)} {knd : (Nat → Int32)} {plc : (Nat → Int32)} {clk : (Nat → Int64)} {ec : Int32} {nf : (Nat → Int32)} {ns : (Nat → Int32)} {nc : Int32} {wt : (Nat → Nat → Int64)} {bd : (Nat → Nat → Int64)} {off : (Nat → Int64)} {row : (Nat → Int32)} {hw : (Nat → Nat → Int64)} {rl : Int32} {tm : (Nat → Int64)} {ord : (Nat → Int32)} {tc : Int32} {mth : Int32} {msc : Int32} {mec : Int32} {msrc : (Nat → Int32)} {mitm : (Nat → Int32)} {mknd : (Nat → Int32)} {mplc : (Nat → Int32)} {mclk : (Nat → Int64)} {mnc : Int32} {mnf : (Nat → Int32)} {mns : (Nat → Int32)} {msd : Int32} {mrl : Int32} {mrow : (Nat → Int32)} {mw : (Nat → Int64)} {mb : (Nat → Int64)} {mway : (Nat → Int64)} {moff : (Nat → Int64)} {out : Nat → Int64} (hC : XC p s m args c D vwCl (tysX cI cL cO) A 8 code TBL RL) (htr : l.stackTraces = false) (hN : XN s) (hX : va_X b0 L xs s s.heap) (hbl : b0 < s.heap.size) (hbA : ¬ A b0) (hce : ce + 8 ≤ 601024) (hsl : sl + 48 ≤ 7293034) (hexit : ∀ (sc : Int32) (sd : Int32) (src : (Nat → Int32)) (itm : (Nat → Int32)) (knd : (Nat → Int32)) (plc : (Nat → Int32)) (clk : (Nat → Int64)) (ec : Int32) (nf : (Nat → Int32)) (ns : (Nat → Int32)) (nc : Int32) (wt : (Nat → Nat → Int64)) (bd : (Nat → Nat → Int64)) (off : (Nat → Int64)) (row : (Nat → Int32)) (hw : (Nat → Nat → Int64)) (rl : Int32) (tm : (Nat → Int64)) (ord : (Nat → Int32)) (tc : Int32) (mth : Int32) (msc : Int32) (mec : Int32) (msrc : (Nat → Int32)) (mitm : (Nat → Int32)) (mknd : (Nat → Int32)) (mplc : (Nat → Int32)) (mclk : (Nat → Int64)) (mnc : Int32) (mnf : (Nat → Int32)) (mns : (Nat → Int32)) (msd : Int32) (mrl : Int32) (mrow : (Nat → Int32)) (mw : (Nat → Int64)) (mb : (Nat → Int64)) (mway : (Nat → Int64)) (moff : (Nat → Int64)) (out : Nat → Int64), Qn sc sd src itm knd plc clk ec nf ns nc wt bd off row hw rl tm ord tc mth msc mec msrc mitm mknd mplc mclk mnc mnf mns msd mrl mrow mw mb mway moff out → XW p l e room_1 s m args below meth c D vwCl A 8 Q (ce + 8) (sl + 48) ((wM am cI cL cO mth msc mec msrc mitm mknd mplc mclk mnc mnf mns msd mrl mrow mw mb mway moff) ++ ((wX ad cI cL cO sc sd src itm knd plc clk ec nf ns nc wt bd off row hw rl tm ord tc) ++ [(o, .inl (cL, 1, .inr (.inl out)))])) 873 [(0, .ref b0), (1, .ref (ad 0)), (2, .ref (am 0)), (3, .ref o), (4, .int i)] []) (h : LC_6 L xs i Qn sc sd src itm knd plc clk ec nf ns nc wt bd off row hw rl tm ord tc mth msc mec msrc mitm mknd mplc mclk mnc mnf mns msd mrl mrow mw mb mway moff out) : XW p l e room_1 s m args below meth c D vwCl A 8 Q ce sl ((wM am cI cL cO mth msc mec msrc mitm mknd mplc mclk mnc mnf mns msd mrl mrow mw mb mway moff) ++ ((wX ad cI cL cO sc sd src itm knd plc clk ec nf ns nc wt bd off row hw rl tm ord tc) ++ [(o, .inl (cL, 1, .inr (.inl out)))])) 447 [(0, .ref b0), (1, .ref (ad 0)), (2, .ref (am 0)), (3, .ref o), (4, .int i)] [] := by
  have hce2 : ce + 8 ≤ room_1.cells := hce
  have hsl2 : sl + 48 ≤ room_1.slots := hsl
  unfold LC_6 at h
  refine x_aload_n hC dL_law_447 rfl 1 rfl ?_
  refine x_aload_n hC dL_law_448 rfl 0 rfl ?_
  refine x_iload hC dL_law_449 4 rfl ?_
  refine x_iconst (v := 1) hC dL_law_451 (by decide) ?_
  refine x_iadd hC dL_law_452 ?_
  obtain ⟨hb_1, h⟩ := h
  refine x_sld hC hX hbl hbA hb_1 dL_law_453 ?_
  refine x_aload_n hC dL_law_454 rfl 0 rfl ?_
  refine x_iload hC dL_law_455 4 rfl ?_
  refine x_iconst (v := 2) hC dL_law_457 (by decide) ?_
  refine x_iadd hC dL_law_458 ?_
  obtain ⟨hb_2, h⟩ := h
  refine x_sld hC hX hbl hbA hb_2 dL_law_459 ?_
  refine x_aload_n hC dL_law_460 rfl 3 rfl ?_
  refine x_fSi (S := (Nat → Int64)) (wl := (wM am cI cL cO mth msc mec msrc mitm mknd mplc mclk mnc mnf mns msd mrl mrow mw mb mway moff)) (w1 := (wX ad cI cL cO sc sd src itm knd plc clk ec nf ns nc wt bd off row hw rl tm ord tc ++ [(o, .inl (cL, 1, .inr (.inl out)))])) (wr := []) (wf := fun u => (wX ad cI cL cO sc sd src itm knd plc clk ec nf ns nc wt bd off row hw rl tm ord tc) ++ [(o, .inl (cL, 1, .inr (.inl u)))]) (wf2 := fun u => (wM am cI cL cO mth msc mec msrc mitm mknd mplc mclk mnc mnf mns msd mrl mrow mw mb mway moff) ++ ((wX ad cI cL cO sc sd src itm knd plc clk ec nf ns nc wt bd off row hw rl tm ord tc) ++ [(o, .inl (cL, 1, .inr (.inl u)))])) hC [.ref (ad 0), .int (xs (i + 1).toNatClampNeg), .int (xs (i + 2).toNatClampNeg), .ref o] (by rw [List.append_nil]) (fun u => by rw [List.append_nil]) (fun sz => c_L_bound htr h sz) (by decide) (by decide) k_l120 k_l121 k_l122 (by decide) 4 rfl (by decide +kernel) ⟨Nat.le_trans (show ce + 3 ≤ ce + 8 by omega) hce2, Nat.le_trans (show sl + 18 ≤ sl + 48 by omega) hsl2⟩ (Nat.le_of_ble_eq_true rfl) k_l123 rfl dL_law_461 hN (fun _ h9 => h9) (fun r_3 u_4 h => ?_)
  refine x_istore (lv' := [(5, .int r_3), (0, .ref b0), (1, .ref (ad 0)), (2, .ref (am 0)), (3, .ref o), (4, .int i)]) hC dL_law_464 (by decide) rfl ?_
  refine x_aload_n hC dL_law_466 rfl 3 rfl ?_
  refine x_aload_n hC dL_law_467 rfl 1 rfl ?_
  refine x_iload hC dL_law_468 5 rfl ?_
  refine x_iconst (v := 1) hC dL_law_470 (by decide) ?_
  refine x_iadd hC dL_law_471 ?_
  obtain ⟨hb_5, h⟩ := h
  refine x_sld hC hX hbl hbA hb_5 dL_law_472 ?_
  refine x_aload_n hC dL_law_473 rfl 1 rfl ?_
  refine x_iload hC dL_law_474 5 rfl ?_
  refine x_iconst (v := 2) hC dL_law_476 (by decide) ?_
  refine x_iadd hC dL_law_477 ?_
  obtain ⟨hb_6, h⟩ := h
  refine x_sld hC hX hbl hbA hb_6 dL_law_478 ?_
  refine x_fVl (S := Int32) (wl := []) (w1 := (wM am cI cL cO mth msc mec msrc mitm mknd mplc mclk mnc mnf mns msd mrl mrow mw mb mway moff)) (wr := (wX ad cI cL cO sc sd src itm knd plc clk ec nf ns nc wt bd off row hw rl tm ord tc ++ [(o, .inl (cL, 1, .inr (.inl u_4)))])) (wf := fun u => (wM am cI cL cO u msc mec msrc mitm mknd mplc mclk mnc mnf mns msd mrl mrow mw mb mway moff)) (wf2 := fun u => (wM am cI cL cO u msc mec msrc mitm mknd mplc mclk mnc mnf mns msd mrl mrow mw mb mway moff) ++ ((wX ad cI cL cO sc sd src itm knd plc clk ec nf ns nc wt bd off row hw rl tm ord tc) ++ [(o, .inl (cL, 1, .inr (.inl u_4)))])) hC [.int (xs (i + 1).toNatClampNeg), .int (xs (i + 2).toNatClampNeg)] (by rfl) (fun u => rfl) (fun sz => c_M_bound h sz) (by decide) (by decide) k_l124 k_l125 k_l126 (by decide) 2 rfl (by decide +kernel) ⟨Nat.le_trans (show ce + 3 ≤ ce + 8 by omega) hce2, Nat.le_trans (show sl + 18 ≤ sl + 48 by omega) hsl2⟩ (Nat.le_of_ble_eq_true rfl) k_l127 k_l128 wM_0 rfl rfl dL_law_479 (fun _ h9 => h9) (fun r_7 u_8 h => ?_)
  refine x_lstore (lv' := [(6, .long r_7), (5, .int r_3), (0, .ref b0), (1, .ref (ad 0)), (2, .ref (am 0)), (3, .ref o), (4, .int i)]) hC dL_law_482 (by decide) rfl ?_
  refine x_aload_n hC dL_law_484 rfl 4 rfl ?_
  refine x_fVi (S := Unit) (wl := []) (w1 := (wM am cI cL cO u_8 msc mec msrc mitm mknd mplc mclk mnc mnf mns msd mrl mrow mw mb mway moff)) (wr := (wX ad cI cL cO sc sd src itm knd plc clk ec nf ns nc wt bd off row hw rl tm ord tc ++ [(o, .inl (cL, 1, .inr (.inl u_4)))])) (wf := fun u => (wM am cI cL cO u_8 msc mec msrc mitm mknd mplc mclk mnc mnf mns msd mrl mrow mw mb mway moff)) (wf2 := fun u => (wM am cI cL cO u_8 msc mec msrc mitm mknd mplc mclk mnc mnf mns msd mrl mrow mw mb mway moff) ++ ((wX ad cI cL cO sc sd src itm knd plc clk ec nf ns nc wt bd off row hw rl tm ord tc) ++ [(o, .inl (cL, 1, .inr (.inl u_4)))])) hC [] (by rfl) (fun u => rfl) (fun sz => c_M_thrown h sz) (by decide) (by decide) k_l67 k_l68 k_l69 (by decide) 0 rfl (by decide +kernel) ⟨Nat.le_trans (show ce + 3 ≤ ce + 8 by omega) hce2, Nat.le_trans (show sl + 18 ≤ sl + 48 by omega) hsl2⟩ (Nat.le_of_ble_eq_true rfl) k_l70 k_l71 wM_0 rfl rfl dL_law_485 (fun _ h9 => h9) (fun r_9 u_10 h => ?_)
  refine x_iload hC dL_law_488 1 rfl ?_
  refine x_icmp_eq (tgt := 495) hC dL_law_490 (by decide) (fun c_11 => ?_) (fun c_11 => ?_)
  · have h := h.1 c_11
    refine x_iload hC dL_law_495 1 rfl ?_
    refine x_if_ne (tgt := 511) hC dL_law_497 (by decide) (fun c_12 => ?_) (fun c_12 => ?_)
    · have h := h.1 c_12
      refine x_goto (tgt := 873) hC dL_law_511 (by decide) ?_
      refine x_lv (lv' := [(0, .ref b0), (1, .ref (ad 0)), (2, .ref (am 0)), (3, .ref o), (4, .int i)]) [2, 3, 4, 5, 6] rfl ?_
      refine x_widen (k := ce + 8) (n := sl + 48) (by show ce + 3 ≤ ce + 8; omega) (by show sl + 18 ≤ sl + 48; omega) ?_
      exact hexit sc sd src itm knd plc clk ec nf ns nc wt bd off row hw rl tm ord tc u_8 msc mec msrc mitm mknd mplc mclk mnc mnf mns msd mrl mrow mw mb mway moff u_4 h
    · have h := h.2 c_12
      refine x_aload_n hC dL_law_500 rfl 5 rfl ?_
      refine x_iconst (v := 0) hC dL_law_501 (by decide) ?_
      refine x_lald hC (13 + (69 + 0)) 1 (x_app_get wM_len (x_app_get wX_len rfl)) rfl x_in01 dL_law_502 ?_
      refine x_lload hC dL_law_503 0 rfl ?_
      refine x_lcmp_eq (tgt := 511) hC dL_law_505 dL_law_506 (by decide) (fun c_13 => ?_) (fun c_13 => ?_)
      · have h := h.1 c_13
        refine x_goto (tgt := 873) hC dL_law_511 (by decide) ?_
        refine x_lv (lv' := [(0, .ref b0), (1, .ref (ad 0)), (2, .ref (am 0)), (3, .ref o), (4, .int i)]) [2, 3, 4, 5, 6] rfl ?_
        refine x_widen (k := ce + 8) (n := sl + 48) (by show ce + 3 ≤ ce + 8; omega) (by show sl + 18 ≤ sl + 48; omega) ?_
        exact hexit sc sd src itm knd plc clk ec nf ns nc wt bd off row hw rl tm ord tc u_8 msc mec msrc mitm mknd mplc mclk mnc mnf mns msd mrl mrow mw mb mway moff u_4 h
      · have h := h.2 c_13
        refine x_iconst (v := 0) hC dL_law_509 (by decide) ?_
        exact h.elim
  · have h := h.2 c_11
    refine x_iconst (v := 0) hC dL_law_493 (by decide) ?_
    exact h.elim
def LC_7 (L : Nat) (xs : Nat → Int32) (i : Int32) (Qn : Int32 → Int32 → (Nat → Int32) → (Nat → Int32) → (Nat → Int32) → (Nat → Int32) → (Nat → Int64) → Int32 → (Nat → Int32) → (Nat → Int32) → Int32 → (Nat → Nat → Int64) → (Nat → Nat → Int64) → (Nat → Int64) → (Nat → Int32) → (Nat → Nat → Int64) → Int32 → (Nat → Int64) → (Nat → Int32) → Int32 → Int32 → Int32 → Int32 → (Nat → Int32) → (Nat → Int32) → (Nat → Int32) → (Nat → Int32) → (Nat → Int64) → Int32 → (Nat → Int32) → (Nat → Int32) → Int32 → Int32 → (Nat → Int32) → (Nat → Int64) → (Nat → Int64) → (Nat → Int64) → (Nat → Int64) → (Nat → Int64) → Prop) (sc : Int32) (sd : Int32) (src : (Nat → Int32)) (itm : (Nat → Int32)) (knd : (Nat → Int32)) (plc : (Nat → Int32)) (clk : (Nat → Int64)) (ec : Int32) (nf : (Nat → Int32)) (ns : (Nat → Int32)) (nc : Int32) (wt : (Nat → Nat → Int64)) (bd : (Nat → Nat → Int64)) (off : (Nat → Int64)) (row : (Nat → Int32)) (hw : (Nat → Nat → Int64)) (rl : Int32) (tm : (Nat → Int64)) (ord : (Nat → Int32)) (tc : Int32) (mth : Int32) (msc : Int32) (mec : Int32) (msrc : (Nat → Int32)) (mitm : (Nat → Int32)) (mknd : (Nat → Int32)) (mplc : (Nat → Int32)) (mclk : (Nat → Int64)) (mnc : Int32) (mnf : (Nat → Int32)) (mns : (Nat → Int32)) (msd : Int32) (mrl : Int32) (mrow : (Nat → Int32)) (mw : (Nat → Int64)) (mb : (Nat → Int64)) (mway : (Nat → Int64)) (moff : (Nat → Int64)) (out : Nat → Int64) : Prop := vp_in (i + 1) L ∧ L_corrected_wp sd ec tm out (xs (i + 1).toNatClampNeg) (fun (r_2 : Int32) (u_3 : (Nat → Int64)) => vp_in (i + 1) L ∧ M_corrected_wp mth mec msrc mclk msd moff (xs (i + 1).toNatClampNeg) (fun (r_5 : Int64) (u_6 : Int32) => M_thrown_wp u_6 (fun (r_7 : Int32) (u_8 : Unit) => ((r_7 = r_2 → ((¬ r_2 = 0 → Qn sc sd src itm knd plc clk ec nf ns nc wt bd off row hw rl tm ord tc u_6 msc mec msrc mitm mknd mplc mclk mnc mnf mns msd mrl mrow mw mb mway moff u_3) ∧ (r_2 = 0 → (((u_3 (0 : Int32).toNatClampNeg) = r_5 → Qn sc sd src itm knd plc clk ec nf ns nc wt bd off row hw rl tm ord tc u_6 msc mec msrc mitm mknd mplc mclk mnc mnf mns msd mrl mrow mw mb mway moff u_3) ∧ (¬ (u_3 (0 : Int32).toNatClampNeg) = r_5 → False))))) ∧ (¬ r_7 = r_2 → False)))))
set_option maxHeartbeats 4000000 in
set_option maxRecDepth 100000 in
theorem LC_7_ok {p : Program} {l : Launch} {e : Env} {s : State} {m : MethodId} {args : Array Value} {below : List Frame} {meth : Method} {c : Code} {Q : State → Prop} {D : va_G} {A : Nat → Prop} {ad am : Nat → Nat} {o b0 L ce sl : Nat} {xs : Nat → Int32} {cI cL cO : ClassId} {i : Int32} {Qn : Int32 → Int32 → (Nat → Int32) → (Nat → Int32) → (Nat → Int32) → (Nat → Int32) → (Nat → Int64) → Int32 → (Nat → Int32) → (Nat → Int32) → Int32 → (Nat → Nat → Int64) → (Nat → Nat → Int64) → (Nat → Int64) → (Nat → Int32) → (Nat → Nat → Int64) → Int32 → (Nat → Int64) → (Nat → Int32) → Int32 → Int32 → Int32 → Int32 → (Nat → Int32) → (Nat → Int32) → (Nat → Int32) → (Nat → Int32) → (Nat → Int64) → Int32 → (Nat → Int32) → (Nat → Int32) → Int32 → Int32 → (Nat → Int32) → (Nat → Int64) → (Nat → Int64) → (Nat → Int64) → (Nat → Int64) → (Nat → Int64) → Prop} {sc : Int32} {sd : Int32} {src : (Nat → Int32)} {itm : (Nat → Int32)} {knd : (Nat → Int32)} {plc : (Nat → Int32)} {clk : (Nat → Int64)} {ec : Int32} {nf : (Nat → Int32)} {ns : (Nat → Int32)} {nc : Int32} {wt : (Nat → Nat → Int64)} {bd : (Nat → Nat → Int64)} {off : (Nat → Int64)} {row : (Nat → Int32)} {hw : (Nat → Nat → Int64)} {rl : Int32} {tm : (Nat → Int64)} {ord : (Nat → Int32)} {tc : Int32} {mth : Int32} {msc : Int32} {mec : Int32} {msrc : (Nat → Int32)} {mitm : (Nat → Int32)} {mknd : (Nat → Int32)} {mplc : (Nat → Int32)} {mclk : (Nat → Int64)} {mnc : Int32} {mnf : (Nat → Int32)} {mns : (Nat → Int32)} {msd : Int32} {mrl : Int32} {mrow : (Nat → Int32)} {mw : (Nat → Int64)} {mb : (Nat → Int64)} {mway : (Nat → Int64)} {moff : (Nat → Int64)} {out : Nat → Int64} (hC : XC p s m args c D vwCl (tysX cI cL cO) A 8 code TBL RL) (htr : l.stackTraces = false) (hN : XN s) (hX : va_X b0 L xs s s.heap) (hbl : b0 < s.heap.size) (hbA : ¬ A b0) (hce : ce + 8 ≤ 601024) (hsl : sl + 48 ≤ 7293034) (hexit : ∀ (sc : Int32) (sd : Int32) (src : (Nat → Int32)) (itm : (Nat → Int32)) (knd : (Nat → Int32)) (plc : (Nat → Int32)) (clk : (Nat → Int64)) (ec : Int32) (nf : (Nat → Int32)) (ns : (Nat → Int32)) (nc : Int32) (wt : (Nat → Nat → Int64)) (bd : (Nat → Nat → Int64)) (off : (Nat → Int64)) (row : (Nat → Int32)) (hw : (Nat → Nat → Int64)) (rl : Int32) (tm : (Nat → Int64)) (ord : (Nat → Int32)) (tc : Int32) (mth : Int32) (msc : Int32) (mec : Int32) (msrc : (Nat → Int32)) (mitm : (Nat → Int32)) (mknd : (Nat → Int32)) (mplc : (Nat → Int32)) (mclk : (Nat → Int64)) (mnc : Int32) (mnf : (Nat → Int32)) (mns : (Nat → Int32)) (msd : Int32) (mrl : Int32) (mrow : (Nat → Int32)) (mw : (Nat → Int64)) (mb : (Nat → Int64)) (mway : (Nat → Int64)) (moff : (Nat → Int64)) (out : Nat → Int64), Qn sc sd src itm knd plc clk ec nf ns nc wt bd off row hw rl tm ord tc mth msc mec msrc mitm mknd mplc mclk mnc mnf mns msd mrl mrow mw mb mway moff out → XW p l e room_1 s m args below meth c D vwCl A 8 Q (ce + 8) (sl + 48) ((wM am cI cL cO mth msc mec msrc mitm mknd mplc mclk mnc mnf mns msd mrl mrow mw mb mway moff) ++ ((wX ad cI cL cO sc sd src itm knd plc clk ec nf ns nc wt bd off row hw rl tm ord tc) ++ [(o, .inl (cL, 1, .inr (.inl out)))])) 873 [(0, .ref b0), (1, .ref (ad 0)), (2, .ref (am 0)), (3, .ref o), (4, .int i)] []) (h : LC_7 L xs i Qn sc sd src itm knd plc clk ec nf ns nc wt bd off row hw rl tm ord tc mth msc mec msrc mitm mknd mplc mclk mnc mnf mns msd mrl mrow mw mb mway moff out) : XW p l e room_1 s m args below meth c D vwCl A 8 Q ce sl ((wM am cI cL cO mth msc mec msrc mitm mknd mplc mclk mnc mnf mns msd mrl mrow mw mb mway moff) ++ ((wX ad cI cL cO sc sd src itm knd plc clk ec nf ns nc wt bd off row hw rl tm ord tc) ++ [(o, .inl (cL, 1, .inr (.inl out)))])) 514 [(0, .ref b0), (1, .ref (ad 0)), (2, .ref (am 0)), (3, .ref o), (4, .int i)] [] := by
  have hce2 : ce + 8 ≤ room_1.cells := hce
  have hsl2 : sl + 48 ≤ room_1.slots := hsl
  unfold LC_7 at h
  refine x_aload_n hC dL_law_514 rfl 1 rfl ?_
  refine x_aload_n hC dL_law_515 rfl 0 rfl ?_
  refine x_iload hC dL_law_516 4 rfl ?_
  refine x_iconst (v := 1) hC dL_law_518 (by decide) ?_
  refine x_iadd hC dL_law_519 ?_
  obtain ⟨hb_1, h⟩ := h
  refine x_sld hC hX hbl hbA hb_1 dL_law_520 ?_
  refine x_aload_n hC dL_law_521 rfl 3 rfl ?_
  refine x_fSi (S := (Nat → Int64)) (wl := (wM am cI cL cO mth msc mec msrc mitm mknd mplc mclk mnc mnf mns msd mrl mrow mw mb mway moff)) (w1 := (wX ad cI cL cO sc sd src itm knd plc clk ec nf ns nc wt bd off row hw rl tm ord tc ++ [(o, .inl (cL, 1, .inr (.inl out)))])) (wr := []) (wf := fun u => (wX ad cI cL cO sc sd src itm knd plc clk ec nf ns nc wt bd off row hw rl tm ord tc) ++ [(o, .inl (cL, 1, .inr (.inl u)))]) (wf2 := fun u => (wM am cI cL cO mth msc mec msrc mitm mknd mplc mclk mnc mnf mns msd mrl mrow mw mb mway moff) ++ ((wX ad cI cL cO sc sd src itm knd plc clk ec nf ns nc wt bd off row hw rl tm ord tc) ++ [(o, .inl (cL, 1, .inr (.inl u)))])) hC [.ref (ad 0), .int (xs (i + 1).toNatClampNeg), .ref o] (by rw [List.append_nil]) (fun u => by rw [List.append_nil]) (fun sz => c_L_corrected htr h sz) (by decide) (by decide) k_l129 k_l130 k_l131 (by decide) 3 rfl (by decide +kernel) ⟨Nat.le_trans (show ce + 2 ≤ ce + 8 by omega) hce2, Nat.le_trans (show sl + 12 ≤ sl + 48 by omega) hsl2⟩ (Nat.le_of_ble_eq_true rfl) k_l132 rfl dL_law_522 hN (fun _ h9 => h9) (fun r_2 u_3 h => ?_)
  refine x_istore (lv' := [(5, .int r_2), (0, .ref b0), (1, .ref (ad 0)), (2, .ref (am 0)), (3, .ref o), (4, .int i)]) hC dL_law_525 (by decide) rfl ?_
  refine x_aload_n hC dL_law_527 rfl 3 rfl ?_
  refine x_aload_n hC dL_law_528 rfl 1 rfl ?_
  refine x_iload hC dL_law_529 5 rfl ?_
  refine x_iconst (v := 1) hC dL_law_531 (by decide) ?_
  refine x_iadd hC dL_law_532 ?_
  obtain ⟨hb_4, h⟩ := h
  refine x_sld hC hX hbl hbA hb_4 dL_law_533 ?_
  refine x_fVl (S := Int32) (wl := []) (w1 := (wM am cI cL cO mth msc mec msrc mitm mknd mplc mclk mnc mnf mns msd mrl mrow mw mb mway moff)) (wr := (wX ad cI cL cO sc sd src itm knd plc clk ec nf ns nc wt bd off row hw rl tm ord tc ++ [(o, .inl (cL, 1, .inr (.inl u_3)))])) (wf := fun u => (wM am cI cL cO u msc mec msrc mitm mknd mplc mclk mnc mnf mns msd mrl mrow mw mb mway moff)) (wf2 := fun u => (wM am cI cL cO u msc mec msrc mitm mknd mplc mclk mnc mnf mns msd mrl mrow mw mb mway moff) ++ ((wX ad cI cL cO sc sd src itm knd plc clk ec nf ns nc wt bd off row hw rl tm ord tc) ++ [(o, .inl (cL, 1, .inr (.inl u_3)))])) hC [.int (xs (i + 1).toNatClampNeg)] (by rfl) (fun u => rfl) (fun sz => c_M_corrected h sz) (by decide) (by decide) k_l133 k_l134 k_l135 (by decide) 1 rfl (by decide +kernel) ⟨Nat.le_trans (show ce + 2 ≤ ce + 8 by omega) hce2, Nat.le_trans (show sl + 12 ≤ sl + 48 by omega) hsl2⟩ (Nat.le_of_ble_eq_true rfl) k_l136 k_l137 wM_0 rfl rfl dL_law_534 (fun _ h9 => h9) (fun r_5 u_6 h => ?_)
  refine x_lstore (lv' := [(6, .long r_5), (5, .int r_2), (0, .ref b0), (1, .ref (ad 0)), (2, .ref (am 0)), (3, .ref o), (4, .int i)]) hC dL_law_537 (by decide) rfl ?_
  refine x_aload_n hC dL_law_539 rfl 4 rfl ?_
  refine x_fVi (S := Unit) (wl := []) (w1 := (wM am cI cL cO u_6 msc mec msrc mitm mknd mplc mclk mnc mnf mns msd mrl mrow mw mb mway moff)) (wr := (wX ad cI cL cO sc sd src itm knd plc clk ec nf ns nc wt bd off row hw rl tm ord tc ++ [(o, .inl (cL, 1, .inr (.inl u_3)))])) (wf := fun u => (wM am cI cL cO u_6 msc mec msrc mitm mknd mplc mclk mnc mnf mns msd mrl mrow mw mb mway moff)) (wf2 := fun u => (wM am cI cL cO u_6 msc mec msrc mitm mknd mplc mclk mnc mnf mns msd mrl mrow mw mb mway moff) ++ ((wX ad cI cL cO sc sd src itm knd plc clk ec nf ns nc wt bd off row hw rl tm ord tc) ++ [(o, .inl (cL, 1, .inr (.inl u_3)))])) hC [] (by rfl) (fun u => rfl) (fun sz => c_M_thrown h sz) (by decide) (by decide) k_l67 k_l68 k_l69 (by decide) 0 rfl (by decide +kernel) ⟨Nat.le_trans (show ce + 2 ≤ ce + 8 by omega) hce2, Nat.le_trans (show sl + 12 ≤ sl + 48 by omega) hsl2⟩ (Nat.le_of_ble_eq_true rfl) k_l70 k_l71 wM_0 rfl rfl dL_law_540 (fun _ h9 => h9) (fun r_7 u_8 h => ?_)
  refine x_iload hC dL_law_543 1 rfl ?_
  refine x_icmp_eq (tgt := 550) hC dL_law_545 (by decide) (fun c_9 => ?_) (fun c_9 => ?_)
  · have h := h.1 c_9
    refine x_iload hC dL_law_550 1 rfl ?_
    refine x_if_ne (tgt := 566) hC dL_law_552 (by decide) (fun c_10 => ?_) (fun c_10 => ?_)
    · have h := h.1 c_10
      refine x_goto (tgt := 873) hC dL_law_566 (by decide) ?_
      refine x_lv (lv' := [(0, .ref b0), (1, .ref (ad 0)), (2, .ref (am 0)), (3, .ref o), (4, .int i)]) [2, 3, 4, 5, 6] rfl ?_
      refine x_widen (k := ce + 8) (n := sl + 48) (by show ce + 2 ≤ ce + 8; omega) (by show sl + 12 ≤ sl + 48; omega) ?_
      exact hexit sc sd src itm knd plc clk ec nf ns nc wt bd off row hw rl tm ord tc u_6 msc mec msrc mitm mknd mplc mclk mnc mnf mns msd mrl mrow mw mb mway moff u_3 h
    · have h := h.2 c_10
      refine x_aload_n hC dL_law_555 rfl 5 rfl ?_
      refine x_iconst (v := 0) hC dL_law_556 (by decide) ?_
      refine x_lald hC (13 + (69 + 0)) 1 (x_app_get wM_len (x_app_get wX_len rfl)) rfl x_in01 dL_law_557 ?_
      refine x_lload hC dL_law_558 0 rfl ?_
      refine x_lcmp_eq (tgt := 566) hC dL_law_560 dL_law_561 (by decide) (fun c_11 => ?_) (fun c_11 => ?_)
      · have h := h.1 c_11
        refine x_goto (tgt := 873) hC dL_law_566 (by decide) ?_
        refine x_lv (lv' := [(0, .ref b0), (1, .ref (ad 0)), (2, .ref (am 0)), (3, .ref o), (4, .int i)]) [2, 3, 4, 5, 6] rfl ?_
        refine x_widen (k := ce + 8) (n := sl + 48) (by show ce + 2 ≤ ce + 8; omega) (by show sl + 12 ≤ sl + 48; omega) ?_
        exact hexit sc sd src itm knd plc clk ec nf ns nc wt bd off row hw rl tm ord tc u_6 msc mec msrc mitm mknd mplc mclk mnc mnf mns msd mrl mrow mw mb mway moff u_3 h
      · have h := h.2 c_11
        refine x_iconst (v := 0) hC dL_law_564 (by decide) ?_
        exact h.elim
  · have h := h.2 c_9
    refine x_iconst (v := 0) hC dL_law_548 (by decide) ?_
    exact h.elim
def LC_8 (L : Nat) (xs : Nat → Int32) (i : Int32) (Qn : Int32 → Int32 → (Nat → Int32) → (Nat → Int32) → (Nat → Int32) → (Nat → Int32) → (Nat → Int64) → Int32 → (Nat → Int32) → (Nat → Int32) → Int32 → (Nat → Nat → Int64) → (Nat → Nat → Int64) → (Nat → Int64) → (Nat → Int32) → (Nat → Nat → Int64) → Int32 → (Nat → Int64) → (Nat → Int32) → Int32 → Int32 → Int32 → Int32 → (Nat → Int32) → (Nat → Int32) → (Nat → Int32) → (Nat → Int32) → (Nat → Int64) → Int32 → (Nat → Int32) → (Nat → Int32) → Int32 → Int32 → (Nat → Int32) → (Nat → Int64) → (Nat → Int64) → (Nat → Int64) → (Nat → Int64) → (Nat → Int64) → Prop) (sc : Int32) (sd : Int32) (src : (Nat → Int32)) (itm : (Nat → Int32)) (knd : (Nat → Int32)) (plc : (Nat → Int32)) (clk : (Nat → Int64)) (ec : Int32) (nf : (Nat → Int32)) (ns : (Nat → Int32)) (nc : Int32) (wt : (Nat → Nat → Int64)) (bd : (Nat → Nat → Int64)) (off : (Nat → Int64)) (row : (Nat → Int32)) (hw : (Nat → Nat → Int64)) (rl : Int32) (tm : (Nat → Int64)) (ord : (Nat → Int32)) (tc : Int32) (mth : Int32) (msc : Int32) (mec : Int32) (msrc : (Nat → Int32)) (mitm : (Nat → Int32)) (mknd : (Nat → Int32)) (mplc : (Nat → Int32)) (mclk : (Nat → Int64)) (mnc : Int32) (mnf : (Nat → Int32)) (mns : (Nat → Int32)) (msd : Int32) (mrl : Int32) (mrow : (Nat → Int32)) (mw : (Nat → Int64)) (mb : (Nat → Int64)) (mway : (Nat → Int64)) (moff : (Nat → Int64)) (out : Nat → Int64) : Prop := vp_in (i + 1) L ∧ vp_in (i + 2) L ∧ L_ordered_wp sd itm ord tc out (xs (i + 1).toNatClampNeg) (xs (i + 2).toNatClampNeg) (fun (r_3 : Int32) (u_4 : (Nat → Int64)) => vp_in (i + 1) L ∧ vp_in (i + 2) L ∧ M_ordered_wp mth mec msrc mitm mplc mclk msd moff (xs (i + 1).toNatClampNeg) (xs (i + 2).toNatClampNeg) (fun (r_7 : Int32) (u_8 : Int32) => M_thrown_wp u_8 (fun (r_9 : Int32) (u_10 : Unit) => ((r_9 = r_3 → ((¬ r_3 = 0 → Qn sc sd src itm knd plc clk ec nf ns nc wt bd off row hw rl tm ord tc u_8 msc mec msrc mitm mknd mplc mclk mnc mnf mns msd mrl mrow mw mb mway moff u_4) ∧ (r_3 = 0 → (((u_4 (0 : Int32).toNatClampNeg) = r_7.toInt64 → Qn sc sd src itm knd plc clk ec nf ns nc wt bd off row hw rl tm ord tc u_8 msc mec msrc mitm mknd mplc mclk mnc mnf mns msd mrl mrow mw mb mway moff u_4) ∧ (¬ (u_4 (0 : Int32).toNatClampNeg) = r_7.toInt64 → False))))) ∧ (¬ r_9 = r_3 → False)))))
set_option maxHeartbeats 4000000 in
set_option maxRecDepth 100000 in
theorem LC_8_ok {p : Program} {l : Launch} {e : Env} {s : State} {m : MethodId} {args : Array Value} {below : List Frame} {meth : Method} {c : Code} {Q : State → Prop} {D : va_G} {A : Nat → Prop} {ad am : Nat → Nat} {o b0 L ce sl : Nat} {xs : Nat → Int32} {cI cL cO : ClassId} {i : Int32} {Qn : Int32 → Int32 → (Nat → Int32) → (Nat → Int32) → (Nat → Int32) → (Nat → Int32) → (Nat → Int64) → Int32 → (Nat → Int32) → (Nat → Int32) → Int32 → (Nat → Nat → Int64) → (Nat → Nat → Int64) → (Nat → Int64) → (Nat → Int32) → (Nat → Nat → Int64) → Int32 → (Nat → Int64) → (Nat → Int32) → Int32 → Int32 → Int32 → Int32 → (Nat → Int32) → (Nat → Int32) → (Nat → Int32) → (Nat → Int32) → (Nat → Int64) → Int32 → (Nat → Int32) → (Nat → Int32) → Int32 → Int32 → (Nat → Int32) → (Nat → Int64) → (Nat → Int64) → (Nat → Int64) → (Nat → Int64) → (Nat → Int64) → Prop} {sc : Int32} {sd : Int32} {src : (Nat → Int32)} {itm : (Nat → Int32)} {knd : (Nat → Int32)} {plc : (Nat → Int32)} {clk : (Nat → Int64)} {ec : Int32} {nf : (Nat → Int32)} {ns : (Nat → Int32)} {nc : Int32} {wt : (Nat → Nat → Int64)} {bd : (Nat → Nat → Int64)} {off : (Nat → Int64)} {row : (Nat → Int32)} {hw : (Nat → Nat → Int64)} {rl : Int32} {tm : (Nat → Int64)} {ord : (Nat → Int32)} {tc : Int32} {mth : Int32} {msc : Int32} {mec : Int32} {msrc : (Nat → Int32)} {mitm : (Nat → Int32)} {mknd : (Nat → Int32)} {mplc : (Nat → Int32)} {mclk : (Nat → Int64)} {mnc : Int32} {mnf : (Nat → Int32)} {mns : (Nat → Int32)} {msd : Int32} {mrl : Int32} {mrow : (Nat → Int32)} {mw : (Nat → Int64)} {mb : (Nat → Int64)} {mway : (Nat → Int64)} {moff : (Nat → Int64)} {out : Nat → Int64} (hC : XC p s m args c D vwCl (tysX cI cL cO) A 8 code TBL RL) (htr : l.stackTraces = false) (hN : XN s) (hX : va_X b0 L xs s s.heap) (hbl : b0 < s.heap.size) (hbA : ¬ A b0) (hce : ce + 8 ≤ 601024) (hsl : sl + 48 ≤ 7293034) (hexit : ∀ (sc : Int32) (sd : Int32) (src : (Nat → Int32)) (itm : (Nat → Int32)) (knd : (Nat → Int32)) (plc : (Nat → Int32)) (clk : (Nat → Int64)) (ec : Int32) (nf : (Nat → Int32)) (ns : (Nat → Int32)) (nc : Int32) (wt : (Nat → Nat → Int64)) (bd : (Nat → Nat → Int64)) (off : (Nat → Int64)) (row : (Nat → Int32)) (hw : (Nat → Nat → Int64)) (rl : Int32) (tm : (Nat → Int64)) (ord : (Nat → Int32)) (tc : Int32) (mth : Int32) (msc : Int32) (mec : Int32) (msrc : (Nat → Int32)) (mitm : (Nat → Int32)) (mknd : (Nat → Int32)) (mplc : (Nat → Int32)) (mclk : (Nat → Int64)) (mnc : Int32) (mnf : (Nat → Int32)) (mns : (Nat → Int32)) (msd : Int32) (mrl : Int32) (mrow : (Nat → Int32)) (mw : (Nat → Int64)) (mb : (Nat → Int64)) (mway : (Nat → Int64)) (moff : (Nat → Int64)) (out : Nat → Int64), Qn sc sd src itm knd plc clk ec nf ns nc wt bd off row hw rl tm ord tc mth msc mec msrc mitm mknd mplc mclk mnc mnf mns msd mrl mrow mw mb mway moff out → XW p l e room_1 s m args below meth c D vwCl A 8 Q (ce + 8) (sl + 48) ((wM am cI cL cO mth msc mec msrc mitm mknd mplc mclk mnc mnf mns msd mrl mrow mw mb mway moff) ++ ((wX ad cI cL cO sc sd src itm knd plc clk ec nf ns nc wt bd off row hw rl tm ord tc) ++ [(o, .inl (cL, 1, .inr (.inl out)))])) 873 [(0, .ref b0), (1, .ref (ad 0)), (2, .ref (am 0)), (3, .ref o), (4, .int i)] []) (h : LC_8 L xs i Qn sc sd src itm knd plc clk ec nf ns nc wt bd off row hw rl tm ord tc mth msc mec msrc mitm mknd mplc mclk mnc mnf mns msd mrl mrow mw mb mway moff out) : XW p l e room_1 s m args below meth c D vwCl A 8 Q ce sl ((wM am cI cL cO mth msc mec msrc mitm mknd mplc mclk mnc mnf mns msd mrl mrow mw mb mway moff) ++ ((wX ad cI cL cO sc sd src itm knd plc clk ec nf ns nc wt bd off row hw rl tm ord tc) ++ [(o, .inl (cL, 1, .inr (.inl out)))])) 569 [(0, .ref b0), (1, .ref (ad 0)), (2, .ref (am 0)), (3, .ref o), (4, .int i)] [] := by
  have hce2 : ce + 8 ≤ room_1.cells := hce
  have hsl2 : sl + 48 ≤ room_1.slots := hsl
  unfold LC_8 at h
  refine x_aload_n hC dL_law_569 rfl 1 rfl ?_
  refine x_aload_n hC dL_law_570 rfl 0 rfl ?_
  refine x_iload hC dL_law_571 4 rfl ?_
  refine x_iconst (v := 1) hC dL_law_573 (by decide) ?_
  refine x_iadd hC dL_law_574 ?_
  obtain ⟨hb_1, h⟩ := h
  refine x_sld hC hX hbl hbA hb_1 dL_law_575 ?_
  refine x_aload_n hC dL_law_576 rfl 0 rfl ?_
  refine x_iload hC dL_law_577 4 rfl ?_
  refine x_iconst (v := 2) hC dL_law_579 (by decide) ?_
  refine x_iadd hC dL_law_580 ?_
  obtain ⟨hb_2, h⟩ := h
  refine x_sld hC hX hbl hbA hb_2 dL_law_581 ?_
  refine x_aload_n hC dL_law_582 rfl 3 rfl ?_
  refine x_fSi (S := (Nat → Int64)) (wl := (wM am cI cL cO mth msc mec msrc mitm mknd mplc mclk mnc mnf mns msd mrl mrow mw mb mway moff)) (w1 := (wX ad cI cL cO sc sd src itm knd plc clk ec nf ns nc wt bd off row hw rl tm ord tc ++ [(o, .inl (cL, 1, .inr (.inl out)))])) (wr := []) (wf := fun u => (wX ad cI cL cO sc sd src itm knd plc clk ec nf ns nc wt bd off row hw rl tm ord tc) ++ [(o, .inl (cL, 1, .inr (.inl u)))]) (wf2 := fun u => (wM am cI cL cO mth msc mec msrc mitm mknd mplc mclk mnc mnf mns msd mrl mrow mw mb mway moff) ++ ((wX ad cI cL cO sc sd src itm knd plc clk ec nf ns nc wt bd off row hw rl tm ord tc) ++ [(o, .inl (cL, 1, .inr (.inl u)))])) hC [.ref (ad 0), .int (xs (i + 1).toNatClampNeg), .int (xs (i + 2).toNatClampNeg), .ref o] (by rw [List.append_nil]) (fun u => by rw [List.append_nil]) (fun sz => c_L_ordered htr h sz) (by decide) (by decide) k_l138 k_l139 k_l140 (by decide) 4 rfl (by decide +kernel) ⟨Nat.le_trans (show ce + 2 ≤ ce + 8 by omega) hce2, Nat.le_trans (show sl + 12 ≤ sl + 48 by omega) hsl2⟩ (Nat.le_of_ble_eq_true rfl) k_l141 rfl dL_law_583 hN (fun _ h9 => h9) (fun r_3 u_4 h => ?_)
  refine x_istore (lv' := [(5, .int r_3), (0, .ref b0), (1, .ref (ad 0)), (2, .ref (am 0)), (3, .ref o), (4, .int i)]) hC dL_law_586 (by decide) rfl ?_
  refine x_aload_n hC dL_law_588 rfl 3 rfl ?_
  refine x_aload_n hC dL_law_589 rfl 1 rfl ?_
  refine x_iload hC dL_law_590 5 rfl ?_
  refine x_iconst (v := 1) hC dL_law_592 (by decide) ?_
  refine x_iadd hC dL_law_593 ?_
  obtain ⟨hb_5, h⟩ := h
  refine x_sld hC hX hbl hbA hb_5 dL_law_594 ?_
  refine x_aload_n hC dL_law_595 rfl 1 rfl ?_
  refine x_iload hC dL_law_596 5 rfl ?_
  refine x_iconst (v := 2) hC dL_law_598 (by decide) ?_
  refine x_iadd hC dL_law_599 ?_
  obtain ⟨hb_6, h⟩ := h
  refine x_sld hC hX hbl hbA hb_6 dL_law_600 ?_
  refine x_fVi (S := Int32) (wl := []) (w1 := (wM am cI cL cO mth msc mec msrc mitm mknd mplc mclk mnc mnf mns msd mrl mrow mw mb mway moff)) (wr := (wX ad cI cL cO sc sd src itm knd plc clk ec nf ns nc wt bd off row hw rl tm ord tc ++ [(o, .inl (cL, 1, .inr (.inl u_4)))])) (wf := fun u => (wM am cI cL cO u msc mec msrc mitm mknd mplc mclk mnc mnf mns msd mrl mrow mw mb mway moff)) (wf2 := fun u => (wM am cI cL cO u msc mec msrc mitm mknd mplc mclk mnc mnf mns msd mrl mrow mw mb mway moff) ++ ((wX ad cI cL cO sc sd src itm knd plc clk ec nf ns nc wt bd off row hw rl tm ord tc) ++ [(o, .inl (cL, 1, .inr (.inl u_4)))])) hC [.int (xs (i + 1).toNatClampNeg), .int (xs (i + 2).toNatClampNeg)] (by rfl) (fun u => rfl) (fun sz => c_M_ordered h sz) (by decide) (by decide) k_l142 k_l143 k_l144 (by decide) 2 rfl (by decide +kernel) ⟨Nat.le_trans (show ce + 2 ≤ ce + 8 by omega) hce2, Nat.le_trans (show sl + 12 ≤ sl + 48 by omega) hsl2⟩ (Nat.le_of_ble_eq_true rfl) k_l145 k_l146 wM_0 rfl rfl dL_law_601 (fun _ h9 => h9) (fun r_7 u_8 h => ?_)
  refine x_istore (lv' := [(6, .int r_7), (5, .int r_3), (0, .ref b0), (1, .ref (ad 0)), (2, .ref (am 0)), (3, .ref o), (4, .int i)]) hC dL_law_604 (by decide) rfl ?_
  refine x_aload_n hC dL_law_606 rfl 4 rfl ?_
  refine x_fVi (S := Unit) (wl := []) (w1 := (wM am cI cL cO u_8 msc mec msrc mitm mknd mplc mclk mnc mnf mns msd mrl mrow mw mb mway moff)) (wr := (wX ad cI cL cO sc sd src itm knd plc clk ec nf ns nc wt bd off row hw rl tm ord tc ++ [(o, .inl (cL, 1, .inr (.inl u_4)))])) (wf := fun u => (wM am cI cL cO u_8 msc mec msrc mitm mknd mplc mclk mnc mnf mns msd mrl mrow mw mb mway moff)) (wf2 := fun u => (wM am cI cL cO u_8 msc mec msrc mitm mknd mplc mclk mnc mnf mns msd mrl mrow mw mb mway moff) ++ ((wX ad cI cL cO sc sd src itm knd plc clk ec nf ns nc wt bd off row hw rl tm ord tc) ++ [(o, .inl (cL, 1, .inr (.inl u_4)))])) hC [] (by rfl) (fun u => rfl) (fun sz => c_M_thrown h sz) (by decide) (by decide) k_l67 k_l68 k_l69 (by decide) 0 rfl (by decide +kernel) ⟨Nat.le_trans (show ce + 2 ≤ ce + 8 by omega) hce2, Nat.le_trans (show sl + 12 ≤ sl + 48 by omega) hsl2⟩ (Nat.le_of_ble_eq_true rfl) k_l70 k_l71 wM_0 rfl rfl dL_law_607 (fun _ h9 => h9) (fun r_9 u_10 h => ?_)
  refine x_iload hC dL_law_610 1 rfl ?_
  refine x_icmp_eq (tgt := 617) hC dL_law_612 (by decide) (fun c_11 => ?_) (fun c_11 => ?_)
  · have h := h.1 c_11
    refine x_iload hC dL_law_617 1 rfl ?_
    refine x_if_ne (tgt := 634) hC dL_law_619 (by decide) (fun c_12 => ?_) (fun c_12 => ?_)
    · have h := h.1 c_12
      refine x_goto (tgt := 873) hC dL_law_634 (by decide) ?_
      refine x_lv (lv' := [(0, .ref b0), (1, .ref (ad 0)), (2, .ref (am 0)), (3, .ref o), (4, .int i)]) [2, 3, 4, 5, 6] rfl ?_
      refine x_widen (k := ce + 8) (n := sl + 48) (by show ce + 2 ≤ ce + 8; omega) (by show sl + 12 ≤ sl + 48; omega) ?_
      exact hexit sc sd src itm knd plc clk ec nf ns nc wt bd off row hw rl tm ord tc u_8 msc mec msrc mitm mknd mplc mclk mnc mnf mns msd mrl mrow mw mb mway moff u_4 h
    · have h := h.2 c_12
      refine x_aload_n hC dL_law_622 rfl 5 rfl ?_
      refine x_iconst (v := 0) hC dL_law_623 (by decide) ?_
      refine x_lald hC (13 + (69 + 0)) 1 (x_app_get wM_len (x_app_get wX_len rfl)) rfl x_in01 dL_law_624 ?_
      refine x_iload hC dL_law_625 0 rfl ?_
      refine x_i2l (v := r_7.toInt64) hC dL_law_627 rfl ?_
      refine x_lcmp_eq (tgt := 634) hC dL_law_628 dL_law_629 (by decide) (fun c_13 => ?_) (fun c_13 => ?_)
      · have h := h.1 c_13
        refine x_goto (tgt := 873) hC dL_law_634 (by decide) ?_
        refine x_lv (lv' := [(0, .ref b0), (1, .ref (ad 0)), (2, .ref (am 0)), (3, .ref o), (4, .int i)]) [2, 3, 4, 5, 6] rfl ?_
        refine x_widen (k := ce + 8) (n := sl + 48) (by show ce + 2 ≤ ce + 8; omega) (by show sl + 12 ≤ sl + 48; omega) ?_
        exact hexit sc sd src itm knd plc clk ec nf ns nc wt bd off row hw rl tm ord tc u_8 msc mec msrc mitm mknd mplc mclk mnc mnf mns msd mrl mrow mw mb mway moff u_4 h
      · have h := h.2 c_13
        refine x_iconst (v := 0) hC dL_law_632 (by decide) ?_
        exact h.elim
  · have h := h.2 c_11
    refine x_iconst (v := 0) hC dL_law_615 (by decide) ?_
    exact h.elim
def LC_9 (L : Nat) (xs : Nat → Int32) (i : Int32) (Qn : Int32 → Int32 → (Nat → Int32) → (Nat → Int32) → (Nat → Int32) → (Nat → Int32) → (Nat → Int64) → Int32 → (Nat → Int32) → (Nat → Int32) → Int32 → (Nat → Nat → Int64) → (Nat → Nat → Int64) → (Nat → Int64) → (Nat → Int32) → (Nat → Nat → Int64) → Int32 → (Nat → Int64) → (Nat → Int32) → Int32 → Int32 → Int32 → Int32 → (Nat → Int32) → (Nat → Int32) → (Nat → Int32) → (Nat → Int32) → (Nat → Int64) → Int32 → (Nat → Int32) → (Nat → Int32) → Int32 → Int32 → (Nat → Int32) → (Nat → Int64) → (Nat → Int64) → (Nat → Int64) → (Nat → Int64) → (Nat → Int64) → Prop) (sc : Int32) (sd : Int32) (src : (Nat → Int32)) (itm : (Nat → Int32)) (knd : (Nat → Int32)) (plc : (Nat → Int32)) (clk : (Nat → Int64)) (ec : Int32) (nf : (Nat → Int32)) (ns : (Nat → Int32)) (nc : Int32) (wt : (Nat → Nat → Int64)) (bd : (Nat → Nat → Int64)) (off : (Nat → Int64)) (row : (Nat → Int32)) (hw : (Nat → Nat → Int64)) (rl : Int32) (tm : (Nat → Int64)) (ord : (Nat → Int32)) (tc : Int32) (mth : Int32) (msc : Int32) (mec : Int32) (msrc : (Nat → Int32)) (mitm : (Nat → Int32)) (mknd : (Nat → Int32)) (mplc : (Nat → Int32)) (mclk : (Nat → Int64)) (mnc : Int32) (mnf : (Nat → Int32)) (mns : (Nat → Int32)) (msd : Int32) (mrl : Int32) (mrow : (Nat → Int32)) (mw : (Nat → Int64)) (mb : (Nat → Int64)) (mway : (Nat → Int64)) (moff : (Nat → Int64)) (out : Nat → Int64) : Prop := vp_in (i + 1) L ∧ vp_in (i + 2) L ∧ L_implied_wp sd itm knd plc tm ord tc out (xs (i + 1).toNatClampNeg) (xs (i + 2).toNatClampNeg) (fun (r_3 : Int32) (u_4 : (Nat → Int64)) => vp_in (i + 1) L ∧ vp_in (i + 2) L ∧ M_implied_wp mth mec msrc mitm mknd mplc mclk msd moff (xs (i + 1).toNatClampNeg) (xs (i + 2).toNatClampNeg) (fun (r_7 : Int32) (u_8 : Int32) => M_thrown_wp u_8 (fun (r_9 : Int32) (u_10 : Unit) => ((r_9 = r_3 → ((¬ r_3 = 0 → Qn sc sd src itm knd plc clk ec nf ns nc wt bd off row hw rl tm ord tc u_8 msc mec msrc mitm mknd mplc mclk mnc mnf mns msd mrl mrow mw mb mway moff u_4) ∧ (r_3 = 0 → (((u_4 (0 : Int32).toNatClampNeg) = r_7.toInt64 → Qn sc sd src itm knd plc clk ec nf ns nc wt bd off row hw rl tm ord tc u_8 msc mec msrc mitm mknd mplc mclk mnc mnf mns msd mrl mrow mw mb mway moff u_4) ∧ (¬ (u_4 (0 : Int32).toNatClampNeg) = r_7.toInt64 → False))))) ∧ (¬ r_9 = r_3 → False)))))
set_option maxHeartbeats 4000000 in
set_option maxRecDepth 100000 in
theorem LC_9_ok {p : Program} {l : Launch} {e : Env} {s : State} {m : MethodId} {args : Array Value} {below : List Frame} {meth : Method} {c : Code} {Q : State → Prop} {D : va_G} {A : Nat → Prop} {ad am : Nat → Nat} {o b0 L ce sl : Nat} {xs : Nat → Int32} {cI cL cO : ClassId} {i : Int32} {Qn : Int32 → Int32 → (Nat → Int32) → (Nat → Int32) → (Nat → Int32) → (Nat → Int32) → (Nat → Int64) → Int32 → (Nat → Int32) → (Nat → Int32) → Int32 → (Nat → Nat → Int64) → (Nat → Nat → Int64) → (Nat → Int64) → (Nat → Int32) → (Nat → Nat → Int64) → Int32 → (Nat → Int64) → (Nat → Int32) → Int32 → Int32 → Int32 → Int32 → (Nat → Int32) → (Nat → Int32) → (Nat → Int32) → (Nat → Int32) → (Nat → Int64) → Int32 → (Nat → Int32) → (Nat → Int32) → Int32 → Int32 → (Nat → Int32) → (Nat → Int64) → (Nat → Int64) → (Nat → Int64) → (Nat → Int64) → (Nat → Int64) → Prop} {sc : Int32} {sd : Int32} {src : (Nat → Int32)} {itm : (Nat → Int32)} {knd : (Nat → Int32)} {plc : (Nat → Int32)} {clk : (Nat → Int64)} {ec : Int32} {nf : (Nat → Int32)} {ns : (Nat → Int32)} {nc : Int32} {wt : (Nat → Nat → Int64)} {bd : (Nat → Nat → Int64)} {off : (Nat → Int64)} {row : (Nat → Int32)} {hw : (Nat → Nat → Int64)} {rl : Int32} {tm : (Nat → Int64)} {ord : (Nat → Int32)} {tc : Int32} {mth : Int32} {msc : Int32} {mec : Int32} {msrc : (Nat → Int32)} {mitm : (Nat → Int32)} {mknd : (Nat → Int32)} {mplc : (Nat → Int32)} {mclk : (Nat → Int64)} {mnc : Int32} {mnf : (Nat → Int32)} {mns : (Nat → Int32)} {msd : Int32} {mrl : Int32} {mrow : (Nat → Int32)} {mw : (Nat → Int64)} {mb : (Nat → Int64)} {mway : (Nat → Int64)} {moff : (Nat → Int64)} {out : Nat → Int64} (hC : XC p s m args c D vwCl (tysX cI cL cO) A 8 code TBL RL) (htr : l.stackTraces = false) (hN : XN s) (hX : va_X b0 L xs s s.heap) (hbl : b0 < s.heap.size) (hbA : ¬ A b0) (hce : ce + 8 ≤ 601024) (hsl : sl + 48 ≤ 7293034) (hexit : ∀ (sc : Int32) (sd : Int32) (src : (Nat → Int32)) (itm : (Nat → Int32)) (knd : (Nat → Int32)) (plc : (Nat → Int32)) (clk : (Nat → Int64)) (ec : Int32) (nf : (Nat → Int32)) (ns : (Nat → Int32)) (nc : Int32) (wt : (Nat → Nat → Int64)) (bd : (Nat → Nat → Int64)) (off : (Nat → Int64)) (row : (Nat → Int32)) (hw : (Nat → Nat → Int64)) (rl : Int32) (tm : (Nat → Int64)) (ord : (Nat → Int32)) (tc : Int32) (mth : Int32) (msc : Int32) (mec : Int32) (msrc : (Nat → Int32)) (mitm : (Nat → Int32)) (mknd : (Nat → Int32)) (mplc : (Nat → Int32)) (mclk : (Nat → Int64)) (mnc : Int32) (mnf : (Nat → Int32)) (mns : (Nat → Int32)) (msd : Int32) (mrl : Int32) (mrow : (Nat → Int32)) (mw : (Nat → Int64)) (mb : (Nat → Int64)) (mway : (Nat → Int64)) (moff : (Nat → Int64)) (out : Nat → Int64), Qn sc sd src itm knd plc clk ec nf ns nc wt bd off row hw rl tm ord tc mth msc mec msrc mitm mknd mplc mclk mnc mnf mns msd mrl mrow mw mb mway moff out → XW p l e room_1 s m args below meth c D vwCl A 8 Q (ce + 8) (sl + 48) ((wM am cI cL cO mth msc mec msrc mitm mknd mplc mclk mnc mnf mns msd mrl mrow mw mb mway moff) ++ ((wX ad cI cL cO sc sd src itm knd plc clk ec nf ns nc wt bd off row hw rl tm ord tc) ++ [(o, .inl (cL, 1, .inr (.inl out)))])) 873 [(0, .ref b0), (1, .ref (ad 0)), (2, .ref (am 0)), (3, .ref o), (4, .int i)] []) (h : LC_9 L xs i Qn sc sd src itm knd plc clk ec nf ns nc wt bd off row hw rl tm ord tc mth msc mec msrc mitm mknd mplc mclk mnc mnf mns msd mrl mrow mw mb mway moff out) : XW p l e room_1 s m args below meth c D vwCl A 8 Q ce sl ((wM am cI cL cO mth msc mec msrc mitm mknd mplc mclk mnc mnf mns msd mrl mrow mw mb mway moff) ++ ((wX ad cI cL cO sc sd src itm knd plc clk ec nf ns nc wt bd off row hw rl tm ord tc) ++ [(o, .inl (cL, 1, .inr (.inl out)))])) 637 [(0, .ref b0), (1, .ref (ad 0)), (2, .ref (am 0)), (3, .ref o), (4, .int i)] [] := by
  have hce2 : ce + 8 ≤ room_1.cells := hce
  have hsl2 : sl + 48 ≤ room_1.slots := hsl
  unfold LC_9 at h
  refine x_aload_n hC dL_law_637 rfl 1 rfl ?_
  refine x_aload_n hC dL_law_638 rfl 0 rfl ?_
  refine x_iload hC dL_law_639 4 rfl ?_
  refine x_iconst (v := 1) hC dL_law_641 (by decide) ?_
  refine x_iadd hC dL_law_642 ?_
  obtain ⟨hb_1, h⟩ := h
  refine x_sld hC hX hbl hbA hb_1 dL_law_643 ?_
  refine x_aload_n hC dL_law_644 rfl 0 rfl ?_
  refine x_iload hC dL_law_645 4 rfl ?_
  refine x_iconst (v := 2) hC dL_law_647 (by decide) ?_
  refine x_iadd hC dL_law_648 ?_
  obtain ⟨hb_2, h⟩ := h
  refine x_sld hC hX hbl hbA hb_2 dL_law_649 ?_
  refine x_aload_n hC dL_law_650 rfl 3 rfl ?_
  refine x_fSi (S := (Nat → Int64)) (wl := (wM am cI cL cO mth msc mec msrc mitm mknd mplc mclk mnc mnf mns msd mrl mrow mw mb mway moff)) (w1 := (wX ad cI cL cO sc sd src itm knd plc clk ec nf ns nc wt bd off row hw rl tm ord tc ++ [(o, .inl (cL, 1, .inr (.inl out)))])) (wr := []) (wf := fun u => (wX ad cI cL cO sc sd src itm knd plc clk ec nf ns nc wt bd off row hw rl tm ord tc) ++ [(o, .inl (cL, 1, .inr (.inl u)))]) (wf2 := fun u => (wM am cI cL cO mth msc mec msrc mitm mknd mplc mclk mnc mnf mns msd mrl mrow mw mb mway moff) ++ ((wX ad cI cL cO sc sd src itm knd plc clk ec nf ns nc wt bd off row hw rl tm ord tc) ++ [(o, .inl (cL, 1, .inr (.inl u)))])) hC [.ref (ad 0), .int (xs (i + 1).toNatClampNeg), .int (xs (i + 2).toNatClampNeg), .ref o] (by rw [List.append_nil]) (fun u => by rw [List.append_nil]) (fun sz => c_L_implied htr h sz) (by decide) (by decide) k_l147 k_l148 k_l149 (by decide) 4 rfl (by decide +kernel) ⟨Nat.le_trans (show ce + 1 ≤ ce + 8 by omega) hce2, Nat.le_trans (show sl + 6 ≤ sl + 48 by omega) hsl2⟩ (Nat.le_of_ble_eq_true rfl) k_l150 rfl dL_law_651 hN (fun _ h9 => h9) (fun r_3 u_4 h => ?_)
  refine x_istore (lv' := [(5, .int r_3), (0, .ref b0), (1, .ref (ad 0)), (2, .ref (am 0)), (3, .ref o), (4, .int i)]) hC dL_law_654 (by decide) rfl ?_
  refine x_aload_n hC dL_law_656 rfl 3 rfl ?_
  refine x_aload_n hC dL_law_657 rfl 1 rfl ?_
  refine x_iload hC dL_law_658 5 rfl ?_
  refine x_iconst (v := 1) hC dL_law_660 (by decide) ?_
  refine x_iadd hC dL_law_661 ?_
  obtain ⟨hb_5, h⟩ := h
  refine x_sld hC hX hbl hbA hb_5 dL_law_662 ?_
  refine x_aload_n hC dL_law_663 rfl 1 rfl ?_
  refine x_iload hC dL_law_664 5 rfl ?_
  refine x_iconst (v := 2) hC dL_law_666 (by decide) ?_
  refine x_iadd hC dL_law_667 ?_
  obtain ⟨hb_6, h⟩ := h
  refine x_sld hC hX hbl hbA hb_6 dL_law_668 ?_
  refine x_fVi (S := Int32) (wl := []) (w1 := (wM am cI cL cO mth msc mec msrc mitm mknd mplc mclk mnc mnf mns msd mrl mrow mw mb mway moff)) (wr := (wX ad cI cL cO sc sd src itm knd plc clk ec nf ns nc wt bd off row hw rl tm ord tc ++ [(o, .inl (cL, 1, .inr (.inl u_4)))])) (wf := fun u => (wM am cI cL cO u msc mec msrc mitm mknd mplc mclk mnc mnf mns msd mrl mrow mw mb mway moff)) (wf2 := fun u => (wM am cI cL cO u msc mec msrc mitm mknd mplc mclk mnc mnf mns msd mrl mrow mw mb mway moff) ++ ((wX ad cI cL cO sc sd src itm knd plc clk ec nf ns nc wt bd off row hw rl tm ord tc) ++ [(o, .inl (cL, 1, .inr (.inl u_4)))])) hC [.int (xs (i + 1).toNatClampNeg), .int (xs (i + 2).toNatClampNeg)] (by rfl) (fun u => rfl) (fun sz => c_M_implied h sz) (by decide) (by decide) k_l151 k_l152 k_l153 (by decide) 2 rfl (by decide +kernel) ⟨Nat.le_trans (show ce + 1 ≤ ce + 8 by omega) hce2, Nat.le_trans (show sl + 6 ≤ sl + 48 by omega) hsl2⟩ (Nat.le_of_ble_eq_true rfl) k_l154 k_l155 wM_0 rfl rfl dL_law_669 (fun _ h9 => h9) (fun r_7 u_8 h => ?_)
  refine x_istore (lv' := [(6, .int r_7), (5, .int r_3), (0, .ref b0), (1, .ref (ad 0)), (2, .ref (am 0)), (3, .ref o), (4, .int i)]) hC dL_law_672 (by decide) rfl ?_
  refine x_aload_n hC dL_law_674 rfl 4 rfl ?_
  refine x_fVi (S := Unit) (wl := []) (w1 := (wM am cI cL cO u_8 msc mec msrc mitm mknd mplc mclk mnc mnf mns msd mrl mrow mw mb mway moff)) (wr := (wX ad cI cL cO sc sd src itm knd plc clk ec nf ns nc wt bd off row hw rl tm ord tc ++ [(o, .inl (cL, 1, .inr (.inl u_4)))])) (wf := fun u => (wM am cI cL cO u_8 msc mec msrc mitm mknd mplc mclk mnc mnf mns msd mrl mrow mw mb mway moff)) (wf2 := fun u => (wM am cI cL cO u_8 msc mec msrc mitm mknd mplc mclk mnc mnf mns msd mrl mrow mw mb mway moff) ++ ((wX ad cI cL cO sc sd src itm knd plc clk ec nf ns nc wt bd off row hw rl tm ord tc) ++ [(o, .inl (cL, 1, .inr (.inl u_4)))])) hC [] (by rfl) (fun u => rfl) (fun sz => c_M_thrown h sz) (by decide) (by decide) k_l67 k_l68 k_l69 (by decide) 0 rfl (by decide +kernel) ⟨Nat.le_trans (show ce + 1 ≤ ce + 8 by omega) hce2, Nat.le_trans (show sl + 6 ≤ sl + 48 by omega) hsl2⟩ (Nat.le_of_ble_eq_true rfl) k_l70 k_l71 wM_0 rfl rfl dL_law_675 (fun _ h9 => h9) (fun r_9 u_10 h => ?_)
  refine x_iload hC dL_law_678 1 rfl ?_
  refine x_icmp_eq (tgt := 685) hC dL_law_680 (by decide) (fun c_11 => ?_) (fun c_11 => ?_)
  · have h := h.1 c_11
    refine x_iload hC dL_law_685 1 rfl ?_
    refine x_if_ne (tgt := 702) hC dL_law_687 (by decide) (fun c_12 => ?_) (fun c_12 => ?_)
    · have h := h.1 c_12
      refine x_goto (tgt := 873) hC dL_law_702 (by decide) ?_
      refine x_lv (lv' := [(0, .ref b0), (1, .ref (ad 0)), (2, .ref (am 0)), (3, .ref o), (4, .int i)]) [2, 3, 4, 5, 6] rfl ?_
      refine x_widen (k := ce + 8) (n := sl + 48) (by show ce + 1 ≤ ce + 8; omega) (by show sl + 6 ≤ sl + 48; omega) ?_
      exact hexit sc sd src itm knd plc clk ec nf ns nc wt bd off row hw rl tm ord tc u_8 msc mec msrc mitm mknd mplc mclk mnc mnf mns msd mrl mrow mw mb mway moff u_4 h
    · have h := h.2 c_12
      refine x_aload_n hC dL_law_690 rfl 5 rfl ?_
      refine x_iconst (v := 0) hC dL_law_691 (by decide) ?_
      refine x_lald hC (13 + (69 + 0)) 1 (x_app_get wM_len (x_app_get wX_len rfl)) rfl x_in01 dL_law_692 ?_
      refine x_iload hC dL_law_693 0 rfl ?_
      refine x_i2l (v := r_7.toInt64) hC dL_law_695 rfl ?_
      refine x_lcmp_eq (tgt := 702) hC dL_law_696 dL_law_697 (by decide) (fun c_13 => ?_) (fun c_13 => ?_)
      · have h := h.1 c_13
        refine x_goto (tgt := 873) hC dL_law_702 (by decide) ?_
        refine x_lv (lv' := [(0, .ref b0), (1, .ref (ad 0)), (2, .ref (am 0)), (3, .ref o), (4, .int i)]) [2, 3, 4, 5, 6] rfl ?_
        refine x_widen (k := ce + 8) (n := sl + 48) (by show ce + 1 ≤ ce + 8; omega) (by show sl + 6 ≤ sl + 48; omega) ?_
        exact hexit sc sd src itm knd plc clk ec nf ns nc wt bd off row hw rl tm ord tc u_8 msc mec msrc mitm mknd mplc mclk mnc mnf mns msd mrl mrow mw mb mway moff u_4 h
      · have h := h.2 c_13
        refine x_iconst (v := 0) hC dL_law_700 (by decide) ?_
        exact h.elim
  · have h := h.2 c_11
    refine x_iconst (v := 0) hC dL_law_683 (by decide) ?_
    exact h.elim
def LC_10 (L : Nat) (xs : Nat → Int32) (i : Int32) (Qn : Int32 → Int32 → (Nat → Int32) → (Nat → Int32) → (Nat → Int32) → (Nat → Int32) → (Nat → Int64) → Int32 → (Nat → Int32) → (Nat → Int32) → Int32 → (Nat → Nat → Int64) → (Nat → Nat → Int64) → (Nat → Int64) → (Nat → Int32) → (Nat → Nat → Int64) → Int32 → (Nat → Int64) → (Nat → Int32) → Int32 → Int32 → Int32 → Int32 → (Nat → Int32) → (Nat → Int32) → (Nat → Int32) → (Nat → Int32) → (Nat → Int64) → Int32 → (Nat → Int32) → (Nat → Int32) → Int32 → Int32 → (Nat → Int32) → (Nat → Int64) → (Nat → Int64) → (Nat → Int64) → (Nat → Int64) → (Nat → Int64) → Prop) (sc : Int32) (sd : Int32) (src : (Nat → Int32)) (itm : (Nat → Int32)) (knd : (Nat → Int32)) (plc : (Nat → Int32)) (clk : (Nat → Int64)) (ec : Int32) (nf : (Nat → Int32)) (ns : (Nat → Int32)) (nc : Int32) (wt : (Nat → Nat → Int64)) (bd : (Nat → Nat → Int64)) (off : (Nat → Int64)) (row : (Nat → Int32)) (hw : (Nat → Nat → Int64)) (rl : Int32) (tm : (Nat → Int64)) (ord : (Nat → Int32)) (tc : Int32) (mth : Int32) (msc : Int32) (mec : Int32) (msrc : (Nat → Int32)) (mitm : (Nat → Int32)) (mknd : (Nat → Int32)) (mplc : (Nat → Int32)) (mclk : (Nat → Int64)) (mnc : Int32) (mnf : (Nat → Int32)) (mns : (Nat → Int32)) (msd : Int32) (mrl : Int32) (mrow : (Nat → Int32)) (mw : (Nat → Int64)) (mb : (Nat → Int64)) (mway : (Nat → Int64)) (moff : (Nat → Int64)) (out : Nat → Int64) : Prop := vp_in (i + 1) L ∧ vp_in (i + 2) L ∧ vp_in (i + 3) L ∧ L_correct_wp sd src itm knd plc clk ec out (xs (i + 1).toNatClampNeg) ((((xs (i + 2).toNatClampNeg).toInt64) <<< ((32 : Int32).toInt64 &&& 63)) ||| (((xs (i + 3).toNatClampNeg).toInt64) &&& 4294967295)) (fun (r_4 : Int32) (u_5 : (Int32 × (Nat → Int64) × (Nat → Int64))) => vp_in (i + 1) L ∧ vp_in (i + 2) L ∧ vp_in (i + 3) L ∧ M_correct_wp mth mec msrc mitm mknd mplc mclk msd (xs (i + 1).toNatClampNeg) ((((xs (i + 2).toNatClampNeg).toInt64) <<< ((32 : Int32).toInt64 &&& 63)) ||| (((xs (i + 3).toNatClampNeg).toInt64) &&& 4294967295)) (fun (r_9 : Int32) (u_10 : (Int32 × (Nat → Int64) × Int32)) => M_thrown_wp u_10.1 (fun (r_11 : Int32) (u_12 : Unit) => ((r_11 = r_4 → ((¬ r_4 = 0 → Qn sc u_5.1 src itm knd plc u_5.2.1 ec nf ns nc wt bd off row hw rl tm ord tc u_10.1 msc mec msrc mitm mknd mplc u_10.2.1 mnc mnf mns u_10.2.2 mrl mrow mw mb mway moff u_5.2.2) ∧ (r_4 = 0 → (((u_5.2.2 (0 : Int32).toNatClampNeg) = r_9.toInt64 → Qn sc u_5.1 src itm knd plc u_5.2.1 ec nf ns nc wt bd off row hw rl tm ord tc u_10.1 msc mec msrc mitm mknd mplc u_10.2.1 mnc mnf mns u_10.2.2 mrl mrow mw mb mway moff u_5.2.2) ∧ (¬ (u_5.2.2 (0 : Int32).toNatClampNeg) = r_9.toInt64 → False))))) ∧ (¬ r_11 = r_4 → False)))))
set_option maxHeartbeats 4000000 in
set_option maxRecDepth 100000 in
theorem LC_10_ok {p : Program} {l : Launch} {e : Env} {s : State} {m : MethodId} {args : Array Value} {below : List Frame} {meth : Method} {c : Code} {Q : State → Prop} {D : va_G} {A : Nat → Prop} {ad am : Nat → Nat} {o b0 L ce sl : Nat} {xs : Nat → Int32} {cI cL cO : ClassId} {i : Int32} {Qn : Int32 → Int32 → (Nat → Int32) → (Nat → Int32) → (Nat → Int32) → (Nat → Int32) → (Nat → Int64) → Int32 → (Nat → Int32) → (Nat → Int32) → Int32 → (Nat → Nat → Int64) → (Nat → Nat → Int64) → (Nat → Int64) → (Nat → Int32) → (Nat → Nat → Int64) → Int32 → (Nat → Int64) → (Nat → Int32) → Int32 → Int32 → Int32 → Int32 → (Nat → Int32) → (Nat → Int32) → (Nat → Int32) → (Nat → Int32) → (Nat → Int64) → Int32 → (Nat → Int32) → (Nat → Int32) → Int32 → Int32 → (Nat → Int32) → (Nat → Int64) → (Nat → Int64) → (Nat → Int64) → (Nat → Int64) → (Nat → Int64) → Prop} {sc : Int32} {sd : Int32} {src : (Nat → Int32)} {itm : (Nat → Int32)} {knd : (Nat → Int32)} {plc : (Nat → Int32)} {clk : (Nat → Int64)} {ec : Int32} {nf : (Nat → Int32)} {ns : (Nat → Int32)} {nc : Int32} {wt : (Nat → Nat → Int64)} {bd : (Nat → Nat → Int64)} {off : (Nat → Int64)} {row : (Nat → Int32)} {hw : (Nat → Nat → Int64)} {rl : Int32} {tm : (Nat → Int64)} {ord : (Nat → Int32)} {tc : Int32} {mth : Int32} {msc : Int32} {mec : Int32} {msrc : (Nat → Int32)} {mitm : (Nat → Int32)} {mknd : (Nat → Int32)} {mplc : (Nat → Int32)} {mclk : (Nat → Int64)} {mnc : Int32} {mnf : (Nat → Int32)} {mns : (Nat → Int32)} {msd : Int32} {mrl : Int32} {mrow : (Nat → Int32)} {mw : (Nat → Int64)} {mb : (Nat → Int64)} {mway : (Nat → Int64)} {moff : (Nat → Int64)} {out : Nat → Int64} (hC : XC p s m args c D vwCl (tysX cI cL cO) A 8 code TBL RL) (htr : l.stackTraces = false) (hN : XN s) (hX : va_X b0 L xs s s.heap) (hbl : b0 < s.heap.size) (hbA : ¬ A b0) (hce : ce + 8 ≤ 601024) (hsl : sl + 48 ≤ 7293034) (hexit : ∀ (sc : Int32) (sd : Int32) (src : (Nat → Int32)) (itm : (Nat → Int32)) (knd : (Nat → Int32)) (plc : (Nat → Int32)) (clk : (Nat → Int64)) (ec : Int32) (nf : (Nat → Int32)) (ns : (Nat → Int32)) (nc : Int32) (wt : (Nat → Nat → Int64)) (bd : (Nat → Nat → Int64)) (off : (Nat → Int64)) (row : (Nat → Int32)) (hw : (Nat → Nat → Int64)) (rl : Int32) (tm : (Nat → Int64)) (ord : (Nat → Int32)) (tc : Int32) (mth : Int32) (msc : Int32) (mec : Int32) (msrc : (Nat → Int32)) (mitm : (Nat → Int32)) (mknd : (Nat → Int32)) (mplc : (Nat → Int32)) (mclk : (Nat → Int64)) (mnc : Int32) (mnf : (Nat → Int32)) (mns : (Nat → Int32)) (msd : Int32) (mrl : Int32) (mrow : (Nat → Int32)) (mw : (Nat → Int64)) (mb : (Nat → Int64)) (mway : (Nat → Int64)) (moff : (Nat → Int64)) (out : Nat → Int64), Qn sc sd src itm knd plc clk ec nf ns nc wt bd off row hw rl tm ord tc mth msc mec msrc mitm mknd mplc mclk mnc mnf mns msd mrl mrow mw mb mway moff out → XW p l e room_1 s m args below meth c D vwCl A 8 Q (ce + 8) (sl + 48) ((wM am cI cL cO mth msc mec msrc mitm mknd mplc mclk mnc mnf mns msd mrl mrow mw mb mway moff) ++ ((wX ad cI cL cO sc sd src itm knd plc clk ec nf ns nc wt bd off row hw rl tm ord tc) ++ [(o, .inl (cL, 1, .inr (.inl out)))])) 873 [(0, .ref b0), (1, .ref (ad 0)), (2, .ref (am 0)), (3, .ref o), (4, .int i)] []) (h : LC_10 L xs i Qn sc sd src itm knd plc clk ec nf ns nc wt bd off row hw rl tm ord tc mth msc mec msrc mitm mknd mplc mclk mnc mnf mns msd mrl mrow mw mb mway moff out) : XW p l e room_1 s m args below meth c D vwCl A 8 Q ce sl ((wM am cI cL cO mth msc mec msrc mitm mknd mplc mclk mnc mnf mns msd mrl mrow mw mb mway moff) ++ ((wX ad cI cL cO sc sd src itm knd plc clk ec nf ns nc wt bd off row hw rl tm ord tc) ++ [(o, .inl (cL, 1, .inr (.inl out)))])) 705 [(0, .ref b0), (1, .ref (ad 0)), (2, .ref (am 0)), (3, .ref o), (4, .int i)] [] := by
  have hce2 : ce + 8 ≤ room_1.cells := hce
  have hsl2 : sl + 48 ≤ room_1.slots := hsl
  unfold LC_10 at h
  refine x_aload_n hC dL_law_705 rfl 1 rfl ?_
  refine x_aload_n hC dL_law_706 rfl 0 rfl ?_
  refine x_iload hC dL_law_707 4 rfl ?_
  refine x_iconst (v := 1) hC dL_law_709 (by decide) ?_
  refine x_iadd hC dL_law_710 ?_
  obtain ⟨hb_1, h⟩ := h
  refine x_sld hC hX hbl hbA hb_1 dL_law_711 ?_
  refine x_aload_n hC dL_law_712 rfl 0 rfl ?_
  refine x_iload hC dL_law_713 4 rfl ?_
  refine x_iconst (v := 2) hC dL_law_715 (by decide) ?_
  refine x_iadd hC dL_law_716 ?_
  obtain ⟨hb_2, h⟩ := h
  refine x_sld hC hX hbl hbA hb_2 dL_law_717 ?_
  refine x_i2l (v := (xs (i + 2).toNatClampNeg).toInt64) hC dL_law_718 rfl ?_
  refine x_bipush (v := 32) hC dL_law_719 (by decide) ?_
  refine x_lshl (v := ((xs (i + 2).toNatClampNeg).toInt64) <<< ((32 : Int32).toInt64 &&& 63)) hC dL_law_721 rfl ?_
  refine x_aload_n hC dL_law_722 rfl 0 rfl ?_
  refine x_iload hC dL_law_723 4 rfl ?_
  refine x_iconst (v := 3) hC dL_law_725 (by decide) ?_
  refine x_iadd hC dL_law_726 ?_
  obtain ⟨hb_3, h⟩ := h
  refine x_sld hC hX hbl hbA hb_3 dL_law_727 ?_
  refine x_i2l (v := (xs (i + 3).toNatClampNeg).toInt64) hC dL_law_728 rfl ?_
  refine x_ldc2 (v := 4294967295) hC k_l72 dL_law_729 ?_
  refine x_land hC dL_law_732 ?_
  refine x_lor hC dL_law_733 ?_
  refine x_aload_n hC dL_law_734 rfl 3 rfl ?_
  refine x_fSi (S := (Int32 × (Nat → Int64) × (Nat → Int64))) (wl := (wM am cI cL cO mth msc mec msrc mitm mknd mplc mclk mnc mnf mns msd mrl mrow mw mb mway moff)) (w1 := (wX ad cI cL cO sc sd src itm knd plc clk ec nf ns nc wt bd off row hw rl tm ord tc ++ [(o, .inl (cL, 1, .inr (.inl out)))])) (wr := []) (wf := fun u => (wX ad cI cL cO sc u.1 src itm knd plc u.2.1 ec nf ns nc wt bd off row hw rl tm ord tc) ++ [(o, .inl (cL, 1, .inr (.inl u.2.2)))]) (wf2 := fun u => (wM am cI cL cO mth msc mec msrc mitm mknd mplc mclk mnc mnf mns msd mrl mrow mw mb mway moff) ++ ((wX ad cI cL cO sc u.1 src itm knd plc u.2.1 ec nf ns nc wt bd off row hw rl tm ord tc) ++ [(o, .inl (cL, 1, .inr (.inl u.2.2)))])) hC [.ref (ad 0), .int (xs (i + 1).toNatClampNeg), .long ((((xs (i + 2).toNatClampNeg).toInt64) <<< ((32 : Int32).toInt64 &&& 63)) ||| (((xs (i + 3).toNatClampNeg).toInt64) &&& 4294967295)), .ref o] (by rw [List.append_nil]) (fun u => by rw [List.append_nil]) (fun sz => c_L_correct htr h sz) (by decide) (by decide) k_l156 k_l157 k_l158 (by decide) 4 rfl (by decide +kernel) ⟨Nat.le_trans (show ce + 2 ≤ ce + 8 by omega) hce2, Nat.le_trans (show sl + 12 ≤ sl + 48 by omega) hsl2⟩ (Nat.le_of_ble_eq_true rfl) k_l159 rfl dL_law_735 hN (fun _ h9 => h9) (fun r_4 u_5 h => ?_)
  refine x_istore (lv' := [(5, .int r_4), (0, .ref b0), (1, .ref (ad 0)), (2, .ref (am 0)), (3, .ref o), (4, .int i)]) hC dL_law_738 (by decide) rfl ?_
  refine x_aload_n hC dL_law_740 rfl 3 rfl ?_
  refine x_aload_n hC dL_law_741 rfl 1 rfl ?_
  refine x_iload hC dL_law_742 5 rfl ?_
  refine x_iconst (v := 1) hC dL_law_744 (by decide) ?_
  refine x_iadd hC dL_law_745 ?_
  obtain ⟨hb_6, h⟩ := h
  refine x_sld hC hX hbl hbA hb_6 dL_law_746 ?_
  refine x_aload_n hC dL_law_747 rfl 1 rfl ?_
  refine x_iload hC dL_law_748 5 rfl ?_
  refine x_iconst (v := 2) hC dL_law_750 (by decide) ?_
  refine x_iadd hC dL_law_751 ?_
  obtain ⟨hb_7, h⟩ := h
  refine x_sld hC hX hbl hbA hb_7 dL_law_752 ?_
  refine x_i2l (v := (xs (i + 2).toNatClampNeg).toInt64) hC dL_law_753 rfl ?_
  refine x_bipush (v := 32) hC dL_law_754 (by decide) ?_
  refine x_lshl (v := ((xs (i + 2).toNatClampNeg).toInt64) <<< ((32 : Int32).toInt64 &&& 63)) hC dL_law_756 rfl ?_
  refine x_aload_n hC dL_law_757 rfl 1 rfl ?_
  refine x_iload hC dL_law_758 5 rfl ?_
  refine x_iconst (v := 3) hC dL_law_760 (by decide) ?_
  refine x_iadd hC dL_law_761 ?_
  obtain ⟨hb_8, h⟩ := h
  refine x_sld hC hX hbl hbA hb_8 dL_law_762 ?_
  refine x_i2l (v := (xs (i + 3).toNatClampNeg).toInt64) hC dL_law_763 rfl ?_
  refine x_ldc2 (v := 4294967295) hC k_l72 dL_law_764 ?_
  refine x_land hC dL_law_767 ?_
  refine x_lor hC dL_law_768 ?_
  refine x_fVi (S := (Int32 × (Nat → Int64) × Int32)) (wl := []) (w1 := (wM am cI cL cO mth msc mec msrc mitm mknd mplc mclk mnc mnf mns msd mrl mrow mw mb mway moff)) (wr := (wX ad cI cL cO sc u_5.1 src itm knd plc u_5.2.1 ec nf ns nc wt bd off row hw rl tm ord tc ++ [(o, .inl (cL, 1, .inr (.inl u_5.2.2)))])) (wf := fun u => (wM am cI cL cO u.1 msc mec msrc mitm mknd mplc u.2.1 mnc mnf mns u.2.2 mrl mrow mw mb mway moff)) (wf2 := fun u => (wM am cI cL cO u.1 msc mec msrc mitm mknd mplc u.2.1 mnc mnf mns u.2.2 mrl mrow mw mb mway moff) ++ ((wX ad cI cL cO sc u_5.1 src itm knd plc u_5.2.1 ec nf ns nc wt bd off row hw rl tm ord tc) ++ [(o, .inl (cL, 1, .inr (.inl u_5.2.2)))])) hC [.int (xs (i + 1).toNatClampNeg), .long ((((xs (i + 2).toNatClampNeg).toInt64) <<< ((32 : Int32).toInt64 &&& 63)) ||| (((xs (i + 3).toNatClampNeg).toInt64) &&& 4294967295))] (by rfl) (fun u => rfl) (fun sz => c_M_correct h sz) (by decide) (by decide) k_l160 k_l161 k_l162 (by decide) 2 rfl (by decide +kernel) ⟨Nat.le_trans (show ce + 2 ≤ ce + 8 by omega) hce2, Nat.le_trans (show sl + 12 ≤ sl + 48 by omega) hsl2⟩ (Nat.le_of_ble_eq_true rfl) k_l163 k_l164 wM_0 rfl rfl dL_law_769 (fun _ h9 => h9) (fun r_9 u_10 h => ?_)
  refine x_istore (lv' := [(6, .int r_9), (5, .int r_4), (0, .ref b0), (1, .ref (ad 0)), (2, .ref (am 0)), (3, .ref o), (4, .int i)]) hC dL_law_772 (by decide) rfl ?_
  refine x_aload_n hC dL_law_774 rfl 4 rfl ?_
  refine x_fVi (S := Unit) (wl := []) (w1 := (wM am cI cL cO u_10.1 msc mec msrc mitm mknd mplc u_10.2.1 mnc mnf mns u_10.2.2 mrl mrow mw mb mway moff)) (wr := (wX ad cI cL cO sc u_5.1 src itm knd plc u_5.2.1 ec nf ns nc wt bd off row hw rl tm ord tc ++ [(o, .inl (cL, 1, .inr (.inl u_5.2.2)))])) (wf := fun u => (wM am cI cL cO u_10.1 msc mec msrc mitm mknd mplc u_10.2.1 mnc mnf mns u_10.2.2 mrl mrow mw mb mway moff)) (wf2 := fun u => (wM am cI cL cO u_10.1 msc mec msrc mitm mknd mplc u_10.2.1 mnc mnf mns u_10.2.2 mrl mrow mw mb mway moff) ++ ((wX ad cI cL cO sc u_5.1 src itm knd plc u_5.2.1 ec nf ns nc wt bd off row hw rl tm ord tc) ++ [(o, .inl (cL, 1, .inr (.inl u_5.2.2)))])) hC [] (by rfl) (fun u => rfl) (fun sz => c_M_thrown h sz) (by decide) (by decide) k_l67 k_l68 k_l69 (by decide) 0 rfl (by decide +kernel) ⟨Nat.le_trans (show ce + 2 ≤ ce + 8 by omega) hce2, Nat.le_trans (show sl + 12 ≤ sl + 48 by omega) hsl2⟩ (Nat.le_of_ble_eq_true rfl) k_l70 k_l71 wM_0 rfl rfl dL_law_775 (fun _ h9 => h9) (fun r_11 u_12 h => ?_)
  refine x_iload hC dL_law_778 1 rfl ?_
  refine x_icmp_eq (tgt := 785) hC dL_law_780 (by decide) (fun c_13 => ?_) (fun c_13 => ?_)
  · have h := h.1 c_13
    refine x_iload hC dL_law_785 1 rfl ?_
    refine x_if_ne (tgt := 802) hC dL_law_787 (by decide) (fun c_14 => ?_) (fun c_14 => ?_)
    · have h := h.1 c_14
      refine x_goto (tgt := 873) hC dL_law_802 (by decide) ?_
      refine x_lv (lv' := [(0, .ref b0), (1, .ref (ad 0)), (2, .ref (am 0)), (3, .ref o), (4, .int i)]) [2, 3, 4, 5, 6] rfl ?_
      refine x_widen (k := ce + 8) (n := sl + 48) (by show ce + 2 ≤ ce + 8; omega) (by show sl + 12 ≤ sl + 48; omega) ?_
      exact hexit sc u_5.1 src itm knd plc u_5.2.1 ec nf ns nc wt bd off row hw rl tm ord tc u_10.1 msc mec msrc mitm mknd mplc u_10.2.1 mnc mnf mns u_10.2.2 mrl mrow mw mb mway moff u_5.2.2 h
    · have h := h.2 c_14
      refine x_aload_n hC dL_law_790 rfl 5 rfl ?_
      refine x_iconst (v := 0) hC dL_law_791 (by decide) ?_
      refine x_lald hC (13 + (69 + 0)) 1 (x_app_get wM_len (x_app_get wX_len rfl)) rfl x_in01 dL_law_792 ?_
      refine x_iload hC dL_law_793 0 rfl ?_
      refine x_i2l (v := r_9.toInt64) hC dL_law_795 rfl ?_
      refine x_lcmp_eq (tgt := 802) hC dL_law_796 dL_law_797 (by decide) (fun c_15 => ?_) (fun c_15 => ?_)
      · have h := h.1 c_15
        refine x_goto (tgt := 873) hC dL_law_802 (by decide) ?_
        refine x_lv (lv' := [(0, .ref b0), (1, .ref (ad 0)), (2, .ref (am 0)), (3, .ref o), (4, .int i)]) [2, 3, 4, 5, 6] rfl ?_
        refine x_widen (k := ce + 8) (n := sl + 48) (by show ce + 2 ≤ ce + 8; omega) (by show sl + 12 ≤ sl + 48; omega) ?_
        exact hexit sc u_5.1 src itm knd plc u_5.2.1 ec nf ns nc wt bd off row hw rl tm ord tc u_10.1 msc mec msrc mitm mknd mplc u_10.2.1 mnc mnf mns u_10.2.2 mrl mrow mw mb mway moff u_5.2.2 h
      · have h := h.2 c_15
        refine x_iconst (v := 0) hC dL_law_800 (by decide) ?_
        exact h.elim
  · have h := h.2 c_13
    refine x_iconst (v := 0) hC dL_law_783 (by decide) ?_
    exact h.elim
def LC_11 (L : Nat) (xs : Nat → Int32) (i : Int32) (Qn : Int32 → Int32 → (Nat → Int32) → (Nat → Int32) → (Nat → Int32) → (Nat → Int32) → (Nat → Int64) → Int32 → (Nat → Int32) → (Nat → Int32) → Int32 → (Nat → Nat → Int64) → (Nat → Nat → Int64) → (Nat → Int64) → (Nat → Int32) → (Nat → Nat → Int64) → Int32 → (Nat → Int64) → (Nat → Int32) → Int32 → Int32 → Int32 → Int32 → (Nat → Int32) → (Nat → Int32) → (Nat → Int32) → (Nat → Int32) → (Nat → Int64) → Int32 → (Nat → Int32) → (Nat → Int32) → Int32 → Int32 → (Nat → Int32) → (Nat → Int64) → (Nat → Int64) → (Nat → Int64) → (Nat → Int64) → (Nat → Int64) → Prop) (sc : Int32) (sd : Int32) (src : (Nat → Int32)) (itm : (Nat → Int32)) (knd : (Nat → Int32)) (plc : (Nat → Int32)) (clk : (Nat → Int64)) (ec : Int32) (nf : (Nat → Int32)) (ns : (Nat → Int32)) (nc : Int32) (wt : (Nat → Nat → Int64)) (bd : (Nat → Nat → Int64)) (off : (Nat → Int64)) (row : (Nat → Int32)) (hw : (Nat → Nat → Int64)) (rl : Int32) (tm : (Nat → Int64)) (ord : (Nat → Int32)) (tc : Int32) (mth : Int32) (msc : Int32) (mec : Int32) (msrc : (Nat → Int32)) (mitm : (Nat → Int32)) (mknd : (Nat → Int32)) (mplc : (Nat → Int32)) (mclk : (Nat → Int64)) (mnc : Int32) (mnf : (Nat → Int32)) (mns : (Nat → Int32)) (msd : Int32) (mrl : Int32) (mrow : (Nat → Int32)) (mw : (Nat → Int64)) (mb : (Nat → Int64)) (mway : (Nat → Int64)) (moff : (Nat → Int64)) (out : Nat → Int64) : Prop := vp_in (i + 1) L ∧ vp_in (i + 2) L ∧ L_ask_wp src itm knd plc ec out (xs (i + 1).toNatClampNeg) (xs (i + 2).toNatClampNeg) (fun (r_3 : Int32) (u_4 : (Nat → Int64)) => vp_in (i + 1) L ∧ vp_in (i + 2) L ∧ M_ask_wp mth mec msrc mitm mknd mplc (xs (i + 1).toNatClampNeg) (xs (i + 2).toNatClampNeg) (fun (r_7 : Int32) (u_8 : Int32) => M_thrown_wp u_8 (fun (r_9 : Int32) (u_10 : Unit) => ((r_9 = r_3 → ((¬ r_3 = 0 → Qn sc sd src itm knd plc clk ec nf ns nc wt bd off row hw rl tm ord tc u_8 msc mec msrc mitm mknd mplc mclk mnc mnf mns msd mrl mrow mw mb mway moff u_4) ∧ (r_3 = 0 → (((u_4 (0 : Int32).toNatClampNeg) = r_7.toInt64 → Qn sc sd src itm knd plc clk ec nf ns nc wt bd off row hw rl tm ord tc u_8 msc mec msrc mitm mknd mplc mclk mnc mnf mns msd mrl mrow mw mb mway moff u_4) ∧ (¬ (u_4 (0 : Int32).toNatClampNeg) = r_7.toInt64 → False))))) ∧ (¬ r_9 = r_3 → False)))))
set_option maxHeartbeats 4000000 in
set_option maxRecDepth 100000 in
theorem LC_11_ok {p : Program} {l : Launch} {e : Env} {s : State} {m : MethodId} {args : Array Value} {below : List Frame} {meth : Method} {c : Code} {Q : State → Prop} {D : va_G} {A : Nat → Prop} {ad am : Nat → Nat} {o b0 L ce sl : Nat} {xs : Nat → Int32} {cI cL cO : ClassId} {i : Int32} {Qn : Int32 → Int32 → (Nat → Int32) → (Nat → Int32) → (Nat → Int32) → (Nat → Int32) → (Nat → Int64) → Int32 → (Nat → Int32) → (Nat → Int32) → Int32 → (Nat → Nat → Int64) → (Nat → Nat → Int64) → (Nat → Int64) → (Nat → Int32) → (Nat → Nat → Int64) → Int32 → (Nat → Int64) → (Nat → Int32) → Int32 → Int32 → Int32 → Int32 → (Nat → Int32) → (Nat → Int32) → (Nat → Int32) → (Nat → Int32) → (Nat → Int64) → Int32 → (Nat → Int32) → (Nat → Int32) → Int32 → Int32 → (Nat → Int32) → (Nat → Int64) → (Nat → Int64) → (Nat → Int64) → (Nat → Int64) → (Nat → Int64) → Prop} {sc : Int32} {sd : Int32} {src : (Nat → Int32)} {itm : (Nat → Int32)} {knd : (Nat → Int32)} {plc : (Nat → Int32)} {clk : (Nat → Int64)} {ec : Int32} {nf : (Nat → Int32)} {ns : (Nat → Int32)} {nc : Int32} {wt : (Nat → Nat → Int64)} {bd : (Nat → Nat → Int64)} {off : (Nat → Int64)} {row : (Nat → Int32)} {hw : (Nat → Nat → Int64)} {rl : Int32} {tm : (Nat → Int64)} {ord : (Nat → Int32)} {tc : Int32} {mth : Int32} {msc : Int32} {mec : Int32} {msrc : (Nat → Int32)} {mitm : (Nat → Int32)} {mknd : (Nat → Int32)} {mplc : (Nat → Int32)} {mclk : (Nat → Int64)} {mnc : Int32} {mnf : (Nat → Int32)} {mns : (Nat → Int32)} {msd : Int32} {mrl : Int32} {mrow : (Nat → Int32)} {mw : (Nat → Int64)} {mb : (Nat → Int64)} {mway : (Nat → Int64)} {moff : (Nat → Int64)} {out : Nat → Int64} (hC : XC p s m args c D vwCl (tysX cI cL cO) A 8 code TBL RL) (htr : l.stackTraces = false) (hN : XN s) (hX : va_X b0 L xs s s.heap) (hbl : b0 < s.heap.size) (hbA : ¬ A b0) (hce : ce + 8 ≤ 601024) (hsl : sl + 48 ≤ 7293034) (hexit : ∀ (sc : Int32) (sd : Int32) (src : (Nat → Int32)) (itm : (Nat → Int32)) (knd : (Nat → Int32)) (plc : (Nat → Int32)) (clk : (Nat → Int64)) (ec : Int32) (nf : (Nat → Int32)) (ns : (Nat → Int32)) (nc : Int32) (wt : (Nat → Nat → Int64)) (bd : (Nat → Nat → Int64)) (off : (Nat → Int64)) (row : (Nat → Int32)) (hw : (Nat → Nat → Int64)) (rl : Int32) (tm : (Nat → Int64)) (ord : (Nat → Int32)) (tc : Int32) (mth : Int32) (msc : Int32) (mec : Int32) (msrc : (Nat → Int32)) (mitm : (Nat → Int32)) (mknd : (Nat → Int32)) (mplc : (Nat → Int32)) (mclk : (Nat → Int64)) (mnc : Int32) (mnf : (Nat → Int32)) (mns : (Nat → Int32)) (msd : Int32) (mrl : Int32) (mrow : (Nat → Int32)) (mw : (Nat → Int64)) (mb : (Nat → Int64)) (mway : (Nat → Int64)) (moff : (Nat → Int64)) (out : Nat → Int64), Qn sc sd src itm knd plc clk ec nf ns nc wt bd off row hw rl tm ord tc mth msc mec msrc mitm mknd mplc mclk mnc mnf mns msd mrl mrow mw mb mway moff out → XW p l e room_1 s m args below meth c D vwCl A 8 Q (ce + 8) (sl + 48) ((wM am cI cL cO mth msc mec msrc mitm mknd mplc mclk mnc mnf mns msd mrl mrow mw mb mway moff) ++ ((wX ad cI cL cO sc sd src itm knd plc clk ec nf ns nc wt bd off row hw rl tm ord tc) ++ [(o, .inl (cL, 1, .inr (.inl out)))])) 873 [(0, .ref b0), (1, .ref (ad 0)), (2, .ref (am 0)), (3, .ref o), (4, .int i)] []) (h : LC_11 L xs i Qn sc sd src itm knd plc clk ec nf ns nc wt bd off row hw rl tm ord tc mth msc mec msrc mitm mknd mplc mclk mnc mnf mns msd mrl mrow mw mb mway moff out) : XW p l e room_1 s m args below meth c D vwCl A 8 Q ce sl ((wM am cI cL cO mth msc mec msrc mitm mknd mplc mclk mnc mnf mns msd mrl mrow mw mb mway moff) ++ ((wX ad cI cL cO sc sd src itm knd plc clk ec nf ns nc wt bd off row hw rl tm ord tc) ++ [(o, .inl (cL, 1, .inr (.inl out)))])) 805 [(0, .ref b0), (1, .ref (ad 0)), (2, .ref (am 0)), (3, .ref o), (4, .int i)] [] := by
  have hce2 : ce + 8 ≤ room_1.cells := hce
  have hsl2 : sl + 48 ≤ room_1.slots := hsl
  unfold LC_11 at h
  refine x_aload_n hC dL_law_805 rfl 1 rfl ?_
  refine x_aload_n hC dL_law_806 rfl 0 rfl ?_
  refine x_iload hC dL_law_807 4 rfl ?_
  refine x_iconst (v := 1) hC dL_law_809 (by decide) ?_
  refine x_iadd hC dL_law_810 ?_
  obtain ⟨hb_1, h⟩ := h
  refine x_sld hC hX hbl hbA hb_1 dL_law_811 ?_
  refine x_aload_n hC dL_law_812 rfl 0 rfl ?_
  refine x_iload hC dL_law_813 4 rfl ?_
  refine x_iconst (v := 2) hC dL_law_815 (by decide) ?_
  refine x_iadd hC dL_law_816 ?_
  obtain ⟨hb_2, h⟩ := h
  refine x_sld hC hX hbl hbA hb_2 dL_law_817 ?_
  refine x_aload_n hC dL_law_818 rfl 3 rfl ?_
  refine x_fSi (S := (Nat → Int64)) (wl := (wM am cI cL cO mth msc mec msrc mitm mknd mplc mclk mnc mnf mns msd mrl mrow mw mb mway moff)) (w1 := (wX ad cI cL cO sc sd src itm knd plc clk ec nf ns nc wt bd off row hw rl tm ord tc ++ [(o, .inl (cL, 1, .inr (.inl out)))])) (wr := []) (wf := fun u => (wX ad cI cL cO sc sd src itm knd plc clk ec nf ns nc wt bd off row hw rl tm ord tc) ++ [(o, .inl (cL, 1, .inr (.inl u)))]) (wf2 := fun u => (wM am cI cL cO mth msc mec msrc mitm mknd mplc mclk mnc mnf mns msd mrl mrow mw mb mway moff) ++ ((wX ad cI cL cO sc sd src itm knd plc clk ec nf ns nc wt bd off row hw rl tm ord tc) ++ [(o, .inl (cL, 1, .inr (.inl u)))])) hC [.ref (ad 0), .int (xs (i + 1).toNatClampNeg), .int (xs (i + 2).toNatClampNeg), .ref o] (by rw [List.append_nil]) (fun u => by rw [List.append_nil]) (fun sz => c_L_ask htr h sz) (by decide) (by decide) k_l165 k_l166 k_l167 (by decide) 4 rfl (by decide +kernel) ⟨Nat.le_trans (show ce + 1 ≤ ce + 8 by omega) hce2, Nat.le_trans (show sl + 6 ≤ sl + 48 by omega) hsl2⟩ (Nat.le_of_ble_eq_true rfl) k_l168 rfl dL_law_819 hN (fun _ h9 => h9) (fun r_3 u_4 h => ?_)
  refine x_istore (lv' := [(5, .int r_3), (0, .ref b0), (1, .ref (ad 0)), (2, .ref (am 0)), (3, .ref o), (4, .int i)]) hC dL_law_822 (by decide) rfl ?_
  refine x_aload_n hC dL_law_824 rfl 3 rfl ?_
  refine x_aload_n hC dL_law_825 rfl 1 rfl ?_
  refine x_iload hC dL_law_826 5 rfl ?_
  refine x_iconst (v := 1) hC dL_law_828 (by decide) ?_
  refine x_iadd hC dL_law_829 ?_
  obtain ⟨hb_5, h⟩ := h
  refine x_sld hC hX hbl hbA hb_5 dL_law_830 ?_
  refine x_aload_n hC dL_law_831 rfl 1 rfl ?_
  refine x_iload hC dL_law_832 5 rfl ?_
  refine x_iconst (v := 2) hC dL_law_834 (by decide) ?_
  refine x_iadd hC dL_law_835 ?_
  obtain ⟨hb_6, h⟩ := h
  refine x_sld hC hX hbl hbA hb_6 dL_law_836 ?_
  refine x_fVi (S := Int32) (wl := []) (w1 := (wM am cI cL cO mth msc mec msrc mitm mknd mplc mclk mnc mnf mns msd mrl mrow mw mb mway moff)) (wr := (wX ad cI cL cO sc sd src itm knd plc clk ec nf ns nc wt bd off row hw rl tm ord tc ++ [(o, .inl (cL, 1, .inr (.inl u_4)))])) (wf := fun u => (wM am cI cL cO u msc mec msrc mitm mknd mplc mclk mnc mnf mns msd mrl mrow mw mb mway moff)) (wf2 := fun u => (wM am cI cL cO u msc mec msrc mitm mknd mplc mclk mnc mnf mns msd mrl mrow mw mb mway moff) ++ ((wX ad cI cL cO sc sd src itm knd plc clk ec nf ns nc wt bd off row hw rl tm ord tc) ++ [(o, .inl (cL, 1, .inr (.inl u_4)))])) hC [.int (xs (i + 1).toNatClampNeg), .int (xs (i + 2).toNatClampNeg)] (by rfl) (fun u => rfl) (fun sz => c_M_ask h sz) (by decide) (by decide) k_l169 k_l170 k_l171 (by decide) 2 rfl (by decide +kernel) ⟨Nat.le_trans (show ce + 1 ≤ ce + 8 by omega) hce2, Nat.le_trans (show sl + 6 ≤ sl + 48 by omega) hsl2⟩ (Nat.le_of_ble_eq_true rfl) k_l172 k_l173 wM_0 rfl rfl dL_law_837 (fun _ h9 => h9) (fun r_7 u_8 h => ?_)
  refine x_istore (lv' := [(6, .int r_7), (5, .int r_3), (0, .ref b0), (1, .ref (ad 0)), (2, .ref (am 0)), (3, .ref o), (4, .int i)]) hC dL_law_840 (by decide) rfl ?_
  refine x_aload_n hC dL_law_842 rfl 4 rfl ?_
  refine x_fVi (S := Unit) (wl := []) (w1 := (wM am cI cL cO u_8 msc mec msrc mitm mknd mplc mclk mnc mnf mns msd mrl mrow mw mb mway moff)) (wr := (wX ad cI cL cO sc sd src itm knd plc clk ec nf ns nc wt bd off row hw rl tm ord tc ++ [(o, .inl (cL, 1, .inr (.inl u_4)))])) (wf := fun u => (wM am cI cL cO u_8 msc mec msrc mitm mknd mplc mclk mnc mnf mns msd mrl mrow mw mb mway moff)) (wf2 := fun u => (wM am cI cL cO u_8 msc mec msrc mitm mknd mplc mclk mnc mnf mns msd mrl mrow mw mb mway moff) ++ ((wX ad cI cL cO sc sd src itm knd plc clk ec nf ns nc wt bd off row hw rl tm ord tc) ++ [(o, .inl (cL, 1, .inr (.inl u_4)))])) hC [] (by rfl) (fun u => rfl) (fun sz => c_M_thrown h sz) (by decide) (by decide) k_l67 k_l68 k_l69 (by decide) 0 rfl (by decide +kernel) ⟨Nat.le_trans (show ce + 1 ≤ ce + 8 by omega) hce2, Nat.le_trans (show sl + 6 ≤ sl + 48 by omega) hsl2⟩ (Nat.le_of_ble_eq_true rfl) k_l70 k_l71 wM_0 rfl rfl dL_law_843 (fun _ h9 => h9) (fun r_9 u_10 h => ?_)
  refine x_iload hC dL_law_846 1 rfl ?_
  refine x_icmp_eq (tgt := 853) hC dL_law_848 (by decide) (fun c_11 => ?_) (fun c_11 => ?_)
  · have h := h.1 c_11
    refine x_iload hC dL_law_853 1 rfl ?_
    refine x_if_ne (tgt := 870) hC dL_law_855 (by decide) (fun c_12 => ?_) (fun c_12 => ?_)
    · have h := h.1 c_12
      refine x_goto (tgt := 873) hC dL_law_870 (by decide) ?_
      refine x_lv (lv' := [(0, .ref b0), (1, .ref (ad 0)), (2, .ref (am 0)), (3, .ref o), (4, .int i)]) [2, 3, 4, 5, 6] rfl ?_
      refine x_widen (k := ce + 8) (n := sl + 48) (by show ce + 1 ≤ ce + 8; omega) (by show sl + 6 ≤ sl + 48; omega) ?_
      exact hexit sc sd src itm knd plc clk ec nf ns nc wt bd off row hw rl tm ord tc u_8 msc mec msrc mitm mknd mplc mclk mnc mnf mns msd mrl mrow mw mb mway moff u_4 h
    · have h := h.2 c_12
      refine x_aload_n hC dL_law_858 rfl 5 rfl ?_
      refine x_iconst (v := 0) hC dL_law_859 (by decide) ?_
      refine x_lald hC (13 + (69 + 0)) 1 (x_app_get wM_len (x_app_get wX_len rfl)) rfl x_in01 dL_law_860 ?_
      refine x_iload hC dL_law_861 0 rfl ?_
      refine x_i2l (v := r_7.toInt64) hC dL_law_863 rfl ?_
      refine x_lcmp_eq (tgt := 870) hC dL_law_864 dL_law_865 (by decide) (fun c_13 => ?_) (fun c_13 => ?_)
      · have h := h.1 c_13
        refine x_goto (tgt := 873) hC dL_law_870 (by decide) ?_
        refine x_lv (lv' := [(0, .ref b0), (1, .ref (ad 0)), (2, .ref (am 0)), (3, .ref o), (4, .int i)]) [2, 3, 4, 5, 6] rfl ?_
        refine x_widen (k := ce + 8) (n := sl + 48) (by show ce + 1 ≤ ce + 8; omega) (by show sl + 6 ≤ sl + 48; omega) ?_
        exact hexit sc sd src itm knd plc clk ec nf ns nc wt bd off row hw rl tm ord tc u_8 msc mec msrc mitm mknd mplc mclk mnc mnf mns msd mrl mrow mw mb mway moff u_4 h
      · have h := h.2 c_13
        refine x_iconst (v := 0) hC dL_law_868 (by decide) ?_
        exact h.elim
  · have h := h.2 c_11
    refine x_iconst (v := 0) hC dL_law_851 (by decide) ?_
    exact h.elim
