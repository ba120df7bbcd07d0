theorem dL_source_0 : decode bL_source 0 = .ok (.aload_n 1, 1) := by decide +kernel
theorem dL_source_1 : decode bL_source 1 = .ok (.iconst 0, 1) := by decide +kernel
theorem dL_source_2 : decode bL_source 2 = .ok (.aload_n 0, 1) := by decide +kernel
theorem dL_source_11 : decode bL_source 11 = .ok (.astore_n 2, 1) := by decide +kernel
theorem dL_source_12 : decode bL_source 12 = .ok (.iconst 1, 1) := by decide +kernel
theorem dL_source_13 : decode bL_source 13 = .ok (.ireturn, 1) := by decide +kernel
theorem dL_source_3 : decode bL_source 3 = .ok (.invokevirtual 7, 3) := by decide +kernel
theorem dL_source_6 : decode bL_source 6 = .ok (.i2l, 1) := by decide +kernel
theorem dL_source_7 : decode bL_source 7 = .ok (.lastore, 1) := by decide +kernel
theorem dL_source_8 : decode bL_source 8 = .ok (.goto 6, 3) := by decide +kernel
theorem dL_source_14 : decode bL_source 14 = .ok (.iconst 0, 1) := by decide +kernel
theorem dL_source_15 : decode bL_source 15 = .ok (.ireturn, 1) := by decide +kernel
theorem dL_event_0 : decode bL_event 0 = .ok (.aload 7, 2) := by decide +kernel
theorem dL_event_2 : decode bL_event 2 = .ok (.iconst 0, 1) := by decide +kernel
theorem dL_event_3 : decode bL_event 3 = .ok (.aload_n 0, 1) := by decide +kernel
theorem dL_event_4 : decode bL_event 4 = .ok (.iload_n 1, 1) := by decide +kernel
theorem dL_event_5 : decode bL_event 5 = .ok (.iload_n 2, 1) := by decide +kernel
theorem dL_event_6 : decode bL_event 6 = .ok (.iload_n 3, 1) := by decide +kernel
theorem dL_event_7 : decode bL_event 7 = .ok (.iload 4, 2) := by decide +kernel
theorem dL_event_9 : decode bL_event 9 = .ok (.lload 5, 2) := by decide +kernel
theorem dL_event_19 : decode bL_event 19 = .ok (.astore 8, 2) := by decide +kernel
theorem dL_event_21 : decode bL_event 21 = .ok (.iconst 1, 1) := by decide +kernel
theorem dL_event_22 : decode bL_event 22 = .ok (.ireturn, 1) := by decide +kernel
theorem dL_event_23 : decode bL_event 23 = .ok (.astore 8, 2) := by decide +kernel
theorem dL_event_25 : decode bL_event 25 = .ok (.iconst 2, 1) := by decide +kernel
theorem dL_event_26 : decode bL_event 26 = .ok (.ireturn, 1) := by decide +kernel
theorem dL_event_27 : decode bL_event 27 = .ok (.astore 8, 2) := by decide +kernel
theorem dL_event_29 : decode bL_event 29 = .ok (.iconst 3, 1) := by decide +kernel
theorem dL_event_30 : decode bL_event 30 = .ok (.ireturn, 1) := by decide +kernel
theorem dL_event_11 : decode bL_event 11 = .ok (.invokevirtual 15, 3) := by decide +kernel
theorem dL_event_14 : decode bL_event 14 = .ok (.i2l, 1) := by decide +kernel
theorem dL_event_15 : decode bL_event 15 = .ok (.lastore, 1) := by decide +kernel
theorem dL_event_16 : decode bL_event 16 = .ok (.goto 15, 3) := by decide +kernel
theorem dL_event_31 : decode bL_event 31 = .ok (.iconst 0, 1) := by decide +kernel
theorem dL_event_32 : decode bL_event 32 = .ok (.ireturn, 1) := by decide +kernel
theorem dL_need_0 : decode bL_need 0 = .ok (.aload_n 3, 1) := by decide +kernel
theorem dL_need_1 : decode bL_need 1 = .ok (.iconst 0, 1) := by decide +kernel
theorem dL_need_2 : decode bL_need 2 = .ok (.aload_n 0, 1) := by decide +kernel
theorem dL_need_3 : decode bL_need 3 = .ok (.iload_n 1, 1) := by decide +kernel
theorem dL_need_4 : decode bL_need 4 = .ok (.iload_n 2, 1) := by decide +kernel
theorem dL_need_13 : decode bL_need 13 = .ok (.astore 4, 2) := by decide +kernel
theorem dL_need_15 : decode bL_need 15 = .ok (.iconst 1, 1) := by decide +kernel
theorem dL_need_16 : decode bL_need 16 = .ok (.ireturn, 1) := by decide +kernel
theorem dL_need_17 : decode bL_need 17 = .ok (.astore 4, 2) := by decide +kernel
theorem dL_need_19 : decode bL_need 19 = .ok (.iconst 2, 1) := by decide +kernel
theorem dL_need_20 : decode bL_need 20 = .ok (.ireturn, 1) := by decide +kernel
theorem dL_need_21 : decode bL_need 21 = .ok (.astore 4, 2) := by decide +kernel
theorem dL_need_23 : decode bL_need 23 = .ok (.iconst 3, 1) := by decide +kernel
theorem dL_need_24 : decode bL_need 24 = .ok (.ireturn, 1) := by decide +kernel
theorem dL_need_5 : decode bL_need 5 = .ok (.invokevirtual 23, 3) := by decide +kernel
theorem dL_need_8 : decode bL_need 8 = .ok (.i2l, 1) := by decide +kernel
theorem dL_need_9 : decode bL_need 9 = .ok (.lastore, 1) := by decide +kernel
theorem dL_need_10 : decode bL_need 10 = .ok (.goto 15, 3) := by decide +kernel
theorem dL_need_25 : decode bL_need 25 = .ok (.iconst 0, 1) := by decide +kernel
theorem dL_need_26 : decode bL_need 26 = .ok (.ireturn, 1) := by decide +kernel
theorem dL_offset_0 : decode bL_offset 0 = .ok (.aload_n 2, 1) := by decide +kernel
theorem dL_offset_1 : decode bL_offset 1 = .ok (.iconst 0, 1) := by decide +kernel
theorem dL_offset_2 : decode bL_offset 2 = .ok (.aload_n 0, 1) := by decide +kernel
theorem dL_offset_3 : decode bL_offset 3 = .ok (.iload_n 1, 1) := by decide +kernel
theorem dL_offset_11 : decode bL_offset 11 = .ok (.astore_n 3, 1) := by decide +kernel
theorem dL_offset_12 : decode bL_offset 12 = .ok (.iconst 1, 1) := by decide +kernel
theorem dL_offset_13 : decode bL_offset 13 = .ok (.ireturn, 1) := by decide +kernel
theorem dL_offset_14 : decode bL_offset 14 = .ok (.astore_n 3, 1) := by decide +kernel
theorem dL_offset_15 : decode bL_offset 15 = .ok (.iconst 2, 1) := by decide +kernel
theorem dL_offset_16 : decode bL_offset 16 = .ok (.ireturn, 1) := by decide +kernel
theorem dL_offset_4 : decode bL_offset 4 = .ok (.invokevirtual 27, 3) := by decide +kernel
theorem dL_offset_7 : decode bL_offset 7 = .ok (.lastore, 1) := by decide +kernel
theorem dL_offset_8 : decode bL_offset 8 = .ok (.goto 9, 3) := by decide +kernel
theorem dL_offset_17 : decode bL_offset 17 = .ok (.iconst 0, 1) := by decide +kernel
theorem dL_offset_18 : decode bL_offset 18 = .ok (.ireturn, 1) := by decide +kernel
theorem dL_bound_0 : decode bL_bound 0 = .ok (.aload_n 3, 1) := by decide +kernel
theorem dL_bound_1 : decode bL_bound 1 = .ok (.iconst 0, 1) := by decide +kernel
theorem dL_bound_2 : decode bL_bound 2 = .ok (.aload_n 0, 1) := by decide +kernel
theorem dL_bound_3 : decode bL_bound 3 = .ok (.iload_n 1, 1) := by decide +kernel
theorem dL_bound_4 : decode bL_bound 4 = .ok (.iload_n 2, 1) := by decide +kernel
theorem dL_bound_12 : decode bL_bound 12 = .ok (.astore 4, 2) := by decide +kernel
theorem dL_bound_14 : decode bL_bound 14 = .ok (.iconst 1, 1) := by decide +kernel
theorem dL_bound_15 : decode bL_bound 15 = .ok (.ireturn, 1) := by decide +kernel
theorem dL_bound_16 : decode bL_bound 16 = .ok (.astore 4, 2) := by decide +kernel
theorem dL_bound_18 : decode bL_bound 18 = .ok (.iconst 2, 1) := by decide +kernel
theorem dL_bound_19 : decode bL_bound 19 = .ok (.ireturn, 1) := by decide +kernel
theorem dL_bound_5 : decode bL_bound 5 = .ok (.invokevirtual 33, 3) := by decide +kernel
theorem dL_bound_8 : decode bL_bound 8 = .ok (.lastore, 1) := by decide +kernel
theorem dL_bound_9 : decode bL_bound 9 = .ok (.goto 11, 3) := by decide +kernel
theorem dL_bound_20 : decode bL_bound 20 = .ok (.iconst 0, 1) := by decide +kernel
theorem dL_bound_21 : decode bL_bound 21 = .ok (.ireturn, 1) := by decide +kernel
theorem dL_corrected_0 : decode bL_corrected 0 = .ok (.aload_n 2, 1) := by decide +kernel
theorem dL_corrected_1 : decode bL_corrected 1 = .ok (.iconst 0, 1) := by decide +kernel
theorem dL_corrected_2 : decode bL_corrected 2 = .ok (.aload_n 0, 1) := by decide +kernel
theorem dL_corrected_3 : decode bL_corrected 3 = .ok (.iload_n 1, 1) := by decide +kernel
theorem dL_corrected_11 : decode bL_corrected 11 = .ok (.astore_n 3, 1) := by decide +kernel
theorem dL_corrected_12 : decode bL_corrected 12 = .ok (.iconst 1, 1) := by decide +kernel
theorem dL_corrected_13 : decode bL_corrected 13 = .ok (.ireturn, 1) := by decide +kernel
theorem dL_corrected_14 : decode bL_corrected 14 = .ok (.astore_n 3, 1) := by decide +kernel
theorem dL_corrected_15 : decode bL_corrected 15 = .ok (.iconst 2, 1) := by decide +kernel
theorem dL_corrected_16 : decode bL_corrected 16 = .ok (.ireturn, 1) := by decide +kernel
theorem dL_corrected_4 : decode bL_corrected 4 = .ok (.invokevirtual 37, 3) := by decide +kernel
theorem dL_corrected_7 : decode bL_corrected 7 = .ok (.lastore, 1) := by decide +kernel
theorem dL_corrected_8 : decode bL_corrected 8 = .ok (.goto 9, 3) := by decide +kernel
theorem dL_corrected_17 : decode bL_corrected 17 = .ok (.iconst 0, 1) := by decide +kernel
theorem dL_corrected_18 : decode bL_corrected 18 = .ok (.ireturn, 1) := by decide +kernel
theorem dL_ordered_0 : decode bL_ordered 0 = .ok (.aload_n 3, 1) := by decide +kernel
theorem dL_ordered_1 : decode bL_ordered 1 = .ok (.iconst 0, 1) := by decide +kernel
theorem dL_ordered_2 : decode bL_ordered 2 = .ok (.aload_n 0, 1) := by decide +kernel
theorem dL_ordered_3 : decode bL_ordered 3 = .ok (.iload_n 1, 1) := by decide +kernel
theorem dL_ordered_4 : decode bL_ordered 4 = .ok (.iload_n 2, 1) := by decide +kernel
theorem dL_ordered_13 : decode bL_ordered 13 = .ok (.astore 4, 2) := by decide +kernel
theorem dL_ordered_15 : decode bL_ordered 15 = .ok (.iconst 1, 1) := by decide +kernel
theorem dL_ordered_16 : decode bL_ordered 16 = .ok (.ireturn, 1) := by decide +kernel
theorem dL_ordered_17 : decode bL_ordered 17 = .ok (.astore 4, 2) := by decide +kernel
theorem dL_ordered_19 : decode bL_ordered 19 = .ok (.iconst 2, 1) := by decide +kernel
theorem dL_ordered_20 : decode bL_ordered 20 = .ok (.ireturn, 1) := by decide +kernel
theorem dL_ordered_5 : decode bL_ordered 5 = .ok (.invokevirtual 40, 3) := by decide +kernel
theorem dL_ordered_8 : decode bL_ordered 8 = .ok (.i2l, 1) := by decide +kernel
theorem dL_ordered_9 : decode bL_ordered 9 = .ok (.lastore, 1) := by decide +kernel
theorem dL_ordered_10 : decode bL_ordered 10 = .ok (.goto 11, 3) := by decide +kernel
theorem dL_ordered_21 : decode bL_ordered 21 = .ok (.iconst 0, 1) := by decide +kernel
theorem dL_ordered_22 : decode bL_ordered 22 = .ok (.ireturn, 1) := by decide +kernel
theorem dL_implied_0 : decode bL_implied 0 = .ok (.aload_n 3, 1) := by decide +kernel
theorem dL_implied_1 : decode bL_implied 1 = .ok (.iconst 0, 1) := by decide +kernel
theorem dL_implied_2 : decode bL_implied 2 = .ok (.aload_n 0, 1) := by decide +kernel
theorem dL_implied_3 : decode bL_implied 3 = .ok (.iload_n 1, 1) := by decide +kernel
theorem dL_implied_4 : decode bL_implied 4 = .ok (.iload_n 2, 1) := by decide +kernel
theorem dL_implied_13 : decode bL_implied 13 = .ok (.astore 4, 2) := by decide +kernel
theorem dL_implied_15 : decode bL_implied 15 = .ok (.iconst 1, 1) := by decide +kernel
theorem dL_implied_16 : decode bL_implied 16 = .ok (.ireturn, 1) := by decide +kernel
theorem dL_implied_17 : decode bL_implied 17 = .ok (.astore 4, 2) := by decide +kernel
theorem dL_implied_19 : decode bL_implied 19 = .ok (.iconst 2, 1) := by decide +kernel
theorem dL_implied_20 : decode bL_implied 20 = .ok (.ireturn, 1) := by decide +kernel
theorem dL_implied_5 : decode bL_implied 5 = .ok (.invokevirtual 43, 3) := by decide +kernel
theorem dL_implied_8 : decode bL_implied 8 = .ok (.i2l, 1) := by decide +kernel
theorem dL_implied_9 : decode bL_implied 9 = .ok (.lastore, 1) := by decide +kernel
theorem dL_implied_10 : decode bL_implied 10 = .ok (.goto 11, 3) := by decide +kernel
theorem dL_implied_21 : decode bL_implied 21 = .ok (.iconst 0, 1) := by decide +kernel
theorem dL_implied_22 : decode bL_implied 22 = .ok (.ireturn, 1) := by decide +kernel
theorem dL_correct_0 : decode bL_correct 0 = .ok (.aload 4, 2) := by decide +kernel
theorem dL_correct_2 : decode bL_correct 2 = .ok (.iconst 0, 1) := by decide +kernel
theorem dL_correct_3 : decode bL_correct 3 = .ok (.aload_n 0, 1) := by decide +kernel
theorem dL_correct_4 : decode bL_correct 4 = .ok (.iload_n 1, 1) := by decide +kernel
theorem dL_correct_5 : decode bL_correct 5 = .ok (.lload_n 2, 1) := by decide +kernel
theorem dL_correct_14 : decode bL_correct 14 = .ok (.astore 5, 2) := by decide +kernel
theorem dL_correct_16 : decode bL_correct 16 = .ok (.iconst 1, 1) := by decide +kernel
theorem dL_correct_17 : decode bL_correct 17 = .ok (.ireturn, 1) := by decide +kernel
theorem dL_correct_18 : decode bL_correct 18 = .ok (.astore 5, 2) := by decide +kernel
theorem dL_correct_20 : decode bL_correct 20 = .ok (.iconst 2, 1) := by decide +kernel
theorem dL_correct_21 : decode bL_correct 21 = .ok (.ireturn, 1) := by decide +kernel
theorem dL_correct_6 : decode bL_correct 6 = .ok (.invokevirtual 46, 3) := by decide +kernel
theorem dL_correct_9 : decode bL_correct 9 = .ok (.i2l, 1) := by decide +kernel
theorem dL_correct_10 : decode bL_correct 10 = .ok (.lastore, 1) := by decide +kernel
theorem dL_correct_11 : decode bL_correct 11 = .ok (.goto 11, 3) := by decide +kernel
theorem dL_correct_22 : decode bL_correct 22 = .ok (.iconst 0, 1) := by decide +kernel
theorem dL_correct_23 : decode bL_correct 23 = .ok (.ireturn, 1) := by decide +kernel
theorem dL_ask_0 : decode bL_ask 0 = .ok (.aload_n 3, 1) := by decide +kernel
theorem dL_ask_1 : decode bL_ask 1 = .ok (.iconst 0, 1) := by decide +kernel
theorem dL_ask_2 : decode bL_ask 2 = .ok (.aload_n 0, 1) := by decide +kernel
theorem dL_ask_3 : decode bL_ask 3 = .ok (.iload_n 1, 1) := by decide +kernel
theorem dL_ask_4 : decode bL_ask 4 = .ok (.iload_n 2, 1) := by decide +kernel
theorem dL_ask_13 : decode bL_ask 13 = .ok (.astore 4, 2) := by decide +kernel
theorem dL_ask_15 : decode bL_ask 15 = .ok (.iconst 1, 1) := by decide +kernel
theorem dL_ask_16 : decode bL_ask 16 = .ok (.ireturn, 1) := by decide +kernel
theorem dL_ask_5 : decode bL_ask 5 = .ok (.invokevirtual 50, 3) := by decide +kernel
theorem dL_ask_8 : decode bL_ask 8 = .ok (.i2l, 1) := by decide +kernel
theorem dL_ask_9 : decode bL_ask 9 = .ok (.lastore, 1) := by decide +kernel
theorem dL_ask_10 : decode bL_ask 10 = .ok (.goto 7, 3) := by decide +kernel
theorem dL_ask_17 : decode bL_ask 17 = .ok (.iconst 0, 1) := by decide +kernel
theorem dL_ask_18 : decode bL_ask 18 = .ok (.ireturn, 1) := by decide +kernel
theorem k_l0 : (.code yX_source bX_source 2 (some .int) : Cond) ∈ TBL := TBL_in (by decide +kernel) (by decide +kernel)
theorem k_l1 : (.initialized yX_source.cls : Cond) ∈ TBL := TBL_in (by decide +kernel) (by decide +kernel)
theorem k_l2 : (.methodLink RL 7 yX_source : Cond) ∈ TBL := TBL_in (by decide +kernel) (by decide +kernel)
theorem k_l3 : (.instanceMethod yX_source : Cond) ∈ TBL := TBL_in (by decide +kernel) (by decide +kernel)
theorem k_l4 : (.selects RX yX_source yX_source : Cond) ∈ TBL := TBL_in (by decide +kernel) (by decide +kernel)
theorem k_l5 : (.classLink RL 13 (x_ex 3) : Cond) ∈ TBL := TBL_in (by decide +kernel) (by decide +kernel)
theorem k_lx6 : (.castable (x_ex 3) (x_ex 3) : Cond) ∈ TBX := TBX_in (by decide +kernel) (by decide +kernel)
theorem k_l7 : (.code yX_event bX_event 7 (some .int) : Cond) ∈ TBL := TBL_in (by decide +kernel) (by decide +kernel)
theorem k_l8 : (.initialized yX_event.cls : Cond) ∈ TBL := TBL_in (by decide +kernel) (by decide +kernel)
theorem k_l9 : (.methodLink RL 15 yX_event : Cond) ∈ TBL := TBL_in (by decide +kernel) (by decide +kernel)
theorem k_l10 : (.instanceMethod yX_event : Cond) ∈ TBL := TBL_in (by decide +kernel) (by decide +kernel)
theorem k_l11 : (.selects RX yX_event yX_event : Cond) ∈ TBL := TBL_in (by decide +kernel) (by decide +kernel)
theorem k_l12 : (.classLink RL 19 (x_ex 0) : Cond) ∈ TBL := TBL_in (by decide +kernel) (by decide +kernel)
theorem k_lx13 : (.castable (x_ex 0) (x_ex 0) : Cond) ∈ TBX := TBX_in (by decide +kernel) (by decide +kernel)
theorem k_l14 : (.classLink RL 21 (x_ex 1) : Cond) ∈ TBL := TBL_in (by decide +kernel) (by decide +kernel)
theorem k_lx15 : (.castable (x_ex 1) (x_ex 1) : Cond) ∈ TBX := TBX_in (by decide +kernel) (by decide +kernel)
theorem k_l16 : (.code yX_need bX_need 3 (some .int) : Cond) ∈ TBL := TBL_in (by decide +kernel) (by decide +kernel)
theorem k_l17 : (.initialized yX_need.cls : Cond) ∈ TBL := TBL_in (by decide +kernel) (by decide +kernel)
theorem k_l18 : (.methodLink RL 23 yX_need : Cond) ∈ TBL := TBL_in (by decide +kernel) (by decide +kernel)
theorem k_l19 : (.instanceMethod yX_need : Cond) ∈ TBL := TBL_in (by decide +kernel) (by decide +kernel)
theorem k_l20 : (.selects RX yX_need yX_need : Cond) ∈ TBL := TBL_in (by decide +kernel) (by decide +kernel)
theorem k_l21 : (.code yX_offset bX_offset 2 (some .long) : Cond) ∈ TBL := TBL_in (by decide +kernel) (by decide +kernel)
theorem k_l22 : (.initialized yX_offset.cls : Cond) ∈ TBL := TBL_in (by decide +kernel) (by decide +kernel)
theorem k_l23 : (.methodLink RL 27 yX_offset : Cond) ∈ TBL := TBL_in (by decide +kernel) (by decide +kernel)
theorem k_l24 : (.instanceMethod yX_offset : Cond) ∈ TBL := TBL_in (by decide +kernel) (by decide +kernel)
theorem k_l25 : (.selects RX yX_offset yX_offset : Cond) ∈ TBL := TBL_in (by decide +kernel) (by decide +kernel)
theorem k_l26 : (.classLink RL 31 (x_ex 2) : Cond) ∈ TBL := TBL_in (by decide +kernel) (by decide +kernel)
theorem k_lx27 : (.castable (x_ex 2) (x_ex 2) : Cond) ∈ TBX := TBX_in (by decide +kernel) (by decide +kernel)
theorem k_l28 : (.code yX_bound bX_bound 3 (some .long) : Cond) ∈ TBL := TBL_in (by decide +kernel) (by decide +kernel)
theorem k_l29 : (.initialized yX_bound.cls : Cond) ∈ TBL := TBL_in (by decide +kernel) (by decide +kernel)
theorem k_l30 : (.methodLink RL 33 yX_bound : Cond) ∈ TBL := TBL_in (by decide +kernel) (by decide +kernel)
theorem k_l31 : (.instanceMethod yX_bound : Cond) ∈ TBL := TBL_in (by decide +kernel) (by decide +kernel)
theorem k_l32 : (.selects RX yX_bound yX_bound : Cond) ∈ TBL := TBL_in (by decide +kernel) (by decide +kernel)
theorem k_l33 : (.code yX_corrected bX_corrected 2 (some .long) : Cond) ∈ TBL := TBL_in (by decide +kernel) (by decide +kernel)
theorem k_l34 : (.initialized yX_corrected.cls : Cond) ∈ TBL := TBL_in (by decide +kernel) (by decide +kernel)
theorem k_l35 : (.methodLink RL 37 yX_corrected : Cond) ∈ TBL := TBL_in (by decide +kernel) (by decide +kernel)
theorem k_l36 : (.instanceMethod yX_corrected : Cond) ∈ TBL := TBL_in (by decide +kernel) (by decide +kernel)
theorem k_l37 : (.selects RX yX_corrected yX_corrected : Cond) ∈ TBL := TBL_in (by decide +kernel) (by decide +kernel)
theorem k_l38 : (.code yX_ordered bX_ordered 3 (some .int) : Cond) ∈ TBL := TBL_in (by decide +kernel) (by decide +kernel)
theorem k_l39 : (.initialized yX_ordered.cls : Cond) ∈ TBL := TBL_in (by decide +kernel) (by decide +kernel)
theorem k_l40 : (.methodLink RL 40 yX_ordered : Cond) ∈ TBL := TBL_in (by decide +kernel) (by decide +kernel)
theorem k_l41 : (.instanceMethod yX_ordered : Cond) ∈ TBL := TBL_in (by decide +kernel) (by decide +kernel)
theorem k_l42 : (.selects RX yX_ordered yX_ordered : Cond) ∈ TBL := TBL_in (by decide +kernel) (by decide +kernel)
theorem k_l43 : (.code yX_implied bX_implied 3 (some .int) : Cond) ∈ TBL := TBL_in (by decide +kernel) (by decide +kernel)
theorem k_l44 : (.initialized yX_implied.cls : Cond) ∈ TBL := TBL_in (by decide +kernel) (by decide +kernel)
theorem k_l45 : (.methodLink RL 43 yX_implied : Cond) ∈ TBL := TBL_in (by decide +kernel) (by decide +kernel)
theorem k_l46 : (.instanceMethod yX_implied : Cond) ∈ TBL := TBL_in (by decide +kernel) (by decide +kernel)
theorem k_l47 : (.selects RX yX_implied yX_implied : Cond) ∈ TBL := TBL_in (by decide +kernel) (by decide +kernel)
theorem k_l48 : (.code yX_correct bX_correct 4 (some .int) : Cond) ∈ TBL := TBL_in (by decide +kernel) (by decide +kernel)
theorem k_l49 : (.initialized yX_correct.cls : Cond) ∈ TBL := TBL_in (by decide +kernel) (by decide +kernel)
theorem k_l50 : (.methodLink RL 46 yX_correct : Cond) ∈ TBL := TBL_in (by decide +kernel) (by decide +kernel)
theorem k_l51 : (.instanceMethod yX_correct : Cond) ∈ TBL := TBL_in (by decide +kernel) (by decide +kernel)
theorem k_l52 : (.selects RX yX_correct yX_correct : Cond) ∈ TBL := TBL_in (by decide +kernel) (by decide +kernel)
theorem k_l53 : (.code yX_ask bX_ask 3 (some .int) : Cond) ∈ TBL := TBL_in (by decide +kernel) (by decide +kernel)
theorem k_l54 : (.initialized yX_ask.cls : Cond) ∈ TBL := TBL_in (by decide +kernel) (by decide +kernel)
theorem k_l55 : (.methodLink RL 50 yX_ask : Cond) ∈ TBL := TBL_in (by decide +kernel) (by decide +kernel)
theorem k_l56 : (.instanceMethod yX_ask : Cond) ∈ TBL := TBL_in (by decide +kernel) (by decide +kernel)
theorem k_l57 : (.selects RX yX_ask yX_ask : Cond) ∈ TBL := TBL_in (by decide +kernel) (by decide +kernel)
