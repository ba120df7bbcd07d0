theorem dM_offset_0 : decode bM_offset 0 = .ok (.aload_n 0, 1) := by decide +kernel
theorem dM_offset_1 : decode bM_offset 1 = .ok (.aload_n 0, 1) := by decide +kernel
theorem dM_offset_2 : decode bM_offset 2 = .ok (.iload_n 1, 1) := by decide +kernel
theorem dM_offset_3 : decode bM_offset 3 = .ok (.invokevirtual 69, 3) := by decide +kernel
theorem dM_offset_6 : decode bM_offset 6 = .ok (.ifCond .ne 7, 3) := by decide +kernel
theorem dM_offset_13 : decode bM_offset 13 = .ok (.iconst 0, 1) := by decide +kernel
theorem dM_offset_14 : decode bM_offset 14 = .ok (.aload_n 0, 1) := by decide +kernel
theorem dM_offset_15 : decode bM_offset 15 = .ok (.getfield 65, 3) := by decide +kernel
theorem dM_offset_18 : decode bM_offset 18 = .ok (.ifCond .ne 7, 3) := by decide +kernel
theorem dM_offset_25 : decode bM_offset 25 = .ok (.iconst 0, 1) := by decide +kernel
theorem dM_offset_26 : decode bM_offset 26 = .ok (.iconst 0, 1) := by decide +kernel
theorem dM_offset_27 : decode bM_offset 27 = .ok (.invokevirtual 61, 3) := by decide +kernel
theorem dM_offset_30 : decode bM_offset 30 = .ok (.ifCond .eq 7, 3) := by decide +kernel
theorem dM_offset_37 : decode bM_offset 37 = .ok (.aload_n 0, 1) := by decide +kernel
theorem dM_offset_38 : decode bM_offset 38 = .ok (.getfield 44, 3) := by decide +kernel
theorem dM_offset_41 : decode bM_offset 41 = .ok (.iload_n 1, 1) := by decide +kernel
theorem dM_offset_42 : decode bM_offset 42 = .ok (.laload, 1) := by decide +kernel
theorem dM_offset_43 : decode bM_offset 43 = .ok (.lreturn, 1) := by decide +kernel
theorem dM_offset_33 : decode bM_offset 33 = .ok (.lconst 0, 1) := by decide +kernel
theorem dM_offset_34 : decode bM_offset 34 = .ok (.goto 9, 3) := by decide +kernel
theorem dM_offset_21 : decode bM_offset 21 = .ok (.iconst 1, 1) := by decide +kernel
theorem dM_offset_22 : decode bM_offset 22 = .ok (.goto 4, 3) := by decide +kernel
theorem dM_offset_9 : decode bM_offset 9 = .ok (.iconst 1, 1) := by decide +kernel
theorem dM_offset_10 : decode bM_offset 10 = .ok (.goto 4, 3) := by decide +kernel
theorem dM_bound_0 : decode bM_bound 0 = .ok (.aload_n 0, 1) := by decide +kernel
theorem dM_bound_1 : decode bM_bound 1 = .ok (.aload_n 0, 1) := by decide +kernel
theorem dM_bound_2 : decode bM_bound 2 = .ok (.iload_n 1, 1) := by decide +kernel
theorem dM_bound_3 : decode bM_bound 3 = .ok (.invokevirtual 69, 3) := by decide +kernel
theorem dM_bound_6 : decode bM_bound 6 = .ok (.ifCond .eq 11, 3) := by decide +kernel
theorem dM_bound_17 : decode bM_bound 17 = .ok (.iconst 1, 1) := by decide +kernel
theorem dM_bound_18 : decode bM_bound 18 = .ok (.goto 4, 3) := by decide +kernel
theorem dM_bound_22 : decode bM_bound 22 = .ok (.aload_n 0, 1) := by decide +kernel
theorem dM_bound_23 : decode bM_bound 23 = .ok (.getfield 65, 3) := by decide +kernel
theorem dM_bound_26 : decode bM_bound 26 = .ok (.ifCond .ne 7, 3) := by decide +kernel
theorem dM_bound_33 : decode bM_bound 33 = .ok (.iconst 0, 1) := by decide +kernel
theorem dM_bound_34 : decode bM_bound 34 = .ok (.iconst 0, 1) := by decide +kernel
theorem dM_bound_35 : decode bM_bound 35 = .ok (.invokevirtual 61, 3) := by decide +kernel
theorem dM_bound_38 : decode bM_bound 38 = .ok (.ifCond .eq 7, 3) := by decide +kernel
theorem dM_bound_45 : decode bM_bound 45 = .ok (.aload_n 0, 1) := by decide +kernel
theorem dM_bound_46 : decode bM_bound 46 = .ok (.getfield 38, 3) := by decide +kernel
theorem dM_bound_49 : decode bM_bound 49 = .ok (.bipush 16, 2) := by decide +kernel
theorem dM_bound_51 : decode bM_bound 51 = .ok (.iload_n 1, 1) := by decide +kernel
theorem dM_bound_52 : decode bM_bound 52 = .ok (.imul, 1) := by decide +kernel
theorem dM_bound_53 : decode bM_bound 53 = .ok (.iload_n 2, 1) := by decide +kernel
theorem dM_bound_54 : decode bM_bound 54 = .ok (.iadd, 1) := by decide +kernel
theorem dM_bound_55 : decode bM_bound 55 = .ok (.laload, 1) := by decide +kernel
theorem dM_bound_56 : decode bM_bound 56 = .ok (.lreturn, 1) := by decide +kernel
theorem dM_bound_41 : decode bM_bound 41 = .ok (.lconst 0, 1) := by decide +kernel
theorem dM_bound_42 : decode bM_bound 42 = .ok (.goto 14, 3) := by decide +kernel
theorem dM_bound_29 : decode bM_bound 29 = .ok (.iconst 1, 1) := by decide +kernel
theorem dM_bound_30 : decode bM_bound 30 = .ok (.goto 4, 3) := by decide +kernel
theorem dM_bound_9 : decode bM_bound 9 = .ok (.aload_n 0, 1) := by decide +kernel
theorem dM_bound_10 : decode bM_bound 10 = .ok (.iload_n 2, 1) := by decide +kernel
theorem dM_bound_11 : decode bM_bound 11 = .ok (.invokevirtual 69, 3) := by decide +kernel
theorem dM_bound_14 : decode bM_bound 14 = .ok (.ifCond .ne 7, 3) := by decide +kernel
theorem dM_bound_21 : decode bM_bound 21 = .ok (.iconst 0, 1) := by decide +kernel
theorem dM_corrected_0 : decode bM_corrected 0 = .ok (.aload_n 0, 1) := by decide +kernel
theorem dM_corrected_1 : decode bM_corrected 1 = .ok (.aload_n 0, 1) := by decide +kernel
theorem dM_corrected_2 : decode bM_corrected 2 = .ok (.iload_n 1, 1) := by decide +kernel
theorem dM_corrected_3 : decode bM_corrected 3 = .ok (.invokevirtual 85, 3) := by decide +kernel
theorem dM_corrected_6 : decode bM_corrected 6 = .ok (.ifCond .ne 7, 3) := by decide +kernel
theorem dM_corrected_13 : decode bM_corrected 13 = .ok (.iconst 0, 1) := by decide +kernel
theorem dM_corrected_14 : decode bM_corrected 14 = .ok (.aload_n 0, 1) := by decide +kernel
theorem dM_corrected_15 : decode bM_corrected 15 = .ok (.getfield 65, 3) := by decide +kernel
theorem dM_corrected_18 : decode bM_corrected 18 = .ok (.ifCond .ne 7, 3) := by decide +kernel
theorem dM_corrected_25 : decode bM_corrected 25 = .ok (.iconst 0, 1) := by decide +kernel
theorem dM_corrected_26 : decode bM_corrected 26 = .ok (.iconst 0, 1) := by decide +kernel
theorem dM_corrected_27 : decode bM_corrected 27 = .ok (.invokevirtual 61, 3) := by decide +kernel
theorem dM_corrected_30 : decode bM_corrected 30 = .ok (.ifCond .eq 7, 3) := by decide +kernel
theorem dM_corrected_37 : decode bM_corrected 37 = .ok (.aload_n 0, 1) := by decide +kernel
theorem dM_corrected_38 : decode bM_corrected 38 = .ok (.iload_n 1, 1) := by decide +kernel
theorem dM_corrected_39 : decode bM_corrected 39 = .ok (.invokevirtual 120, 3) := by decide +kernel
theorem dM_timeOf_0 : decode bM_timeOf 0 = .ok (.aload_n 0, 1) := by decide +kernel
theorem dM_timeOf_1 : decode bM_timeOf 1 = .ok (.getfield 22, 3) := by decide +kernel
theorem dM_timeOf_4 : decode bM_timeOf 4 = .ok (.iload_n 1, 1) := by decide +kernel
theorem dM_timeOf_5 : decode bM_timeOf 5 = .ok (.laload, 1) := by decide +kernel
theorem dM_timeOf_6 : decode bM_timeOf 6 = .ok (.aload_n 0, 1) := by decide +kernel
theorem dM_timeOf_7 : decode bM_timeOf 7 = .ok (.getfield 44, 3) := by decide +kernel
theorem dM_timeOf_10 : decode bM_timeOf 10 = .ok (.aload_n 0, 1) := by decide +kernel
theorem dM_timeOf_11 : decode bM_timeOf 11 = .ok (.getfield 7, 3) := by decide +kernel
theorem dM_timeOf_14 : decode bM_timeOf 14 = .ok (.iload_n 1, 1) := by decide +kernel
theorem dM_timeOf_15 : decode bM_timeOf 15 = .ok (.iaload, 1) := by decide +kernel
theorem dM_timeOf_16 : decode bM_timeOf 16 = .ok (.laload, 1) := by decide +kernel
theorem dM_timeOf_17 : decode bM_timeOf 17 = .ok (.ladd, 1) := by decide +kernel
theorem dM_timeOf_18 : decode bM_timeOf 18 = .ok (.lreturn, 1) := by decide +kernel
theorem dM_corrected_42 : decode bM_corrected 42 = .ok (.lreturn, 1) := by decide +kernel
theorem dM_corrected_33 : decode bM_corrected 33 = .ok (.lconst 0, 1) := by decide +kernel
theorem dM_corrected_34 : decode bM_corrected 34 = .ok (.goto 8, 3) := by decide +kernel
theorem dM_corrected_21 : decode bM_corrected 21 = .ok (.iconst 1, 1) := by decide +kernel
theorem dM_corrected_22 : decode bM_corrected 22 = .ok (.goto 4, 3) := by decide +kernel
theorem dM_corrected_9 : decode bM_corrected 9 = .ok (.iconst 1, 1) := by decide +kernel
theorem dM_corrected_10 : decode bM_corrected 10 = .ok (.goto 4, 3) := by decide +kernel
theorem dM_ordered_0 : decode bM_ordered 0 = .ok (.aload_n 0, 1) := by decide +kernel
theorem dM_ordered_1 : decode bM_ordered 1 = .ok (.iload_n 1, 1) := by decide +kernel
theorem dM_ordered_2 : decode bM_ordered 2 = .ok (.i2l, 1) := by decide +kernel
theorem dM_ordered_3 : decode bM_ordered 3 = .ok (.lconst 0, 1) := by decide +kernel
theorem dM_ordered_4 : decode bM_ordered 4 = .ok (.ldc2_w 73, 3) := by decide +kernel
theorem dM_ordered_7 : decode bM_ordered 7 = .ok (.invokestatic 54, 3) := by decide +kernel
theorem dM_ordered_10 : decode bM_ordered 10 = .ok (.ifCond .ne 7, 3) := by decide +kernel
theorem dM_ordered_17 : decode bM_ordered 17 = .ok (.iconst 0, 1) := by decide +kernel
theorem dM_ordered_18 : decode bM_ordered 18 = .ok (.aload_n 0, 1) := by decide +kernel
theorem dM_ordered_19 : decode bM_ordered 19 = .ok (.getfield 65, 3) := by decide +kernel
theorem dM_ordered_22 : decode bM_ordered 22 = .ok (.ifCond .ne 7, 3) := by decide +kernel
theorem dM_ordered_29 : decode bM_ordered 29 = .ok (.iconst 0, 1) := by decide +kernel
theorem dM_ordered_30 : decode bM_ordered 30 = .ok (.iconst 0, 1) := by decide +kernel
theorem dM_ordered_31 : decode bM_ordered 31 = .ok (.invokevirtual 61, 3) := by decide +kernel
theorem dM_ordered_34 : decode bM_ordered 34 = .ok (.ifCond .eq 5, 3) := by decide +kernel
theorem dM_ordered_39 : decode bM_ordered 39 = .ok (.iconst 1, 1) := by decide +kernel
theorem dM_ordered_40 : decode bM_ordered 40 = .ok (.istore_n 3, 1) := by decide +kernel
theorem dM_ordered_41 : decode bM_ordered 41 = .ok (.iload_n 3, 1) := by decide +kernel
theorem dM_ordered_42 : decode bM_ordered 42 = .ok (.aload_n 0, 1) := by decide +kernel
theorem dM_ordered_43 : decode bM_ordered 43 = .ok (.getfield 58, 3) := by decide +kernel
theorem dM_ordered_46 : decode bM_ordered 46 = .ok (.if_icmp .gt 90, 3) := by decide +kernel
theorem dM_ordered_49 : decode bM_ordered 49 = .ok (.iconst 0, 1) := by decide +kernel
theorem dM_ordered_50 : decode bM_ordered 50 = .ok (.istore 4, 2) := by decide +kernel
theorem dM_ordered_52 : decode bM_ordered 52 = .ok (.iconst 1, 1) := by decide +kernel
theorem dM_ordered_53 : decode bM_ordered 53 = .ok (.istore 5, 2) := by decide +kernel
theorem dM_ordered_55 : decode bM_ordered 55 = .ok (.iload 5, 2) := by decide +kernel
theorem dM_ordered_57 : decode bM_ordered 57 = .ok (.aload_n 0, 1) := by decide +kernel
theorem dM_ordered_58 : decode bM_ordered 58 = .ok (.getfield 58, 3) := by decide +kernel
theorem dM_ordered_61 : decode bM_ordered 61 = .ok (.if_icmp .gt 51, 3) := by decide +kernel
theorem dM_ordered_64 : decode bM_ordered 64 = .ok (.aload_n 0, 1) := by decide +kernel
theorem dM_ordered_65 : decode bM_ordered 65 = .ok (.getfield 13, 3) := by decide +kernel
theorem dM_ordered_68 : decode bM_ordered 68 = .ok (.iload_n 3, 1) := by decide +kernel
theorem dM_ordered_69 : decode bM_ordered 69 = .ok (.iaload, 1) := by decide +kernel
theorem dM_ordered_70 : decode bM_ordered 70 = .ok (.iload_n 1, 1) := by decide +kernel
theorem dM_ordered_71 : decode bM_ordered 71 = .ok (.if_icmp .ne 41, 3) := by decide +kernel
theorem dM_ordered_74 : decode bM_ordered 74 = .ok (.aload_n 0, 1) := by decide +kernel
theorem dM_ordered_75 : decode bM_ordered 75 = .ok (.getfield 13, 3) := by decide +kernel
theorem dM_ordered_78 : decode bM_ordered 78 = .ok (.iload 5, 2) := by decide +kernel
theorem dM_ordered_80 : decode bM_ordered 80 = .ok (.iaload, 1) := by decide +kernel
theorem dM_ordered_81 : decode bM_ordered 81 = .ok (.iload_n 1, 1) := by decide +kernel
theorem dM_ordered_82 : decode bM_ordered 82 = .ok (.if_icmp .ne 20, 3) := by decide +kernel
theorem dM_ordered_102 : decode bM_ordered 102 = .ok (.iload 4, 2) := by decide +kernel
theorem dM_ordered_104 : decode bM_ordered 104 = .ok (.istore 4, 2) := by decide +kernel
theorem dM_ordered_106 : decode bM_ordered 106 = .ok (.iinc 5 1, 3) := by decide +kernel
theorem dM_ordered_109 : decode bM_ordered 109 = .ok (.goto (-54), 3) := by decide +kernel
theorem dM_ordered_85 : decode bM_ordered 85 = .ok (.aload_n 0, 1) := by decide +kernel
theorem dM_ordered_86 : decode bM_ordered 86 = .ok (.iload 5, 2) := by decide +kernel
theorem dM_ordered_88 : decode bM_ordered 88 = .ok (.iload_n 3, 1) := by decide +kernel
theorem dM_ordered_89 : decode bM_ordered 89 = .ok (.invokevirtual 124, 3) := by decide +kernel
theorem dM_isBefore_0 : decode bM_isBefore 0 = .ok (.aload_n 0, 1) := by decide +kernel
theorem dM_isBefore_1 : decode bM_isBefore 1 = .ok (.iload_n 1, 1) := by decide +kernel
theorem dM_isBefore_2 : decode bM_isBefore 2 = .ok (.invokevirtual 120, 3) := by decide +kernel
theorem dM_isBefore_5 : decode bM_isBefore 5 = .ok (.aload_n 0, 1) := by decide +kernel
theorem dM_isBefore_6 : decode bM_isBefore 6 = .ok (.iload_n 2, 1) := by decide +kernel
theorem dM_isBefore_7 : decode bM_isBefore 7 = .ok (.invokevirtual 120, 3) := by decide +kernel
theorem dM_isBefore_10 : decode bM_isBefore 10 = .ok (.lcmp, 1) := by decide +kernel
theorem dM_isBefore_11 : decode bM_isBefore 11 = .ok (.ifCond .eq 23, 3) := by decide +kernel
theorem dM_isBefore_34 : decode bM_isBefore 34 = .ok (.aload_n 0, 1) := by decide +kernel
theorem dM_isBefore_35 : decode bM_isBefore 35 = .ok (.getfield 19, 3) := by decide +kernel
theorem dM_isBefore_38 : decode bM_isBefore 38 = .ok (.iload_n 1, 1) := by decide +kernel
theorem dM_isBefore_39 : decode bM_isBefore 39 = .ok (.iaload, 1) := by decide +kernel
theorem dM_isBefore_40 : decode bM_isBefore 40 = .ok (.aload_n 0, 1) := by decide +kernel
theorem dM_isBefore_41 : decode bM_isBefore 41 = .ok (.getfield 19, 3) := by decide +kernel
theorem dM_isBefore_44 : decode bM_isBefore 44 = .ok (.iload_n 2, 1) := by decide +kernel
theorem dM_isBefore_45 : decode bM_isBefore 45 = .ok (.iaload, 1) := by decide +kernel
theorem dM_isBefore_46 : decode bM_isBefore 46 = .ok (.if_icmp .eq 26, 3) := by decide +kernel
theorem dM_isBefore_72 : decode bM_isBefore 72 = .ok (.iload_n 1, 1) := by decide +kernel
theorem dM_isBefore_73 : decode bM_isBefore 73 = .ok (.iload_n 2, 1) := by decide +kernel
theorem dM_isBefore_74 : decode bM_isBefore 74 = .ok (.if_icmp .ge 7, 3) := by decide +kernel
theorem dM_isBefore_81 : decode bM_isBefore 81 = .ok (.iconst 0, 1) := by decide +kernel
theorem dM_isBefore_82 : decode bM_isBefore 82 = .ok (.ireturn, 1) := by decide +kernel
theorem dM_isBefore_77 : decode bM_isBefore 77 = .ok (.iconst 1, 1) := by decide +kernel
theorem dM_isBefore_78 : decode bM_isBefore 78 = .ok (.goto 4, 3) := by decide +kernel
theorem dM_isBefore_49 : decode bM_isBefore 49 = .ok (.aload_n 0, 1) := by decide +kernel
theorem dM_isBefore_50 : decode bM_isBefore 50 = .ok (.getfield 19, 3) := by decide +kernel
theorem dM_isBefore_53 : decode bM_isBefore 53 = .ok (.iload_n 1, 1) := by decide +kernel
theorem dM_isBefore_54 : decode bM_isBefore 54 = .ok (.iaload, 1) := by decide +kernel
theorem dM_isBefore_55 : decode bM_isBefore 55 = .ok (.aload_n 0, 1) := by decide +kernel
theorem dM_isBefore_56 : decode bM_isBefore 56 = .ok (.getfield 19, 3) := by decide +kernel
theorem dM_isBefore_59 : decode bM_isBefore 59 = .ok (.iload_n 2, 1) := by decide +kernel
theorem dM_isBefore_60 : decode bM_isBefore 60 = .ok (.iaload, 1) := by decide +kernel
theorem dM_isBefore_61 : decode bM_isBefore 61 = .ok (.if_icmp .ge 7, 3) := by decide +kernel
theorem dM_isBefore_68 : decode bM_isBefore 68 = .ok (.iconst 0, 1) := by decide +kernel
theorem dM_isBefore_69 : decode bM_isBefore 69 = .ok (.goto 13, 3) := by decide +kernel
theorem dM_isBefore_64 : decode bM_isBefore 64 = .ok (.iconst 1, 1) := by decide +kernel
theorem dM_isBefore_65 : decode bM_isBefore 65 = .ok (.goto 17, 3) := by decide +kernel
theorem dM_isBefore_14 : decode bM_isBefore 14 = .ok (.aload_n 0, 1) := by decide +kernel
theorem dM_isBefore_15 : decode bM_isBefore 15 = .ok (.iload_n 1, 1) := by decide +kernel
theorem dM_isBefore_16 : decode bM_isBefore 16 = .ok (.invokevirtual 120, 3) := by decide +kernel
theorem dM_isBefore_19 : decode bM_isBefore 19 = .ok (.aload_n 0, 1) := by decide +kernel
theorem dM_isBefore_20 : decode bM_isBefore 20 = .ok (.iload_n 2, 1) := by decide +kernel
theorem dM_isBefore_21 : decode bM_isBefore 21 = .ok (.invokevirtual 120, 3) := by decide +kernel
theorem dM_isBefore_24 : decode bM_isBefore 24 = .ok (.lcmp, 1) := by decide +kernel
theorem dM_isBefore_25 : decode bM_isBefore 25 = .ok (.ifCond .ge 7, 3) := by decide +kernel
theorem dM_isBefore_32 : decode bM_isBefore 32 = .ok (.iconst 0, 1) := by decide +kernel
theorem dM_isBefore_33 : decode bM_isBefore 33 = .ok (.ireturn, 1) := by decide +kernel
theorem dM_isBefore_28 : decode bM_isBefore 28 = .ok (.iconst 1, 1) := by decide +kernel
theorem dM_isBefore_29 : decode bM_isBefore 29 = .ok (.goto 4, 3) := by decide +kernel
theorem dM_ordered_92 : decode bM_ordered 92 = .ok (.ifCond .eq 10, 3) := by decide +kernel
theorem dM_ordered_95 : decode bM_ordered 95 = .ok (.iload 4, 2) := by decide +kernel
theorem dM_ordered_97 : decode bM_ordered 97 = .ok (.iconst 1, 1) := by decide +kernel
theorem dM_ordered_98 : decode bM_ordered 98 = .ok (.iadd, 1) := by decide +kernel
theorem dM_ordered_99 : decode bM_ordered 99 = .ok (.goto 5, 3) := by decide +kernel
theorem dM_ordered_112 : decode bM_ordered 112 = .ok (.aload_n 0, 1) := by decide +kernel
theorem dM_ordered_113 : decode bM_ordered 113 = .ok (.getfield 13, 3) := by decide +kernel
theorem dM_ordered_116 : decode bM_ordered 116 = .ok (.iload_n 3, 1) := by decide +kernel
theorem dM_ordered_117 : decode bM_ordered 117 = .ok (.iaload, 1) := by decide +kernel
theorem dM_ordered_118 : decode bM_ordered 118 = .ok (.iload_n 1, 1) := by decide +kernel
theorem dM_ordered_119 : decode bM_ordered 119 = .ok (.if_icmp .ne 11, 3) := by decide +kernel
theorem dM_ordered_130 : decode bM_ordered 130 = .ok (.iinc 3 1, 3) := by decide +kernel
theorem dM_ordered_133 : decode bM_ordered 133 = .ok (.goto (-92), 3) := by decide +kernel
theorem dM_ordered_122 : decode bM_ordered 122 = .ok (.iload 4, 2) := by decide +kernel
theorem dM_ordered_124 : decode bM_ordered 124 = .ok (.iload_n 2, 1) := by decide +kernel
theorem dM_ordered_125 : decode bM_ordered 125 = .ok (.if_icmp .ne 5, 3) := by decide +kernel
theorem dM_ordered_128 : decode bM_ordered 128 = .ok (.iload_n 3, 1) := by decide +kernel
theorem dM_ordered_129 : decode bM_ordered 129 = .ok (.ireturn, 1) := by decide +kernel
theorem dM_ordered_136 : decode bM_ordered 136 = .ok (.iconst 0, 1) := by decide +kernel
theorem dM_ordered_137 : decode bM_ordered 137 = .ok (.ireturn, 1) := by decide +kernel
theorem dM_ordered_37 : decode bM_ordered 37 = .ok (.iconst 0, 1) := by decide +kernel
theorem dM_ordered_38 : decode bM_ordered 38 = .ok (.ireturn, 1) := by decide +kernel
theorem dM_ordered_25 : decode bM_ordered 25 = .ok (.iconst 1, 1) := by decide +kernel
theorem dM_ordered_26 : decode bM_ordered 26 = .ok (.goto 4, 3) := by decide +kernel
theorem dM_ordered_13 : decode bM_ordered 13 = .ok (.iconst 1, 1) := by decide +kernel
theorem dM_ordered_14 : decode bM_ordered 14 = .ok (.goto 4, 3) := by decide +kernel
theorem dM_implied_0 : decode bM_implied 0 = .ok (.aload_n 0, 1) := by decide +kernel
theorem dM_implied_1 : decode bM_implied 1 = .ok (.iload_n 1, 1) := by decide +kernel
theorem dM_implied_2 : decode bM_implied 2 = .ok (.i2l, 1) := by decide +kernel
theorem dM_implied_3 : decode bM_implied 3 = .ok (.ldc2_w 132, 3) := by decide +kernel
theorem dM_implied_6 : decode bM_implied 6 = .ok (.ldc2_w 73, 3) := by decide +kernel
theorem dM_implied_9 : decode bM_implied 9 = .ok (.invokestatic 54, 3) := by decide +kernel
theorem dM_implied_12 : decode bM_implied 12 = .ok (.ifCond .eq 15, 3) := by decide +kernel
theorem dM_implied_27 : decode bM_implied 27 = .ok (.iconst 1, 1) := by decide +kernel
theorem dM_implied_28 : decode bM_implied 28 = .ok (.goto 4, 3) := by decide +kernel
theorem dM_implied_32 : decode bM_implied 32 = .ok (.aload_n 0, 1) := by decide +kernel
theorem dM_implied_33 : decode bM_implied 33 = .ok (.getfield 65, 3) := by decide +kernel
theorem dM_implied_36 : decode bM_implied 36 = .ok (.ifCond .ne 7, 3) := by decide +kernel
theorem dM_implied_43 : decode bM_implied 43 = .ok (.iconst 0, 1) := by decide +kernel
theorem dM_implied_44 : decode bM_implied 44 = .ok (.iconst 0, 1) := by decide +kernel
theorem dM_implied_45 : decode bM_implied 45 = .ok (.invokevirtual 61, 3) := by decide +kernel
theorem dM_implied_48 : decode bM_implied 48 = .ok (.ifCond .eq 5, 3) := by decide +kernel
theorem dM_implied_53 : decode bM_implied 53 = .ok (.iconst 0, 1) := by decide +kernel
theorem dM_implied_54 : decode bM_implied 54 = .ok (.istore_n 3, 1) := by decide +kernel
theorem dM_implied_55 : decode bM_implied 55 = .ok (.iconst 1, 1) := by decide +kernel
theorem dM_implied_56 : decode bM_implied 56 = .ok (.istore 4, 2) := by decide +kernel
theorem dM_implied_58 : decode bM_implied 58 = .ok (.iload 4, 2) := by decide +kernel
theorem dM_implied_60 : decode bM_implied 60 = .ok (.aload_n 0, 1) := by decide +kernel
theorem dM_implied_61 : decode bM_implied 61 = .ok (.getfield 58, 3) := by decide +kernel
theorem dM_implied_64 : decode bM_implied 64 = .ok (.if_icmp .gt 39, 3) := by decide +kernel
theorem dM_implied_67 : decode bM_implied 67 = .ok (.aload_n 0, 1) := by decide +kernel
theorem dM_implied_68 : decode bM_implied 68 = .ok (.getfield 13, 3) := by decide +kernel
theorem dM_implied_71 : decode bM_implied 71 = .ok (.iload 4, 2) := by decide +kernel
theorem dM_implied_73 : decode bM_implied 73 = .ok (.iaload, 1) := by decide +kernel
theorem dM_implied_74 : decode bM_implied 74 = .ok (.iload_n 1, 1) := by decide +kernel
theorem dM_implied_75 : decode bM_implied 75 = .ok (.if_icmp .ne 20, 3) := by decide +kernel
theorem dM_implied_95 : decode bM_implied 95 = .ok (.iload_n 3, 1) := by decide +kernel
theorem dM_implied_96 : decode bM_implied 96 = .ok (.istore_n 3, 1) := by decide +kernel
theorem dM_implied_97 : decode bM_implied 97 = .ok (.iinc 4 1, 3) := by decide +kernel
theorem dM_implied_100 : decode bM_implied 100 = .ok (.goto (-42), 3) := by decide +kernel
theorem dM_implied_78 : decode bM_implied 78 = .ok (.aload_n 0, 1) := by decide +kernel
theorem dM_implied_79 : decode bM_implied 79 = .ok (.iload 4, 2) := by decide +kernel
theorem dM_implied_81 : decode bM_implied 81 = .ok (.iload_n 1, 1) := by decide +kernel
theorem dM_implied_82 : decode bM_implied 82 = .ok (.iload_n 2, 1) := by decide +kernel
theorem dM_implied_83 : decode bM_implied 83 = .ok (.invokevirtual 136, 3) := by decide +kernel
theorem dM_isImplied_0 : decode bM_isImplied 0 = .ok (.iconst 1, 1) := by decide +kernel
theorem dM_isImplied_1 : decode bM_isImplied 1 = .ok (.istore 4, 2) := by decide +kernel
theorem dM_isImplied_3 : decode bM_isImplied 3 = .ok (.iload 4, 2) := by decide +kernel
theorem dM_isImplied_5 : decode bM_isImplied 5 = .ok (.aload_n 0, 1) := by decide +kernel
theorem dM_isImplied_6 : decode bM_isImplied 6 = .ok (.getfield 58, 3) := by decide +kernel
theorem dM_isImplied_9 : decode bM_isImplied 9 = .ok (.if_icmp .gt 88, 3) := by decide +kernel
theorem dM_isImplied_12 : decode bM_isImplied 12 = .ok (.aload_n 0, 1) := by decide +kernel
theorem dM_isImplied_13 : decode bM_isImplied 13 = .ok (.getfield 13, 3) := by decide +kernel
theorem dM_isImplied_16 : decode bM_isImplied 16 = .ok (.iload 4, 2) := by decide +kernel
theorem dM_isImplied_18 : decode bM_isImplied 18 = .ok (.iaload, 1) := by decide +kernel
theorem dM_isImplied_19 : decode bM_isImplied 19 = .ok (.iload_n 3, 1) := by decide +kernel
theorem dM_isImplied_20 : decode bM_isImplied 20 = .ok (.if_icmp .ne 71, 3) := by decide +kernel
theorem dM_isImplied_91 : decode bM_isImplied 91 = .ok (.iinc 4 1, 3) := by decide +kernel
theorem dM_isImplied_94 : decode bM_isImplied 94 = .ok (.goto (-91), 3) := by decide +kernel
theorem dM_isImplied_23 : decode bM_isImplied 23 = .ok (.aload_n 0, 1) := by decide +kernel
theorem dM_isImplied_24 : decode bM_isImplied 24 = .ok (.getfield 16, 3) := by decide +kernel
theorem dM_isImplied_27 : decode bM_isImplied 27 = .ok (.iload 4, 2) := by decide +kernel
theorem dM_isImplied_29 : decode bM_isImplied 29 = .ok (.iaload, 1) := by decide +kernel
theorem dM_isImplied_30 : decode bM_isImplied 30 = .ok (.iconst 1, 1) := by decide +kernel
theorem dM_isImplied_31 : decode bM_isImplied 31 = .ok (.if_icmp .ne 60, 3) := by decide +kernel
theorem dM_isImplied_34 : decode bM_isImplied 34 = .ok (.aload_n 0, 1) := by decide +kernel
theorem dM_isImplied_35 : decode bM_isImplied 35 = .ok (.getfield 19, 3) := by decide +kernel
theorem dM_isImplied_38 : decode bM_isImplied 38 = .ok (.iload 4, 2) := by decide +kernel
theorem dM_isImplied_40 : decode bM_isImplied 40 = .ok (.iaload, 1) := by decide +kernel
theorem dM_isImplied_41 : decode bM_isImplied 41 = .ok (.iload_n 2, 1) := by decide +kernel
theorem dM_isImplied_42 : decode bM_isImplied 42 = .ok (.if_icmp .ne 49, 3) := by decide +kernel
theorem dM_isImplied_45 : decode bM_isImplied 45 = .ok (.aload_n 0, 1) := by decide +kernel
theorem dM_isImplied_46 : decode bM_isImplied 46 = .ok (.iload_n 1, 1) := by decide +kernel
theorem dM_isImplied_47 : decode bM_isImplied 47 = .ok (.invokevirtual 120, 3) := by decide +kernel
theorem dM_isImplied_50 : decode bM_isImplied 50 = .ok (.aload_n 0, 1) := by decide +kernel
theorem dM_isImplied_51 : decode bM_isImplied 51 = .ok (.iload 4, 2) := by decide +kernel
theorem dM_isImplied_53 : decode bM_isImplied 53 = .ok (.invokevirtual 120, 3) := by decide +kernel
theorem dM_isImplied_56 : decode bM_isImplied 56 = .ok (.lcmp, 1) := by decide +kernel
theorem dM_isImplied_57 : decode bM_isImplied 57 = .ok (.ifCond .le 34, 3) := by decide +kernel
theorem dM_isImplied_60 : decode bM_isImplied 60 = .ok (.aload_n 0, 1) := by decide +kernel
theorem dM_isImplied_61 : decode bM_isImplied 61 = .ok (.iload 4, 2) := by decide +kernel
theorem dM_isImplied_63 : decode bM_isImplied 63 = .ok (.iload_n 2, 1) := by decide +kernel
theorem dM_isImplied_64 : decode bM_isImplied 64 = .ok (.invokevirtual 128, 3) := by decide +kernel
theorem dM_outOf_0 : decode bM_outOf 0 = .ok (.iconst 0, 1) := by decide +kernel
theorem dM_outOf_1 : decode bM_outOf 1 = .ok (.istore_n 3, 1) := by decide +kernel
theorem dM_outOf_2 : decode bM_outOf 2 = .ok (.iconst 1, 1) := by decide +kernel
theorem dM_outOf_3 : decode bM_outOf 3 = .ok (.istore 4, 2) := by decide +kernel
theorem dM_outOf_5 : decode bM_outOf 5 = .ok (.iload 4, 2) := by decide +kernel
theorem dM_outOf_7 : decode bM_outOf 7 = .ok (.aload_n 0, 1) := by decide +kernel
theorem dM_outOf_8 : decode bM_outOf 8 = .ok (.getfield 58, 3) := by decide +kernel
theorem dM_outOf_11 : decode bM_outOf 11 = .ok (.if_icmp .gt 90, 3) := by decide +kernel
theorem dM_outOf_14 : decode bM_outOf 14 = .ok (.aload_n 0, 1) := by decide +kernel
theorem dM_outOf_15 : decode bM_outOf 15 = .ok (.getfield 13, 3) := by decide +kernel
theorem dM_outOf_18 : decode bM_outOf 18 = .ok (.iload 4, 2) := by decide +kernel
theorem dM_outOf_20 : decode bM_outOf 20 = .ok (.iaload, 1) := by decide +kernel
theorem dM_outOf_21 : decode bM_outOf 21 = .ok (.aload_n 0, 1) := by decide +kernel
theorem dM_outOf_22 : decode bM_outOf 22 = .ok (.getfield 13, 3) := by decide +kernel
theorem dM_outOf_25 : decode bM_outOf 25 = .ok (.iload_n 1, 1) := by decide +kernel
theorem dM_outOf_26 : decode bM_outOf 26 = .ok (.iaload, 1) := by decide +kernel
theorem dM_outOf_27 : decode bM_outOf 27 = .ok (.if_icmp .ne 39, 3) := by decide +kernel
theorem dM_outOf_66 : decode bM_outOf 66 = .ok (.iconst 0, 1) := by decide +kernel
theorem dM_outOf_67 : decode bM_outOf 67 = .ok (.istore 5, 2) := by decide +kernel
theorem dM_outOf_69 : decode bM_outOf 69 = .ok (.iload 5, 2) := by decide +kernel
theorem dM_outOf_71 : decode bM_outOf 71 = .ok (.ifCond .eq 22, 3) := by decide +kernel
theorem dM_outOf_93 : decode bM_outOf 93 = .ok (.iload_n 3, 1) := by decide +kernel
theorem dM_outOf_94 : decode bM_outOf 94 = .ok (.istore_n 3, 1) := by decide +kernel
theorem dM_outOf_95 : decode bM_outOf 95 = .ok (.iinc 4 1, 3) := by decide +kernel
theorem dM_outOf_98 : decode bM_outOf 98 = .ok (.goto (-93), 3) := by decide +kernel
theorem dM_outOf_30 : decode bM_outOf 30 = .ok (.aload_n 0, 1) := by decide +kernel
theorem dM_outOf_31 : decode bM_outOf 31 = .ok (.getfield 16, 3) := by decide +kernel
theorem dM_outOf_34 : decode bM_outOf 34 = .ok (.iload 4, 2) := by decide +kernel
theorem dM_outOf_36 : decode bM_outOf 36 = .ok (.iaload, 1) := by decide +kernel
theorem dM_outOf_37 : decode bM_outOf 37 = .ok (.iconst 2, 1) := by decide +kernel
theorem dM_outOf_38 : decode bM_outOf 38 = .ok (.if_icmp .ne 28, 3) := by decide +kernel
theorem dM_outOf_41 : decode bM_outOf 41 = .ok (.aload_n 0, 1) := by decide +kernel
theorem dM_outOf_42 : decode bM_outOf 42 = .ok (.getfield 19, 3) := by decide +kernel
theorem dM_outOf_45 : decode bM_outOf 45 = .ok (.iload 4, 2) := by decide +kernel
theorem dM_outOf_47 : decode bM_outOf 47 = .ok (.iaload, 1) := by decide +kernel
theorem dM_outOf_48 : decode bM_outOf 48 = .ok (.iload_n 2, 1) := by decide +kernel
theorem dM_outOf_49 : decode bM_outOf 49 = .ok (.if_icmp .ne 17, 3) := by decide +kernel
theorem dM_outOf_52 : decode bM_outOf 52 = .ok (.aload_n 0, 1) := by decide +kernel
theorem dM_outOf_53 : decode bM_outOf 53 = .ok (.iload_n 1, 1) := by decide +kernel
theorem dM_outOf_54 : decode bM_outOf 54 = .ok (.iload 4, 2) := by decide +kernel
theorem dM_outOf_56 : decode bM_outOf 56 = .ok (.invokevirtual 124, 3) := by decide +kernel
theorem dM_outOf_59 : decode bM_outOf 59 = .ok (.ifCond .eq 7, 3) := by decide +kernel
theorem dM_outOf_62 : decode bM_outOf 62 = .ok (.iconst 1, 1) := by decide +kernel
theorem dM_outOf_63 : decode bM_outOf 63 = .ok (.goto 4, 3) := by decide +kernel
theorem dM_outOf_74 : decode bM_outOf 74 = .ok (.iload_n 3, 1) := by decide +kernel
theorem dM_outOf_75 : decode bM_outOf 75 = .ok (.ifCond .eq 13, 3) := by decide +kernel
theorem dM_outOf_88 : decode bM_outOf 88 = .ok (.iload 4, 2) := by decide +kernel
theorem dM_outOf_90 : decode bM_outOf 90 = .ok (.goto 4, 3) := by decide +kernel
theorem dM_outOf_78 : decode bM_outOf 78 = .ok (.aload_n 0, 1) := by decide +kernel
theorem dM_outOf_79 : decode bM_outOf 79 = .ok (.iload 4, 2) := by decide +kernel
theorem dM_outOf_81 : decode bM_outOf 81 = .ok (.iload_n 3, 1) := by decide +kernel
theorem dM_outOf_82 : decode bM_outOf 82 = .ok (.invokevirtual 124, 3) := by decide +kernel
theorem dM_outOf_85 : decode bM_outOf 85 = .ok (.ifCond .eq 8, 3) := by decide +kernel
theorem dM_outOf_101 : decode bM_outOf 101 = .ok (.iload_n 3, 1) := by decide +kernel
theorem dM_outOf_102 : decode bM_outOf 102 = .ok (.ireturn, 1) := by decide +kernel
theorem dM_isImplied_67 : decode bM_isImplied 67 = .ok (.istore 5, 2) := by decide +kernel
theorem dM_isImplied_69 : decode bM_isImplied 69 = .ok (.iload 5, 2) := by decide +kernel
theorem dM_isImplied_71 : decode bM_isImplied 71 = .ok (.ifCond .eq 18, 3) := by decide +kernel
theorem dM_isImplied_89 : decode bM_isImplied 89 = .ok (.iconst 1, 1) := by decide +kernel
theorem dM_isImplied_90 : decode bM_isImplied 90 = .ok (.ireturn, 1) := by decide +kernel
theorem dM_isImplied_74 : decode bM_isImplied 74 = .ok (.aload_n 0, 1) := by decide +kernel
theorem dM_isImplied_75 : decode bM_isImplied 75 = .ok (.iload_n 1, 1) := by decide +kernel
theorem dM_isImplied_76 : decode bM_isImplied 76 = .ok (.invokevirtual 120, 3) := by decide +kernel
theorem dM_isImplied_79 : decode bM_isImplied 79 = .ok (.aload_n 0, 1) := by decide +kernel
theorem dM_isImplied_80 : decode bM_isImplied 80 = .ok (.iload 5, 2) := by decide +kernel
theorem dM_isImplied_82 : decode bM_isImplied 82 = .ok (.invokevirtual 120, 3) := by decide +kernel
theorem dM_isImplied_85 : decode bM_isImplied 85 = .ok (.lcmp, 1) := by decide +kernel
theorem dM_isImplied_86 : decode bM_isImplied 86 = .ok (.ifCond .gt 5, 3) := by decide +kernel
theorem dM_isImplied_97 : decode bM_isImplied 97 = .ok (.iconst 0, 1) := by decide +kernel
theorem dM_isImplied_98 : decode bM_isImplied 98 = .ok (.ireturn, 1) := by decide +kernel
theorem dM_implied_86 : decode bM_implied 86 = .ok (.ifCond .eq 9, 3) := by decide +kernel
theorem dM_implied_89 : decode bM_implied 89 = .ok (.iload_n 3, 1) := by decide +kernel
theorem dM_implied_90 : decode bM_implied 90 = .ok (.iconst 1, 1) := by decide +kernel
theorem dM_implied_91 : decode bM_implied 91 = .ok (.iadd, 1) := by decide +kernel
theorem dM_implied_92 : decode bM_implied 92 = .ok (.goto 4, 3) := by decide +kernel
theorem dM_implied_103 : decode bM_implied 103 = .ok (.iload_n 3, 1) := by decide +kernel
theorem dM_implied_104 : decode bM_implied 104 = .ok (.ireturn, 1) := by decide +kernel
theorem dM_implied_51 : decode bM_implied 51 = .ok (.iconst 0, 1) := by decide +kernel
theorem dM_implied_52 : decode bM_implied 52 = .ok (.ireturn, 1) := by decide +kernel
theorem dM_implied_39 : decode bM_implied 39 = .ok (.iconst 1, 1) := by decide +kernel
theorem dM_implied_40 : decode bM_implied 40 = .ok (.goto 4, 3) := by decide +kernel
theorem dM_implied_15 : decode bM_implied 15 = .ok (.iload_n 2, 1) := by decide +kernel
theorem dM_implied_16 : decode bM_implied 16 = .ok (.i2l, 1) := by decide +kernel
theorem dM_implied_17 : decode bM_implied 17 = .ok (.lconst 0, 1) := by decide +kernel
theorem dM_implied_18 : decode bM_implied 18 = .ok (.ldc2_w 134, 3) := by decide +kernel
theorem dM_implied_21 : decode bM_implied 21 = .ok (.invokestatic 54, 3) := by decide +kernel
theorem dM_implied_24 : decode bM_implied 24 = .ok (.ifCond .ne 7, 3) := by decide +kernel
theorem dM_implied_31 : decode bM_implied 31 = .ok (.iconst 0, 1) := by decide +kernel
theorem k_m78 : (.code yM_timeOf bM_timeOf 2 (some .long) : Cond) ∈ TBL := TBL_in (by decide +kernel) (by decide +kernel)
theorem k_m79 : (.initialized yM_timeOf.cls : Cond) ∈ TBL := TBL_in (by decide +kernel) (by decide +kernel)
theorem k_m80 : (.methodLink RM 120 yM_timeOf : Cond) ∈ TBL := TBL_in (by decide +kernel) (by decide +kernel)
theorem k_m81 : (.instanceMethod yM_timeOf : Cond) ∈ TBL := TBL_in (by decide +kernel) (by decide +kernel)
theorem k_m82 : (.selects RM yM_timeOf yM_timeOf : Cond) ∈ TBL := TBL_in (by decide +kernel) (by decide +kernel)
theorem k_m83 : (.code yM_isBefore bM_isBefore 3 (some .boolean) : Cond) ∈ TBL := TBL_in (by decide +kernel) (by decide +kernel)
theorem k_m84 : (.initialized yM_isBefore.cls : Cond) ∈ TBL := TBL_in (by decide +kernel) (by decide +kernel)
theorem k_m85 : (.methodLink RM 124 yM_isBefore : Cond) ∈ TBL := TBL_in (by decide +kernel) (by decide +kernel)
theorem k_m86 : (.instanceMethod yM_isBefore : Cond) ∈ TBL := TBL_in (by decide +kernel) (by decide +kernel)
theorem k_m87 : (.selects RM yM_isBefore yM_isBefore : Cond) ∈ TBL := TBL_in (by decide +kernel) (by decide +kernel)
theorem k_m88 : (.constantLong RM 132 100 : Cond) ∈ TBL := TBL_in (by decide +kernel) (by decide +kernel)
theorem k_m89 : (.code yM_outOf bM_outOf 6 (some .int) : Cond) ∈ TBL := TBL_in (by decide +kernel) (by decide +kernel)
theorem k_m90 : (.initialized yM_outOf.cls : Cond) ∈ TBL := TBL_in (by decide +kernel) (by decide +kernel)
theorem k_m91 : (.methodLink RM 128 yM_outOf : Cond) ∈ TBL := TBL_in (by decide +kernel) (by decide +kernel)
theorem k_m92 : (.instanceMethod yM_outOf : Cond) ∈ TBL := TBL_in (by decide +kernel) (by decide +kernel)
theorem k_m93 : (.selects RM yM_outOf yM_outOf : Cond) ∈ TBL := TBL_in (by decide +kernel) (by decide +kernel)
theorem k_m94 : (.code yM_isImplied bM_isImplied 6 (some .boolean) : Cond) ∈ TBL := TBL_in (by decide +kernel) (by decide +kernel)
theorem k_m95 : (.initialized yM_isImplied.cls : Cond) ∈ TBL := TBL_in (by decide +kernel) (by decide +kernel)
theorem k_m96 : (.methodLink RM 136 yM_isImplied : Cond) ∈ TBL := TBL_in (by decide +kernel) (by decide +kernel)
theorem k_m97 : (.instanceMethod yM_isImplied : Cond) ∈ TBL := TBL_in (by decide +kernel) (by decide +kernel)
theorem k_m98 : (.selects RM yM_isImplied yM_isImplied : Cond) ∈ TBL := TBL_in (by decide +kernel) (by decide +kernel)
theorem k_m99 : (.constantLong RM 134 99 : Cond) ∈ TBL := TBL_in (by decide +kernel) (by decide +kernel)
