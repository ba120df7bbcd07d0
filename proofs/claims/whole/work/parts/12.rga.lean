theorem dRg_find_0 : decode bRg_find 0 = .ok (.aload_n 0, 1) := by decide +kernel
theorem dRg_find_1 : decode bRg_find 1 = .ok (.iconst 0, 1) := by decide +kernel
theorem dRg_find_2 : decode bRg_find 2 = .ok (.putfield 20, 3) := by decide +kernel
theorem dRg_find_5 : decode bRg_find 5 = .ok (.iload_n 1, 1) := by decide +kernel
theorem dRg_find_6 : decode bRg_find 6 = .ok (.istore_n 3, 1) := by decide +kernel
theorem dRg_find_7 : decode bRg_find 7 = .ok (.iconst 0, 1) := by decide +kernel
theorem dRg_find_8 : decode bRg_find 8 = .ok (.istore 4, 2) := by decide +kernel
theorem dRg_find_10 : decode bRg_find 10 = .ok (.iload 4, 2) := by decide +kernel
theorem dRg_find_12 : decode bRg_find 12 = .ok (.iload_n 1, 1) := by decide +kernel
theorem dRg_find_13 : decode bRg_find 13 = .ok (.if_icmp .ge 44, 3) := by decide +kernel
theorem dRg_find_16 : decode bRg_find 16 = .ok (.aload_n 0, 1) := by decide +kernel
theorem dRg_find_17 : decode bRg_find 17 = .ok (.iload 4, 2) := by decide +kernel
theorem dRg_find_19 : decode bRg_find 19 = .ok (.iload_n 3, 1) := by decide +kernel
theorem dRg_find_20 : decode bRg_find 20 = .ok (.iload_n 1, 1) := by decide +kernel
theorem dRg_find_21 : decode bRg_find 21 = .ok (.aload_n 2, 1) := by decide +kernel
theorem dRg_find_22 : decode bRg_find 22 = .ok (.invokevirtual 24, 3) := by decide +kernel
theorem dRg_stepsBack_0 : decode bRg_stepsBack 0 = .ok (.iconst 0, 1) := by decide +kernel
theorem dRg_stepsBack_1 : decode bRg_stepsBack 1 = .ok (.istore 5, 2) := by decide +kernel
theorem dRg_stepsBack_3 : decode bRg_stepsBack 3 = .ok (.iload 5, 2) := by decide +kernel
theorem dRg_stepsBack_5 : decode bRg_stepsBack 5 = .ok (.iload_n 3, 1) := by decide +kernel
theorem dRg_stepsBack_6 : decode bRg_stepsBack 6 = .ok (.if_icmp .ge 21, 3) := by decide +kernel
theorem dRg_stepsBack_9 : decode bRg_stepsBack 9 = .ok (.aload_n 0, 1) := by decide +kernel
theorem dRg_stepsBack_10 : decode bRg_stepsBack 10 = .ok (.getfield 17, 3) := by decide +kernel
theorem dRg_stepsBack_13 : decode bRg_stepsBack 13 = .ok (.iconst 0, 1) := by decide +kernel
theorem dRg_stepsBack_14 : decode bRg_stepsBack 14 = .ok (.aaload, 1) := by decide +kernel
theorem dRg_stepsBack_15 : decode bRg_stepsBack 15 = .ok (.iload 5, 2) := by decide +kernel
theorem dRg_stepsBack_17 : decode bRg_stepsBack 17 = .ok (.ldc2_w 32, 3) := by decide +kernel
theorem dRg_stepsBack_20 : decode bRg_stepsBack 20 = .ok (.lastore, 1) := by decide +kernel
theorem dRg_stepsBack_21 : decode bRg_stepsBack 21 = .ok (.iinc 5 1, 3) := by decide +kernel
theorem dRg_stepsBack_24 : decode bRg_stepsBack 24 = .ok (.goto (-21), 3) := by decide +kernel
theorem dRg_stepsBack_27 : decode bRg_stepsBack 27 = .ok (.aload_n 0, 1) := by decide +kernel
theorem dRg_stepsBack_28 : decode bRg_stepsBack 28 = .ok (.getfield 17, 3) := by decide +kernel
theorem dRg_stepsBack_31 : decode bRg_stepsBack 31 = .ok (.iconst 0, 1) := by decide +kernel
theorem dRg_stepsBack_32 : decode bRg_stepsBack 32 = .ok (.aaload, 1) := by decide +kernel
theorem dRg_stepsBack_33 : decode bRg_stepsBack 33 = .ok (.iload_n 1, 1) := by decide +kernel
theorem dRg_stepsBack_34 : decode bRg_stepsBack 34 = .ok (.lconst 0, 1) := by decide +kernel
theorem dRg_stepsBack_35 : decode bRg_stepsBack 35 = .ok (.lastore, 1) := by decide +kernel
theorem dRg_stepsBack_36 : decode bRg_stepsBack 36 = .ok (.iconst 1, 1) := by decide +kernel
theorem dRg_stepsBack_37 : decode bRg_stepsBack 37 = .ok (.istore 5, 2) := by decide +kernel
theorem dRg_stepsBack_39 : decode bRg_stepsBack 39 = .ok (.iload 5, 2) := by decide +kernel
theorem dRg_stepsBack_41 : decode bRg_stepsBack 41 = .ok (.iload_n 2, 1) := by decide +kernel
theorem dRg_stepsBack_42 : decode bRg_stepsBack 42 = .ok (.if_icmp .gt 69, 3) := by decide +kernel
theorem dRg_stepsBack_45 : decode bRg_stepsBack 45 = .ok (.iconst 0, 1) := by decide +kernel
theorem dRg_stepsBack_46 : decode bRg_stepsBack 46 = .ok (.istore 6, 2) := by decide +kernel
theorem dRg_stepsBack_48 : decode bRg_stepsBack 48 = .ok (.iload 6, 2) := by decide +kernel
theorem dRg_stepsBack_50 : decode bRg_stepsBack 50 = .ok (.iload_n 3, 1) := by decide +kernel
theorem dRg_stepsBack_51 : decode bRg_stepsBack 51 = .ok (.if_icmp .ge 37, 3) := by decide +kernel
theorem dRg_stepsBack_54 : decode bRg_stepsBack 54 = .ok (.aload_n 0, 1) := by decide +kernel
theorem dRg_stepsBack_55 : decode bRg_stepsBack 55 = .ok (.getfield 17, 3) := by decide +kernel
theorem dRg_stepsBack_58 : decode bRg_stepsBack 58 = .ok (.iload 5, 2) := by decide +kernel
theorem dRg_stepsBack_60 : decode bRg_stepsBack 60 = .ok (.aaload, 1) := by decide +kernel
theorem dRg_stepsBack_61 : decode bRg_stepsBack 61 = .ok (.iload 6, 2) := by decide +kernel
theorem dRg_stepsBack_63 : decode bRg_stepsBack 63 = .ok (.aload 4, 2) := by decide +kernel
theorem dRg_stepsBack_65 : decode bRg_stepsBack 65 = .ok (.iload 6, 2) := by decide +kernel
theorem dRg_stepsBack_67 : decode bRg_stepsBack 67 = .ok (.aaload, 1) := by decide +kernel
theorem dRg_stepsBack_68 : decode bRg_stepsBack 68 = .ok (.aload_n 0, 1) := by decide +kernel
theorem dRg_stepsBack_69 : decode bRg_stepsBack 69 = .ok (.getfield 17, 3) := by decide +kernel
theorem dRg_stepsBack_72 : decode bRg_stepsBack 72 = .ok (.iload 5, 2) := by decide +kernel
theorem dRg_stepsBack_74 : decode bRg_stepsBack 74 = .ok (.iconst 1, 1) := by decide +kernel
theorem dRg_stepsBack_75 : decode bRg_stepsBack 75 = .ok (.isub, 1) := by decide +kernel
theorem dRg_stepsBack_76 : decode bRg_stepsBack 76 = .ok (.aaload, 1) := by decide +kernel
theorem dRg_stepsBack_77 : decode bRg_stepsBack 77 = .ok (.iload_n 3, 1) := by decide +kernel
theorem dRg_stepsBack_78 : decode bRg_stepsBack 78 = .ok (.invokestatic 34, 3) := by decide +kernel
theorem dRg_leastThroughNext_0 : decode bRg_leastThroughNext 0 = .ok (.ldc2_w 32, 3) := by decide +kernel
theorem dRg_leastThroughNext_3 : decode bRg_leastThroughNext 3 = .ok (.lstore_n 3, 1) := by decide +kernel
theorem dRg_leastThroughNext_4 : decode bRg_leastThroughNext 4 = .ok (.iconst 0, 1) := by decide +kernel
theorem dRg_leastThroughNext_5 : decode bRg_leastThroughNext 5 = .ok (.istore 5, 2) := by decide +kernel
theorem dRg_leastThroughNext_7 : decode bRg_leastThroughNext 7 = .ok (.iload 5, 2) := by decide +kernel
theorem dRg_leastThroughNext_9 : decode bRg_leastThroughNext 9 = .ok (.iload_n 2, 1) := by decide +kernel
theorem dRg_leastThroughNext_10 : decode bRg_leastThroughNext 10 = .ok (.if_icmp .ge 45, 3) := by decide +kernel
theorem dRg_leastThroughNext_13 : decode bRg_leastThroughNext 13 = .ok (.aload_n 0, 1) := by decide +kernel
theorem dRg_leastThroughNext_14 : decode bRg_leastThroughNext 14 = .ok (.iload 5, 2) := by decide +kernel
theorem dRg_leastThroughNext_16 : decode bRg_leastThroughNext 16 = .ok (.laload, 1) := by decide +kernel
theorem dRg_leastThroughNext_17 : decode bRg_leastThroughNext 17 = .ok (.ldc2_w 32, 3) := by decide +kernel
theorem dRg_leastThroughNext_20 : decode bRg_leastThroughNext 20 = .ok (.lcmp, 1) := by decide +kernel
theorem dRg_leastThroughNext_21 : decode bRg_leastThroughNext 21 = .ok (.ifCond .eq 28, 3) := by decide +kernel
theorem dRg_leastThroughNext_49 : decode bRg_leastThroughNext 49 = .ok (.iinc 5 1, 3) := by decide +kernel
theorem dRg_leastThroughNext_52 : decode bRg_leastThroughNext 52 = .ok (.goto (-45), 3) := by decide +kernel
theorem dRg_leastThroughNext_24 : decode bRg_leastThroughNext 24 = .ok (.aload_n 1, 1) := by decide +kernel
theorem dRg_leastThroughNext_25 : decode bRg_leastThroughNext 25 = .ok (.iload 5, 2) := by decide +kernel
theorem dRg_leastThroughNext_27 : decode bRg_leastThroughNext 27 = .ok (.laload, 1) := by decide +kernel
theorem dRg_leastThroughNext_28 : decode bRg_leastThroughNext 28 = .ok (.ldc2_w 32, 3) := by decide +kernel
theorem dRg_leastThroughNext_31 : decode bRg_leastThroughNext 31 = .ok (.lcmp, 1) := by decide +kernel
theorem dRg_leastThroughNext_32 : decode bRg_leastThroughNext 32 = .ok (.ifCond .eq 17, 3) := by decide +kernel
theorem dRg_leastThroughNext_35 : decode bRg_leastThroughNext 35 = .ok (.lload_n 3, 1) := by decide +kernel
theorem dRg_leastThroughNext_36 : decode bRg_leastThroughNext 36 = .ok (.aload_n 0, 1) := by decide +kernel
theorem dRg_leastThroughNext_37 : decode bRg_leastThroughNext 37 = .ok (.iload 5, 2) := by decide +kernel
theorem dRg_leastThroughNext_39 : decode bRg_leastThroughNext 39 = .ok (.laload, 1) := by decide +kernel
theorem dRg_leastThroughNext_40 : decode bRg_leastThroughNext 40 = .ok (.aload_n 1, 1) := by decide +kernel
theorem dRg_leastThroughNext_41 : decode bRg_leastThroughNext 41 = .ok (.iload 5, 2) := by decide +kernel
theorem dRg_leastThroughNext_43 : decode bRg_leastThroughNext 43 = .ok (.laload, 1) := by decide +kernel
theorem dRg_leastThroughNext_44 : decode bRg_leastThroughNext 44 = .ok (.ladd, 1) := by decide +kernel
theorem dRg_leastThroughNext_45 : decode bRg_leastThroughNext 45 = .ok (.invokestatic 38, 3) := by decide +kernel
theorem dRg_leastThroughNext_48 : decode bRg_leastThroughNext 48 = .ok (.lstore_n 3, 1) := by decide +kernel
theorem dRg_leastThroughNext_55 : decode bRg_leastThroughNext 55 = .ok (.lload_n 3, 1) := by decide +kernel
theorem dRg_leastThroughNext_56 : decode bRg_leastThroughNext 56 = .ok (.lreturn, 1) := by decide +kernel
theorem dRg_stepsBack_81 : decode bRg_stepsBack 81 = .ok (.lastore, 1) := by decide +kernel
theorem dRg_stepsBack_82 : decode bRg_stepsBack 82 = .ok (.iinc 6 1, 3) := by decide +kernel
theorem dRg_stepsBack_85 : decode bRg_stepsBack 85 = .ok (.goto (-37), 3) := by decide +kernel
theorem dRg_stepsBack_88 : decode bRg_stepsBack 88 = .ok (.aload_n 0, 1) := by decide +kernel
theorem dRg_stepsBack_89 : decode bRg_stepsBack 89 = .ok (.getfield 17, 3) := by decide +kernel
theorem dRg_stepsBack_92 : decode bRg_stepsBack 92 = .ok (.iload 5, 2) := by decide +kernel
theorem dRg_stepsBack_94 : decode bRg_stepsBack 94 = .ok (.aaload, 1) := by decide +kernel
theorem dRg_stepsBack_95 : decode bRg_stepsBack 95 = .ok (.iload_n 1, 1) := by decide +kernel
theorem dRg_stepsBack_96 : decode bRg_stepsBack 96 = .ok (.laload, 1) := by decide +kernel
theorem dRg_stepsBack_97 : decode bRg_stepsBack 97 = .ok (.lconst 0, 1) := by decide +kernel
theorem dRg_stepsBack_98 : decode bRg_stepsBack 98 = .ok (.lcmp, 1) := by decide +kernel
theorem dRg_stepsBack_99 : decode bRg_stepsBack 99 = .ok (.ifCond .ge 6, 3) := by decide +kernel
theorem dRg_stepsBack_105 : decode bRg_stepsBack 105 = .ok (.iinc 5 1, 3) := by decide +kernel
theorem dRg_stepsBack_108 : decode bRg_stepsBack 108 = .ok (.goto (-69), 3) := by decide +kernel
theorem dRg_stepsBack_102 : decode bRg_stepsBack 102 = .ok (.iload 5, 2) := by decide +kernel
theorem dRg_stepsBack_104 : decode bRg_stepsBack 104 = .ok (.ireturn, 1) := by decide +kernel
theorem dRg_stepsBack_111 : decode bRg_stepsBack 111 = .ok (.iconst 0, 1) := by decide +kernel
theorem dRg_stepsBack_112 : decode bRg_stepsBack 112 = .ok (.ireturn, 1) := by decide +kernel
theorem dRg_find_25 : decode bRg_find 25 = .ok (.istore 5, 2) := by decide +kernel
theorem dRg_find_27 : decode bRg_find 27 = .ok (.iload 5, 2) := by decide +kernel
theorem dRg_find_29 : decode bRg_find 29 = .ok (.ifCond .le 22, 3) := by decide +kernel
theorem dRg_find_51 : decode bRg_find 51 = .ok (.iinc 4 1, 3) := by decide +kernel
theorem dRg_find_54 : decode bRg_find 54 = .ok (.goto (-44), 3) := by decide +kernel
theorem dRg_find_32 : decode bRg_find 32 = .ok (.aload_n 0, 1) := by decide +kernel
theorem dRg_find_33 : decode bRg_find 33 = .ok (.iload 5, 2) := by decide +kernel
theorem dRg_find_35 : decode bRg_find 35 = .ok (.putfield 20, 3) := by decide +kernel
theorem dRg_find_38 : decode bRg_find 38 = .ok (.iload 5, 2) := by decide +kernel
theorem dRg_find_40 : decode bRg_find 40 = .ok (.iconst 1, 1) := by decide +kernel
theorem dRg_find_41 : decode bRg_find 41 = .ok (.isub, 1) := by decide +kernel
theorem dRg_find_42 : decode bRg_find 42 = .ok (.istore_n 3, 1) := by decide +kernel
theorem dRg_find_43 : decode bRg_find 43 = .ok (.aload_n 0, 1) := by decide +kernel
theorem dRg_find_44 : decode bRg_find 44 = .ok (.iload 4, 2) := by decide +kernel
theorem dRg_find_46 : decode bRg_find 46 = .ok (.iload_n 1, 1) := by decide +kernel
theorem dRg_find_47 : decode bRg_find 47 = .ok (.aload_n 2, 1) := by decide +kernel
theorem dRg_find_48 : decode bRg_find 48 = .ok (.invokevirtual 28, 3) := by decide +kernel
theorem dRg_trace_0 : decode bRg_trace 0 = .ok (.aload_n 0, 1) := by decide +kernel
theorem dRg_trace_1 : decode bRg_trace 1 = .ok (.getfield 9, 3) := by decide +kernel
theorem dRg_trace_4 : decode bRg_trace 4 = .ok (.iconst 0, 1) := by decide +kernel
theorem dRg_trace_5 : decode bRg_trace 5 = .ok (.iload_n 1, 1) := by decide +kernel
theorem dRg_trace_6 : decode bRg_trace 6 = .ok (.iastore, 1) := by decide +kernel
theorem dRg_trace_7 : decode bRg_trace 7 = .ok (.lconst 0, 1) := by decide +kernel
theorem dRg_trace_8 : decode bRg_trace 8 = .ok (.lstore 4, 2) := by decide +kernel
theorem dRg_trace_10 : decode bRg_trace 10 = .ok (.iconst 1, 1) := by decide +kernel
theorem dRg_trace_11 : decode bRg_trace 11 = .ok (.istore 6, 2) := by decide +kernel
theorem dRg_trace_13 : decode bRg_trace 13 = .ok (.iload 6, 2) := by decide +kernel
theorem dRg_trace_15 : decode bRg_trace 15 = .ok (.aload_n 0, 1) := by decide +kernel
theorem dRg_trace_16 : decode bRg_trace 16 = .ok (.getfield 20, 3) := by decide +kernel
theorem dRg_trace_19 : decode bRg_trace 19 = .ok (.if_icmp .ge 64, 3) := by decide +kernel
theorem dRg_trace_22 : decode bRg_trace 22 = .ok (.aload_n 3, 1) := by decide +kernel
theorem dRg_trace_23 : decode bRg_trace 23 = .ok (.aload_n 0, 1) := by decide +kernel
theorem dRg_trace_24 : decode bRg_trace 24 = .ok (.getfield 9, 3) := by decide +kernel
theorem dRg_trace_27 : decode bRg_trace 27 = .ok (.iload 6, 2) := by decide +kernel
theorem dRg_trace_29 : decode bRg_trace 29 = .ok (.iconst 1, 1) := by decide +kernel
theorem dRg_trace_30 : decode bRg_trace 30 = .ok (.isub, 1) := by decide +kernel
theorem dRg_trace_31 : decode bRg_trace 31 = .ok (.iaload, 1) := by decide +kernel
theorem dRg_trace_32 : decode bRg_trace 32 = .ok (.aaload, 1) := by decide +kernel
theorem dRg_trace_33 : decode bRg_trace 33 = .ok (.astore 7, 2) := by decide +kernel
theorem dRg_trace_35 : decode bRg_trace 35 = .ok (.aload_n 0, 1) := by decide +kernel
theorem dRg_trace_36 : decode bRg_trace 36 = .ok (.getfield 9, 3) := by decide +kernel
theorem dRg_trace_39 : decode bRg_trace 39 = .ok (.iload 6, 2) := by decide +kernel
theorem dRg_trace_41 : decode bRg_trace 41 = .ok (.lload 4, 2) := by decide +kernel
theorem dRg_trace_43 : decode bRg_trace 43 = .ok (.aload 7, 2) := by decide +kernel
theorem dRg_trace_45 : decode bRg_trace 45 = .ok (.aload_n 0, 1) := by decide +kernel
theorem dRg_trace_46 : decode bRg_trace 46 = .ok (.getfield 17, 3) := by decide +kernel
theorem dRg_trace_49 : decode bRg_trace 49 = .ok (.aload_n 0, 1) := by decide +kernel
theorem dRg_trace_50 : decode bRg_trace 50 = .ok (.getfield 20, 3) := by decide +kernel
theorem dRg_trace_53 : decode bRg_trace 53 = .ok (.iload 6, 2) := by decide +kernel
theorem dRg_trace_55 : decode bRg_trace 55 = .ok (.isub, 1) := by decide +kernel
theorem dRg_trace_56 : decode bRg_trace 56 = .ok (.aaload, 1) := by decide +kernel
theorem dRg_trace_57 : decode bRg_trace 57 = .ok (.iload_n 2, 1) := by decide +kernel
theorem dRg_trace_58 : decode bRg_trace 58 = .ok (.invokestatic 44, 3) := by decide +kernel
theorem dRg_leastNext_0 : decode bRg_leastNext 0 = .ok (.iconst 0, 1) := by decide +kernel
theorem dRg_leastNext_1 : decode bRg_leastNext 1 = .ok (.istore 5, 2) := by decide +kernel
theorem dRg_leastNext_3 : decode bRg_leastNext 3 = .ok (.iload 5, 2) := by decide +kernel
theorem dRg_leastNext_5 : decode bRg_leastNext 5 = .ok (.iload 4, 2) := by decide +kernel
theorem dRg_leastNext_7 : decode bRg_leastNext 7 = .ok (.if_icmp .ge 50, 3) := by decide +kernel
theorem dRg_leastNext_10 : decode bRg_leastNext 10 = .ok (.aload_n 2, 1) := by decide +kernel
theorem dRg_leastNext_11 : decode bRg_leastNext 11 = .ok (.iload 5, 2) := by decide +kernel
theorem dRg_leastNext_13 : decode bRg_leastNext 13 = .ok (.laload, 1) := by decide +kernel
theorem dRg_leastNext_14 : decode bRg_leastNext 14 = .ok (.ldc2_w 32, 3) := by decide +kernel
theorem dRg_leastNext_17 : decode bRg_leastNext 17 = .ok (.lcmp, 1) := by decide +kernel
theorem dRg_leastNext_18 : decode bRg_leastNext 18 = .ok (.ifCond .eq 33, 3) := by decide +kernel
theorem dRg_leastNext_51 : decode bRg_leastNext 51 = .ok (.iinc 5 1, 3) := by decide +kernel
theorem dRg_leastNext_54 : decode bRg_leastNext 54 = .ok (.goto (-51), 3) := by decide +kernel
theorem dRg_leastNext_21 : decode bRg_leastNext 21 = .ok (.aload_n 3, 1) := by decide +kernel
theorem dRg_leastNext_22 : decode bRg_leastNext 22 = .ok (.iload 5, 2) := by decide +kernel
theorem dRg_leastNext_24 : decode bRg_leastNext 24 = .ok (.laload, 1) := by decide +kernel
theorem dRg_leastNext_25 : decode bRg_leastNext 25 = .ok (.ldc2_w 32, 3) := by decide +kernel
theorem dRg_leastNext_28 : decode bRg_leastNext 28 = .ok (.lcmp, 1) := by decide +kernel
theorem dRg_leastNext_29 : decode bRg_leastNext 29 = .ok (.ifCond .eq 22, 3) := by decide +kernel
theorem dRg_leastNext_32 : decode bRg_leastNext 32 = .ok (.lload_n 0, 1) := by decide +kernel
theorem dRg_leastNext_33 : decode bRg_leastNext 33 = .ok (.aload_n 2, 1) := by decide +kernel
theorem dRg_leastNext_34 : decode bRg_leastNext 34 = .ok (.iload 5, 2) := by decide +kernel
theorem dRg_leastNext_36 : decode bRg_leastNext 36 = .ok (.laload, 1) := by decide +kernel
theorem dRg_leastNext_37 : decode bRg_leastNext 37 = .ok (.ladd, 1) := by decide +kernel
theorem dRg_leastNext_38 : decode bRg_leastNext 38 = .ok (.aload_n 3, 1) := by decide +kernel
theorem dRg_leastNext_39 : decode bRg_leastNext 39 = .ok (.iload 5, 2) := by decide +kernel
theorem dRg_leastNext_41 : decode bRg_leastNext 41 = .ok (.laload, 1) := by decide +kernel
theorem dRg_leastNext_42 : decode bRg_leastNext 42 = .ok (.ladd, 1) := by decide +kernel
theorem dRg_leastNext_43 : decode bRg_leastNext 43 = .ok (.lconst 0, 1) := by decide +kernel
theorem dRg_leastNext_44 : decode bRg_leastNext 44 = .ok (.lcmp, 1) := by decide +kernel
theorem dRg_leastNext_45 : decode bRg_leastNext 45 = .ok (.ifCond .ge 6, 3) := by decide +kernel
theorem dRg_leastNext_48 : decode bRg_leastNext 48 = .ok (.iload 5, 2) := by decide +kernel
theorem dRg_leastNext_50 : decode bRg_leastNext 50 = .ok (.ireturn, 1) := by decide +kernel
theorem dRg_leastNext_57 : decode bRg_leastNext 57 = .ok (.iconst 0, 1) := by decide +kernel
theorem dRg_leastNext_58 : decode bRg_leastNext 58 = .ok (.ireturn, 1) := by decide +kernel
theorem dRg_trace_61 : decode bRg_trace 61 = .ok (.iastore, 1) := by decide +kernel
theorem dRg_trace_62 : decode bRg_trace 62 = .ok (.lload 4, 2) := by decide +kernel
theorem dRg_trace_64 : decode bRg_trace 64 = .ok (.aload 7, 2) := by decide +kernel
theorem dRg_trace_66 : decode bRg_trace 66 = .ok (.aload_n 0, 1) := by decide +kernel
theorem dRg_trace_67 : decode bRg_trace 67 = .ok (.getfield 9, 3) := by decide +kernel
theorem dRg_trace_70 : decode bRg_trace 70 = .ok (.iload 6, 2) := by decide +kernel
theorem dRg_trace_72 : decode bRg_trace 72 = .ok (.iaload, 1) := by decide +kernel
theorem dRg_trace_73 : decode bRg_trace 73 = .ok (.laload, 1) := by decide +kernel
theorem dRg_trace_74 : decode bRg_trace 74 = .ok (.ladd, 1) := by decide +kernel
theorem dRg_trace_75 : decode bRg_trace 75 = .ok (.lstore 4, 2) := by decide +kernel
theorem dRg_trace_77 : decode bRg_trace 77 = .ok (.iinc 6 1, 3) := by decide +kernel
theorem dRg_trace_80 : decode bRg_trace 80 = .ok (.goto (-67), 3) := by decide +kernel
theorem dRg_trace_83 : decode bRg_trace 83 = .ok (.return_, 1) := by decide +kernel
theorem dRg_find_57 : decode bRg_find 57 = .ok (.return_, 1) := by decide +kernel
theorem k_x36 : (.fieldLink RRg 20 RRg "length" "I" : Cond) ∈ TBL := TBL_in (by decide +kernel) (by decide +kernel)
theorem k_x37 : (.fieldLink RRg 17 RRg "homeward" "[[J" : Cond) ∈ TBL := TBL_in (by decide +kernel) (by decide +kernel)
theorem k_x38 : (.constantLong RRg 32 9223372036854775807 : Cond) ∈ TBL := TBL_in (by decide +kernel) (by decide +kernel)
theorem k_x39 : (.methodLink RRg 38 Lib.MathLoose.min_long.x : Cond) ∈ TBL := TBL_in (by decide +kernel) (by decide +kernel)
theorem k_x40 : (.code yRg_leastThroughNext bRg_leastThroughNext 6 (some .long) : Cond) ∈ TBL := TBL_in (by decide +kernel) (by decide +kernel)
theorem k_x41 : (.initialized yRg_leastThroughNext.cls : Cond) ∈ TBL := TBL_in (by decide +kernel) (by decide +kernel)
theorem k_x42 : (.methodLink RRg 34 yRg_leastThroughNext : Cond) ∈ TBL := TBL_in (by decide +kernel) (by decide +kernel)
theorem k_x43 : (.static yRg_leastThroughNext : Cond) ∈ TBL := TBL_in (by decide +kernel) (by decide +kernel)
theorem k_x44 : (.fieldLink RRg 9 RRg "row" "[I" : Cond) ∈ TBL := TBL_in (by decide +kernel) (by decide +kernel)
theorem k_x45 : (.code yRg_leastNext bRg_leastNext 6 (some .int) : Cond) ∈ TBL := TBL_in (by decide +kernel) (by decide +kernel)
theorem k_x46 : (.initialized yRg_leastNext.cls : Cond) ∈ TBL := TBL_in (by decide +kernel) (by decide +kernel)
theorem k_x47 : (.methodLink RRg 44 yRg_leastNext : Cond) ∈ TBL := TBL_in (by decide +kernel) (by decide +kernel)
theorem k_x48 : (.static yRg_leastNext : Cond) ∈ TBL := TBL_in (by decide +kernel) (by decide +kernel)
theorem k_x49 : (.code yRg_trace bRg_trace 8 none : Cond) ∈ TBL := TBL_in (by decide +kernel) (by decide +kernel)
theorem k_x50 : (.initialized yRg_trace.cls : Cond) ∈ TBL := TBL_in (by decide +kernel) (by decide +kernel)
theorem k_x51 : (.methodLink RRg 28 yRg_trace : Cond) ∈ TBL := TBL_in (by decide +kernel) (by decide +kernel)
theorem k_x52 : (.instanceMethod yRg_trace : Cond) ∈ TBL := TBL_in (by decide +kernel) (by decide +kernel)
theorem k_x53 : (.selects RRg yRg_trace yRg_trace : Cond) ∈ TBL := TBL_in (by decide +kernel) (by decide +kernel)
theorem k_x54 : (.code yRg_stepsBack bRg_stepsBack 7 (some .int) : Cond) ∈ TBL := TBL_in (by decide +kernel) (by decide +kernel)
theorem k_x55 : (.initialized yRg_stepsBack.cls : Cond) ∈ TBL := TBL_in (by decide +kernel) (by decide +kernel)
theorem k_x56 : (.methodLink RRg 24 yRg_stepsBack : Cond) ∈ TBL := TBL_in (by decide +kernel) (by decide +kernel)
theorem k_x57 : (.instanceMethod yRg_stepsBack : Cond) ∈ TBL := TBL_in (by decide +kernel) (by decide +kernel)
theorem k_x58 : (.selects RRg yRg_stepsBack yRg_stepsBack : Cond) ∈ TBL := TBL_in (by decide +kernel) (by decide +kernel)
