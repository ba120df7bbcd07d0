theorem dLi_weigh_0 : decode bLi_weigh 0 = .ok (.iconst 0, 1) := by decide +kernel
theorem dLi_weigh_1 : decode bLi_weigh 1 = .ok (.istore 4, 2) := by decide +kernel
theorem dLi_weigh_3 : decode bLi_weigh 3 = .ok (.iload 4, 2) := by decide +kernel
theorem dLi_weigh_5 : decode bLi_weigh 5 = .ok (.iload_n 1, 1) := by decide +kernel
theorem dLi_weigh_6 : decode bLi_weigh 6 = .ok (.if_icmp .ge 37, 3) := by decide +kernel
theorem dLi_weigh_9 : decode bLi_weigh 9 = .ok (.iconst 0, 1) := by decide +kernel
theorem dLi_weigh_10 : decode bLi_weigh 10 = .ok (.istore 5, 2) := by decide +kernel
theorem dLi_weigh_12 : decode bLi_weigh 12 = .ok (.iload 5, 2) := by decide +kernel
theorem dLi_weigh_14 : decode bLi_weigh 14 = .ok (.iload_n 1, 1) := by decide +kernel
theorem dLi_weigh_15 : decode bLi_weigh 15 = .ok (.if_icmp .ge 22, 3) := by decide +kernel
theorem dLi_weigh_18 : decode bLi_weigh 18 = .ok (.aload_n 0, 1) := by decide +kernel
theorem dLi_weigh_19 : decode bLi_weigh 19 = .ok (.getfield 11, 3) := by decide +kernel
theorem dLi_weigh_22 : decode bLi_weigh 22 = .ok (.iload 4, 2) := by decide +kernel
theorem dLi_weigh_24 : decode bLi_weigh 24 = .ok (.aaload, 1) := by decide +kernel
theorem dLi_weigh_25 : decode bLi_weigh 25 = .ok (.iload 5, 2) := by decide +kernel
theorem dLi_weigh_27 : decode bLi_weigh 27 = .ok (.ldc2_w 23, 3) := by decide +kernel
theorem dLi_weigh_30 : decode bLi_weigh 30 = .ok (.lastore, 1) := by decide +kernel
theorem dLi_weigh_31 : decode bLi_weigh 31 = .ok (.iinc 5 1, 3) := by decide +kernel
theorem dLi_weigh_34 : decode bLi_weigh 34 = .ok (.goto (-22), 3) := by decide +kernel
theorem dLi_weigh_37 : decode bLi_weigh 37 = .ok (.iinc 4 1, 3) := by decide +kernel
theorem dLi_weigh_40 : decode bLi_weigh 40 = .ok (.goto (-37), 3) := by decide +kernel
theorem dLi_weigh_43 : decode bLi_weigh 43 = .ok (.iconst 0, 1) := by decide +kernel
theorem dLi_weigh_44 : decode bLi_weigh 44 = .ok (.istore 4, 2) := by decide +kernel
theorem dLi_weigh_46 : decode bLi_weigh 46 = .ok (.iload 4, 2) := by decide +kernel
theorem dLi_weigh_48 : decode bLi_weigh 48 = .ok (.aload_n 3, 1) := by decide +kernel
theorem dLi_weigh_49 : decode bLi_weigh 49 = .ok (.getfield 25, 3) := by decide +kernel
theorem dLi_weigh_52 : decode bLi_weigh 52 = .ok (.if_icmp .ge 89, 3) := by decide +kernel
theorem dLi_weigh_55 : decode bLi_weigh 55 = .ok (.aload_n 3, 1) := by decide +kernel
theorem dLi_weigh_56 : decode bLi_weigh 56 = .ok (.getfield 31, 3) := by decide +kernel
theorem dLi_weigh_59 : decode bLi_weigh 59 = .ok (.iload 4, 2) := by decide +kernel
theorem dLi_weigh_61 : decode bLi_weigh 61 = .ok (.iaload, 1) := by decide +kernel
theorem dLi_weigh_62 : decode bLi_weigh 62 = .ok (.istore 5, 2) := by decide +kernel
theorem dLi_weigh_64 : decode bLi_weigh 64 = .ok (.aload_n 3, 1) := by decide +kernel
theorem dLi_weigh_65 : decode bLi_weigh 65 = .ok (.getfield 35, 3) := by decide +kernel
theorem dLi_weigh_68 : decode bLi_weigh 68 = .ok (.iload 4, 2) := by decide +kernel
theorem dLi_weigh_70 : decode bLi_weigh 70 = .ok (.iaload, 1) := by decide +kernel
theorem dLi_weigh_71 : decode bLi_weigh 71 = .ok (.istore 6, 2) := by decide +kernel
theorem dLi_weigh_73 : decode bLi_weigh 73 = .ok (.aload_n 2, 1) := by decide +kernel
theorem dLi_weigh_74 : decode bLi_weigh 74 = .ok (.getfield 38, 3) := by decide +kernel
theorem dLi_weigh_77 : decode bLi_weigh 77 = .ok (.iload 5, 2) := by decide +kernel
theorem dLi_weigh_79 : decode bLi_weigh 79 = .ok (.iaload, 1) := by decide +kernel
theorem dLi_weigh_80 : decode bLi_weigh 80 = .ok (.istore 7, 2) := by decide +kernel
theorem dLi_weigh_82 : decode bLi_weigh 82 = .ok (.aload_n 2, 1) := by decide +kernel
theorem dLi_weigh_83 : decode bLi_weigh 83 = .ok (.getfield 38, 3) := by decide +kernel
theorem dLi_weigh_86 : decode bLi_weigh 86 = .ok (.iload 6, 2) := by decide +kernel
theorem dLi_weigh_88 : decode bLi_weigh 88 = .ok (.iaload, 1) := by decide +kernel
theorem dLi_weigh_89 : decode bLi_weigh 89 = .ok (.istore 8, 2) := by decide +kernel
theorem dLi_weigh_91 : decode bLi_weigh 91 = .ok (.aload_n 2, 1) := by decide +kernel
theorem dLi_weigh_92 : decode bLi_weigh 92 = .ok (.getfield 43, 3) := by decide +kernel
theorem dLi_weigh_95 : decode bLi_weigh 95 = .ok (.iload 6, 2) := by decide +kernel
theorem dLi_weigh_97 : decode bLi_weigh 97 = .ok (.laload, 1) := by decide +kernel
theorem dLi_weigh_98 : decode bLi_weigh 98 = .ok (.aload_n 2, 1) := by decide +kernel
theorem dLi_weigh_99 : decode bLi_weigh 99 = .ok (.getfield 43, 3) := by decide +kernel
theorem dLi_weigh_102 : decode bLi_weigh 102 = .ok (.iload 5, 2) := by decide +kernel
theorem dLi_weigh_104 : decode bLi_weigh 104 = .ok (.laload, 1) := by decide +kernel
theorem dLi_weigh_105 : decode bLi_weigh 105 = .ok (.lsub, 1) := by decide +kernel
theorem dLi_weigh_106 : decode bLi_weigh 106 = .ok (.lconst 1, 1) := by decide +kernel
theorem dLi_weigh_107 : decode bLi_weigh 107 = .ok (.lsub, 1) := by decide +kernel
theorem dLi_weigh_108 : decode bLi_weigh 108 = .ok (.lstore 9, 2) := by decide +kernel
theorem dLi_weigh_110 : decode bLi_weigh 110 = .ok (.aload_n 0, 1) := by decide +kernel
theorem dLi_weigh_111 : decode bLi_weigh 111 = .ok (.getfield 11, 3) := by decide +kernel
theorem dLi_weigh_114 : decode bLi_weigh 114 = .ok (.iload 7, 2) := by decide +kernel
theorem dLi_weigh_116 : decode bLi_weigh 116 = .ok (.aaload, 1) := by decide +kernel
theorem dLi_weigh_117 : decode bLi_weigh 117 = .ok (.iload 8, 2) := by decide +kernel
theorem dLi_weigh_119 : decode bLi_weigh 119 = .ok (.aload_n 0, 1) := by decide +kernel
theorem dLi_weigh_120 : decode bLi_weigh 120 = .ok (.getfield 11, 3) := by decide +kernel
theorem dLi_weigh_123 : decode bLi_weigh 123 = .ok (.iload 7, 2) := by decide +kernel
theorem dLi_weigh_125 : decode bLi_weigh 125 = .ok (.aaload, 1) := by decide +kernel
theorem dLi_weigh_126 : decode bLi_weigh 126 = .ok (.iload 8, 2) := by decide +kernel
theorem dLi_weigh_128 : decode bLi_weigh 128 = .ok (.laload, 1) := by decide +kernel
theorem dLi_weigh_129 : decode bLi_weigh 129 = .ok (.lload 9, 2) := by decide +kernel
theorem dLi_weigh_131 : decode bLi_weigh 131 = .ok (.invokestatic 46, 3) := by decide +kernel
theorem dLi_weigh_134 : decode bLi_weigh 134 = .ok (.lastore, 1) := by decide +kernel
theorem dLi_weigh_135 : decode bLi_weigh 135 = .ok (.iinc 4 1, 3) := by decide +kernel
theorem dLi_weigh_138 : decode bLi_weigh 138 = .ok (.goto (-92), 3) := by decide +kernel
theorem dLi_weigh_141 : decode bLi_weigh 141 = .ok (.return_, 1) := by decide +kernel
theorem dLi_findBounds_0 : decode bLi_findBounds 0 = .ok (.iconst 0, 1) := by decide +kernel
theorem dLi_findBounds_1 : decode bLi_findBounds 1 = .ok (.istore_n 2, 1) := by decide +kernel
theorem dLi_findBounds_2 : decode bLi_findBounds 2 = .ok (.iload_n 2, 1) := by decide +kernel
theorem dLi_findBounds_3 : decode bLi_findBounds 3 = .ok (.iload_n 1, 1) := by decide +kernel
theorem dLi_findBounds_4 : decode bLi_findBounds 4 = .ok (.if_icmp .ge 58, 3) := by decide +kernel
theorem dLi_findBounds_7 : decode bLi_findBounds 7 = .ok (.iconst 0, 1) := by decide +kernel
theorem dLi_findBounds_8 : decode bLi_findBounds 8 = .ok (.istore_n 3, 1) := by decide +kernel
theorem dLi_findBounds_9 : decode bLi_findBounds 9 = .ok (.iload_n 3, 1) := by decide +kernel
theorem dLi_findBounds_10 : decode bLi_findBounds 10 = .ok (.iload_n 1, 1) := by decide +kernel
theorem dLi_findBounds_11 : decode bLi_findBounds 11 = .ok (.if_icmp .ge 25, 3) := by decide +kernel
theorem dLi_findBounds_14 : decode bLi_findBounds 14 = .ok (.aload_n 0, 1) := by decide +kernel
theorem dLi_findBounds_15 : decode bLi_findBounds 15 = .ok (.getfield 16, 3) := by decide +kernel
theorem dLi_findBounds_18 : decode bLi_findBounds 18 = .ok (.iload_n 2, 1) := by decide +kernel
theorem dLi_findBounds_19 : decode bLi_findBounds 19 = .ok (.aaload, 1) := by decide +kernel
theorem dLi_findBounds_20 : decode bLi_findBounds 20 = .ok (.iload_n 3, 1) := by decide +kernel
theorem dLi_findBounds_21 : decode bLi_findBounds 21 = .ok (.aload_n 0, 1) := by decide +kernel
theorem dLi_findBounds_22 : decode bLi_findBounds 22 = .ok (.getfield 11, 3) := by decide +kernel
theorem dLi_findBounds_25 : decode bLi_findBounds 25 = .ok (.iload_n 2, 1) := by decide +kernel
theorem dLi_findBounds_26 : decode bLi_findBounds 26 = .ok (.aaload, 1) := by decide +kernel
theorem dLi_findBounds_27 : decode bLi_findBounds 27 = .ok (.iload_n 3, 1) := by decide +kernel
theorem dLi_findBounds_28 : decode bLi_findBounds 28 = .ok (.laload, 1) := by decide +kernel
theorem dLi_findBounds_29 : decode bLi_findBounds 29 = .ok (.lastore, 1) := by decide +kernel
theorem dLi_findBounds_30 : decode bLi_findBounds 30 = .ok (.iinc 3 1, 3) := by decide +kernel
theorem dLi_findBounds_33 : decode bLi_findBounds 33 = .ok (.goto (-24), 3) := by decide +kernel
theorem dLi_findBounds_36 : decode bLi_findBounds 36 = .ok (.aload_n 0, 1) := by decide +kernel
theorem dLi_findBounds_37 : decode bLi_findBounds 37 = .ok (.getfield 16, 3) := by decide +kernel
theorem dLi_findBounds_40 : decode bLi_findBounds 40 = .ok (.iload_n 2, 1) := by decide +kernel
theorem dLi_findBounds_41 : decode bLi_findBounds 41 = .ok (.aaload, 1) := by decide +kernel
theorem dLi_findBounds_42 : decode bLi_findBounds 42 = .ok (.iload_n 2, 1) := by decide +kernel
theorem dLi_findBounds_43 : decode bLi_findBounds 43 = .ok (.aload_n 0, 1) := by decide +kernel
theorem dLi_findBounds_44 : decode bLi_findBounds 44 = .ok (.getfield 11, 3) := by decide +kernel
theorem dLi_findBounds_47 : decode bLi_findBounds 47 = .ok (.iload_n 2, 1) := by decide +kernel
theorem dLi_findBounds_48 : decode bLi_findBounds 48 = .ok (.aaload, 1) := by decide +kernel
theorem dLi_findBounds_49 : decode bLi_findBounds 49 = .ok (.iload_n 2, 1) := by decide +kernel
theorem dLi_findBounds_50 : decode bLi_findBounds 50 = .ok (.laload, 1) := by decide +kernel
theorem dLi_findBounds_51 : decode bLi_findBounds 51 = .ok (.lconst 0, 1) := by decide +kernel
theorem dLi_findBounds_52 : decode bLi_findBounds 52 = .ok (.invokestatic 46, 3) := by decide +kernel
theorem dLi_findBounds_55 : decode bLi_findBounds 55 = .ok (.lastore, 1) := by decide +kernel
theorem dLi_findBounds_56 : decode bLi_findBounds 56 = .ok (.iinc 2 1, 3) := by decide +kernel
theorem dLi_findBounds_59 : decode bLi_findBounds 59 = .ok (.goto (-57), 3) := by decide +kernel
theorem dLi_findBounds_62 : decode bLi_findBounds 62 = .ok (.aload_n 0, 1) := by decide +kernel
theorem dLi_findBounds_63 : decode bLi_findBounds 63 = .ok (.iload_n 1, 1) := by decide +kernel
theorem dLi_findBounds_64 : decode bLi_findBounds 64 = .ok (.invokevirtual 52, 3) := by decide +kernel
theorem dLi_closesBelowZero_0 : decode bLi_closesBelowZero 0 = .ok (.iconst 0, 1) := by decide +kernel
theorem dLi_closesBelowZero_1 : decode bLi_closesBelowZero 1 = .ok (.istore_n 2, 1) := by decide +kernel
theorem dLi_closesBelowZero_2 : decode bLi_closesBelowZero 2 = .ok (.iload_n 2, 1) := by decide +kernel
theorem dLi_closesBelowZero_3 : decode bLi_closesBelowZero 3 = .ok (.iload_n 1, 1) := by decide +kernel
theorem dLi_closesBelowZero_4 : decode bLi_closesBelowZero 4 = .ok (.if_icmp .ge 24, 3) := by decide +kernel
theorem dLi_closesBelowZero_7 : decode bLi_closesBelowZero 7 = .ok (.aload_n 0, 1) := by decide +kernel
theorem dLi_closesBelowZero_8 : decode bLi_closesBelowZero 8 = .ok (.getfield 16, 3) := by decide +kernel
theorem dLi_closesBelowZero_11 : decode bLi_closesBelowZero 11 = .ok (.iload_n 2, 1) := by decide +kernel
theorem dLi_closesBelowZero_12 : decode bLi_closesBelowZero 12 = .ok (.aaload, 1) := by decide +kernel
theorem dLi_closesBelowZero_13 : decode bLi_closesBelowZero 13 = .ok (.iload_n 2, 1) := by decide +kernel
theorem dLi_closesBelowZero_14 : decode bLi_closesBelowZero 14 = .ok (.laload, 1) := by decide +kernel
theorem dLi_closesBelowZero_15 : decode bLi_closesBelowZero 15 = .ok (.lconst 0, 1) := by decide +kernel
theorem dLi_closesBelowZero_16 : decode bLi_closesBelowZero 16 = .ok (.lcmp, 1) := by decide +kernel
theorem dLi_closesBelowZero_17 : decode bLi_closesBelowZero 17 = .ok (.ifCond .ge 5, 3) := by decide +kernel
theorem dLi_closesBelowZero_22 : decode bLi_closesBelowZero 22 = .ok (.iinc 2 1, 3) := by decide +kernel
theorem dLi_closesBelowZero_25 : decode bLi_closesBelowZero 25 = .ok (.goto (-23), 3) := by decide +kernel
theorem dLi_closesBelowZero_20 : decode bLi_closesBelowZero 20 = .ok (.iconst 1, 1) := by decide +kernel
theorem dLi_closesBelowZero_21 : decode bLi_closesBelowZero 21 = .ok (.ireturn, 1) := by decide +kernel
theorem dLi_closesBelowZero_28 : decode bLi_closesBelowZero 28 = .ok (.iconst 0, 1) := by decide +kernel
theorem dLi_closesBelowZero_29 : decode bLi_closesBelowZero 29 = .ok (.ireturn, 1) := by decide +kernel
theorem dLi_findBounds_67 : decode bLi_findBounds 67 = .ok (.ifCond .ne 7, 3) := by decide +kernel
theorem dLi_findBounds_74 : decode bLi_findBounds 74 = .ok (.iconst 0, 1) := by decide +kernel
theorem dLi_findBounds_75 : decode bLi_findBounds 75 = .ok (.istore_n 2, 1) := by decide +kernel
theorem dLi_findBounds_76 : decode bLi_findBounds 76 = .ok (.iconst 0, 1) := by decide +kernel
theorem dLi_findBounds_77 : decode bLi_findBounds 77 = .ok (.istore_n 3, 1) := by decide +kernel
theorem dLi_findBounds_78 : decode bLi_findBounds 78 = .ok (.iload_n 3, 1) := by decide +kernel
theorem dLi_findBounds_79 : decode bLi_findBounds 79 = .ok (.iload_n 1, 1) := by decide +kernel
theorem dLi_findBounds_80 : decode bLi_findBounds 80 = .ok (.if_icmp .ge 33, 3) := by decide +kernel
theorem dLi_findBounds_83 : decode bLi_findBounds 83 = .ok (.iload_n 2, 1) := by decide +kernel
theorem dLi_findBounds_84 : decode bLi_findBounds 84 = .ok (.ifCond .eq 29, 3) := by decide +kernel
theorem dLi_findBounds_87 : decode bLi_findBounds 87 = .ok (.aload_n 0, 1) := by decide +kernel
theorem dLi_findBounds_88 : decode bLi_findBounds 88 = .ok (.iload_n 3, 1) := by decide +kernel
theorem dLi_findBounds_89 : decode bLi_findBounds 89 = .ok (.iload_n 1, 1) := by decide +kernel
theorem dLi_findBounds_90 : decode bLi_findBounds 90 = .ok (.invokevirtual 56, 3) := by decide +kernel
theorem dLi_shortenThrough_0 : decode bLi_shortenThrough 0 = .ok (.iconst 0, 1) := by decide +kernel
theorem dLi_shortenThrough_1 : decode bLi_shortenThrough 1 = .ok (.istore_n 3, 1) := by decide +kernel
theorem dLi_shortenThrough_2 : decode bLi_shortenThrough 2 = .ok (.iload_n 3, 1) := by decide +kernel
theorem dLi_shortenThrough_3 : decode bLi_shortenThrough 3 = .ok (.iload_n 2, 1) := by decide +kernel
theorem dLi_shortenThrough_4 : decode bLi_shortenThrough 4 = .ok (.if_icmp .ge 97, 3) := by decide +kernel
theorem dLi_shortenThrough_7 : decode bLi_shortenThrough 7 = .ok (.aload_n 0, 1) := by decide +kernel
theorem dLi_shortenThrough_8 : decode bLi_shortenThrough 8 = .ok (.getfield 16, 3) := by decide +kernel
theorem dLi_shortenThrough_11 : decode bLi_shortenThrough 11 = .ok (.iload_n 3, 1) := by decide +kernel
theorem dLi_shortenThrough_12 : decode bLi_shortenThrough 12 = .ok (.aaload, 1) := by decide +kernel
theorem dLi_shortenThrough_13 : decode bLi_shortenThrough 13 = .ok (.iload_n 1, 1) := by decide +kernel
theorem dLi_shortenThrough_14 : decode bLi_shortenThrough 14 = .ok (.laload, 1) := by decide +kernel
theorem dLi_shortenThrough_15 : decode bLi_shortenThrough 15 = .ok (.ldc2_w 23, 3) := by decide +kernel
theorem dLi_shortenThrough_18 : decode bLi_shortenThrough 18 = .ok (.lcmp, 1) := by decide +kernel
theorem dLi_shortenThrough_19 : decode bLi_shortenThrough 19 = .ok (.ifCond .ne 6, 3) := by decide +kernel
theorem dLi_shortenThrough_25 : decode bLi_shortenThrough 25 = .ok (.iconst 0, 1) := by decide +kernel
theorem dLi_shortenThrough_26 : decode bLi_shortenThrough 26 = .ok (.istore 4, 2) := by decide +kernel
theorem dLi_shortenThrough_28 : decode bLi_shortenThrough 28 = .ok (.iload 4, 2) := by decide +kernel
theorem dLi_shortenThrough_30 : decode bLi_shortenThrough 30 = .ok (.iload_n 2, 1) := by decide +kernel
theorem dLi_shortenThrough_31 : decode bLi_shortenThrough 31 = .ok (.if_icmp .ge 64, 3) := by decide +kernel
theorem dLi_shortenThrough_34 : decode bLi_shortenThrough 34 = .ok (.aload_n 0, 1) := by decide +kernel
theorem dLi_shortenThrough_35 : decode bLi_shortenThrough 35 = .ok (.getfield 16, 3) := by decide +kernel
theorem dLi_shortenThrough_38 : decode bLi_shortenThrough 38 = .ok (.iload_n 1, 1) := by decide +kernel
theorem dLi_shortenThrough_39 : decode bLi_shortenThrough 39 = .ok (.aaload, 1) := by decide +kernel
theorem dLi_shortenThrough_40 : decode bLi_shortenThrough 40 = .ok (.iload 4, 2) := by decide +kernel
theorem dLi_shortenThrough_42 : decode bLi_shortenThrough 42 = .ok (.laload, 1) := by decide +kernel
theorem dLi_shortenThrough_43 : decode bLi_shortenThrough 43 = .ok (.ldc2_w 23, 3) := by decide +kernel
theorem dLi_shortenThrough_46 : decode bLi_shortenThrough 46 = .ok (.lcmp, 1) := by decide +kernel
theorem dLi_shortenThrough_47 : decode bLi_shortenThrough 47 = .ok (.ifCond .eq 42, 3) := by decide +kernel
theorem dLi_shortenThrough_89 : decode bLi_shortenThrough 89 = .ok (.iinc 4 1, 3) := by decide +kernel
theorem dLi_shortenThrough_92 : decode bLi_shortenThrough 92 = .ok (.goto (-64), 3) := by decide +kernel
theorem dLi_shortenThrough_50 : decode bLi_shortenThrough 50 = .ok (.aload_n 0, 1) := by decide +kernel
theorem dLi_shortenThrough_51 : decode bLi_shortenThrough 51 = .ok (.getfield 16, 3) := by decide +kernel
theorem dLi_shortenThrough_54 : decode bLi_shortenThrough 54 = .ok (.iload_n 3, 1) := by decide +kernel
theorem dLi_shortenThrough_55 : decode bLi_shortenThrough 55 = .ok (.aaload, 1) := by decide +kernel
theorem dLi_shortenThrough_56 : decode bLi_shortenThrough 56 = .ok (.iload 4, 2) := by decide +kernel
theorem dLi_shortenThrough_58 : decode bLi_shortenThrough 58 = .ok (.aload_n 0, 1) := by decide +kernel
theorem dLi_shortenThrough_59 : decode bLi_shortenThrough 59 = .ok (.getfield 16, 3) := by decide +kernel
theorem dLi_shortenThrough_62 : decode bLi_shortenThrough 62 = .ok (.iload_n 3, 1) := by decide +kernel
theorem dLi_shortenThrough_63 : decode bLi_shortenThrough 63 = .ok (.aaload, 1) := by decide +kernel
theorem dLi_shortenThrough_64 : decode bLi_shortenThrough 64 = .ok (.iload 4, 2) := by decide +kernel
theorem dLi_shortenThrough_66 : decode bLi_shortenThrough 66 = .ok (.laload, 1) := by decide +kernel
theorem dLi_shortenThrough_67 : decode bLi_shortenThrough 67 = .ok (.aload_n 0, 1) := by decide +kernel
theorem dLi_shortenThrough_68 : decode bLi_shortenThrough 68 = .ok (.getfield 16, 3) := by decide +kernel
theorem dLi_shortenThrough_71 : decode bLi_shortenThrough 71 = .ok (.iload_n 3, 1) := by decide +kernel
theorem dLi_shortenThrough_72 : decode bLi_shortenThrough 72 = .ok (.aaload, 1) := by decide +kernel
theorem dLi_shortenThrough_73 : decode bLi_shortenThrough 73 = .ok (.iload_n 1, 1) := by decide +kernel
theorem dLi_shortenThrough_74 : decode bLi_shortenThrough 74 = .ok (.laload, 1) := by decide +kernel
theorem dLi_shortenThrough_75 : decode bLi_shortenThrough 75 = .ok (.aload_n 0, 1) := by decide +kernel
theorem dLi_shortenThrough_76 : decode bLi_shortenThrough 76 = .ok (.getfield 16, 3) := by decide +kernel
theorem dLi_shortenThrough_79 : decode bLi_shortenThrough 79 = .ok (.iload_n 1, 1) := by decide +kernel
theorem dLi_shortenThrough_80 : decode bLi_shortenThrough 80 = .ok (.aaload, 1) := by decide +kernel
theorem dLi_shortenThrough_81 : decode bLi_shortenThrough 81 = .ok (.iload 4, 2) := by decide +kernel
theorem dLi_shortenThrough_83 : decode bLi_shortenThrough 83 = .ok (.laload, 1) := by decide +kernel
theorem dLi_shortenThrough_84 : decode bLi_shortenThrough 84 = .ok (.ladd, 1) := by decide +kernel
theorem dLi_shortenThrough_85 : decode bLi_shortenThrough 85 = .ok (.invokestatic 46, 3) := by decide +kernel
theorem dLi_shortenThrough_88 : decode bLi_shortenThrough 88 = .ok (.lastore, 1) := by decide +kernel
theorem dLi_shortenThrough_95 : decode bLi_shortenThrough 95 = .ok (.iinc 3 1, 3) := by decide +kernel
theorem dLi_shortenThrough_98 : decode bLi_shortenThrough 98 = .ok (.goto (-96), 3) := by decide +kernel
theorem dLi_shortenThrough_22 : decode bLi_shortenThrough 22 = .ok (.goto 73, 3) := by decide +kernel
theorem dLi_shortenThrough_101 : decode bLi_shortenThrough 101 = .ok (.return_, 1) := by decide +kernel
theorem dLi_findBounds_93 : decode bLi_findBounds 93 = .ok (.aload_n 0, 1) := by decide +kernel
theorem dLi_findBounds_94 : decode bLi_findBounds 94 = .ok (.iload_n 1, 1) := by decide +kernel
theorem dLi_findBounds_95 : decode bLi_findBounds 95 = .ok (.invokevirtual 52, 3) := by decide +kernel
theorem dLi_findBounds_98 : decode bLi_findBounds 98 = .ok (.ifCond .ne 7, 3) := by decide +kernel
theorem dLi_findBounds_105 : decode bLi_findBounds 105 = .ok (.iconst 0, 1) := by decide +kernel
theorem dLi_findBounds_106 : decode bLi_findBounds 106 = .ok (.istore_n 2, 1) := by decide +kernel
theorem dLi_findBounds_107 : decode bLi_findBounds 107 = .ok (.iinc 3 1, 3) := by decide +kernel
theorem dLi_findBounds_110 : decode bLi_findBounds 110 = .ok (.goto (-32), 3) := by decide +kernel
theorem dLi_findBounds_101 : decode bLi_findBounds 101 = .ok (.iconst 1, 1) := by decide +kernel
theorem dLi_findBounds_102 : decode bLi_findBounds 102 = .ok (.goto 4, 3) := by decide +kernel
theorem dLi_findBounds_113 : decode bLi_findBounds 113 = .ok (.iload_n 2, 1) := by decide +kernel
theorem dLi_findBounds_114 : decode bLi_findBounds 114 = .ok (.ireturn, 1) := by decide +kernel
theorem dLi_findBounds_70 : decode bLi_findBounds 70 = .ok (.iconst 1, 1) := by decide +kernel
theorem dLi_findBounds_71 : decode bLi_findBounds 71 = .ok (.goto 4, 3) := by decide +kernel
theorem dLi_chooseOffsets_0 : decode bLi_chooseOffsets 0 = .ok (.iconst 0, 1) := by decide +kernel
theorem dLi_chooseOffsets_1 : decode bLi_chooseOffsets 1 = .ok (.istore_n 2, 1) := by decide +kernel
theorem dLi_chooseOffsets_2 : decode bLi_chooseOffsets 2 = .ok (.iload_n 2, 1) := by decide +kernel
theorem dLi_chooseOffsets_3 : decode bLi_chooseOffsets 3 = .ok (.iload_n 1, 1) := by decide +kernel
theorem dLi_chooseOffsets_4 : decode bLi_chooseOffsets 4 = .ok (.if_icmp .ge 127, 3) := by decide +kernel
theorem dLi_chooseOffsets_7 : decode bLi_chooseOffsets 7 = .ok (.ldc2_w 60, 3) := by decide +kernel
theorem dLi_chooseOffsets_10 : decode bLi_chooseOffsets 10 = .ok (.lstore_n 3, 1) := by decide +kernel
theorem dLi_chooseOffsets_11 : decode bLi_chooseOffsets 11 = .ok (.ldc2_w 23, 3) := by decide +kernel
theorem dLi_chooseOffsets_14 : decode bLi_chooseOffsets 14 = .ok (.lstore 5, 2) := by decide +kernel
theorem dLi_chooseOffsets_16 : decode bLi_chooseOffsets 16 = .ok (.iconst 0, 1) := by decide +kernel
theorem dLi_chooseOffsets_17 : decode bLi_chooseOffsets 17 = .ok (.istore 7, 2) := by decide +kernel
theorem dLi_chooseOffsets_19 : decode bLi_chooseOffsets 19 = .ok (.iload 7, 2) := by decide +kernel
theorem dLi_chooseOffsets_21 : decode bLi_chooseOffsets 21 = .ok (.iload_n 2, 1) := by decide +kernel
theorem dLi_chooseOffsets_22 : decode bLi_chooseOffsets 22 = .ok (.if_icmp .ge 87, 3) := by decide +kernel
theorem dLi_chooseOffsets_25 : decode bLi_chooseOffsets 25 = .ok (.aload_n 0, 1) := by decide +kernel
theorem dLi_chooseOffsets_26 : decode bLi_chooseOffsets 26 = .ok (.getfield 16, 3) := by decide +kernel
theorem dLi_chooseOffsets_29 : decode bLi_chooseOffsets 29 = .ok (.iload_n 2, 1) := by decide +kernel
theorem dLi_chooseOffsets_30 : decode bLi_chooseOffsets 30 = .ok (.aaload, 1) := by decide +kernel
theorem dLi_chooseOffsets_31 : decode bLi_chooseOffsets 31 = .ok (.iload 7, 2) := by decide +kernel
theorem dLi_chooseOffsets_33 : decode bLi_chooseOffsets 33 = .ok (.laload, 1) := by decide +kernel
theorem dLi_chooseOffsets_34 : decode bLi_chooseOffsets 34 = .ok (.ldc2_w 23, 3) := by decide +kernel
theorem dLi_chooseOffsets_37 : decode bLi_chooseOffsets 37 = .ok (.lcmp, 1) := by decide +kernel
theorem dLi_chooseOffsets_38 : decode bLi_chooseOffsets 38 = .ok (.ifCond .eq 27, 3) := by decide +kernel
theorem dLi_chooseOffsets_65 : decode bLi_chooseOffsets 65 = .ok (.aload_n 0, 1) := by decide +kernel
theorem dLi_chooseOffsets_66 : decode bLi_chooseOffsets 66 = .ok (.getfield 16, 3) := by decide +kernel
theorem dLi_chooseOffsets_69 : decode bLi_chooseOffsets 69 = .ok (.iload 7, 2) := by decide +kernel
theorem dLi_chooseOffsets_71 : decode bLi_chooseOffsets 71 = .ok (.aaload, 1) := by decide +kernel
theorem dLi_chooseOffsets_72 : decode bLi_chooseOffsets 72 = .ok (.iload_n 2, 1) := by decide +kernel
theorem dLi_chooseOffsets_73 : decode bLi_chooseOffsets 73 = .ok (.laload, 1) := by decide +kernel
theorem dLi_chooseOffsets_74 : decode bLi_chooseOffsets 74 = .ok (.ldc2_w 23, 3) := by decide +kernel
theorem dLi_chooseOffsets_77 : decode bLi_chooseOffsets 77 = .ok (.lcmp, 1) := by decide +kernel
theorem dLi_chooseOffsets_78 : decode bLi_chooseOffsets 78 = .ok (.ifCond .eq 25, 3) := by decide +kernel
theorem dLi_chooseOffsets_103 : decode bLi_chooseOffsets 103 = .ok (.iinc 7 1, 3) := by decide +kernel
theorem dLi_chooseOffsets_106 : decode bLi_chooseOffsets 106 = .ok (.goto (-87), 3) := by decide +kernel
theorem dLi_chooseOffsets_81 : decode bLi_chooseOffsets 81 = .ok (.lload_n 3, 1) := by decide +kernel
theorem dLi_chooseOffsets_82 : decode bLi_chooseOffsets 82 = .ok (.aload_n 0, 1) := by decide +kernel
theorem dLi_chooseOffsets_83 : decode bLi_chooseOffsets 83 = .ok (.getfield 19, 3) := by decide +kernel
theorem dLi_chooseOffsets_86 : decode bLi_chooseOffsets 86 = .ok (.iload 7, 2) := by decide +kernel
theorem dLi_chooseOffsets_88 : decode bLi_chooseOffsets 88 = .ok (.laload, 1) := by decide +kernel
theorem dLi_chooseOffsets_89 : decode bLi_chooseOffsets 89 = .ok (.aload_n 0, 1) := by decide +kernel
theorem dLi_chooseOffsets_90 : decode bLi_chooseOffsets 90 = .ok (.getfield 16, 3) := by decide +kernel
theorem dLi_chooseOffsets_93 : decode bLi_chooseOffsets 93 = .ok (.iload 7, 2) := by decide +kernel
theorem dLi_chooseOffsets_95 : decode bLi_chooseOffsets 95 = .ok (.aaload, 1) := by decide +kernel
theorem dLi_chooseOffsets_96 : decode bLi_chooseOffsets 96 = .ok (.iload_n 2, 1) := by decide +kernel
theorem dLi_chooseOffsets_97 : decode bLi_chooseOffsets 97 = .ok (.laload, 1) := by decide +kernel
theorem dLi_chooseOffsets_98 : decode bLi_chooseOffsets 98 = .ok (.lsub, 1) := by decide +kernel
theorem dLi_chooseOffsets_99 : decode bLi_chooseOffsets 99 = .ok (.invokestatic 62, 3) := by decide +kernel
theorem dLi_chooseOffsets_102 : decode bLi_chooseOffsets 102 = .ok (.lstore_n 3, 1) := by decide +kernel
theorem dLi_chooseOffsets_41 : decode bLi_chooseOffsets 41 = .ok (.lload 5, 2) := by decide +kernel
theorem dLi_chooseOffsets_43 : decode bLi_chooseOffsets 43 = .ok (.aload_n 0, 1) := by decide +kernel
theorem dLi_chooseOffsets_44 : decode bLi_chooseOffsets 44 = .ok (.getfield 19, 3) := by decide +kernel
theorem dLi_chooseOffsets_47 : decode bLi_chooseOffsets 47 = .ok (.iload 7, 2) := by decide +kernel
theorem dLi_chooseOffsets_49 : decode bLi_chooseOffsets 49 = .ok (.laload, 1) := by decide +kernel
theorem dLi_chooseOffsets_50 : decode bLi_chooseOffsets 50 = .ok (.aload_n 0, 1) := by decide +kernel
theorem dLi_chooseOffsets_51 : decode bLi_chooseOffsets 51 = .ok (.getfield 16, 3) := by decide +kernel
theorem dLi_chooseOffsets_54 : decode bLi_chooseOffsets 54 = .ok (.iload_n 2, 1) := by decide +kernel
theorem dLi_chooseOffsets_55 : decode bLi_chooseOffsets 55 = .ok (.aaload, 1) := by decide +kernel
theorem dLi_chooseOffsets_56 : decode bLi_chooseOffsets 56 = .ok (.iload 7, 2) := by decide +kernel
theorem dLi_chooseOffsets_58 : decode bLi_chooseOffsets 58 = .ok (.laload, 1) := by decide +kernel
theorem dLi_chooseOffsets_59 : decode bLi_chooseOffsets 59 = .ok (.ladd, 1) := by decide +kernel
theorem dLi_chooseOffsets_60 : decode bLi_chooseOffsets 60 = .ok (.invokestatic 46, 3) := by decide +kernel
theorem dLi_chooseOffsets_63 : decode bLi_chooseOffsets 63 = .ok (.lstore 5, 2) := by decide +kernel
theorem dLi_chooseOffsets_109 : decode bLi_chooseOffsets 109 = .ok (.aload_n 0, 1) := by decide +kernel
theorem dLi_chooseOffsets_110 : decode bLi_chooseOffsets 110 = .ok (.getfield 19, 3) := by decide +kernel
theorem dLi_chooseOffsets_113 : decode bLi_chooseOffsets 113 = .ok (.iload_n 2, 1) := by decide +kernel
theorem dLi_chooseOffsets_114 : decode bLi_chooseOffsets 114 = .ok (.lload_n 3, 1) := by decide +kernel
theorem dLi_chooseOffsets_115 : decode bLi_chooseOffsets 115 = .ok (.lload 5, 2) := by decide +kernel
theorem dLi_chooseOffsets_117 : decode bLi_chooseOffsets 117 = .ok (.lconst 0, 1) := by decide +kernel
theorem dLi_chooseOffsets_118 : decode bLi_chooseOffsets 118 = .ok (.invokestatic 46, 3) := by decide +kernel
theorem dLi_chooseOffsets_121 : decode bLi_chooseOffsets 121 = .ok (.invokestatic 62, 3) := by decide +kernel
theorem dLi_chooseOffsets_124 : decode bLi_chooseOffsets 124 = .ok (.lastore, 1) := by decide +kernel
theorem dLi_chooseOffsets_125 : decode bLi_chooseOffsets 125 = .ok (.iinc 2 1, 3) := by decide +kernel
theorem dLi_chooseOffsets_128 : decode bLi_chooseOffsets 128 = .ok (.goto (-126), 3) := by decide +kernel
theorem dLi_chooseOffsets_131 : decode bLi_chooseOffsets 131 = .ok (.return_, 1) := by decide +kernel
theorem k_x9 : (.fieldLink RLi 11 RLi "weights" "[[J" : Cond) ∈ TBL := TBL_in (by decide +kernel) (by decide +kernel)
theorem k_x10 : (.constantLong RLi 23 9223372036854775807 : Cond) ∈ TBL := TBL_in (by decide +kernel) (by decide +kernel)
theorem k_x11 : (.fieldLink RLi 25 RNd "count" "I" : Cond) ∈ TBL := TBL_in (by decide +kernel) (by decide +kernel)
theorem k_x12 : (.fieldLink RLi 31 RNd "firsts" "[I" : Cond) ∈ TBL := TBL_in (by decide +kernel) (by decide +kernel)
theorem k_x13 : (.fieldLink RLi 35 RNd "seconds" "[I" : Cond) ∈ TBL := TBL_in (by decide +kernel) (by decide +kernel)
theorem k_x14 : (.fieldLink RLi 38 REv "sources" "[I" : Cond) ∈ TBL := TBL_in (by decide +kernel) (by decide +kernel)
theorem k_x15 : (.fieldLink RLi 43 REv "clocks" "[J" : Cond) ∈ TBL := TBL_in (by decide +kernel) (by decide +kernel)
theorem k_x16 : (.methodLink RLi 46 Lib.MathLoose.min_long.x : Cond) ∈ TBL := TBL_in (by decide +kernel) (by decide +kernel)
theorem k_x17 : (.static Lib.MathLoose.min_long.x : Cond) ∈ TBL := TBL_in (by decide +kernel) (by decide +kernel)
theorem k_x18 : (.initialized "java/lang/Math" : Cond) ∈ TBL := TBL_in (by decide +kernel) (by decide +kernel)
theorem k_x19 : (.code Lib.MathLoose.min_long.x Lib.MathLoose.min_long.code 4 (some .long) : Cond) ∈ TBL := TBL_in (by decide +kernel) (by decide +kernel)
theorem k_x20 : (.fieldLink RLi 16 RLi "bounds" "[[J" : Cond) ∈ TBL := TBL_in (by decide +kernel) (by decide +kernel)
theorem k_x21 : (.code yLi_closesBelowZero bLi_closesBelowZero 3 (some .boolean) : Cond) ∈ TBL := TBL_in (by decide +kernel) (by decide +kernel)
theorem k_x22 : (.initialized yLi_closesBelowZero.cls : Cond) ∈ TBL := TBL_in (by decide +kernel) (by decide +kernel)
theorem k_x23 : (.methodLink RLi 52 yLi_closesBelowZero : Cond) ∈ TBL := TBL_in (by decide +kernel) (by decide +kernel)
theorem k_x24 : (.instanceMethod yLi_closesBelowZero : Cond) ∈ TBL := TBL_in (by decide +kernel) (by decide +kernel)
theorem k_x25 : (.selects RLi yLi_closesBelowZero yLi_closesBelowZero : Cond) ∈ TBL := TBL_in (by decide +kernel) (by decide +kernel)
theorem k_x26 : (.code yLi_shortenThrough bLi_shortenThrough 5 none : Cond) ∈ TBL := TBL_in (by decide +kernel) (by decide +kernel)
theorem k_x27 : (.initialized yLi_shortenThrough.cls : Cond) ∈ TBL := TBL_in (by decide +kernel) (by decide +kernel)
theorem k_x28 : (.methodLink RLi 56 yLi_shortenThrough : Cond) ∈ TBL := TBL_in (by decide +kernel) (by decide +kernel)
theorem k_x29 : (.instanceMethod yLi_shortenThrough : Cond) ∈ TBL := TBL_in (by decide +kernel) (by decide +kernel)
theorem k_x30 : (.selects RLi yLi_shortenThrough yLi_shortenThrough : Cond) ∈ TBL := TBL_in (by decide +kernel) (by decide +kernel)
theorem k_x31 : (.constantLong RLi 60 (-9223372036854775807) : Cond) ∈ TBL := TBL_in (by decide +kernel) (by decide +kernel)
theorem k_x32 : (.fieldLink RLi 19 RLi "offsets" "[J" : Cond) ∈ TBL := TBL_in (by decide +kernel) (by decide +kernel)
theorem k_x33 : (.methodLink RLi 62 Lib.MathLoose.max_long.x : Cond) ∈ TBL := TBL_in (by decide +kernel) (by decide +kernel)
theorem k_x34 : (.static Lib.MathLoose.max_long.x : Cond) ∈ TBL := TBL_in (by decide +kernel) (by decide +kernel)
theorem k_x35 : (.code Lib.MathLoose.max_long.x Lib.MathLoose.max_long.code 4 (some .long) : Cond) ∈ TBL := TBL_in (by decide +kernel) (by decide +kernel)
