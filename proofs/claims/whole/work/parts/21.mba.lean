theorem dM_settle_0 : decode bM_settle 0 = .ok (.aload_n 0, 1) := by decide +kernel
theorem dM_settle_1 : decode bM_settle 1 = .ok (.iconst 0, 1) := by decide +kernel
theorem dM_settle_2 : decode bM_settle 2 = .ok (.putfield 51, 3) := by decide +kernel
theorem dM_settle_5 : decode bM_settle 5 = .ok (.aload_n 0, 1) := by decide +kernel
theorem dM_settle_6 : decode bM_settle 6 = .ok (.invokevirtual 104, 3) := by decide +kernel
theorem dM_weigh_0 : decode bM_weigh 0 = .ok (.iconst 0, 1) := by decide +kernel
theorem dM_weigh_1 : decode bM_weigh 1 = .ok (.istore_n 1, 1) := by decide +kernel
theorem dM_weigh_2 : decode bM_weigh 2 = .ok (.iload_n 1, 1) := by decide +kernel
theorem dM_weigh_3 : decode bM_weigh 3 = .ok (.sipush 256, 3) := by decide +kernel
theorem dM_weigh_6 : decode bM_weigh 6 = .ok (.if_icmp .ge 18, 3) := by decide +kernel
theorem dM_weigh_9 : decode bM_weigh 9 = .ok (.aload_n 0, 1) := by decide +kernel
theorem dM_weigh_10 : decode bM_weigh 10 = .ok (.getfield 35, 3) := by decide +kernel
theorem dM_weigh_13 : decode bM_weigh 13 = .ok (.iload_n 1, 1) := by decide +kernel
theorem dM_weigh_14 : decode bM_weigh 14 = .ok (.ldc2_w 91, 3) := by decide +kernel
theorem dM_weigh_17 : decode bM_weigh 17 = .ok (.lastore, 1) := by decide +kernel
theorem dM_weigh_18 : decode bM_weigh 18 = .ok (.iinc 1 1, 3) := by decide +kernel
theorem dM_weigh_21 : decode bM_weigh 21 = .ok (.goto (-19), 3) := by decide +kernel
theorem dM_weigh_24 : decode bM_weigh 24 = .ok (.iconst 0, 1) := by decide +kernel
theorem dM_weigh_25 : decode bM_weigh 25 = .ok (.istore_n 1, 1) := by decide +kernel
theorem dM_weigh_26 : decode bM_weigh 26 = .ok (.iload_n 1, 1) := by decide +kernel
theorem dM_weigh_27 : decode bM_weigh 27 = .ok (.aload_n 0, 1) := by decide +kernel
theorem dM_weigh_28 : decode bM_weigh 28 = .ok (.getfield 88, 3) := by decide +kernel
theorem dM_weigh_31 : decode bM_weigh 31 = .ok (.if_icmp .ge 89, 3) := by decide +kernel
theorem dM_weigh_34 : decode bM_weigh 34 = .ok (.bipush 16, 2) := by decide +kernel
theorem dM_weigh_36 : decode bM_weigh 36 = .ok (.aload_n 0, 1) := by decide +kernel
theorem dM_weigh_37 : decode bM_weigh 37 = .ok (.getfield 7, 3) := by decide +kernel
theorem dM_weigh_40 : decode bM_weigh 40 = .ok (.aload_n 0, 1) := by decide +kernel
theorem dM_weigh_41 : decode bM_weigh 41 = .ok (.getfield 26, 3) := by decide +kernel
theorem dM_weigh_44 : decode bM_weigh 44 = .ok (.iload_n 1, 1) := by decide +kernel
theorem dM_weigh_45 : decode bM_weigh 45 = .ok (.iaload, 1) := by decide +kernel
theorem dM_weigh_46 : decode bM_weigh 46 = .ok (.iaload, 1) := by decide +kernel
theorem dM_weigh_47 : decode bM_weigh 47 = .ok (.imul, 1) := by decide +kernel
theorem dM_weigh_48 : decode bM_weigh 48 = .ok (.aload_n 0, 1) := by decide +kernel
theorem dM_weigh_49 : decode bM_weigh 49 = .ok (.getfield 7, 3) := by decide +kernel
theorem dM_weigh_52 : decode bM_weigh 52 = .ok (.aload_n 0, 1) := by decide +kernel
theorem dM_weigh_53 : decode bM_weigh 53 = .ok (.getfield 29, 3) := by decide +kernel
theorem dM_weigh_56 : decode bM_weigh 56 = .ok (.iload_n 1, 1) := by decide +kernel
theorem dM_weigh_57 : decode bM_weigh 57 = .ok (.iaload, 1) := by decide +kernel
theorem dM_weigh_58 : decode bM_weigh 58 = .ok (.iaload, 1) := by decide +kernel
theorem dM_weigh_59 : decode bM_weigh 59 = .ok (.iadd, 1) := by decide +kernel
theorem dM_weigh_60 : decode bM_weigh 60 = .ok (.istore_n 2, 1) := by decide +kernel
theorem dM_weigh_61 : decode bM_weigh 61 = .ok (.aload_n 0, 1) := by decide +kernel
theorem dM_weigh_62 : decode bM_weigh 62 = .ok (.getfield 22, 3) := by decide +kernel
theorem dM_weigh_65 : decode bM_weigh 65 = .ok (.aload_n 0, 1) := by decide +kernel
theorem dM_weigh_66 : decode bM_weigh 66 = .ok (.getfield 29, 3) := by decide +kernel
theorem dM_weigh_69 : decode bM_weigh 69 = .ok (.iload_n 1, 1) := by decide +kernel
theorem dM_weigh_70 : decode bM_weigh 70 = .ok (.iaload, 1) := by decide +kernel
theorem dM_weigh_71 : decode bM_weigh 71 = .ok (.laload, 1) := by decide +kernel
theorem dM_weigh_72 : decode bM_weigh 72 = .ok (.aload_n 0, 1) := by decide +kernel
theorem dM_weigh_73 : decode bM_weigh 73 = .ok (.getfield 22, 3) := by decide +kernel
theorem dM_weigh_76 : decode bM_weigh 76 = .ok (.aload_n 0, 1) := by decide +kernel
theorem dM_weigh_77 : decode bM_weigh 77 = .ok (.getfield 26, 3) := by decide +kernel
theorem dM_weigh_80 : decode bM_weigh 80 = .ok (.iload_n 1, 1) := by decide +kernel
theorem dM_weigh_81 : decode bM_weigh 81 = .ok (.iaload, 1) := by decide +kernel
theorem dM_weigh_82 : decode bM_weigh 82 = .ok (.laload, 1) := by decide +kernel
theorem dM_weigh_83 : decode bM_weigh 83 = .ok (.lsub, 1) := by decide +kernel
theorem dM_weigh_84 : decode bM_weigh 84 = .ok (.lconst 1, 1) := by decide +kernel
theorem dM_weigh_85 : decode bM_weigh 85 = .ok (.lsub, 1) := by decide +kernel
theorem dM_weigh_86 : decode bM_weigh 86 = .ok (.lstore_n 3, 1) := by decide +kernel
theorem dM_weigh_87 : decode bM_weigh 87 = .ok (.aload_n 0, 1) := by decide +kernel
theorem dM_weigh_88 : decode bM_weigh 88 = .ok (.getfield 35, 3) := by decide +kernel
theorem dM_weigh_91 : decode bM_weigh 91 = .ok (.iload_n 2, 1) := by decide +kernel
theorem dM_weigh_92 : decode bM_weigh 92 = .ok (.lload_n 3, 1) := by decide +kernel
theorem dM_weigh_93 : decode bM_weigh 93 = .ok (.aload_n 0, 1) := by decide +kernel
theorem dM_weigh_94 : decode bM_weigh 94 = .ok (.getfield 35, 3) := by decide +kernel
theorem dM_weigh_97 : decode bM_weigh 97 = .ok (.iload_n 2, 1) := by decide +kernel
theorem dM_weigh_98 : decode bM_weigh 98 = .ok (.laload, 1) := by decide +kernel
theorem dM_weigh_99 : decode bM_weigh 99 = .ok (.lcmp, 1) := by decide +kernel
theorem dM_weigh_100 : decode bM_weigh 100 = .ok (.ifCond .ge 7, 3) := by decide +kernel
theorem dM_weigh_107 : decode bM_weigh 107 = .ok (.aload_n 0, 1) := by decide +kernel
theorem dM_weigh_108 : decode bM_weigh 108 = .ok (.getfield 35, 3) := by decide +kernel
theorem dM_weigh_111 : decode bM_weigh 111 = .ok (.iload_n 2, 1) := by decide +kernel
theorem dM_weigh_112 : decode bM_weigh 112 = .ok (.laload, 1) := by decide +kernel
theorem dM_weigh_113 : decode bM_weigh 113 = .ok (.lastore, 1) := by decide +kernel
theorem dM_weigh_114 : decode bM_weigh 114 = .ok (.iinc 1 1, 3) := by decide +kernel
theorem dM_weigh_117 : decode bM_weigh 117 = .ok (.goto (-91), 3) := by decide +kernel
theorem dM_weigh_103 : decode bM_weigh 103 = .ok (.lload_n 3, 1) := by decide +kernel
theorem dM_weigh_104 : decode bM_weigh 104 = .ok (.goto 9, 3) := by decide +kernel
theorem dM_weigh_120 : decode bM_weigh 120 = .ok (.return_, 1) := by decide +kernel
theorem dM_settle_9 : decode bM_settle 9 = .ok (.aload_n 0, 1) := by decide +kernel
theorem dM_settle_10 : decode bM_settle 10 = .ok (.iconst 0, 1) := by decide +kernel
theorem dM_settle_11 : decode bM_settle 11 = .ok (.putfield 97, 3) := by decide +kernel
theorem dM_settle_14 : decode bM_settle 14 = .ok (.aload_n 0, 1) := by decide +kernel
theorem dM_settle_15 : decode bM_settle 15 = .ok (.iconst 0, 1) := by decide +kernel
theorem dM_settle_16 : decode bM_settle 16 = .ok (.putfield 65, 3) := by decide +kernel
theorem dM_settle_19 : decode bM_settle 19 = .ok (.iconst 0, 1) := by decide +kernel
theorem dM_settle_20 : decode bM_settle 20 = .ok (.istore_n 1, 1) := by decide +kernel
theorem dM_settle_21 : decode bM_settle 21 = .ok (.iload_n 1, 1) := by decide +kernel
theorem dM_settle_22 : decode bM_settle 22 = .ok (.sipush 256, 3) := by decide +kernel
theorem dM_settle_25 : decode bM_settle 25 = .ok (.if_icmp .ge 33, 3) := by decide +kernel
theorem dM_settle_28 : decode bM_settle 28 = .ok (.aload_n 0, 1) := by decide +kernel
theorem dM_settle_29 : decode bM_settle 29 = .ok (.getfield 41, 3) := by decide +kernel
theorem dM_settle_32 : decode bM_settle 32 = .ok (.iload_n 1, 1) := by decide +kernel
theorem dM_settle_33 : decode bM_settle 33 = .ok (.iload_n 1, 1) := by decide +kernel
theorem dM_settle_34 : decode bM_settle 34 = .ok (.bipush 16, 2) := by decide +kernel
theorem dM_settle_36 : decode bM_settle 36 = .ok (.idiv, 1) := by decide +kernel
theorem dM_settle_37 : decode bM_settle 37 = .ok (.iload_n 1, 1) := by decide +kernel
theorem dM_settle_38 : decode bM_settle 38 = .ok (.bipush 16, 2) := by decide +kernel
theorem dM_settle_40 : decode bM_settle 40 = .ok (.irem, 1) := by decide +kernel
theorem dM_settle_41 : decode bM_settle 41 = .ok (.if_icmp .ne 7, 3) := by decide +kernel
theorem dM_settle_48 : decode bM_settle 48 = .ok (.ldc2_w 91, 3) := by decide +kernel
theorem dM_settle_51 : decode bM_settle 51 = .ok (.lastore, 1) := by decide +kernel
theorem dM_settle_52 : decode bM_settle 52 = .ok (.iinc 1 1, 3) := by decide +kernel
theorem dM_settle_55 : decode bM_settle 55 = .ok (.goto (-34), 3) := by decide +kernel
theorem dM_settle_44 : decode bM_settle 44 = .ok (.lconst 0, 1) := by decide +kernel
theorem dM_settle_45 : decode bM_settle 45 = .ok (.goto 6, 3) := by decide +kernel
theorem dM_settle_58 : decode bM_settle 58 = .ok (.iconst 1, 1) := by decide +kernel
theorem dM_settle_59 : decode bM_settle 59 = .ok (.istore_n 1, 1) := by decide +kernel
theorem dM_settle_60 : decode bM_settle 60 = .ok (.iload_n 1, 1) := by decide +kernel
theorem dM_settle_61 : decode bM_settle 61 = .ok (.bipush 16, 2) := by decide +kernel
theorem dM_settle_63 : decode bM_settle 63 = .ok (.if_icmp .gt 59, 3) := by decide +kernel
theorem dM_settle_66 : decode bM_settle 66 = .ok (.aload_n 0, 1) := by decide +kernel
theorem dM_settle_67 : decode bM_settle 67 = .ok (.iload_n 1, 1) := by decide +kernel
theorem dM_settle_68 : decode bM_settle 68 = .ok (.invokevirtual 107, 3) := by decide +kernel
theorem dM_step_0 : decode bM_step 0 = .ok (.iconst 0, 1) := by decide +kernel
theorem dM_step_1 : decode bM_step 1 = .ok (.istore_n 2, 1) := by decide +kernel
theorem dM_step_2 : decode bM_step 2 = .ok (.iload_n 2, 1) := by decide +kernel
theorem dM_step_3 : decode bM_step 3 = .ok (.bipush 16, 2) := by decide +kernel
theorem dM_step_5 : decode bM_step 5 = .ok (.if_icmp .ge 117, 3) := by decide +kernel
theorem dM_step_8 : decode bM_step 8 = .ok (.iconst 0, 1) := by decide +kernel
theorem dM_step_9 : decode bM_step 9 = .ok (.istore_n 3, 1) := by decide +kernel
theorem dM_step_10 : decode bM_step 10 = .ok (.iload_n 3, 1) := by decide +kernel
theorem dM_step_11 : decode bM_step 11 = .ok (.bipush 16, 2) := by decide +kernel
theorem dM_step_13 : decode bM_step 13 = .ok (.if_icmp .ge 103, 3) := by decide +kernel
theorem dM_step_16 : decode bM_step 16 = .ok (.ldc2_w 91, 3) := by decide +kernel
theorem dM_step_19 : decode bM_step 19 = .ok (.lstore 4, 2) := by decide +kernel
theorem dM_step_21 : decode bM_step 21 = .ok (.iconst 0, 1) := by decide +kernel
theorem dM_step_22 : decode bM_step 22 = .ok (.istore 6, 2) := by decide +kernel
theorem dM_step_24 : decode bM_step 24 = .ok (.iload 6, 2) := by decide +kernel
theorem dM_step_26 : decode bM_step 26 = .ok (.bipush 16, 2) := by decide +kernel
theorem dM_step_28 : decode bM_step 28 = .ok (.if_icmp .ge 63, 3) := by decide +kernel
theorem dM_step_31 : decode bM_step 31 = .ok (.aload_n 0, 1) := by decide +kernel
theorem dM_step_32 : decode bM_step 32 = .ok (.getfield 35, 3) := by decide +kernel
theorem dM_step_35 : decode bM_step 35 = .ok (.bipush 16, 2) := by decide +kernel
theorem dM_step_37 : decode bM_step 37 = .ok (.iload_n 2, 1) := by decide +kernel
theorem dM_step_38 : decode bM_step 38 = .ok (.imul, 1) := by decide +kernel
theorem dM_step_39 : decode bM_step 39 = .ok (.iload 6, 2) := by decide +kernel
theorem dM_step_41 : decode bM_step 41 = .ok (.iadd, 1) := by decide +kernel
theorem dM_step_42 : decode bM_step 42 = .ok (.laload, 1) := by decide +kernel
theorem dM_step_43 : decode bM_step 43 = .ok (.aload_n 0, 1) := by decide +kernel
theorem dM_step_44 : decode bM_step 44 = .ok (.getfield 41, 3) := by decide +kernel
theorem dM_step_47 : decode bM_step 47 = .ok (.sipush 256, 3) := by decide +kernel
theorem dM_step_50 : decode bM_step 50 = .ok (.iload_n 1, 1) := by decide +kernel
theorem dM_step_51 : decode bM_step 51 = .ok (.iconst 1, 1) := by decide +kernel
theorem dM_step_52 : decode bM_step 52 = .ok (.isub, 1) := by decide +kernel
theorem dM_step_53 : decode bM_step 53 = .ok (.imul, 1) := by decide +kernel
theorem dM_step_54 : decode bM_step 54 = .ok (.bipush 16, 2) := by decide +kernel
theorem dM_step_56 : decode bM_step 56 = .ok (.iload 6, 2) := by decide +kernel
theorem dM_step_58 : decode bM_step 58 = .ok (.imul, 1) := by decide +kernel
theorem dM_step_59 : decode bM_step 59 = .ok (.iadd, 1) := by decide +kernel
theorem dM_step_60 : decode bM_step 60 = .ok (.iload_n 3, 1) := by decide +kernel
theorem dM_step_61 : decode bM_step 61 = .ok (.iadd, 1) := by decide +kernel
theorem dM_step_62 : decode bM_step 62 = .ok (.laload, 1) := by decide +kernel
theorem dM_step_63 : decode bM_step 63 = .ok (.invokestatic 93, 3) := by decide +kernel
theorem dM_plus_0 : decode bM_plus 0 = .ok (.lload_n 0, 1) := by decide +kernel
theorem dM_plus_1 : decode bM_plus 1 = .ok (.ldc2_w 91, 3) := by decide +kernel
theorem dM_plus_4 : decode bM_plus 4 = .ok (.lcmp, 1) := by decide +kernel
theorem dM_plus_5 : decode bM_plus 5 = .ok (.ifCond .eq 11, 3) := by decide +kernel
theorem dM_plus_16 : decode bM_plus 16 = .ok (.ldc2_w 91, 3) := by decide +kernel
theorem dM_plus_19 : decode bM_plus 19 = .ok (.goto 6, 3) := by decide +kernel
theorem dM_plus_25 : decode bM_plus 25 = .ok (.lreturn, 1) := by decide +kernel
theorem dM_plus_8 : decode bM_plus 8 = .ok (.lload_n 2, 1) := by decide +kernel
theorem dM_plus_9 : decode bM_plus 9 = .ok (.ldc2_w 91, 3) := by decide +kernel
theorem dM_plus_12 : decode bM_plus 12 = .ok (.lcmp, 1) := by decide +kernel
theorem dM_plus_13 : decode bM_plus 13 = .ok (.ifCond .ne 9, 3) := by decide +kernel
theorem dM_plus_22 : decode bM_plus 22 = .ok (.lload_n 0, 1) := by decide +kernel
theorem dM_plus_23 : decode bM_plus 23 = .ok (.lload_n 2, 1) := by decide +kernel
theorem dM_plus_24 : decode bM_plus 24 = .ok (.ladd, 1) := by decide +kernel
theorem dM_step_66 : decode bM_step 66 = .ok (.lstore 7, 2) := by decide +kernel
theorem dM_step_68 : decode bM_step 68 = .ok (.lload 7, 2) := by decide +kernel
theorem dM_step_70 : decode bM_step 70 = .ok (.lload 4, 2) := by decide +kernel
theorem dM_step_72 : decode bM_step 72 = .ok (.lcmp, 1) := by decide +kernel
theorem dM_step_73 : decode bM_step 73 = .ok (.ifCond .ge 8, 3) := by decide +kernel
theorem dM_step_81 : decode bM_step 81 = .ok (.lload 4, 2) := by decide +kernel
theorem dM_step_83 : decode bM_step 83 = .ok (.lstore 4, 2) := by decide +kernel
theorem dM_step_85 : decode bM_step 85 = .ok (.iinc 6 1, 3) := by decide +kernel
theorem dM_step_88 : decode bM_step 88 = .ok (.goto (-64), 3) := by decide +kernel
theorem dM_step_76 : decode bM_step 76 = .ok (.lload 7, 2) := by decide +kernel
theorem dM_step_78 : decode bM_step 78 = .ok (.goto 5, 3) := by decide +kernel
theorem dM_step_91 : decode bM_step 91 = .ok (.aload_n 0, 1) := by decide +kernel
theorem dM_step_92 : decode bM_step 92 = .ok (.getfield 41, 3) := by decide +kernel
theorem dM_step_95 : decode bM_step 95 = .ok (.sipush 256, 3) := by decide +kernel
theorem dM_step_98 : decode bM_step 98 = .ok (.iload_n 1, 1) := by decide +kernel
theorem dM_step_99 : decode bM_step 99 = .ok (.imul, 1) := by decide +kernel
theorem dM_step_100 : decode bM_step 100 = .ok (.bipush 16, 2) := by decide +kernel
theorem dM_step_102 : decode bM_step 102 = .ok (.iload_n 2, 1) := by decide +kernel
theorem dM_step_103 : decode bM_step 103 = .ok (.imul, 1) := by decide +kernel
theorem dM_step_104 : decode bM_step 104 = .ok (.iadd, 1) := by decide +kernel
theorem dM_step_105 : decode bM_step 105 = .ok (.iload_n 3, 1) := by decide +kernel
theorem dM_step_106 : decode bM_step 106 = .ok (.iadd, 1) := by decide +kernel
theorem dM_step_107 : decode bM_step 107 = .ok (.lload 4, 2) := by decide +kernel
theorem dM_step_109 : decode bM_step 109 = .ok (.lastore, 1) := by decide +kernel
theorem dM_step_110 : decode bM_step 110 = .ok (.iinc 3 1, 3) := by decide +kernel
theorem dM_step_113 : decode bM_step 113 = .ok (.goto (-103), 3) := by decide +kernel
theorem dM_step_116 : decode bM_step 116 = .ok (.iinc 2 1, 3) := by decide +kernel
theorem dM_step_119 : decode bM_step 119 = .ok (.goto (-117), 3) := by decide +kernel
theorem dM_step_122 : decode bM_step 122 = .ok (.return_, 1) := by decide +kernel
theorem dM_settle_71 : decode bM_settle 71 = .ok (.iconst 0, 1) := by decide +kernel
theorem dM_settle_72 : decode bM_settle 72 = .ok (.istore_n 2, 1) := by decide +kernel
theorem dM_settle_73 : decode bM_settle 73 = .ok (.iload_n 2, 1) := by decide +kernel
theorem dM_settle_74 : decode bM_settle 74 = .ok (.bipush 16, 2) := by decide +kernel
theorem dM_settle_76 : decode bM_settle 76 = .ok (.if_icmp .ge 40, 3) := by decide +kernel
theorem dM_settle_79 : decode bM_settle 79 = .ok (.aload_n 0, 1) := by decide +kernel
theorem dM_settle_80 : decode bM_settle 80 = .ok (.getfield 41, 3) := by decide +kernel
theorem dM_settle_83 : decode bM_settle 83 = .ok (.sipush 256, 3) := by decide +kernel
theorem dM_settle_86 : decode bM_settle 86 = .ok (.iload_n 1, 1) := by decide +kernel
theorem dM_settle_87 : decode bM_settle 87 = .ok (.imul, 1) := by decide +kernel
theorem dM_settle_88 : decode bM_settle 88 = .ok (.bipush 16, 2) := by decide +kernel
theorem dM_settle_90 : decode bM_settle 90 = .ok (.iload_n 2, 1) := by decide +kernel
theorem dM_settle_91 : decode bM_settle 91 = .ok (.imul, 1) := by decide +kernel
theorem dM_settle_92 : decode bM_settle 92 = .ok (.iadd, 1) := by decide +kernel
theorem dM_settle_93 : decode bM_settle 93 = .ok (.iload_n 2, 1) := by decide +kernel
theorem dM_settle_94 : decode bM_settle 94 = .ok (.iadd, 1) := by decide +kernel
theorem dM_settle_95 : decode bM_settle 95 = .ok (.laload, 1) := by decide +kernel
theorem dM_settle_96 : decode bM_settle 96 = .ok (.lconst 0, 1) := by decide +kernel
theorem dM_settle_97 : decode bM_settle 97 = .ok (.lcmp, 1) := by decide +kernel
theorem dM_settle_98 : decode bM_settle 98 = .ok (.ifCond .ge 12, 3) := by decide +kernel
theorem dM_settle_110 : decode bM_settle 110 = .ok (.iinc 2 1, 3) := by decide +kernel
theorem dM_settle_113 : decode bM_settle 113 = .ok (.goto (-40), 3) := by decide +kernel
theorem dM_settle_101 : decode bM_settle 101 = .ok (.aload_n 0, 1) := by decide +kernel
theorem dM_settle_102 : decode bM_settle 102 = .ok (.iload_n 1, 1) := by decide +kernel
theorem dM_settle_103 : decode bM_settle 103 = .ok (.iload_n 2, 1) := by decide +kernel
theorem dM_settle_104 : decode bM_settle 104 = .ok (.invokevirtual 111, 3) := by decide +kernel
theorem dM_tellRing_0 : decode bM_tellRing 0 = .ok (.aload_n 0, 1) := by decide +kernel
theorem dM_tellRing_1 : decode bM_tellRing 1 = .ok (.iload_n 1, 1) := by decide +kernel
theorem dM_tellRing_2 : decode bM_tellRing 2 = .ok (.putfield 97, 3) := by decide +kernel
theorem dM_tellRing_5 : decode bM_tellRing 5 = .ok (.aload_n 0, 1) := by decide +kernel
theorem dM_tellRing_6 : decode bM_tellRing 6 = .ok (.getfield 32, 3) := by decide +kernel
theorem dM_tellRing_9 : decode bM_tellRing 9 = .ok (.iconst 0, 1) := by decide +kernel
theorem dM_tellRing_10 : decode bM_tellRing 10 = .ok (.iload_n 2, 1) := by decide +kernel
theorem dM_tellRing_11 : decode bM_tellRing 11 = .ok (.iastore, 1) := by decide +kernel
theorem dM_tellRing_12 : decode bM_tellRing 12 = .ok (.lconst 0, 1) := by decide +kernel
theorem dM_tellRing_13 : decode bM_tellRing 13 = .ok (.lstore_n 3, 1) := by decide +kernel
theorem dM_tellRing_14 : decode bM_tellRing 14 = .ok (.iconst 1, 1) := by decide +kernel
theorem dM_tellRing_15 : decode bM_tellRing 15 = .ok (.istore 5, 2) := by decide +kernel
theorem dM_tellRing_17 : decode bM_tellRing 17 = .ok (.iload 5, 2) := by decide +kernel
theorem dM_tellRing_19 : decode bM_tellRing 19 = .ok (.iload_n 1, 1) := by decide +kernel
theorem dM_tellRing_20 : decode bM_tellRing 20 = .ok (.if_icmp .ge 74, 3) := by decide +kernel
theorem dM_tellRing_23 : decode bM_tellRing 23 = .ok (.iconst 0, 1) := by decide +kernel
theorem dM_tellRing_24 : decode bM_tellRing 24 = .ok (.istore 6, 2) := by decide +kernel
theorem dM_tellRing_26 : decode bM_tellRing 26 = .ok (.aload_n 0, 1) := by decide +kernel
theorem dM_tellRing_27 : decode bM_tellRing 27 = .ok (.lload_n 3, 1) := by decide +kernel
theorem dM_tellRing_28 : decode bM_tellRing 28 = .ok (.aload_n 0, 1) := by decide +kernel
theorem dM_tellRing_29 : decode bM_tellRing 29 = .ok (.getfield 32, 3) := by decide +kernel
theorem dM_tellRing_32 : decode bM_tellRing 32 = .ok (.iload 5, 2) := by decide +kernel
theorem dM_tellRing_34 : decode bM_tellRing 34 = .ok (.iconst 1, 1) := by decide +kernel
theorem dM_tellRing_35 : decode bM_tellRing 35 = .ok (.isub, 1) := by decide +kernel
theorem dM_tellRing_36 : decode bM_tellRing 36 = .ok (.iaload, 1) := by decide +kernel
theorem dM_tellRing_37 : decode bM_tellRing 37 = .ok (.iload 6, 2) := by decide +kernel
theorem dM_tellRing_39 : decode bM_tellRing 39 = .ok (.iload_n 1, 1) := by decide +kernel
theorem dM_tellRing_40 : decode bM_tellRing 40 = .ok (.iload 5, 2) := by decide +kernel
theorem dM_tellRing_42 : decode bM_tellRing 42 = .ok (.isub, 1) := by decide +kernel
theorem dM_tellRing_43 : decode bM_tellRing 43 = .ok (.iload_n 2, 1) := by decide +kernel
theorem dM_tellRing_44 : decode bM_tellRing 44 = .ok (.invokevirtual 100, 3) := by decide +kernel
theorem dM_isOn_0 : decode bM_isOn 0 = .ok (.aload_n 0, 1) := by decide +kernel
theorem dM_isOn_1 : decode bM_isOn 1 = .ok (.getfield 35, 3) := by decide +kernel
theorem dM_isOn_4 : decode bM_isOn 4 = .ok (.bipush 16, 2) := by decide +kernel
theorem dM_isOn_6 : decode bM_isOn 6 = .ok (.iload_n 3, 1) := by decide +kernel
theorem dM_isOn_7 : decode bM_isOn 7 = .ok (.imul, 1) := by decide +kernel
theorem dM_isOn_8 : decode bM_isOn 8 = .ok (.iload 4, 2) := by decide +kernel
theorem dM_isOn_10 : decode bM_isOn 10 = .ok (.iadd, 1) := by decide +kernel
theorem dM_isOn_11 : decode bM_isOn 11 = .ok (.laload, 1) := by decide +kernel
theorem dM_isOn_12 : decode bM_isOn 12 = .ok (.aload_n 0, 1) := by decide +kernel
theorem dM_isOn_13 : decode bM_isOn 13 = .ok (.getfield 41, 3) := by decide +kernel
theorem dM_isOn_16 : decode bM_isOn 16 = .ok (.sipush 256, 3) := by decide +kernel
theorem dM_isOn_19 : decode bM_isOn 19 = .ok (.iload 5, 2) := by decide +kernel
theorem dM_isOn_21 : decode bM_isOn 21 = .ok (.imul, 1) := by decide +kernel
theorem dM_isOn_22 : decode bM_isOn 22 = .ok (.bipush 16, 2) := by decide +kernel
theorem dM_isOn_24 : decode bM_isOn 24 = .ok (.iload 4, 2) := by decide +kernel
theorem dM_isOn_26 : decode bM_isOn 26 = .ok (.imul, 1) := by decide +kernel
theorem dM_isOn_27 : decode bM_isOn 27 = .ok (.iadd, 1) := by decide +kernel
theorem dM_isOn_28 : decode bM_isOn 28 = .ok (.iload 6, 2) := by decide +kernel
theorem dM_isOn_30 : decode bM_isOn 30 = .ok (.iadd, 1) := by decide +kernel
theorem dM_isOn_31 : decode bM_isOn 31 = .ok (.laload, 1) := by decide +kernel
theorem dM_isOn_32 : decode bM_isOn 32 = .ok (.invokestatic 93, 3) := by decide +kernel
theorem dM_isOn_35 : decode bM_isOn 35 = .ok (.lstore 7, 2) := by decide +kernel
theorem dM_isOn_37 : decode bM_isOn 37 = .ok (.lload 7, 2) := by decide +kernel
theorem dM_isOn_39 : decode bM_isOn 39 = .ok (.ldc2_w 91, 3) := by decide +kernel
theorem dM_isOn_42 : decode bM_isOn 42 = .ok (.lcmp, 1) := by decide +kernel
theorem dM_isOn_43 : decode bM_isOn 43 = .ok (.ifCond .eq 16, 3) := by decide +kernel
theorem dM_isOn_59 : decode bM_isOn 59 = .ok (.iconst 0, 1) := by decide +kernel
theorem dM_isOn_60 : decode bM_isOn 60 = .ok (.ireturn, 1) := by decide +kernel
theorem dM_isOn_46 : decode bM_isOn 46 = .ok (.lload_n 1, 1) := by decide +kernel
theorem dM_isOn_47 : decode bM_isOn 47 = .ok (.lload 7, 2) := by decide +kernel
theorem dM_isOn_49 : decode bM_isOn 49 = .ok (.ladd, 1) := by decide +kernel
theorem dM_isOn_50 : decode bM_isOn 50 = .ok (.lconst 0, 1) := by decide +kernel
theorem dM_isOn_51 : decode bM_isOn 51 = .ok (.lcmp, 1) := by decide +kernel
theorem dM_isOn_52 : decode bM_isOn 52 = .ok (.ifCond .ge 7, 3) := by decide +kernel
theorem dM_isOn_55 : decode bM_isOn 55 = .ok (.iconst 1, 1) := by decide +kernel
theorem dM_isOn_56 : decode bM_isOn 56 = .ok (.goto 4, 3) := by decide +kernel
theorem dM_tellRing_47 : decode bM_tellRing 47 = .ok (.ifCond .ne 9, 3) := by decide +kernel
theorem dM_tellRing_50 : decode bM_tellRing 50 = .ok (.iinc 6 1, 3) := by decide +kernel
theorem dM_tellRing_53 : decode bM_tellRing 53 = .ok (.goto (-27), 3) := by decide +kernel
theorem dM_tellRing_56 : decode bM_tellRing 56 = .ok (.lload_n 3, 1) := by decide +kernel
theorem dM_tellRing_57 : decode bM_tellRing 57 = .ok (.aload_n 0, 1) := by decide +kernel
theorem dM_tellRing_58 : decode bM_tellRing 58 = .ok (.getfield 35, 3) := by decide +kernel
theorem dM_tellRing_61 : decode bM_tellRing 61 = .ok (.bipush 16, 2) := by decide +kernel
theorem dM_tellRing_63 : decode bM_tellRing 63 = .ok (.aload_n 0, 1) := by decide +kernel
theorem dM_tellRing_64 : decode bM_tellRing 64 = .ok (.getfield 32, 3) := by decide +kernel
theorem dM_tellRing_67 : decode bM_tellRing 67 = .ok (.iload 5, 2) := by decide +kernel
theorem dM_tellRing_69 : decode bM_tellRing 69 = .ok (.iconst 1, 1) := by decide +kernel
theorem dM_tellRing_70 : decode bM_tellRing 70 = .ok (.isub, 1) := by decide +kernel
theorem dM_tellRing_71 : decode bM_tellRing 71 = .ok (.iaload, 1) := by decide +kernel
theorem dM_tellRing_72 : decode bM_tellRing 72 = .ok (.imul, 1) := by decide +kernel
theorem dM_tellRing_73 : decode bM_tellRing 73 = .ok (.iload 6, 2) := by decide +kernel
theorem dM_tellRing_75 : decode bM_tellRing 75 = .ok (.iadd, 1) := by decide +kernel
theorem dM_tellRing_76 : decode bM_tellRing 76 = .ok (.laload, 1) := by decide +kernel
theorem dM_tellRing_77 : decode bM_tellRing 77 = .ok (.ladd, 1) := by decide +kernel
theorem dM_tellRing_78 : decode bM_tellRing 78 = .ok (.lstore_n 3, 1) := by decide +kernel
theorem dM_tellRing_79 : decode bM_tellRing 79 = .ok (.aload_n 0, 1) := by decide +kernel
theorem dM_tellRing_80 : decode bM_tellRing 80 = .ok (.getfield 32, 3) := by decide +kernel
theorem dM_tellRing_83 : decode bM_tellRing 83 = .ok (.iload 5, 2) := by decide +kernel
theorem dM_tellRing_85 : decode bM_tellRing 85 = .ok (.iload 6, 2) := by decide +kernel
theorem dM_tellRing_87 : decode bM_tellRing 87 = .ok (.iastore, 1) := by decide +kernel
theorem dM_tellRing_88 : decode bM_tellRing 88 = .ok (.iinc 5 1, 3) := by decide +kernel
theorem dM_tellRing_91 : decode bM_tellRing 91 = .ok (.goto (-74), 3) := by decide +kernel
theorem dM_tellRing_94 : decode bM_tellRing 94 = .ok (.return_, 1) := by decide +kernel
theorem dM_settle_107 : decode bM_settle 107 = .ok (.iload_n 1, 1) := by decide +kernel
theorem dM_settle_108 : decode bM_settle 108 = .ok (.ineg, 1) := by decide +kernel
theorem dM_settle_109 : decode bM_settle 109 = .ok (.ireturn, 1) := by decide +kernel
theorem dM_settle_116 : decode bM_settle 116 = .ok (.iinc 1 1, 3) := by decide +kernel
theorem dM_settle_119 : decode bM_settle 119 = .ok (.goto (-59), 3) := by decide +kernel
theorem dM_settle_122 : decode bM_settle 122 = .ok (.aload_n 0, 1) := by decide +kernel
theorem dM_settle_123 : decode bM_settle 123 = .ok (.invokevirtual 115, 3) := by decide +kernel
theorem dM_bind_0 : decode bM_bind 0 = .ok (.iconst 0, 1) := by decide +kernel
theorem dM_bind_1 : decode bM_bind 1 = .ok (.istore_n 1, 1) := by decide +kernel
theorem dM_bind_2 : decode bM_bind 2 = .ok (.iload_n 1, 1) := by decide +kernel
theorem dM_bind_3 : decode bM_bind 3 = .ok (.sipush 256, 3) := by decide +kernel
theorem dM_bind_6 : decode bM_bind 6 = .ok (.if_icmp .ge 33, 3) := by decide +kernel
theorem dM_bind_9 : decode bM_bind 9 = .ok (.aload_n 0, 1) := by decide +kernel
theorem dM_bind_10 : decode bM_bind 10 = .ok (.getfield 38, 3) := by decide +kernel
theorem dM_bind_13 : decode bM_bind 13 = .ok (.iload_n 1, 1) := by decide +kernel
theorem dM_bind_14 : decode bM_bind 14 = .ok (.iload_n 1, 1) := by decide +kernel
theorem dM_bind_15 : decode bM_bind 15 = .ok (.bipush 16, 2) := by decide +kernel
theorem dM_bind_17 : decode bM_bind 17 = .ok (.idiv, 1) := by decide +kernel
theorem dM_bind_18 : decode bM_bind 18 = .ok (.iload_n 1, 1) := by decide +kernel
theorem dM_bind_19 : decode bM_bind 19 = .ok (.bipush 16, 2) := by decide +kernel
theorem dM_bind_21 : decode bM_bind 21 = .ok (.irem, 1) := by decide +kernel
theorem dM_bind_22 : decode bM_bind 22 = .ok (.if_icmp .ne 7, 3) := by decide +kernel
theorem dM_bind_29 : decode bM_bind 29 = .ok (.ldc2_w 91, 3) := by decide +kernel
theorem dM_bind_32 : decode bM_bind 32 = .ok (.lastore, 1) := by decide +kernel
theorem dM_bind_33 : decode bM_bind 33 = .ok (.iinc 1 1, 3) := by decide +kernel
theorem dM_bind_36 : decode bM_bind 36 = .ok (.goto (-34), 3) := by decide +kernel
theorem dM_bind_25 : decode bM_bind 25 = .ok (.lconst 0, 1) := by decide +kernel
theorem dM_bind_26 : decode bM_bind 26 = .ok (.goto 6, 3) := by decide +kernel
theorem dM_bind_39 : decode bM_bind 39 = .ok (.iconst 1, 1) := by decide +kernel
theorem dM_bind_40 : decode bM_bind 40 = .ok (.istore_n 1, 1) := by decide +kernel
theorem dM_bind_41 : decode bM_bind 41 = .ok (.iload_n 1, 1) := by decide +kernel
theorem dM_bind_42 : decode bM_bind 42 = .ok (.ifCond .eq 108, 3) := by decide +kernel
theorem dM_bind_45 : decode bM_bind 45 = .ok (.iconst 0, 1) := by decide +kernel
theorem dM_bind_46 : decode bM_bind 46 = .ok (.istore_n 1, 1) := by decide +kernel
theorem dM_bind_47 : decode bM_bind 47 = .ok (.iconst 0, 1) := by decide +kernel
theorem dM_bind_48 : decode bM_bind 48 = .ok (.istore_n 2, 1) := by decide +kernel
theorem dM_bind_49 : decode bM_bind 49 = .ok (.iload_n 2, 1) := by decide +kernel
theorem dM_bind_50 : decode bM_bind 50 = .ok (.sipush 4096, 3) := by decide +kernel
theorem dM_bind_53 : decode bM_bind 53 = .ok (.if_icmp .ge 94, 3) := by decide +kernel
theorem dM_bind_56 : decode bM_bind 56 = .ok (.iload_n 2, 1) := by decide +kernel
theorem dM_bind_57 : decode bM_bind 57 = .ok (.sipush 256, 3) := by decide +kernel
theorem dM_bind_60 : decode bM_bind 60 = .ok (.idiv, 1) := by decide +kernel
theorem dM_bind_61 : decode bM_bind 61 = .ok (.istore_n 3, 1) := by decide +kernel
theorem dM_bind_62 : decode bM_bind 62 = .ok (.iload_n 2, 1) := by decide +kernel
theorem dM_bind_63 : decode bM_bind 63 = .ok (.bipush 16, 2) := by decide +kernel
theorem dM_bind_65 : decode bM_bind 65 = .ok (.idiv, 1) := by decide +kernel
theorem dM_bind_66 : decode bM_bind 66 = .ok (.bipush 16, 2) := by decide +kernel
theorem dM_bind_68 : decode bM_bind 68 = .ok (.irem, 1) := by decide +kernel
theorem dM_bind_69 : decode bM_bind 69 = .ok (.istore 4, 2) := by decide +kernel
theorem dM_bind_71 : decode bM_bind 71 = .ok (.iload_n 2, 1) := by decide +kernel
theorem dM_bind_72 : decode bM_bind 72 = .ok (.bipush 16, 2) := by decide +kernel
theorem dM_bind_74 : decode bM_bind 74 = .ok (.irem, 1) := by decide +kernel
theorem dM_bind_75 : decode bM_bind 75 = .ok (.istore 5, 2) := by decide +kernel
theorem dM_bind_77 : decode bM_bind 77 = .ok (.aload_n 0, 1) := by decide +kernel
theorem dM_bind_78 : decode bM_bind 78 = .ok (.getfield 35, 3) := by decide +kernel
theorem dM_bind_81 : decode bM_bind 81 = .ok (.bipush 16, 2) := by decide +kernel
theorem dM_bind_83 : decode bM_bind 83 = .ok (.iload_n 3, 1) := by decide +kernel
theorem dM_bind_84 : decode bM_bind 84 = .ok (.imul, 1) := by decide +kernel
theorem dM_bind_85 : decode bM_bind 85 = .ok (.iload 4, 2) := by decide +kernel
theorem dM_bind_87 : decode bM_bind 87 = .ok (.iadd, 1) := by decide +kernel
theorem dM_bind_88 : decode bM_bind 88 = .ok (.laload, 1) := by decide +kernel
theorem dM_bind_89 : decode bM_bind 89 = .ok (.aload_n 0, 1) := by decide +kernel
theorem dM_bind_90 : decode bM_bind 90 = .ok (.getfield 38, 3) := by decide +kernel
theorem dM_bind_93 : decode bM_bind 93 = .ok (.bipush 16, 2) := by decide +kernel
theorem dM_bind_95 : decode bM_bind 95 = .ok (.iload 4, 2) := by decide +kernel
theorem dM_bind_97 : decode bM_bind 97 = .ok (.imul, 1) := by decide +kernel
theorem dM_bind_98 : decode bM_bind 98 = .ok (.iload 5, 2) := by decide +kernel
theorem dM_bind_100 : decode bM_bind 100 = .ok (.iadd, 1) := by decide +kernel
theorem dM_bind_101 : decode bM_bind 101 = .ok (.laload, 1) := by decide +kernel
theorem dM_bind_102 : decode bM_bind 102 = .ok (.invokestatic 93, 3) := by decide +kernel
theorem dM_bind_105 : decode bM_bind 105 = .ok (.lstore 6, 2) := by decide +kernel
theorem dM_bind_107 : decode bM_bind 107 = .ok (.lload 6, 2) := by decide +kernel
theorem dM_bind_109 : decode bM_bind 109 = .ok (.aload_n 0, 1) := by decide +kernel
theorem dM_bind_110 : decode bM_bind 110 = .ok (.getfield 38, 3) := by decide +kernel
theorem dM_bind_113 : decode bM_bind 113 = .ok (.bipush 16, 2) := by decide +kernel
theorem dM_bind_115 : decode bM_bind 115 = .ok (.iload_n 3, 1) := by decide +kernel
theorem dM_bind_116 : decode bM_bind 116 = .ok (.imul, 1) := by decide +kernel
theorem dM_bind_117 : decode bM_bind 117 = .ok (.iload 5, 2) := by decide +kernel
theorem dM_bind_119 : decode bM_bind 119 = .ok (.iadd, 1) := by decide +kernel
theorem dM_bind_120 : decode bM_bind 120 = .ok (.laload, 1) := by decide +kernel
theorem dM_bind_121 : decode bM_bind 121 = .ok (.lcmp, 1) := by decide +kernel
theorem dM_bind_122 : decode bM_bind 122 = .ok (.ifCond .ge 19, 3) := by decide +kernel
theorem dM_bind_141 : decode bM_bind 141 = .ok (.iinc 2 1, 3) := by decide +kernel
theorem dM_bind_144 : decode bM_bind 144 = .ok (.goto (-95), 3) := by decide +kernel
theorem dM_bind_125 : decode bM_bind 125 = .ok (.aload_n 0, 1) := by decide +kernel
theorem dM_bind_126 : decode bM_bind 126 = .ok (.getfield 38, 3) := by decide +kernel
theorem dM_bind_129 : decode bM_bind 129 = .ok (.bipush 16, 2) := by decide +kernel
theorem dM_bind_131 : decode bM_bind 131 = .ok (.iload_n 3, 1) := by decide +kernel
theorem dM_bind_132 : decode bM_bind 132 = .ok (.imul, 1) := by decide +kernel
theorem dM_bind_133 : decode bM_bind 133 = .ok (.iload 5, 2) := by decide +kernel
theorem dM_bind_135 : decode bM_bind 135 = .ok (.iadd, 1) := by decide +kernel
theorem dM_bind_136 : decode bM_bind 136 = .ok (.lload 6, 2) := by decide +kernel
theorem dM_bind_138 : decode bM_bind 138 = .ok (.lastore, 1) := by decide +kernel
theorem dM_bind_139 : decode bM_bind 139 = .ok (.iconst 1, 1) := by decide +kernel
theorem dM_bind_140 : decode bM_bind 140 = .ok (.istore_n 1, 1) := by decide +kernel
theorem dM_bind_147 : decode bM_bind 147 = .ok (.goto (-106), 3) := by decide +kernel
theorem dM_bind_150 : decode bM_bind 150 = .ok (.iconst 0, 1) := by decide +kernel
theorem dM_bind_151 : decode bM_bind 151 = .ok (.istore_n 2, 1) := by decide +kernel
theorem dM_bind_152 : decode bM_bind 152 = .ok (.iload_n 2, 1) := by decide +kernel
theorem dM_bind_153 : decode bM_bind 153 = .ok (.bipush 16, 2) := by decide +kernel
theorem dM_bind_155 : decode bM_bind 155 = .ok (.if_icmp .ge 171, 3) := by decide +kernel
theorem dM_bind_158 : decode bM_bind 158 = .ok (.ldc2_w 118, 3) := by decide +kernel
theorem dM_bind_161 : decode bM_bind 161 = .ok (.lstore_n 3, 1) := by decide +kernel
theorem dM_bind_162 : decode bM_bind 162 = .ok (.ldc2_w 91, 3) := by decide +kernel
theorem dM_bind_165 : decode bM_bind 165 = .ok (.lstore 5, 2) := by decide +kernel
theorem dM_bind_167 : decode bM_bind 167 = .ok (.iconst 0, 1) := by decide +kernel
theorem dM_bind_168 : decode bM_bind 168 = .ok (.istore 7, 2) := by decide +kernel
theorem dM_bind_170 : decode bM_bind 170 = .ok (.iload 7, 2) := by decide +kernel
theorem dM_bind_172 : decode bM_bind 172 = .ok (.iload_n 2, 1) := by decide +kernel
theorem dM_bind_173 : decode bM_bind 173 = .ok (.if_icmp .ge 118, 3) := by decide +kernel
theorem dM_bind_176 : decode bM_bind 176 = .ok (.aload_n 0, 1) := by decide +kernel
theorem dM_bind_177 : decode bM_bind 177 = .ok (.getfield 38, 3) := by decide +kernel
theorem dM_bind_180 : decode bM_bind 180 = .ok (.bipush 16, 2) := by decide +kernel
theorem dM_bind_182 : decode bM_bind 182 = .ok (.iload_n 2, 1) := by decide +kernel
theorem dM_bind_183 : decode bM_bind 183 = .ok (.imul, 1) := by decide +kernel
theorem dM_bind_184 : decode bM_bind 184 = .ok (.iload 7, 2) := by decide +kernel
theorem dM_bind_186 : decode bM_bind 186 = .ok (.iadd, 1) := by decide +kernel
theorem dM_bind_187 : decode bM_bind 187 = .ok (.laload, 1) := by decide +kernel
theorem dM_bind_188 : decode bM_bind 188 = .ok (.lstore 8, 2) := by decide +kernel
theorem dM_bind_190 : decode bM_bind 190 = .ok (.aload_n 0, 1) := by decide +kernel
theorem dM_bind_191 : decode bM_bind 191 = .ok (.getfield 38, 3) := by decide +kernel
theorem dM_bind_194 : decode bM_bind 194 = .ok (.bipush 16, 2) := by decide +kernel
theorem dM_bind_196 : decode bM_bind 196 = .ok (.iload 7, 2) := by decide +kernel
theorem dM_bind_198 : decode bM_bind 198 = .ok (.imul, 1) := by decide +kernel
theorem dM_bind_199 : decode bM_bind 199 = .ok (.iload_n 2, 1) := by decide +kernel
theorem dM_bind_200 : decode bM_bind 200 = .ok (.iadd, 1) := by decide +kernel
theorem dM_bind_201 : decode bM_bind 201 = .ok (.laload, 1) := by decide +kernel
theorem dM_bind_202 : decode bM_bind 202 = .ok (.lstore 10, 2) := by decide +kernel
theorem dM_bind_204 : decode bM_bind 204 = .ok (.lload 8, 2) := by decide +kernel
theorem dM_bind_206 : decode bM_bind 206 = .ok (.ldc2_w 91, 3) := by decide +kernel
theorem dM_bind_209 : decode bM_bind 209 = .ok (.lcmp, 1) := by decide +kernel
theorem dM_bind_210 : decode bM_bind 210 = .ok (.ifCond .eq 32, 3) := by decide +kernel
theorem dM_bind_242 : decode bM_bind 242 = .ok (.lload 5, 2) := by decide +kernel
theorem dM_bind_244 : decode bM_bind 244 = .ok (.lstore 5, 2) := by decide +kernel
theorem dM_bind_246 : decode bM_bind 246 = .ok (.lload 10, 2) := by decide +kernel
theorem dM_bind_248 : decode bM_bind 248 = .ok (.ldc2_w 91, 3) := by decide +kernel
theorem dM_bind_251 : decode bM_bind 251 = .ok (.lcmp, 1) := by decide +kernel
theorem dM_bind_252 : decode bM_bind 252 = .ok (.ifCond .eq 31, 3) := by decide +kernel
theorem dM_bind_283 : decode bM_bind 283 = .ok (.lload_n 3, 1) := by decide +kernel
theorem dM_bind_284 : decode bM_bind 284 = .ok (.lstore_n 3, 1) := by decide +kernel
theorem dM_bind_285 : decode bM_bind 285 = .ok (.iinc 7 1, 3) := by decide +kernel
theorem dM_bind_288 : decode bM_bind 288 = .ok (.goto (-118), 3) := by decide +kernel
theorem dM_bind_255 : decode bM_bind 255 = .ok (.aload_n 0, 1) := by decide +kernel
theorem dM_bind_256 : decode bM_bind 256 = .ok (.getfield 44, 3) := by decide +kernel
theorem dM_bind_259 : decode bM_bind 259 = .ok (.iload 7, 2) := by decide +kernel
theorem dM_bind_261 : decode bM_bind 261 = .ok (.laload, 1) := by decide +kernel
theorem dM_bind_262 : decode bM_bind 262 = .ok (.lload 10, 2) := by decide +kernel
theorem dM_bind_264 : decode bM_bind 264 = .ok (.lsub, 1) := by decide +kernel
theorem dM_bind_265 : decode bM_bind 265 = .ok (.lload_n 3, 1) := by decide +kernel
theorem dM_bind_266 : decode bM_bind 266 = .ok (.lcmp, 1) := by decide +kernel
theorem dM_bind_267 : decode bM_bind 267 = .ok (.ifCond .le 16, 3) := by decide +kernel
theorem dM_bind_270 : decode bM_bind 270 = .ok (.aload_n 0, 1) := by decide +kernel
theorem dM_bind_271 : decode bM_bind 271 = .ok (.getfield 44, 3) := by decide +kernel
theorem dM_bind_274 : decode bM_bind 274 = .ok (.iload 7, 2) := by decide +kernel
theorem dM_bind_276 : decode bM_bind 276 = .ok (.laload, 1) := by decide +kernel
theorem dM_bind_277 : decode bM_bind 277 = .ok (.lload 10, 2) := by decide +kernel
theorem dM_bind_279 : decode bM_bind 279 = .ok (.lsub, 1) := by decide +kernel
theorem dM_bind_280 : decode bM_bind 280 = .ok (.goto 4, 3) := by decide +kernel
theorem dM_bind_213 : decode bM_bind 213 = .ok (.lload 8, 2) := by decide +kernel
theorem dM_bind_215 : decode bM_bind 215 = .ok (.aload_n 0, 1) := by decide +kernel
theorem dM_bind_216 : decode bM_bind 216 = .ok (.getfield 44, 3) := by decide +kernel
theorem dM_bind_219 : decode bM_bind 219 = .ok (.iload 7, 2) := by decide +kernel
theorem dM_bind_221 : decode bM_bind 221 = .ok (.laload, 1) := by decide +kernel
theorem dM_bind_222 : decode bM_bind 222 = .ok (.ladd, 1) := by decide +kernel
theorem dM_bind_223 : decode bM_bind 223 = .ok (.lload 5, 2) := by decide +kernel
theorem dM_bind_225 : decode bM_bind 225 = .ok (.lcmp, 1) := by decide +kernel
theorem dM_bind_226 : decode bM_bind 226 = .ok (.ifCond .ge 16, 3) := by decide +kernel
theorem dM_bind_229 : decode bM_bind 229 = .ok (.lload 8, 2) := by decide +kernel
theorem dM_bind_231 : decode bM_bind 231 = .ok (.aload_n 0, 1) := by decide +kernel
theorem dM_bind_232 : decode bM_bind 232 = .ok (.getfield 44, 3) := by decide +kernel
theorem dM_bind_235 : decode bM_bind 235 = .ok (.iload 7, 2) := by decide +kernel
theorem dM_bind_237 : decode bM_bind 237 = .ok (.laload, 1) := by decide +kernel
theorem dM_bind_238 : decode bM_bind 238 = .ok (.ladd, 1) := by decide +kernel
theorem dM_bind_239 : decode bM_bind 239 = .ok (.goto 5, 3) := by decide +kernel
theorem dM_bind_291 : decode bM_bind 291 = .ok (.aload_n 0, 1) := by decide +kernel
theorem dM_bind_292 : decode bM_bind 292 = .ok (.getfield 44, 3) := by decide +kernel
theorem dM_bind_295 : decode bM_bind 295 = .ok (.iload_n 2, 1) := by decide +kernel
theorem dM_bind_296 : decode bM_bind 296 = .ok (.lload_n 3, 1) := by decide +kernel
theorem dM_bind_297 : decode bM_bind 297 = .ok (.lconst 0, 1) := by decide +kernel
theorem dM_bind_298 : decode bM_bind 298 = .ok (.lcmp, 1) := by decide +kernel
theorem dM_bind_299 : decode bM_bind 299 = .ok (.ifCond .le 7, 3) := by decide +kernel
theorem dM_bind_306 : decode bM_bind 306 = .ok (.lload 5, 2) := by decide +kernel
theorem dM_bind_308 : decode bM_bind 308 = .ok (.lconst 0, 1) := by decide +kernel
theorem dM_bind_309 : decode bM_bind 309 = .ok (.lcmp, 1) := by decide +kernel
theorem dM_bind_310 : decode bM_bind 310 = .ok (.ifCond .ge 8, 3) := by decide +kernel
theorem dM_bind_318 : decode bM_bind 318 = .ok (.lconst 0, 1) := by decide +kernel
theorem dM_bind_319 : decode bM_bind 319 = .ok (.lastore, 1) := by decide +kernel
theorem dM_bind_320 : decode bM_bind 320 = .ok (.iinc 2 1, 3) := by decide +kernel
theorem dM_bind_323 : decode bM_bind 323 = .ok (.goto (-171), 3) := by decide +kernel
theorem dM_bind_313 : decode bM_bind 313 = .ok (.lload 5, 2) := by decide +kernel
theorem dM_bind_315 : decode bM_bind 315 = .ok (.goto 4, 3) := by decide +kernel
theorem dM_bind_302 : decode bM_bind 302 = .ok (.lload_n 3, 1) := by decide +kernel
theorem dM_bind_303 : decode bM_bind 303 = .ok (.goto 16, 3) := by decide +kernel
theorem dM_bind_326 : decode bM_bind 326 = .ok (.return_, 1) := by decide +kernel
theorem dM_settle_126 : decode bM_settle 126 = .ok (.aload_n 0, 1) := by decide +kernel
theorem dM_settle_127 : decode bM_settle 127 = .ok (.iconst 1, 1) := by decide +kernel
theorem dM_settle_128 : decode bM_settle 128 = .ok (.putfield 65, 3) := by decide +kernel
theorem dM_settle_131 : decode bM_settle 131 = .ok (.iconst 1, 1) := by decide +kernel
theorem dM_settle_132 : decode bM_settle 132 = .ok (.ireturn, 1) := by decide +kernel
theorem k_m43 : (.fieldLink RM 35 RM "weights" "[J" : Cond) ∈ TBL := TBL_in (by decide +kernel) (by decide +kernel)
theorem k_m44 : (.constantLong RM 91 9223372036854775807 : Cond) ∈ TBL := TBL_in (by decide +kernel) (by decide +kernel)
theorem k_m45 : (.fieldLink RM 41 RM "ways" "[J" : Cond) ∈ TBL := TBL_in (by decide +kernel) (by decide +kernel)
theorem k_m46 : (.code yM_plus bM_plus 4 (some .long) : Cond) ∈ TBL := TBL_in (by decide +kernel) (by decide +kernel)
theorem k_m47 : (.initialized yM_plus.cls : Cond) ∈ TBL := TBL_in (by decide +kernel) (by decide +kernel)
theorem k_m48 : (.methodLink RM 93 yM_plus : Cond) ∈ TBL := TBL_in (by decide +kernel) (by decide +kernel)
theorem k_m49 : (.static yM_plus : Cond) ∈ TBL := TBL_in (by decide +kernel) (by decide +kernel)
theorem k_m50 : (.code yM_isOn bM_isOn 9 (some .boolean) : Cond) ∈ TBL := TBL_in (by decide +kernel) (by decide +kernel)
theorem k_m51 : (.initialized yM_isOn.cls : Cond) ∈ TBL := TBL_in (by decide +kernel) (by decide +kernel)
theorem k_m52 : (.methodLink RM 100 yM_isOn : Cond) ∈ TBL := TBL_in (by decide +kernel) (by decide +kernel)
theorem k_m53 : (.instanceMethod yM_isOn : Cond) ∈ TBL := TBL_in (by decide +kernel) (by decide +kernel)
theorem k_m54 : (.selects RM yM_isOn yM_isOn : Cond) ∈ TBL := TBL_in (by decide +kernel) (by decide +kernel)
theorem k_m55 : (.code yM_tellRing bM_tellRing 7 none : Cond) ∈ TBL := TBL_in (by decide +kernel) (by decide +kernel)
theorem k_m56 : (.initialized yM_tellRing.cls : Cond) ∈ TBL := TBL_in (by decide +kernel) (by decide +kernel)
theorem k_m57 : (.methodLink RM 111 yM_tellRing : Cond) ∈ TBL := TBL_in (by decide +kernel) (by decide +kernel)
theorem k_m58 : (.instanceMethod yM_tellRing : Cond) ∈ TBL := TBL_in (by decide +kernel) (by decide +kernel)
theorem k_m59 : (.selects RM yM_tellRing yM_tellRing : Cond) ∈ TBL := TBL_in (by decide +kernel) (by decide +kernel)
theorem k_m60 : (.code yM_step bM_step 9 none : Cond) ∈ TBL := TBL_in (by decide +kernel) (by decide +kernel)
theorem k_m61 : (.initialized yM_step.cls : Cond) ∈ TBL := TBL_in (by decide +kernel) (by decide +kernel)
theorem k_m62 : (.methodLink RM 107 yM_step : Cond) ∈ TBL := TBL_in (by decide +kernel) (by decide +kernel)
theorem k_m63 : (.instanceMethod yM_step : Cond) ∈ TBL := TBL_in (by decide +kernel) (by decide +kernel)
theorem k_m64 : (.selects RM yM_step yM_step : Cond) ∈ TBL := TBL_in (by decide +kernel) (by decide +kernel)
theorem k_m65 : (.fieldLink RM 38 RM "bounds" "[J" : Cond) ∈ TBL := TBL_in (by decide +kernel) (by decide +kernel)
theorem k_m66 : (.constantLong RM 118 (-9223372036854775807) : Cond) ∈ TBL := TBL_in (by decide +kernel) (by decide +kernel)
theorem k_m67 : (.fieldLink RM 44 RM "offsets" "[J" : Cond) ∈ TBL := TBL_in (by decide +kernel) (by decide +kernel)
theorem k_m68 : (.code yM_bind bM_bind 12 none : Cond) ∈ TBL := TBL_in (by decide +kernel) (by decide +kernel)
theorem k_m69 : (.initialized yM_bind.cls : Cond) ∈ TBL := TBL_in (by decide +kernel) (by decide +kernel)
theorem k_m70 : (.methodLink RM 115 yM_bind : Cond) ∈ TBL := TBL_in (by decide +kernel) (by decide +kernel)
theorem k_m71 : (.instanceMethod yM_bind : Cond) ∈ TBL := TBL_in (by decide +kernel) (by decide +kernel)
theorem k_m72 : (.selects RM yM_bind yM_bind : Cond) ∈ TBL := TBL_in (by decide +kernel) (by decide +kernel)
theorem k_m73 : (.code yM_weigh bM_weigh 5 none : Cond) ∈ TBL := TBL_in (by decide +kernel) (by decide +kernel)
theorem k_m74 : (.initialized yM_weigh.cls : Cond) ∈ TBL := TBL_in (by decide +kernel) (by decide +kernel)
theorem k_m75 : (.methodLink RM 104 yM_weigh : Cond) ∈ TBL := TBL_in (by decide +kernel) (by decide +kernel)
theorem k_m76 : (.instanceMethod yM_weigh : Cond) ∈ TBL := TBL_in (by decide +kernel) (by decide +kernel)
theorem k_m77 : (.selects RM yM_weigh yM_weigh : Cond) ∈ TBL := TBL_in (by decide +kernel) (by decide +kernel)
