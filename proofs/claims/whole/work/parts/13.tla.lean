theorem dTl_lay_0 : decode bTl_lay 0 = .ok (.aload_n 0, 1) := by decide +kernel
theorem dTl_lay_1 : decode bTl_lay 1 = .ok (.aload_n 1, 1) := by decide +kernel
theorem dTl_lay_2 : decode bTl_lay 2 = .ok (.getfield 23, 3) := by decide +kernel
theorem dTl_lay_5 : decode bTl_lay 5 = .ok (.putfield 19, 3) := by decide +kernel
theorem dTl_lay_8 : decode bTl_lay 8 = .ok (.iconst 1, 1) := by decide +kernel
theorem dTl_lay_9 : decode bTl_lay 9 = .ok (.istore_n 3, 1) := by decide +kernel
theorem dTl_lay_10 : decode bTl_lay 10 = .ok (.iload_n 3, 1) := by decide +kernel
theorem dTl_lay_11 : decode bTl_lay 11 = .ok (.aload_n 0, 1) := by decide +kernel
theorem dTl_lay_12 : decode bTl_lay 12 = .ok (.getfield 19, 3) := by decide +kernel
theorem dTl_lay_15 : decode bTl_lay 15 = .ok (.if_icmp .gt 91, 3) := by decide +kernel
theorem dTl_lay_18 : decode bTl_lay 18 = .ok (.aload_n 0, 1) := by decide +kernel
theorem dTl_lay_19 : decode bTl_lay 19 = .ok (.getfield 9, 3) := by decide +kernel
theorem dTl_lay_22 : decode bTl_lay 22 = .ok (.iload_n 3, 1) := by decide +kernel
theorem dTl_lay_23 : decode bTl_lay 23 = .ok (.aload_n 1, 1) := by decide +kernel
theorem dTl_lay_24 : decode bTl_lay 24 = .ok (.getfield 26, 3) := by decide +kernel
theorem dTl_lay_27 : decode bTl_lay 27 = .ok (.iload_n 3, 1) := by decide +kernel
theorem dTl_lay_28 : decode bTl_lay 28 = .ok (.laload, 1) := by decide +kernel
theorem dTl_lay_29 : decode bTl_lay 29 = .ok (.aload_n 2, 1) := by decide +kernel
theorem dTl_lay_30 : decode bTl_lay 30 = .ok (.aload_n 1, 1) := by decide +kernel
theorem dTl_lay_31 : decode bTl_lay 31 = .ok (.getfield 29, 3) := by decide +kernel
theorem dTl_lay_34 : decode bTl_lay 34 = .ok (.iload_n 3, 1) := by decide +kernel
theorem dTl_lay_35 : decode bTl_lay 35 = .ok (.iaload, 1) := by decide +kernel
theorem dTl_lay_36 : decode bTl_lay 36 = .ok (.laload, 1) := by decide +kernel
theorem dTl_lay_37 : decode bTl_lay 37 = .ok (.ladd, 1) := by decide +kernel
theorem dTl_lay_38 : decode bTl_lay 38 = .ok (.lastore, 1) := by decide +kernel
theorem dTl_lay_39 : decode bTl_lay 39 = .ok (.iload_n 3, 1) := by decide +kernel
theorem dTl_lay_40 : decode bTl_lay 40 = .ok (.iconst 1, 1) := by decide +kernel
theorem dTl_lay_41 : decode bTl_lay 41 = .ok (.isub, 1) := by decide +kernel
theorem dTl_lay_42 : decode bTl_lay 42 = .ok (.istore 4, 2) := by decide +kernel
theorem dTl_lay_44 : decode bTl_lay 44 = .ok (.iload 4, 2) := by decide +kernel
theorem dTl_lay_46 : decode bTl_lay 46 = .ok (.ifCond .le 46, 3) := by decide +kernel
theorem dTl_lay_49 : decode bTl_lay 49 = .ok (.aload_n 0, 1) := by decide +kernel
theorem dTl_lay_50 : decode bTl_lay 50 = .ok (.aload_n 0, 1) := by decide +kernel
theorem dTl_lay_51 : decode bTl_lay 51 = .ok (.getfield 15, 3) := by decide +kernel
theorem dTl_lay_54 : decode bTl_lay 54 = .ok (.iload 4, 2) := by decide +kernel
theorem dTl_lay_56 : decode bTl_lay 56 = .ok (.iconst 1, 1) := by decide +kernel
theorem dTl_lay_57 : decode bTl_lay 57 = .ok (.isub, 1) := by decide +kernel
theorem dTl_lay_58 : decode bTl_lay 58 = .ok (.iaload, 1) := by decide +kernel
theorem dTl_lay_59 : decode bTl_lay 59 = .ok (.iload_n 3, 1) := by decide +kernel
theorem dTl_lay_60 : decode bTl_lay 60 = .ok (.aload_n 1, 1) := by decide +kernel
theorem dTl_lay_61 : decode bTl_lay 61 = .ok (.getfield 32, 3) := by decide +kernel
theorem dTl_lay_64 : decode bTl_lay 64 = .ok (.invokevirtual 35, 3) := by decide +kernel
theorem dTl_isLater_0 : decode bTl_isLater 0 = .ok (.aload_n 0, 1) := by decide +kernel
theorem dTl_isLater_1 : decode bTl_isLater 1 = .ok (.getfield 9, 3) := by decide +kernel
theorem dTl_isLater_4 : decode bTl_isLater 4 = .ok (.iload_n 1, 1) := by decide +kernel
theorem dTl_isLater_5 : decode bTl_isLater 5 = .ok (.laload, 1) := by decide +kernel
theorem dTl_isLater_6 : decode bTl_isLater 6 = .ok (.aload_n 0, 1) := by decide +kernel
theorem dTl_isLater_7 : decode bTl_isLater 7 = .ok (.getfield 9, 3) := by decide +kernel
theorem dTl_isLater_10 : decode bTl_isLater 10 = .ok (.iload_n 2, 1) := by decide +kernel
theorem dTl_isLater_11 : decode bTl_isLater 11 = .ok (.laload, 1) := by decide +kernel
theorem dTl_isLater_12 : decode bTl_isLater 12 = .ok (.lcmp, 1) := by decide +kernel
theorem dTl_isLater_13 : decode bTl_isLater 13 = .ok (.ifCond .eq 25, 3) := by decide +kernel
theorem dTl_isLater_38 : decode bTl_isLater 38 = .ok (.aload_n 3, 1) := by decide +kernel
theorem dTl_isLater_39 : decode bTl_isLater 39 = .ok (.iload_n 1, 1) := by decide +kernel
theorem dTl_isLater_40 : decode bTl_isLater 40 = .ok (.iaload, 1) := by decide +kernel
theorem dTl_isLater_41 : decode bTl_isLater 41 = .ok (.aload_n 3, 1) := by decide +kernel
theorem dTl_isLater_42 : decode bTl_isLater 42 = .ok (.iload_n 2, 1) := by decide +kernel
theorem dTl_isLater_43 : decode bTl_isLater 43 = .ok (.iaload, 1) := by decide +kernel
theorem dTl_isLater_44 : decode bTl_isLater 44 = .ok (.if_icmp .le 7, 3) := by decide +kernel
theorem dTl_isLater_51 : decode bTl_isLater 51 = .ok (.iconst 0, 1) := by decide +kernel
theorem dTl_isLater_52 : decode bTl_isLater 52 = .ok (.ireturn, 1) := by decide +kernel
theorem dTl_isLater_47 : decode bTl_isLater 47 = .ok (.iconst 1, 1) := by decide +kernel
theorem dTl_isLater_48 : decode bTl_isLater 48 = .ok (.goto 4, 3) := by decide +kernel
theorem dTl_isLater_16 : decode bTl_isLater 16 = .ok (.aload_n 0, 1) := by decide +kernel
theorem dTl_isLater_17 : decode bTl_isLater 17 = .ok (.getfield 9, 3) := by decide +kernel
theorem dTl_isLater_20 : decode bTl_isLater 20 = .ok (.iload_n 1, 1) := by decide +kernel
theorem dTl_isLater_21 : decode bTl_isLater 21 = .ok (.laload, 1) := by decide +kernel
theorem dTl_isLater_22 : decode bTl_isLater 22 = .ok (.aload_n 0, 1) := by decide +kernel
theorem dTl_isLater_23 : decode bTl_isLater 23 = .ok (.getfield 9, 3) := by decide +kernel
theorem dTl_isLater_26 : decode bTl_isLater 26 = .ok (.iload_n 2, 1) := by decide +kernel
theorem dTl_isLater_27 : decode bTl_isLater 27 = .ok (.laload, 1) := by decide +kernel
theorem dTl_isLater_28 : decode bTl_isLater 28 = .ok (.lcmp, 1) := by decide +kernel
theorem dTl_isLater_29 : decode bTl_isLater 29 = .ok (.ifCond .le 7, 3) := by decide +kernel
theorem dTl_isLater_36 : decode bTl_isLater 36 = .ok (.iconst 0, 1) := by decide +kernel
theorem dTl_isLater_37 : decode bTl_isLater 37 = .ok (.ireturn, 1) := by decide +kernel
theorem dTl_isLater_32 : decode bTl_isLater 32 = .ok (.iconst 1, 1) := by decide +kernel
theorem dTl_isLater_33 : decode bTl_isLater 33 = .ok (.goto 4, 3) := by decide +kernel
theorem dTl_lay_67 : decode bTl_lay 67 = .ok (.ifCond .eq 25, 3) := by decide +kernel
theorem dTl_lay_70 : decode bTl_lay 70 = .ok (.aload_n 0, 1) := by decide +kernel
theorem dTl_lay_71 : decode bTl_lay 71 = .ok (.getfield 15, 3) := by decide +kernel
theorem dTl_lay_74 : decode bTl_lay 74 = .ok (.iload 4, 2) := by decide +kernel
theorem dTl_lay_76 : decode bTl_lay 76 = .ok (.aload_n 0, 1) := by decide +kernel
theorem dTl_lay_77 : decode bTl_lay 77 = .ok (.getfield 15, 3) := by decide +kernel
theorem dTl_lay_80 : decode bTl_lay 80 = .ok (.iload 4, 2) := by decide +kernel
theorem dTl_lay_82 : decode bTl_lay 82 = .ok (.iconst 1, 1) := by decide +kernel
theorem dTl_lay_83 : decode bTl_lay 83 = .ok (.isub, 1) := by decide +kernel
theorem dTl_lay_84 : decode bTl_lay 84 = .ok (.iaload, 1) := by decide +kernel
theorem dTl_lay_85 : decode bTl_lay 85 = .ok (.iastore, 1) := by decide +kernel
theorem dTl_lay_86 : decode bTl_lay 86 = .ok (.iinc 4 (-1), 3) := by decide +kernel
theorem dTl_lay_89 : decode bTl_lay 89 = .ok (.goto (-45), 3) := by decide +kernel
theorem dTl_lay_92 : decode bTl_lay 92 = .ok (.aload_n 0, 1) := by decide +kernel
theorem dTl_lay_93 : decode bTl_lay 93 = .ok (.getfield 15, 3) := by decide +kernel
theorem dTl_lay_96 : decode bTl_lay 96 = .ok (.iload 4, 2) := by decide +kernel
theorem dTl_lay_98 : decode bTl_lay 98 = .ok (.iload_n 3, 1) := by decide +kernel
theorem dTl_lay_99 : decode bTl_lay 99 = .ok (.iastore, 1) := by decide +kernel
theorem dTl_lay_100 : decode bTl_lay 100 = .ok (.iinc 3 1, 3) := by decide +kernel
theorem dTl_lay_103 : decode bTl_lay 103 = .ok (.goto (-93), 3) := by decide +kernel
theorem dTl_lay_106 : decode bTl_lay 106 = .ok (.return_, 1) := by decide +kernel
theorem dTl_eventOf_0 : decode bTl_eventOf 0 = .ok (.iconst 0, 1) := by decide +kernel
theorem dTl_eventOf_1 : decode bTl_eventOf 1 = .ok (.istore 4, 2) := by decide +kernel
theorem dTl_eventOf_3 : decode bTl_eventOf 3 = .ok (.iconst 0, 1) := by decide +kernel
theorem dTl_eventOf_4 : decode bTl_eventOf 4 = .ok (.istore 5, 2) := by decide +kernel
theorem dTl_eventOf_6 : decode bTl_eventOf 6 = .ok (.iload 5, 2) := by decide +kernel
theorem dTl_eventOf_8 : decode bTl_eventOf 8 = .ok (.aload_n 0, 1) := by decide +kernel
theorem dTl_eventOf_9 : decode bTl_eventOf 9 = .ok (.getfield 19, 3) := by decide +kernel
theorem dTl_eventOf_12 : decode bTl_eventOf 12 = .ok (.if_icmp .ge 42, 3) := by decide +kernel
theorem dTl_eventOf_15 : decode bTl_eventOf 15 = .ok (.aload_n 1, 1) := by decide +kernel
theorem dTl_eventOf_16 : decode bTl_eventOf 16 = .ok (.getfield 39, 3) := by decide +kernel
theorem dTl_eventOf_19 : decode bTl_eventOf 19 = .ok (.aload_n 0, 1) := by decide +kernel
theorem dTl_eventOf_20 : decode bTl_eventOf 20 = .ok (.getfield 15, 3) := by decide +kernel
theorem dTl_eventOf_23 : decode bTl_eventOf 23 = .ok (.iload 5, 2) := by decide +kernel
theorem dTl_eventOf_25 : decode bTl_eventOf 25 = .ok (.iaload, 1) := by decide +kernel
theorem dTl_eventOf_26 : decode bTl_eventOf 26 = .ok (.iaload, 1) := by decide +kernel
theorem dTl_eventOf_27 : decode bTl_eventOf 27 = .ok (.iload_n 2, 1) := by decide +kernel
theorem dTl_eventOf_28 : decode bTl_eventOf 28 = .ok (.if_icmp .ne 20, 3) := by decide +kernel
theorem dTl_eventOf_48 : decode bTl_eventOf 48 = .ok (.iinc 5 1, 3) := by decide +kernel
theorem dTl_eventOf_51 : decode bTl_eventOf 51 = .ok (.goto (-45), 3) := by decide +kernel
theorem dTl_eventOf_31 : decode bTl_eventOf 31 = .ok (.iload 4, 2) := by decide +kernel
theorem dTl_eventOf_33 : decode bTl_eventOf 33 = .ok (.iload_n 3, 1) := by decide +kernel
theorem dTl_eventOf_34 : decode bTl_eventOf 34 = .ok (.if_icmp .ne 11, 3) := by decide +kernel
theorem dTl_eventOf_45 : decode bTl_eventOf 45 = .ok (.iinc 4 1, 3) := by decide +kernel
theorem dTl_eventOf_37 : decode bTl_eventOf 37 = .ok (.aload_n 0, 1) := by decide +kernel
theorem dTl_eventOf_38 : decode bTl_eventOf 38 = .ok (.getfield 15, 3) := by decide +kernel
theorem dTl_eventOf_41 : decode bTl_eventOf 41 = .ok (.iload 5, 2) := by decide +kernel
theorem dTl_eventOf_43 : decode bTl_eventOf 43 = .ok (.iaload, 1) := by decide +kernel
theorem dTl_eventOf_44 : decode bTl_eventOf 44 = .ok (.ireturn, 1) := by decide +kernel
theorem dTl_eventOf_54 : decode bTl_eventOf 54 = .ok (.iconst 0, 1) := by decide +kernel
theorem dTl_eventOf_55 : decode bTl_eventOf 55 = .ok (.ireturn, 1) := by decide +kernel
theorem dTl_countImplied_0 : decode bTl_countImplied 0 = .ok (.iconst 0, 1) := by decide +kernel
theorem dTl_countImplied_1 : decode bTl_countImplied 1 = .ok (.istore 4, 2) := by decide +kernel
theorem dTl_countImplied_3 : decode bTl_countImplied 3 = .ok (.iconst 0, 1) := by decide +kernel
theorem dTl_countImplied_4 : decode bTl_countImplied 4 = .ok (.istore 5, 2) := by decide +kernel
theorem dTl_countImplied_6 : decode bTl_countImplied 6 = .ok (.iconst 0, 1) := by decide +kernel
theorem dTl_countImplied_7 : decode bTl_countImplied 7 = .ok (.istore 6, 2) := by decide +kernel
theorem dTl_countImplied_9 : decode bTl_countImplied 9 = .ok (.iconst 0, 1) := by decide +kernel
theorem dTl_countImplied_10 : decode bTl_countImplied 10 = .ok (.istore 7, 2) := by decide +kernel
theorem dTl_countImplied_12 : decode bTl_countImplied 12 = .ok (.iload 7, 2) := by decide +kernel
theorem dTl_countImplied_14 : decode bTl_countImplied 14 = .ok (.aload_n 0, 1) := by decide +kernel
theorem dTl_countImplied_15 : decode bTl_countImplied 15 = .ok (.getfield 19, 3) := by decide +kernel
theorem dTl_countImplied_18 : decode bTl_countImplied 18 = .ok (.if_icmp .ge 110, 3) := by decide +kernel
theorem dTl_countImplied_21 : decode bTl_countImplied 21 = .ok (.aload_n 0, 1) := by decide +kernel
theorem dTl_countImplied_22 : decode bTl_countImplied 22 = .ok (.getfield 15, 3) := by decide +kernel
theorem dTl_countImplied_25 : decode bTl_countImplied 25 = .ok (.iload 7, 2) := by decide +kernel
theorem dTl_countImplied_27 : decode bTl_countImplied 27 = .ok (.iaload, 1) := by decide +kernel
theorem dTl_countImplied_28 : decode bTl_countImplied 28 = .ok (.istore 8, 2) := by decide +kernel
theorem dTl_countImplied_30 : decode bTl_countImplied 30 = .ok (.iload 7, 2) := by decide +kernel
theorem dTl_countImplied_32 : decode bTl_countImplied 32 = .ok (.ifCond .le 32, 3) := by decide +kernel
theorem dTl_countImplied_64 : decode bTl_countImplied 64 = .ok (.aload_n 1, 1) := by decide +kernel
theorem dTl_countImplied_65 : decode bTl_countImplied 65 = .ok (.getfield 39, 3) := by decide +kernel
theorem dTl_countImplied_68 : decode bTl_countImplied 68 = .ok (.iload 8, 2) := by decide +kernel
theorem dTl_countImplied_70 : decode bTl_countImplied 70 = .ok (.iaload, 1) := by decide +kernel
theorem dTl_countImplied_71 : decode bTl_countImplied 71 = .ok (.iload_n 2, 1) := by decide +kernel
theorem dTl_countImplied_72 : decode bTl_countImplied 72 = .ok (.if_icmp .ne 14, 3) := by decide +kernel
theorem dTl_countImplied_86 : decode bTl_countImplied 86 = .ok (.aload_n 1, 1) := by decide +kernel
theorem dTl_countImplied_87 : decode bTl_countImplied 87 = .ok (.getfield 39, 3) := by decide +kernel
theorem dTl_countImplied_90 : decode bTl_countImplied 90 = .ok (.iload 8, 2) := by decide +kernel
theorem dTl_countImplied_92 : decode bTl_countImplied 92 = .ok (.iaload, 1) := by decide +kernel
theorem dTl_countImplied_93 : decode bTl_countImplied 93 = .ok (.iload_n 3, 1) := by decide +kernel
theorem dTl_countImplied_94 : decode bTl_countImplied 94 = .ok (.if_icmp .ne 28, 3) := by decide +kernel
theorem dTl_countImplied_122 : decode bTl_countImplied 122 = .ok (.iinc 7 1, 3) := by decide +kernel
theorem dTl_countImplied_125 : decode bTl_countImplied 125 = .ok (.goto (-113), 3) := by decide +kernel
theorem dTl_countImplied_97 : decode bTl_countImplied 97 = .ok (.aload_n 1, 1) := by decide +kernel
theorem dTl_countImplied_98 : decode bTl_countImplied 98 = .ok (.getfield 32, 3) := by decide +kernel
theorem dTl_countImplied_101 : decode bTl_countImplied 101 = .ok (.iload 8, 2) := by decide +kernel
theorem dTl_countImplied_103 : decode bTl_countImplied 103 = .ok (.iaload, 1) := by decide +kernel
theorem dTl_countImplied_104 : decode bTl_countImplied 104 = .ok (.iload_n 2, 1) := by decide +kernel
theorem dTl_countImplied_105 : decode bTl_countImplied 105 = .ok (.if_icmp .ne 17, 3) := by decide +kernel
theorem dTl_countImplied_108 : decode bTl_countImplied 108 = .ok (.aload_n 1, 1) := by decide +kernel
theorem dTl_countImplied_109 : decode bTl_countImplied 109 = .ok (.getfield 42, 3) := by decide +kernel
theorem dTl_countImplied_112 : decode bTl_countImplied 112 = .ok (.iload 8, 2) := by decide +kernel
theorem dTl_countImplied_114 : decode bTl_countImplied 114 = .ok (.iaload, 1) := by decide +kernel
theorem dTl_countImplied_115 : decode bTl_countImplied 115 = .ok (.iload 6, 2) := by decide +kernel
theorem dTl_countImplied_117 : decode bTl_countImplied 117 = .ok (.invokestatic 45, 3) := by decide +kernel
theorem dTl_isInsideAfter_0 : decode bTl_isInsideAfter 0 = .ok (.iload_n 0, 1) := by decide +kernel
theorem dTl_isInsideAfter_1 : decode bTl_isInsideAfter 1 = .ok (.iconst 1, 1) := by decide +kernel
theorem dTl_isInsideAfter_2 : decode bTl_isInsideAfter 2 = .ok (.if_icmp .ne 5, 3) := by decide +kernel
theorem dTl_isInsideAfter_7 : decode bTl_isInsideAfter 7 = .ok (.iload_n 0, 1) := by decide +kernel
theorem dTl_isInsideAfter_8 : decode bTl_isInsideAfter 8 = .ok (.iconst 2, 1) := by decide +kernel
theorem dTl_isInsideAfter_9 : decode bTl_isInsideAfter 9 = .ok (.if_icmp .eq 11, 3) := by decide +kernel
theorem dTl_isInsideAfter_20 : decode bTl_isInsideAfter 20 = .ok (.iconst 0, 1) := by decide +kernel
theorem dTl_isInsideAfter_21 : decode bTl_isInsideAfter 21 = .ok (.ireturn, 1) := by decide +kernel
theorem dTl_isInsideAfter_12 : decode bTl_isInsideAfter 12 = .ok (.iload_n 1, 1) := by decide +kernel
theorem dTl_isInsideAfter_13 : decode bTl_isInsideAfter 13 = .ok (.ifCond .eq 7, 3) := by decide +kernel
theorem dTl_isInsideAfter_16 : decode bTl_isInsideAfter 16 = .ok (.iconst 1, 1) := by decide +kernel
theorem dTl_isInsideAfter_17 : decode bTl_isInsideAfter 17 = .ok (.goto 4, 3) := by decide +kernel
theorem dTl_isInsideAfter_5 : decode bTl_isInsideAfter 5 = .ok (.iconst 1, 1) := by decide +kernel
theorem dTl_isInsideAfter_6 : decode bTl_isInsideAfter 6 = .ok (.ireturn, 1) := by decide +kernel
theorem dTl_countImplied_120 : decode bTl_countImplied 120 = .ok (.istore 6, 2) := by decide +kernel
theorem dTl_countImplied_75 : decode bTl_countImplied 75 = .ok (.iload 5, 2) := by decide +kernel
theorem dTl_countImplied_77 : decode bTl_countImplied 77 = .ok (.ifCond .eq 45, 3) := by decide +kernel
theorem dTl_countImplied_80 : decode bTl_countImplied 80 = .ok (.iinc 4 1, 3) := by decide +kernel
theorem dTl_countImplied_83 : decode bTl_countImplied 83 = .ok (.goto 39, 3) := by decide +kernel
theorem dTl_countImplied_35 : decode bTl_countImplied 35 = .ok (.aload_n 0, 1) := by decide +kernel
theorem dTl_countImplied_36 : decode bTl_countImplied 36 = .ok (.getfield 9, 3) := by decide +kernel
theorem dTl_countImplied_39 : decode bTl_countImplied 39 = .ok (.iload 8, 2) := by decide +kernel
theorem dTl_countImplied_41 : decode bTl_countImplied 41 = .ok (.laload, 1) := by decide +kernel
theorem dTl_countImplied_42 : decode bTl_countImplied 42 = .ok (.aload_n 0, 1) := by decide +kernel
theorem dTl_countImplied_43 : decode bTl_countImplied 43 = .ok (.getfield 9, 3) := by decide +kernel
theorem dTl_countImplied_46 : decode bTl_countImplied 46 = .ok (.aload_n 0, 1) := by decide +kernel
theorem dTl_countImplied_47 : decode bTl_countImplied 47 = .ok (.getfield 15, 3) := by decide +kernel
theorem dTl_countImplied_50 : decode bTl_countImplied 50 = .ok (.iload 7, 2) := by decide +kernel
theorem dTl_countImplied_52 : decode bTl_countImplied 52 = .ok (.iconst 1, 1) := by decide +kernel
theorem dTl_countImplied_53 : decode bTl_countImplied 53 = .ok (.isub, 1) := by decide +kernel
theorem dTl_countImplied_54 : decode bTl_countImplied 54 = .ok (.iaload, 1) := by decide +kernel
theorem dTl_countImplied_55 : decode bTl_countImplied 55 = .ok (.laload, 1) := by decide +kernel
theorem dTl_countImplied_56 : decode bTl_countImplied 56 = .ok (.lcmp, 1) := by decide +kernel
theorem dTl_countImplied_57 : decode bTl_countImplied 57 = .ok (.ifCond .eq 7, 3) := by decide +kernel
theorem dTl_countImplied_60 : decode bTl_countImplied 60 = .ok (.iload 6, 2) := by decide +kernel
theorem dTl_countImplied_62 : decode bTl_countImplied 62 = .ok (.istore 5, 2) := by decide +kernel
theorem dTl_countImplied_128 : decode bTl_countImplied 128 = .ok (.iload 4, 2) := by decide +kernel
theorem dTl_countImplied_130 : decode bTl_countImplied 130 = .ok (.ireturn, 1) := by decide +kernel
theorem k_x59 : (.fieldLink RTl 23 REv "count" "I" : Cond) ∈ TBL := TBL_in (by decide +kernel) (by decide +kernel)
theorem k_x60 : (.fieldLink RTl 19 RTl "count" "I" : Cond) ∈ TBL := TBL_in (by decide +kernel) (by decide +kernel)
theorem k_x61 : (.fieldLink RTl 9 RTl "times" "[J" : Cond) ∈ TBL := TBL_in (by decide +kernel) (by decide +kernel)
theorem k_x62 : (.fieldLink RTl 26 REv "clocks" "[J" : Cond) ∈ TBL := TBL_in (by decide +kernel) (by decide +kernel)
theorem k_x63 : (.fieldLink RTl 29 REv "sources" "[I" : Cond) ∈ TBL := TBL_in (by decide +kernel) (by decide +kernel)
theorem k_x64 : (.fieldLink RTl 15 RTl "order" "[I" : Cond) ∈ TBL := TBL_in (by decide +kernel) (by decide +kernel)
theorem k_x65 : (.fieldLink RTl 32 REv "places" "[I" : Cond) ∈ TBL := TBL_in (by decide +kernel) (by decide +kernel)
theorem k_x66 : (.code yTl_isLater bTl_isLater 4 (some .boolean) : Cond) ∈ TBL := TBL_in (by decide +kernel) (by decide +kernel)
theorem k_x67 : (.initialized yTl_isLater.cls : Cond) ∈ TBL := TBL_in (by decide +kernel) (by decide +kernel)
theorem k_x68 : (.methodLink RTl 35 yTl_isLater : Cond) ∈ TBL := TBL_in (by decide +kernel) (by decide +kernel)
theorem k_x69 : (.instanceMethod yTl_isLater : Cond) ∈ TBL := TBL_in (by decide +kernel) (by decide +kernel)
theorem k_x70 : (.selects RTl yTl_isLater yTl_isLater : Cond) ∈ TBL := TBL_in (by decide +kernel) (by decide +kernel)
theorem k_x71 : (.fieldLink RTl 39 REv "items" "[I" : Cond) ∈ TBL := TBL_in (by decide +kernel) (by decide +kernel)
theorem k_x72 : (.fieldLink RTl 42 REv "kinds" "[I" : Cond) ∈ TBL := TBL_in (by decide +kernel) (by decide +kernel)
theorem k_x73 : (.code yTl_isInsideAfter bTl_isInsideAfter 2 (some .boolean) : Cond) ∈ TBL := TBL_in (by decide +kernel) (by decide +kernel)
theorem k_x74 : (.initialized yTl_isInsideAfter.cls : Cond) ∈ TBL := TBL_in (by decide +kernel) (by decide +kernel)
theorem k_x75 : (.methodLink RTl 45 yTl_isInsideAfter : Cond) ∈ TBL := TBL_in (by decide +kernel) (by decide +kernel)
theorem k_x76 : (.static yTl_isInsideAfter : Cond) ∈ TBL := TBL_in (by decide +kernel) (by decide +kernel)
