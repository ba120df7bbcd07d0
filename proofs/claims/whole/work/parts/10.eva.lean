theorem dEv_add_0 : decode bEv_add 0 = .ok (.aload_n 0, 1) := by decide +kernel
theorem dEv_add_1 : decode bEv_add 1 = .ok (.dup, 1) := by decide +kernel
theorem dEv_add_2 : decode bEv_add 2 = .ok (.getfield 28, 3) := by decide +kernel
theorem dEv_add_5 : decode bEv_add 5 = .ok (.iconst 1, 1) := by decide +kernel
theorem dEv_add_6 : decode bEv_add 6 = .ok (.iadd, 1) := by decide +kernel
theorem dEv_add_7 : decode bEv_add 7 = .ok (.putfield 28, 3) := by decide +kernel
theorem dEv_add_10 : decode bEv_add 10 = .ok (.aload_n 0, 1) := by decide +kernel
theorem dEv_add_11 : decode bEv_add 11 = .ok (.getfield 9, 3) := by decide +kernel
theorem dEv_add_14 : decode bEv_add 14 = .ok (.aload_n 0, 1) := by decide +kernel
theorem dEv_add_15 : decode bEv_add 15 = .ok (.getfield 28, 3) := by decide +kernel
theorem dEv_add_18 : decode bEv_add 18 = .ok (.iload_n 1, 1) := by decide +kernel
theorem dEv_add_19 : decode bEv_add 19 = .ok (.iastore, 1) := by decide +kernel
theorem dEv_add_20 : decode bEv_add 20 = .ok (.aload_n 0, 1) := by decide +kernel
theorem dEv_add_21 : decode bEv_add 21 = .ok (.getfield 15, 3) := by decide +kernel
theorem dEv_add_24 : decode bEv_add 24 = .ok (.aload_n 0, 1) := by decide +kernel
theorem dEv_add_25 : decode bEv_add 25 = .ok (.getfield 28, 3) := by decide +kernel
theorem dEv_add_28 : decode bEv_add 28 = .ok (.iload_n 2, 1) := by decide +kernel
theorem dEv_add_29 : decode bEv_add 29 = .ok (.iastore, 1) := by decide +kernel
theorem dEv_add_30 : decode bEv_add 30 = .ok (.aload_n 0, 1) := by decide +kernel
theorem dEv_add_31 : decode bEv_add 31 = .ok (.getfield 18, 3) := by decide +kernel
theorem dEv_add_34 : decode bEv_add 34 = .ok (.aload_n 0, 1) := by decide +kernel
theorem dEv_add_35 : decode bEv_add 35 = .ok (.getfield 28, 3) := by decide +kernel
theorem dEv_add_38 : decode bEv_add 38 = .ok (.iload_n 3, 1) := by decide +kernel
theorem dEv_add_39 : decode bEv_add 39 = .ok (.iastore, 1) := by decide +kernel
theorem dEv_add_40 : decode bEv_add 40 = .ok (.aload_n 0, 1) := by decide +kernel
theorem dEv_add_41 : decode bEv_add 41 = .ok (.getfield 21, 3) := by decide +kernel
theorem dEv_add_44 : decode bEv_add 44 = .ok (.aload_n 0, 1) := by decide +kernel
theorem dEv_add_45 : decode bEv_add 45 = .ok (.getfield 28, 3) := by decide +kernel
theorem dEv_add_48 : decode bEv_add 48 = .ok (.iload 4, 2) := by decide +kernel
theorem dEv_add_50 : decode bEv_add 50 = .ok (.iastore, 1) := by decide +kernel
theorem dEv_add_51 : decode bEv_add 51 = .ok (.aload_n 0, 1) := by decide +kernel
theorem dEv_add_52 : decode bEv_add 52 = .ok (.getfield 24, 3) := by decide +kernel
theorem dEv_add_55 : decode bEv_add 55 = .ok (.aload_n 0, 1) := by decide +kernel
theorem dEv_add_56 : decode bEv_add 56 = .ok (.getfield 28, 3) := by decide +kernel
theorem dEv_add_59 : decode bEv_add 59 = .ok (.lload 5, 2) := by decide +kernel
theorem dEv_add_61 : decode bEv_add 61 = .ok (.lastore, 1) := by decide +kernel
theorem dEv_add_62 : decode bEv_add 62 = .ok (.aload_n 0, 1) := by decide +kernel
theorem dEv_add_63 : decode bEv_add 63 = .ok (.getfield 28, 3) := by decide +kernel
theorem dEv_add_66 : decode bEv_add 66 = .ok (.ireturn, 1) := by decide +kernel
theorem dEv_has_0 : decode bEv_has 0 = .ok (.iconst 1, 1) := by decide +kernel
theorem dEv_has_1 : decode bEv_has 1 = .ok (.istore 7, 2) := by decide +kernel
theorem dEv_has_3 : decode bEv_has 3 = .ok (.iload 7, 2) := by decide +kernel
theorem dEv_has_5 : decode bEv_has 5 = .ok (.aload_n 0, 1) := by decide +kernel
theorem dEv_has_6 : decode bEv_has 6 = .ok (.getfield 28, 3) := by decide +kernel
theorem dEv_has_9 : decode bEv_has 9 = .ok (.if_icmp .gt 69, 3) := by decide +kernel
theorem dEv_has_12 : decode bEv_has 12 = .ok (.aload_n 0, 1) := by decide +kernel
theorem dEv_has_13 : decode bEv_has 13 = .ok (.getfield 24, 3) := by decide +kernel
theorem dEv_has_16 : decode bEv_has 16 = .ok (.iload 7, 2) := by decide +kernel
theorem dEv_has_18 : decode bEv_has 18 = .ok (.laload, 1) := by decide +kernel
theorem dEv_has_19 : decode bEv_has 19 = .ok (.lload 5, 2) := by decide +kernel
theorem dEv_has_21 : decode bEv_has 21 = .ok (.lcmp, 1) := by decide +kernel
theorem dEv_has_22 : decode bEv_has 22 = .ok (.ifCond .ne 50, 3) := by decide +kernel
theorem dEv_has_72 : decode bEv_has 72 = .ok (.iinc 7 1, 3) := by decide +kernel
theorem dEv_has_75 : decode bEv_has 75 = .ok (.goto (-72), 3) := by decide +kernel
theorem dEv_has_25 : decode bEv_has 25 = .ok (.aload_n 0, 1) := by decide +kernel
theorem dEv_has_26 : decode bEv_has 26 = .ok (.getfield 9, 3) := by decide +kernel
theorem dEv_has_29 : decode bEv_has 29 = .ok (.iload 7, 2) := by decide +kernel
theorem dEv_has_31 : decode bEv_has 31 = .ok (.iaload, 1) := by decide +kernel
theorem dEv_has_32 : decode bEv_has 32 = .ok (.iload_n 1, 1) := by decide +kernel
theorem dEv_has_33 : decode bEv_has 33 = .ok (.if_icmp .ne 39, 3) := by decide +kernel
theorem dEv_has_36 : decode bEv_has 36 = .ok (.aload_n 0, 1) := by decide +kernel
theorem dEv_has_37 : decode bEv_has 37 = .ok (.getfield 15, 3) := by decide +kernel
theorem dEv_has_40 : decode bEv_has 40 = .ok (.iload 7, 2) := by decide +kernel
theorem dEv_has_42 : decode bEv_has 42 = .ok (.iaload, 1) := by decide +kernel
theorem dEv_has_43 : decode bEv_has 43 = .ok (.iload_n 2, 1) := by decide +kernel
theorem dEv_has_44 : decode bEv_has 44 = .ok (.if_icmp .ne 28, 3) := by decide +kernel
theorem dEv_has_47 : decode bEv_has 47 = .ok (.aload_n 0, 1) := by decide +kernel
theorem dEv_has_48 : decode bEv_has 48 = .ok (.getfield 18, 3) := by decide +kernel
theorem dEv_has_51 : decode bEv_has 51 = .ok (.iload 7, 2) := by decide +kernel
theorem dEv_has_53 : decode bEv_has 53 = .ok (.iaload, 1) := by decide +kernel
theorem dEv_has_54 : decode bEv_has 54 = .ok (.iload_n 3, 1) := by decide +kernel
theorem dEv_has_55 : decode bEv_has 55 = .ok (.if_icmp .ne 17, 3) := by decide +kernel
theorem dEv_has_58 : decode bEv_has 58 = .ok (.aload_n 0, 1) := by decide +kernel
theorem dEv_has_59 : decode bEv_has 59 = .ok (.getfield 21, 3) := by decide +kernel
theorem dEv_has_62 : decode bEv_has 62 = .ok (.iload 7, 2) := by decide +kernel
theorem dEv_has_64 : decode bEv_has 64 = .ok (.iaload, 1) := by decide +kernel
theorem dEv_has_65 : decode bEv_has 65 = .ok (.iload 4, 2) := by decide +kernel
theorem dEv_has_67 : decode bEv_has 67 = .ok (.if_icmp .ne 5, 3) := by decide +kernel
theorem dEv_has_70 : decode bEv_has 70 = .ok (.iconst 1, 1) := by decide +kernel
theorem dEv_has_71 : decode bEv_has 71 = .ok (.ireturn, 1) := by decide +kernel
theorem dEv_has_78 : decode bEv_has 78 = .ok (.iconst 0, 1) := by decide +kernel
theorem dEv_has_79 : decode bEv_has 79 = .ok (.ireturn, 1) := by decide +kernel
theorem dEv_countIn_0 : decode bEv_countIn 0 = .ok (.iconst 0, 1) := by decide +kernel
theorem dEv_countIn_1 : decode bEv_countIn 1 = .ok (.istore_n 3, 1) := by decide +kernel
theorem dEv_countIn_2 : decode bEv_countIn 2 = .ok (.iconst 1, 1) := by decide +kernel
theorem dEv_countIn_3 : decode bEv_countIn 3 = .ok (.istore 4, 2) := by decide +kernel
theorem dEv_countIn_5 : decode bEv_countIn 5 = .ok (.iload 4, 2) := by decide +kernel
theorem dEv_countIn_7 : decode bEv_countIn 7 = .ok (.aload_n 0, 1) := by decide +kernel
theorem dEv_countIn_8 : decode bEv_countIn 8 = .ok (.getfield 28, 3) := by decide +kernel
theorem dEv_countIn_11 : decode bEv_countIn 11 = .ok (.if_icmp .gt 20, 3) := by decide +kernel
theorem dEv_countIn_14 : decode bEv_countIn 14 = .ok (.aload_n 1, 1) := by decide +kernel
theorem dEv_countIn_15 : decode bEv_countIn 15 = .ok (.iload 4, 2) := by decide +kernel
theorem dEv_countIn_17 : decode bEv_countIn 17 = .ok (.iaload, 1) := by decide +kernel
theorem dEv_countIn_18 : decode bEv_countIn 18 = .ok (.iload_n 2, 1) := by decide +kernel
theorem dEv_countIn_19 : decode bEv_countIn 19 = .ok (.if_icmp .ne 6, 3) := by decide +kernel
theorem dEv_countIn_25 : decode bEv_countIn 25 = .ok (.iinc 4 1, 3) := by decide +kernel
theorem dEv_countIn_28 : decode bEv_countIn 28 = .ok (.goto (-23), 3) := by decide +kernel
theorem dEv_countIn_22 : decode bEv_countIn 22 = .ok (.iinc 3 1, 3) := by decide +kernel
theorem dEv_countIn_31 : decode bEv_countIn 31 = .ok (.iload_n 3, 1) := by decide +kernel
theorem dEv_countIn_32 : decode bEv_countIn 32 = .ok (.ireturn, 1) := by decide +kernel
theorem dNd_add_0 : decode bNd_add 0 = .ok (.aload_n 0, 1) := by decide +kernel
theorem dNd_add_1 : decode bNd_add 1 = .ok (.getfield 9, 3) := by decide +kernel
theorem dNd_add_4 : decode bNd_add 4 = .ok (.aload_n 0, 1) := by decide +kernel
theorem dNd_add_5 : decode bNd_add 5 = .ok (.getfield 18, 3) := by decide +kernel
theorem dNd_add_8 : decode bNd_add 8 = .ok (.iload_n 1, 1) := by decide +kernel
theorem dNd_add_9 : decode bNd_add 9 = .ok (.iastore, 1) := by decide +kernel
theorem dNd_add_10 : decode bNd_add 10 = .ok (.aload_n 0, 1) := by decide +kernel
theorem dNd_add_11 : decode bNd_add 11 = .ok (.getfield 15, 3) := by decide +kernel
theorem dNd_add_14 : decode bNd_add 14 = .ok (.aload_n 0, 1) := by decide +kernel
theorem dNd_add_15 : decode bNd_add 15 = .ok (.getfield 18, 3) := by decide +kernel
theorem dNd_add_18 : decode bNd_add 18 = .ok (.iload_n 2, 1) := by decide +kernel
theorem dNd_add_19 : decode bNd_add 19 = .ok (.iastore, 1) := by decide +kernel
theorem dNd_add_20 : decode bNd_add 20 = .ok (.aload_n 0, 1) := by decide +kernel
theorem dNd_add_21 : decode bNd_add 21 = .ok (.dup, 1) := by decide +kernel
theorem dNd_add_22 : decode bNd_add 22 = .ok (.getfield 18, 3) := by decide +kernel
theorem dNd_add_25 : decode bNd_add 25 = .ok (.iconst 1, 1) := by decide +kernel
theorem dNd_add_26 : decode bNd_add 26 = .ok (.iadd, 1) := by decide +kernel
theorem dNd_add_27 : decode bNd_add 27 = .ok (.putfield 18, 3) := by decide +kernel
theorem dNd_add_30 : decode bNd_add 30 = .ok (.aload_n 0, 1) := by decide +kernel
theorem dNd_add_31 : decode bNd_add 31 = .ok (.getfield 18, 3) := by decide +kernel
theorem dNd_add_34 : decode bNd_add 34 = .ok (.ireturn, 1) := by decide +kernel
theorem k_x0 : (.fieldLink REv 28 REv "count" "I" : Cond) ∈ TBL := TBL_in (by decide +kernel) (by decide +kernel)
theorem k_x1 : (.fieldLink REv 9 REv "sources" "[I" : Cond) ∈ TBL := TBL_in (by decide +kernel) (by decide +kernel)
theorem k_x2 : (.fieldLink REv 15 REv "items" "[I" : Cond) ∈ TBL := TBL_in (by decide +kernel) (by decide +kernel)
theorem k_x3 : (.fieldLink REv 18 REv "kinds" "[I" : Cond) ∈ TBL := TBL_in (by decide +kernel) (by decide +kernel)
theorem k_x4 : (.fieldLink REv 21 REv "places" "[I" : Cond) ∈ TBL := TBL_in (by decide +kernel) (by decide +kernel)
theorem k_x5 : (.fieldLink REv 24 REv "clocks" "[J" : Cond) ∈ TBL := TBL_in (by decide +kernel) (by decide +kernel)
theorem k_x6 : (.fieldLink RNd 9 RNd "firsts" "[I" : Cond) ∈ TBL := TBL_in (by decide +kernel) (by decide +kernel)
theorem k_x7 : (.fieldLink RNd 18 RNd "count" "I" : Cond) ∈ TBL := TBL_in (by decide +kernel) (by decide +kernel)
theorem k_x8 : (.fieldLink RNd 15 RNd "seconds" "[I" : Cond) ∈ TBL := TBL_in (by decide +kernel) (by decide +kernel)
