theorem dEv_init_0 : decode bEv_init 0 = .ok (.aload_n 0, 1) := by decide +kernel
theorem dEv_init_1 : decode bEv_init 1 = .ok (.invokespecial 3, 3) := by decide +kernel
theorem dEv_init_4 : decode bEv_init 4 = .ok (.aload_n 0, 1) := by decide +kernel
theorem dEv_init_5 : decode bEv_init 5 = .ok (.sipush 301, 3) := by decide +kernel
theorem dEv_init_8 : decode bEv_init 8 = .ok (.newarray .int, 2) := by decide +kernel
theorem dEv_init_10 : decode bEv_init 10 = .ok (.putfield 9, 3) := by decide +kernel
theorem dEv_init_13 : decode bEv_init 13 = .ok (.aload_n 0, 1) := by decide +kernel
theorem dEv_init_14 : decode bEv_init 14 = .ok (.sipush 301, 3) := by decide +kernel
theorem dEv_init_17 : decode bEv_init 17 = .ok (.newarray .int, 2) := by decide +kernel
theorem dEv_init_19 : decode bEv_init 19 = .ok (.putfield 15, 3) := by decide +kernel
theorem dEv_init_22 : decode bEv_init 22 = .ok (.aload_n 0, 1) := by decide +kernel
theorem dEv_init_23 : decode bEv_init 23 = .ok (.sipush 301, 3) := by decide +kernel
theorem dEv_init_26 : decode bEv_init 26 = .ok (.newarray .int, 2) := by decide +kernel
theorem dEv_init_28 : decode bEv_init 28 = .ok (.putfield 18, 3) := by decide +kernel
theorem dEv_init_31 : decode bEv_init 31 = .ok (.aload_n 0, 1) := by decide +kernel
theorem dEv_init_32 : decode bEv_init 32 = .ok (.sipush 301, 3) := by decide +kernel
theorem dEv_init_35 : decode bEv_init 35 = .ok (.newarray .int, 2) := by decide +kernel
theorem dEv_init_37 : decode bEv_init 37 = .ok (.putfield 21, 3) := by decide +kernel
theorem dEv_init_40 : decode bEv_init 40 = .ok (.aload_n 0, 1) := by decide +kernel
theorem dEv_init_41 : decode bEv_init 41 = .ok (.sipush 301, 3) := by decide +kernel
theorem dEv_init_44 : decode bEv_init 44 = .ok (.newarray .long, 2) := by decide +kernel
theorem dEv_init_46 : decode bEv_init 46 = .ok (.putfield 24, 3) := by decide +kernel
theorem dEv_init_49 : decode bEv_init 49 = .ok (.aload_n 0, 1) := by decide +kernel
theorem dEv_init_50 : decode bEv_init 50 = .ok (.iconst 0, 1) := by decide +kernel
theorem dEv_init_51 : decode bEv_init 51 = .ok (.putfield 28, 3) := by decide +kernel
theorem dEv_init_54 : decode bEv_init 54 = .ok (.return_, 1) := by decide +kernel
theorem dNd_init_0 : decode bNd_init 0 = .ok (.aload_n 0, 1) := by decide +kernel
theorem dNd_init_1 : decode bNd_init 1 = .ok (.invokespecial 3, 3) := by decide +kernel
theorem dNd_init_4 : decode bNd_init 4 = .ok (.aload_n 0, 1) := by decide +kernel
theorem dNd_init_5 : decode bNd_init 5 = .ok (.sipush 300, 3) := by decide +kernel
theorem dNd_init_8 : decode bNd_init 8 = .ok (.newarray .int, 2) := by decide +kernel
theorem dNd_init_10 : decode bNd_init 10 = .ok (.putfield 9, 3) := by decide +kernel
theorem dNd_init_13 : decode bNd_init 13 = .ok (.aload_n 0, 1) := by decide +kernel
theorem dNd_init_14 : decode bNd_init 14 = .ok (.sipush 300, 3) := by decide +kernel
theorem dNd_init_17 : decode bNd_init 17 = .ok (.newarray .int, 2) := by decide +kernel
theorem dNd_init_19 : decode bNd_init 19 = .ok (.putfield 15, 3) := by decide +kernel
theorem dNd_init_22 : decode bNd_init 22 = .ok (.aload_n 0, 1) := by decide +kernel
theorem dNd_init_23 : decode bNd_init 23 = .ok (.iconst 0, 1) := by decide +kernel
theorem dNd_init_24 : decode bNd_init 24 = .ok (.putfield 18, 3) := by decide +kernel
theorem dNd_init_27 : decode bNd_init 27 = .ok (.return_, 1) := by decide +kernel
theorem dLi_init_0 : decode bLi_init 0 = .ok (.aload_n 0, 1) := by decide +kernel
theorem dLi_init_1 : decode bLi_init 1 = .ok (.invokespecial 3, 3) := by decide +kernel
theorem dLi_init_4 : decode bLi_init 4 = .ok (.aload_n 0, 1) := by decide +kernel
theorem dLi_init_5 : decode bLi_init 5 = .ok (.bipush 16, 2) := by decide +kernel
theorem dLi_init_7 : decode bLi_init 7 = .ok (.bipush 16, 2) := by decide +kernel
theorem dLi_init_9 : decode bLi_init 9 = .ok (.multianewarray 9 2, 4) := by decide +kernel
theorem dLi_init_13 : decode bLi_init 13 = .ok (.putfield 11, 3) := by decide +kernel
theorem dLi_init_16 : decode bLi_init 16 = .ok (.aload_n 0, 1) := by decide +kernel
theorem dLi_init_17 : decode bLi_init 17 = .ok (.bipush 16, 2) := by decide +kernel
theorem dLi_init_19 : decode bLi_init 19 = .ok (.bipush 16, 2) := by decide +kernel
theorem dLi_init_21 : decode bLi_init 21 = .ok (.multianewarray 9 2, 4) := by decide +kernel
theorem dLi_init_25 : decode bLi_init 25 = .ok (.putfield 16, 3) := by decide +kernel
theorem dLi_init_28 : decode bLi_init 28 = .ok (.aload_n 0, 1) := by decide +kernel
theorem dLi_init_29 : decode bLi_init 29 = .ok (.bipush 16, 2) := by decide +kernel
theorem dLi_init_31 : decode bLi_init 31 = .ok (.newarray .long, 2) := by decide +kernel
theorem dLi_init_33 : decode bLi_init 33 = .ok (.putfield 19, 3) := by decide +kernel
theorem dLi_init_36 : decode bLi_init 36 = .ok (.return_, 1) := by decide +kernel
theorem dRg_init_0 : decode bRg_init 0 = .ok (.aload_n 0, 1) := by decide +kernel
theorem dRg_init_1 : decode bRg_init 1 = .ok (.invokespecial 3, 3) := by decide +kernel
theorem dRg_init_4 : decode bRg_init 4 = .ok (.aload_n 0, 1) := by decide +kernel
theorem dRg_init_5 : decode bRg_init 5 = .ok (.bipush 16, 2) := by decide +kernel
theorem dRg_init_7 : decode bRg_init 7 = .ok (.newarray .int, 2) := by decide +kernel
theorem dRg_init_9 : decode bRg_init 9 = .ok (.putfield 9, 3) := by decide +kernel
theorem dRg_init_12 : decode bRg_init 12 = .ok (.aload_n 0, 1) := by decide +kernel
theorem dRg_init_13 : decode bRg_init 13 = .ok (.bipush 17, 2) := by decide +kernel
theorem dRg_init_15 : decode bRg_init 15 = .ok (.bipush 16, 2) := by decide +kernel
theorem dRg_init_17 : decode bRg_init 17 = .ok (.multianewarray 15 2, 4) := by decide +kernel
theorem dRg_init_21 : decode bRg_init 21 = .ok (.putfield 17, 3) := by decide +kernel
theorem dRg_init_24 : decode bRg_init 24 = .ok (.aload_n 0, 1) := by decide +kernel
theorem dRg_init_25 : decode bRg_init 25 = .ok (.iconst 0, 1) := by decide +kernel
theorem dRg_init_26 : decode bRg_init 26 = .ok (.putfield 20, 3) := by decide +kernel
theorem dRg_init_29 : decode bRg_init 29 = .ok (.return_, 1) := by decide +kernel
theorem dTl_init_0 : decode bTl_init 0 = .ok (.aload_n 0, 1) := by decide +kernel
theorem dTl_init_1 : decode bTl_init 1 = .ok (.invokespecial 3, 3) := by decide +kernel
theorem dTl_init_4 : decode bTl_init 4 = .ok (.aload_n 0, 1) := by decide +kernel
theorem dTl_init_5 : decode bTl_init 5 = .ok (.sipush 301, 3) := by decide +kernel
theorem dTl_init_8 : decode bTl_init 8 = .ok (.newarray .long, 2) := by decide +kernel
theorem dTl_init_10 : decode bTl_init 10 = .ok (.putfield 9, 3) := by decide +kernel
theorem dTl_init_13 : decode bTl_init 13 = .ok (.aload_n 0, 1) := by decide +kernel
theorem dTl_init_14 : decode bTl_init 14 = .ok (.sipush 300, 3) := by decide +kernel
theorem dTl_init_17 : decode bTl_init 17 = .ok (.newarray .int, 2) := by decide +kernel
theorem dTl_init_19 : decode bTl_init 19 = .ok (.putfield 15, 3) := by decide +kernel
theorem dTl_init_22 : decode bTl_init 22 = .ok (.aload_n 0, 1) := by decide +kernel
theorem dTl_init_23 : decode bTl_init 23 = .ok (.iconst 0, 1) := by decide +kernel
theorem dTl_init_24 : decode bTl_init 24 = .ok (.putfield 19, 3) := by decide +kernel
theorem dTl_init_27 : decode bTl_init 27 = .ok (.return_, 1) := by decide +kernel
theorem dM_init_0 : decode bM_init 0 = .ok (.aload_n 0, 1) := by decide +kernel
theorem dM_init_1 : decode bM_init 1 = .ok (.invokespecial 1, 3) := by decide +kernel
theorem dM_init_4 : decode bM_init 4 = .ok (.aload_n 0, 1) := by decide +kernel
theorem dM_init_5 : decode bM_init 5 = .ok (.sipush 301, 3) := by decide +kernel
theorem dM_init_8 : decode bM_init 8 = .ok (.newarray .int, 2) := by decide +kernel
theorem dM_init_10 : decode bM_init 10 = .ok (.putfield 7, 3) := by decide +kernel
theorem dM_init_13 : decode bM_init 13 = .ok (.aload_n 0, 1) := by decide +kernel
theorem dM_init_14 : decode bM_init 14 = .ok (.sipush 301, 3) := by decide +kernel
theorem dM_init_17 : decode bM_init 17 = .ok (.newarray .int, 2) := by decide +kernel
theorem dM_init_19 : decode bM_init 19 = .ok (.putfield 13, 3) := by decide +kernel
theorem dM_init_22 : decode bM_init 22 = .ok (.aload_n 0, 1) := by decide +kernel
theorem dM_init_23 : decode bM_init 23 = .ok (.sipush 301, 3) := by decide +kernel
theorem dM_init_26 : decode bM_init 26 = .ok (.newarray .int, 2) := by decide +kernel
theorem dM_init_28 : decode bM_init 28 = .ok (.putfield 16, 3) := by decide +kernel
theorem dM_init_31 : decode bM_init 31 = .ok (.aload_n 0, 1) := by decide +kernel
theorem dM_init_32 : decode bM_init 32 = .ok (.sipush 301, 3) := by decide +kernel
theorem dM_init_35 : decode bM_init 35 = .ok (.newarray .int, 2) := by decide +kernel
theorem dM_init_37 : decode bM_init 37 = .ok (.putfield 19, 3) := by decide +kernel
theorem dM_init_40 : decode bM_init 40 = .ok (.aload_n 0, 1) := by decide +kernel
theorem dM_init_41 : decode bM_init 41 = .ok (.sipush 301, 3) := by decide +kernel
theorem dM_init_44 : decode bM_init 44 = .ok (.newarray .long, 2) := by decide +kernel
theorem dM_init_46 : decode bM_init 46 = .ok (.putfield 22, 3) := by decide +kernel
theorem dM_init_49 : decode bM_init 49 = .ok (.aload_n 0, 1) := by decide +kernel
theorem dM_init_50 : decode bM_init 50 = .ok (.sipush 300, 3) := by decide +kernel
theorem dM_init_53 : decode bM_init 53 = .ok (.newarray .int, 2) := by decide +kernel
theorem dM_init_55 : decode bM_init 55 = .ok (.putfield 26, 3) := by decide +kernel
theorem dM_init_58 : decode bM_init 58 = .ok (.aload_n 0, 1) := by decide +kernel
theorem dM_init_59 : decode bM_init 59 = .ok (.sipush 300, 3) := by decide +kernel
theorem dM_init_62 : decode bM_init 62 = .ok (.newarray .int, 2) := by decide +kernel
theorem dM_init_64 : decode bM_init 64 = .ok (.putfield 29, 3) := by decide +kernel
theorem dM_init_67 : decode bM_init 67 = .ok (.aload_n 0, 1) := by decide +kernel
theorem dM_init_68 : decode bM_init 68 = .ok (.bipush 16, 2) := by decide +kernel
theorem dM_init_70 : decode bM_init 70 = .ok (.newarray .int, 2) := by decide +kernel
theorem dM_init_72 : decode bM_init 72 = .ok (.putfield 32, 3) := by decide +kernel
theorem dM_init_75 : decode bM_init 75 = .ok (.aload_n 0, 1) := by decide +kernel
theorem dM_init_76 : decode bM_init 76 = .ok (.sipush 256, 3) := by decide +kernel
theorem dM_init_79 : decode bM_init 79 = .ok (.newarray .long, 2) := by decide +kernel
theorem dM_init_81 : decode bM_init 81 = .ok (.putfield 35, 3) := by decide +kernel
theorem dM_init_84 : decode bM_init 84 = .ok (.aload_n 0, 1) := by decide +kernel
theorem dM_init_85 : decode bM_init 85 = .ok (.sipush 256, 3) := by decide +kernel
theorem dM_init_88 : decode bM_init 88 = .ok (.newarray .long, 2) := by decide +kernel
theorem dM_init_90 : decode bM_init 90 = .ok (.putfield 38, 3) := by decide +kernel
theorem dM_init_93 : decode bM_init 93 = .ok (.aload_n 0, 1) := by decide +kernel
theorem dM_init_94 : decode bM_init 94 = .ok (.sipush 4352, 3) := by decide +kernel
theorem dM_init_97 : decode bM_init 97 = .ok (.newarray .long, 2) := by decide +kernel
theorem dM_init_99 : decode bM_init 99 = .ok (.putfield 41, 3) := by decide +kernel
theorem dM_init_102 : decode bM_init 102 = .ok (.aload_n 0, 1) := by decide +kernel
theorem dM_init_103 : decode bM_init 103 = .ok (.bipush 16, 2) := by decide +kernel
theorem dM_init_105 : decode bM_init 105 = .ok (.newarray .long, 2) := by decide +kernel
theorem dM_init_107 : decode bM_init 107 = .ok (.putfield 44, 3) := by decide +kernel
theorem dM_init_110 : decode bM_init 110 = .ok (.aload_n 0, 1) := by decide +kernel
theorem dM_init_111 : decode bM_init 111 = .ok (.iconst 0, 1) := by decide +kernel
theorem dM_init_112 : decode bM_init 112 = .ok (.putfield 47, 3) := by decide +kernel
theorem dM_init_115 : decode bM_init 115 = .ok (.return_, 1) := by decide +kernel
theorem dX_init_0 : decode bX_init 0 = .ok (.aload_n 0, 1) := by decide +kernel
theorem dX_init_1 : decode bX_init 1 = .ok (.invokespecial 3, 3) := by decide +kernel
theorem dX_init_4 : decode bX_init 4 = .ok (.aload_n 0, 1) := by decide +kernel
theorem dX_init_5 : decode bX_init 5 = .ok (.new 9, 3) := by decide +kernel
theorem dX_init_8 : decode bX_init 8 = .ok (.dup, 1) := by decide +kernel
theorem dX_init_9 : decode bX_init 9 = .ok (.invokespecial 11, 3) := by decide +kernel
theorem dX_init_12 : decode bX_init 12 = .ok (.putfield 12, 3) := by decide +kernel
theorem dX_init_15 : decode bX_init 15 = .ok (.aload_n 0, 1) := by decide +kernel
theorem dX_init_16 : decode bX_init 16 = .ok (.new 18, 3) := by decide +kernel
theorem dX_init_19 : decode bX_init 19 = .ok (.dup, 1) := by decide +kernel
theorem dX_init_20 : decode bX_init 20 = .ok (.invokespecial 20, 3) := by decide +kernel
theorem dX_init_23 : decode bX_init 23 = .ok (.putfield 21, 3) := by decide +kernel
theorem dX_init_26 : decode bX_init 26 = .ok (.aload_n 0, 1) := by decide +kernel
theorem dX_init_27 : decode bX_init 27 = .ok (.new 25, 3) := by decide +kernel
theorem dX_init_30 : decode bX_init 30 = .ok (.dup, 1) := by decide +kernel
theorem dX_init_31 : decode bX_init 31 = .ok (.invokespecial 27, 3) := by decide +kernel
theorem dX_init_34 : decode bX_init 34 = .ok (.putfield 28, 3) := by decide +kernel
theorem dX_init_37 : decode bX_init 37 = .ok (.aload_n 0, 1) := by decide +kernel
theorem dX_init_38 : decode bX_init 38 = .ok (.new 32, 3) := by decide +kernel
theorem dX_init_41 : decode bX_init 41 = .ok (.dup, 1) := by decide +kernel
theorem dX_init_42 : decode bX_init 42 = .ok (.invokespecial 34, 3) := by decide +kernel
theorem dX_init_45 : decode bX_init 45 = .ok (.putfield 35, 3) := by decide +kernel
theorem dX_init_48 : decode bX_init 48 = .ok (.aload_n 0, 1) := by decide +kernel
theorem dX_init_49 : decode bX_init 49 = .ok (.new 39, 3) := by decide +kernel
theorem dX_init_52 : decode bX_init 52 = .ok (.dup, 1) := by decide +kernel
theorem dX_init_53 : decode bX_init 53 = .ok (.invokespecial 41, 3) := by decide +kernel
theorem dX_init_56 : decode bX_init 56 = .ok (.putfield 42, 3) := by decide +kernel
theorem dX_init_59 : decode bX_init 59 = .ok (.aload_n 0, 1) := by decide +kernel
theorem dX_init_60 : decode bX_init 60 = .ok (.iconst 0, 1) := by decide +kernel
theorem dX_init_61 : decode bX_init 61 = .ok (.putfield 46, 3) := by decide +kernel
theorem dX_init_64 : decode bX_init 64 = .ok (.aload_n 0, 1) := by decide +kernel
theorem dX_init_65 : decode bX_init 65 = .ok (.iconst 0, 1) := by decide +kernel
theorem dX_init_66 : decode bX_init 66 = .ok (.putfield 50, 3) := by decide +kernel
theorem dX_init_69 : decode bX_init 69 = .ok (.return_, 1) := by decide +kernel
theorem k_c0 : (.methodLink REv 3 Lib.objectInit : Cond) ∈ TBL := TBL_in (by decide +kernel) (by decide +kernel)
theorem k_c1 : (.instanceMethod Lib.objectInit : Cond) ∈ TBL := TBL_in (by decide +kernel) (by decide +kernel)
theorem k_c2 : (.code Lib.objectInit ⟨#[0xb1]⟩ 1 none : Cond) ∈ TBL := TBL_in (by decide +kernel) (by decide +kernel)
theorem k_c3 : (.arrayClass .int : Cond) ∈ TBL := TBL_in (by decide +kernel) (by decide +kernel)
theorem k_c4 : (.fieldLink REv 9 REv "sources" "[I" : Cond) ∈ TBL := TBL_in (by decide +kernel) (by decide +kernel)
theorem k_c5 : (.fieldLink REv 15 REv "items" "[I" : Cond) ∈ TBL := TBL_in (by decide +kernel) (by decide +kernel)
theorem k_c6 : (.fieldLink REv 18 REv "kinds" "[I" : Cond) ∈ TBL := TBL_in (by decide +kernel) (by decide +kernel)
theorem k_c7 : (.fieldLink REv 21 REv "places" "[I" : Cond) ∈ TBL := TBL_in (by decide +kernel) (by decide +kernel)
theorem k_c8 : (.arrayClass .long : Cond) ∈ TBL := TBL_in (by decide +kernel) (by decide +kernel)
theorem k_c9 : (.fieldLink REv 24 REv "clocks" "[J" : Cond) ∈ TBL := TBL_in (by decide +kernel) (by decide +kernel)
theorem k_c10 : (.fieldLink REv 28 REv "count" "I" : Cond) ∈ TBL := TBL_in (by decide +kernel) (by decide +kernel)
theorem k_c11 : (.methodLink RNd 3 Lib.objectInit : Cond) ∈ TBL := TBL_in (by decide +kernel) (by decide +kernel)
theorem k_c12 : (.fieldLink RNd 9 RNd "firsts" "[I" : Cond) ∈ TBL := TBL_in (by decide +kernel) (by decide +kernel)
theorem k_c13 : (.fieldLink RNd 15 RNd "seconds" "[I" : Cond) ∈ TBL := TBL_in (by decide +kernel) (by decide +kernel)
theorem k_c14 : (.fieldLink RNd 18 RNd "count" "I" : Cond) ∈ TBL := TBL_in (by decide +kernel) (by decide +kernel)
theorem k_c15 : (.methodLink RLi 3 Lib.objectInit : Cond) ∈ TBL := TBL_in (by decide +kernel) (by decide +kernel)
theorem k_c16 : (.classLink RLi 9 "[[J" : Cond) ∈ TBL := TBL_in (by decide +kernel) (by decide +kernel)
theorem k_c17 : (.fieldLink RLi 11 RLi "weights" "[[J" : Cond) ∈ TBL := TBL_in (by decide +kernel) (by decide +kernel)
theorem k_c18 : (.fieldLink RLi 16 RLi "bounds" "[[J" : Cond) ∈ TBL := TBL_in (by decide +kernel) (by decide +kernel)
theorem k_c19 : (.fieldLink RLi 19 RLi "offsets" "[J" : Cond) ∈ TBL := TBL_in (by decide +kernel) (by decide +kernel)
theorem k_c20 : (.methodLink RRg 3 Lib.objectInit : Cond) ∈ TBL := TBL_in (by decide +kernel) (by decide +kernel)
theorem k_c21 : (.fieldLink RRg 9 RRg "row" "[I" : Cond) ∈ TBL := TBL_in (by decide +kernel) (by decide +kernel)
theorem k_c22 : (.classLink RRg 15 "[[J" : Cond) ∈ TBL := TBL_in (by decide +kernel) (by decide +kernel)
theorem k_c23 : (.fieldLink RRg 17 RRg "homeward" "[[J" : Cond) ∈ TBL := TBL_in (by decide +kernel) (by decide +kernel)
theorem k_c24 : (.fieldLink RRg 20 RRg "length" "I" : Cond) ∈ TBL := TBL_in (by decide +kernel) (by decide +kernel)
theorem k_c25 : (.methodLink RTl 3 Lib.objectInit : Cond) ∈ TBL := TBL_in (by decide +kernel) (by decide +kernel)
theorem k_c26 : (.fieldLink RTl 9 RTl "times" "[J" : Cond) ∈ TBL := TBL_in (by decide +kernel) (by decide +kernel)
theorem k_c27 : (.fieldLink RTl 15 RTl "order" "[I" : Cond) ∈ TBL := TBL_in (by decide +kernel) (by decide +kernel)
theorem k_c28 : (.fieldLink RTl 19 RTl "count" "I" : Cond) ∈ TBL := TBL_in (by decide +kernel) (by decide +kernel)
theorem k_c29 : (.methodLink RM 1 Lib.objectInit : Cond) ∈ TBL := TBL_in (by decide +kernel) (by decide +kernel)
theorem k_c30 : (.fieldLink RM 7 RM "source" "[I" : Cond) ∈ TBL := TBL_in (by decide +kernel) (by decide +kernel)
theorem k_c31 : (.fieldLink RM 13 RM "item" "[I" : Cond) ∈ TBL := TBL_in (by decide +kernel) (by decide +kernel)
theorem k_c32 : (.fieldLink RM 16 RM "kind" "[I" : Cond) ∈ TBL := TBL_in (by decide +kernel) (by decide +kernel)
theorem k_c33 : (.fieldLink RM 19 RM "place" "[I" : Cond) ∈ TBL := TBL_in (by decide +kernel) (by decide +kernel)
theorem k_c34 : (.fieldLink RM 22 RM "clock" "[J" : Cond) ∈ TBL := TBL_in (by decide +kernel) (by decide +kernel)
theorem k_c35 : (.fieldLink RM 26 RM "first" "[I" : Cond) ∈ TBL := TBL_in (by decide +kernel) (by decide +kernel)
theorem k_c36 : (.fieldLink RM 29 RM "second" "[I" : Cond) ∈ TBL := TBL_in (by decide +kernel) (by decide +kernel)
theorem k_c37 : (.fieldLink RM 32 RM "ring" "[I" : Cond) ∈ TBL := TBL_in (by decide +kernel) (by decide +kernel)
theorem k_c38 : (.fieldLink RM 35 RM "weights" "[J" : Cond) ∈ TBL := TBL_in (by decide +kernel) (by decide +kernel)
theorem k_c39 : (.fieldLink RM 38 RM "bounds" "[J" : Cond) ∈ TBL := TBL_in (by decide +kernel) (by decide +kernel)
theorem k_c40 : (.fieldLink RM 41 RM "ways" "[J" : Cond) ∈ TBL := TBL_in (by decide +kernel) (by decide +kernel)
theorem k_c41 : (.fieldLink RM 44 RM "offsets" "[J" : Cond) ∈ TBL := TBL_in (by decide +kernel) (by decide +kernel)
theorem k_c42 : (.fieldLink RM 47 RM "sources" "I" : Cond) ∈ TBL := TBL_in (by decide +kernel) (by decide +kernel)
theorem k_c43 : (.methodLink RX 3 Lib.objectInit : Cond) ∈ TBL := TBL_in (by decide +kernel) (by decide +kernel)
theorem k_c44 : (.classLink RX 9 REv : Cond) ∈ TBL := TBL_in (by decide +kernel) (by decide +kernel)
theorem k_c45 : (.instantiable REv 6 : Cond) ∈ TBL := TBL_in (by decide +kernel) (by decide +kernel)
theorem k_c46 : (.initialized REv : Cond) ∈ TBL := TBL_in (by decide +kernel) (by decide +kernel)
theorem k_c47 : (.code yEv_init bEv_init 1 none : Cond) ∈ TBL := TBL_in (by decide +kernel) (by decide +kernel)
theorem k_c48 : (.initialized yEv_init.cls : Cond) ∈ TBL := TBL_in (by decide +kernel) (by decide +kernel)
theorem k_c49 : (.methodLink RX 11 yEv_init : Cond) ∈ TBL := TBL_in (by decide +kernel) (by decide +kernel)
theorem k_c50 : (.instanceMethod yEv_init : Cond) ∈ TBL := TBL_in (by decide +kernel) (by decide +kernel)
theorem k_c51 : (.fieldLink RX 12 RX "events" "LEventOrder$Events;" : Cond) ∈ TBL := TBL_in (by decide +kernel) (by decide +kernel)
theorem k_c52 : (.classLink RX 18 RNd : Cond) ∈ TBL := TBL_in (by decide +kernel) (by decide +kernel)
theorem k_c53 : (.instantiable RNd 3 : Cond) ∈ TBL := TBL_in (by decide +kernel) (by decide +kernel)
theorem k_c54 : (.initialized RNd : Cond) ∈ TBL := TBL_in (by decide +kernel) (by decide +kernel)
theorem k_c55 : (.code yNd_init bNd_init 1 none : Cond) ∈ TBL := TBL_in (by decide +kernel) (by decide +kernel)
theorem k_c56 : (.initialized yNd_init.cls : Cond) ∈ TBL := TBL_in (by decide +kernel) (by decide +kernel)
theorem k_c57 : (.methodLink RX 20 yNd_init : Cond) ∈ TBL := TBL_in (by decide +kernel) (by decide +kernel)
theorem k_c58 : (.instanceMethod yNd_init : Cond) ∈ TBL := TBL_in (by decide +kernel) (by decide +kernel)
theorem k_c59 : (.fieldLink RX 21 RX "needs" "LEventOrder$Needs;" : Cond) ∈ TBL := TBL_in (by decide +kernel) (by decide +kernel)
theorem k_c60 : (.classLink RX 25 RLi : Cond) ∈ TBL := TBL_in (by decide +kernel) (by decide +kernel)
theorem k_c61 : (.instantiable RLi 3 : Cond) ∈ TBL := TBL_in (by decide +kernel) (by decide +kernel)
theorem k_c62 : (.initialized RLi : Cond) ∈ TBL := TBL_in (by decide +kernel) (by decide +kernel)
theorem k_c63 : (.code yLi_init bLi_init 1 none : Cond) ∈ TBL := TBL_in (by decide +kernel) (by decide +kernel)
theorem k_c64 : (.initialized yLi_init.cls : Cond) ∈ TBL := TBL_in (by decide +kernel) (by decide +kernel)
theorem k_c65 : (.methodLink RX 27 yLi_init : Cond) ∈ TBL := TBL_in (by decide +kernel) (by decide +kernel)
theorem k_c66 : (.instanceMethod yLi_init : Cond) ∈ TBL := TBL_in (by decide +kernel) (by decide +kernel)
theorem k_c67 : (.fieldLink RX 28 RX "limits" "LEventOrder$Limits;" : Cond) ∈ TBL := TBL_in (by decide +kernel) (by decide +kernel)
theorem k_c68 : (.classLink RX 32 RRg : Cond) ∈ TBL := TBL_in (by decide +kernel) (by decide +kernel)
theorem k_c69 : (.instantiable RRg 3 : Cond) ∈ TBL := TBL_in (by decide +kernel) (by decide +kernel)
theorem k_c70 : (.initialized RRg : Cond) ∈ TBL := TBL_in (by decide +kernel) (by decide +kernel)
theorem k_c71 : (.code yRg_init bRg_init 1 none : Cond) ∈ TBL := TBL_in (by decide +kernel) (by decide +kernel)
theorem k_c72 : (.initialized yRg_init.cls : Cond) ∈ TBL := TBL_in (by decide +kernel) (by decide +kernel)
theorem k_c73 : (.methodLink RX 34 yRg_init : Cond) ∈ TBL := TBL_in (by decide +kernel) (by decide +kernel)
theorem k_c74 : (.instanceMethod yRg_init : Cond) ∈ TBL := TBL_in (by decide +kernel) (by decide +kernel)
theorem k_c75 : (.fieldLink RX 35 RX "told" "LEventOrder$Ring;" : Cond) ∈ TBL := TBL_in (by decide +kernel) (by decide +kernel)
theorem k_c76 : (.classLink RX 39 RTl : Cond) ∈ TBL := TBL_in (by decide +kernel) (by decide +kernel)
theorem k_c77 : (.instantiable RTl 3 : Cond) ∈ TBL := TBL_in (by decide +kernel) (by decide +kernel)
theorem k_c78 : (.initialized RTl : Cond) ∈ TBL := TBL_in (by decide +kernel) (by decide +kernel)
theorem k_c79 : (.code yTl_init bTl_init 1 none : Cond) ∈ TBL := TBL_in (by decide +kernel) (by decide +kernel)
theorem k_c80 : (.initialized yTl_init.cls : Cond) ∈ TBL := TBL_in (by decide +kernel) (by decide +kernel)
theorem k_c81 : (.methodLink RX 41 yTl_init : Cond) ∈ TBL := TBL_in (by decide +kernel) (by decide +kernel)
theorem k_c82 : (.instanceMethod yTl_init : Cond) ∈ TBL := TBL_in (by decide +kernel) (by decide +kernel)
theorem k_c83 : (.fieldLink RX 42 RX "timeline" "LEventOrder$Timeline;" : Cond) ∈ TBL := TBL_in (by decide +kernel) (by decide +kernel)
theorem k_c84 : (.fieldLink RX 46 RX "sourceCount" "I" : Cond) ∈ TBL := TBL_in (by decide +kernel) (by decide +kernel)
theorem k_c85 : (.fieldLink RX 50 RX "settled" "Z" : Cond) ∈ TBL := TBL_in (by decide +kernel) (by decide +kernel)
