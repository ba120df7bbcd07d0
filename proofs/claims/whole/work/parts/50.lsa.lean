theorem dL_law_40 : decode bL_law 40 = .ok (.tableswitch 833 0 11 #[64, 108, 246, 314, 327, 352, 407, 474, 529, 597, 665, 765], 64) := by decide +kernel
theorem dL_law_23 : decode bL_law 23 = .ok (.iload 4, 2) := by decide +kernel
theorem dL_law_25 : decode bL_law 25 = .ok (.aload_n 0, 1) := by decide +kernel
theorem dL_law_26 : decode bL_law 26 = .ok (.arraylength, 1) := by decide +kernel
theorem dL_law_27 : decode bL_law 27 = .ok (.bipush 7, 2) := by decide +kernel
theorem dL_law_29 : decode bL_law 29 = .ok (.isub, 1) := by decide +kernel
theorem dL_law_30 : decode bL_law 30 = .ok (.if_icmp .gt 849, 3) := by decide +kernel
theorem dL_law_879 : decode bL_law 879 = .ok (.iconst 1, 1) := by decide +kernel
theorem dL_law_880 : decode bL_law 880 = .ok (.ireturn, 1) := by decide +kernel
theorem dL_law_873 : decode bL_law 873 = .ok (.iinc 4 7, 3) := by decide +kernel
theorem dL_law_876 : decode bL_law 876 = .ok (.goto (-853), 3) := by decide +kernel
theorem dL_law_33 : decode bL_law 33 = .ok (.aload_n 0, 1) := by decide +kernel
theorem dL_law_34 : decode bL_law 34 = .ok (.iload 4, 2) := by decide +kernel
theorem dL_law_36 : decode bL_law 36 = .ok (.iaload, 1) := by decide +kernel
theorem dL_law_37 : decode bL_law 37 = .ok (.bipush 15, 2) := by decide +kernel
theorem dL_law_39 : decode bL_law 39 = .ok (.iand, 1) := by decide +kernel
theorem dL_law_0 : decode bL_law 0 = .ok (.new 8, 3) := by decide +kernel
theorem dL_law_3 : decode bL_law 3 = .ok (.dup, 1) := by decide +kernel
theorem dL_law_4 : decode bL_law 4 = .ok (.invokespecial 53, 3) := by decide +kernel
theorem dL_law_7 : decode bL_law 7 = .ok (.astore_n 1, 1) := by decide +kernel
theorem dL_law_8 : decode bL_law 8 = .ok (.new 54, 3) := by decide +kernel
theorem dL_law_11 : decode bL_law 11 = .ok (.dup, 1) := by decide +kernel
theorem dL_law_12 : decode bL_law 12 = .ok (.invokespecial 56, 3) := by decide +kernel
theorem dL_law_15 : decode bL_law 15 = .ok (.astore_n 2, 1) := by decide +kernel
theorem dL_law_16 : decode bL_law 16 = .ok (.iconst 1, 1) := by decide +kernel
theorem dL_law_17 : decode bL_law 17 = .ok (.newarray .long, 2) := by decide +kernel
theorem dL_law_19 : decode bL_law 19 = .ok (.astore_n 3, 1) := by decide +kernel
theorem dL_law_20 : decode bL_law 20 = .ok (.iconst 0, 1) := by decide +kernel
theorem dL_law_21 : decode bL_law 21 = .ok (.istore 4, 2) := by decide +kernel
theorem k_l174 : (.instantiable RX 7 : Cond) ∈ TBL := TBL_in (by decide +kernel) (by decide +kernel)
theorem k_l175 : (.instantiable REv 6 : Cond) ∈ TBL := TBL_in (by decide +kernel) (by decide +kernel)
theorem k_l176 : (.instantiable RNd 3 : Cond) ∈ TBL := TBL_in (by decide +kernel) (by decide +kernel)
theorem k_l177 : (.instantiable RLi 3 : Cond) ∈ TBL := TBL_in (by decide +kernel) (by decide +kernel)
theorem k_l178 : (.instantiable RRg 3 : Cond) ∈ TBL := TBL_in (by decide +kernel) (by decide +kernel)
theorem k_l179 : (.instantiable RTl 3 : Cond) ∈ TBL := TBL_in (by decide +kernel) (by decide +kernel)
theorem k_l180 : (.instantiable RM 18 : Cond) ∈ TBL := TBL_in (by decide +kernel) (by decide +kernel)
theorem k_l181 : (.arrayClass .int : Cond) ∈ TBL := TBL_in (by decide +kernel) (by decide +kernel)
theorem k_l182 : (.arrayClass .long : Cond) ∈ TBL := TBL_in (by decide +kernel) (by decide +kernel)
theorem k_l183 : (.classLink RL 8 RX : Cond) ∈ TBL := TBL_in (by decide +kernel) (by decide +kernel)
theorem k_l184 : (.initialized RX : Cond) ∈ TBL := TBL_in (by decide +kernel) (by decide +kernel)
theorem k_l185 : (.code yX_init bX_init 1 none : Cond) ∈ TBL := TBL_in (by decide +kernel) (by decide +kernel)
theorem k_l186 : (.initialized yX_init.cls : Cond) ∈ TBL := TBL_in (by decide +kernel) (by decide +kernel)
theorem k_l187 : (.methodLink RL 53 yX_init : Cond) ∈ TBL := TBL_in (by decide +kernel) (by decide +kernel)
theorem k_l188 : (.instanceMethod yX_init : Cond) ∈ TBL := TBL_in (by decide +kernel) (by decide +kernel)
theorem k_l189 : (.classLink RL 54 RM : Cond) ∈ TBL := TBL_in (by decide +kernel) (by decide +kernel)
theorem k_l190 : (.initialized RM : Cond) ∈ TBL := TBL_in (by decide +kernel) (by decide +kernel)
theorem k_l191 : (.code yM_init bM_init 1 none : Cond) ∈ TBL := TBL_in (by decide +kernel) (by decide +kernel)
theorem k_l192 : (.initialized yM_init.cls : Cond) ∈ TBL := TBL_in (by decide +kernel) (by decide +kernel)
theorem k_l193 : (.methodLink RL 56 yM_init : Cond) ∈ TBL := TBL_in (by decide +kernel) (by decide +kernel)
theorem k_l194 : (.instanceMethod yM_init : Cond) ∈ TBL := TBL_in (by decide +kernel) (by decide +kernel)
