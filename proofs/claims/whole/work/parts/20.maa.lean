theorem dM_thrown_0 : decode bM_thrown 0 = .ok (.aload_n 0, 1) := by decide +kernel
theorem dM_thrown_1 : decode bM_thrown 1 = .ok (.getfield 51, 3) := by decide +kernel
theorem dM_thrown_4 : decode bM_thrown 4 = .ok (.ireturn, 1) := by decide +kernel
theorem dM_source_0 : decode bM_source 0 = .ok (.aload_n 0, 1) := by decide +kernel
theorem dM_source_1 : decode bM_source 1 = .ok (.aload_n 0, 1) := by decide +kernel
theorem dM_source_2 : decode bM_source 2 = .ok (.getfield 47, 3) := by decide +kernel
theorem dM_source_5 : decode bM_source 5 = .ok (.bipush 16, 2) := by decide +kernel
theorem dM_source_7 : decode bM_source 7 = .ok (.if_icmp .ne 7, 3) := by decide +kernel
theorem dM_source_14 : decode bM_source 14 = .ok (.iconst 0, 1) := by decide +kernel
theorem dM_source_15 : decode bM_source 15 = .ok (.iconst 0, 1) := by decide +kernel
theorem dM_source_16 : decode bM_source 16 = .ok (.iconst 0, 1) := by decide +kernel
theorem dM_source_17 : decode bM_source 17 = .ok (.invokevirtual 61, 3) := by decide +kernel
theorem dM_refused_0 : decode bM_refused 0 = .ok (.aload_n 0, 1) := by decide +kernel
theorem dM_refused_1 : decode bM_refused 1 = .ok (.iload_n 1, 1) := by decide +kernel
theorem dM_refused_2 : decode bM_refused 2 = .ok (.ifCond .eq 7, 3) := by decide +kernel
theorem dM_refused_9 : decode bM_refused 9 = .ok (.iload_n 2, 1) := by decide +kernel
theorem dM_refused_10 : decode bM_refused 10 = .ok (.ifCond .eq 7, 3) := by decide +kernel
theorem dM_refused_17 : decode bM_refused 17 = .ok (.iload_n 3, 1) := by decide +kernel
theorem dM_refused_18 : decode bM_refused 18 = .ok (.ifCond .eq 7, 3) := by decide +kernel
theorem dM_refused_25 : decode bM_refused 25 = .ok (.iconst 0, 1) := by decide +kernel
theorem dM_refused_26 : decode bM_refused 26 = .ok (.putfield 51, 3) := by decide +kernel
theorem dM_refused_29 : decode bM_refused 29 = .ok (.aload_n 0, 1) := by decide +kernel
theorem dM_refused_30 : decode bM_refused 30 = .ok (.getfield 51, 3) := by decide +kernel
theorem dM_refused_33 : decode bM_refused 33 = .ok (.ifCond .le 7, 3) := by decide +kernel
theorem dM_refused_40 : decode bM_refused 40 = .ok (.iconst 0, 1) := by decide +kernel
theorem dM_refused_41 : decode bM_refused 41 = .ok (.ireturn, 1) := by decide +kernel
theorem dM_refused_36 : decode bM_refused 36 = .ok (.iconst 1, 1) := by decide +kernel
theorem dM_refused_37 : decode bM_refused 37 = .ok (.goto 4, 3) := by decide +kernel
theorem dM_refused_21 : decode bM_refused 21 = .ok (.iconst 3, 1) := by decide +kernel
theorem dM_refused_22 : decode bM_refused 22 = .ok (.goto 4, 3) := by decide +kernel
theorem dM_refused_13 : decode bM_refused 13 = .ok (.iconst 2, 1) := by decide +kernel
theorem dM_refused_14 : decode bM_refused 14 = .ok (.goto 12, 3) := by decide +kernel
theorem dM_refused_5 : decode bM_refused 5 = .ok (.iconst 1, 1) := by decide +kernel
theorem dM_refused_6 : decode bM_refused 6 = .ok (.goto 20, 3) := by decide +kernel
theorem dM_source_20 : decode bM_source 20 = .ok (.ifCond .eq 5, 3) := by decide +kernel
theorem dM_source_25 : decode bM_source 25 = .ok (.aload_n 0, 1) := by decide +kernel
theorem dM_source_26 : decode bM_source 26 = .ok (.dup, 1) := by decide +kernel
theorem dM_source_27 : decode bM_source 27 = .ok (.getfield 47, 3) := by decide +kernel
theorem dM_source_30 : decode bM_source 30 = .ok (.iconst 1, 1) := by decide +kernel
theorem dM_source_31 : decode bM_source 31 = .ok (.iadd, 1) := by decide +kernel
theorem dM_source_32 : decode bM_source 32 = .ok (.putfield 47, 3) := by decide +kernel
theorem dM_source_35 : decode bM_source 35 = .ok (.aload_n 0, 1) := by decide +kernel
theorem dM_source_36 : decode bM_source 36 = .ok (.iconst 0, 1) := by decide +kernel
theorem dM_source_37 : decode bM_source 37 = .ok (.putfield 65, 3) := by decide +kernel
theorem dM_source_40 : decode bM_source 40 = .ok (.aload_n 0, 1) := by decide +kernel
theorem dM_source_41 : decode bM_source 41 = .ok (.getfield 47, 3) := by decide +kernel
theorem dM_source_44 : decode bM_source 44 = .ok (.iconst 1, 1) := by decide +kernel
theorem dM_source_45 : decode bM_source 45 = .ok (.isub, 1) := by decide +kernel
theorem dM_source_46 : decode bM_source 46 = .ok (.ireturn, 1) := by decide +kernel
theorem dM_source_23 : decode bM_source 23 = .ok (.iconst 0, 1) := by decide +kernel
theorem dM_source_24 : decode bM_source 24 = .ok (.ireturn, 1) := by decide +kernel
theorem dM_source_10 : decode bM_source 10 = .ok (.iconst 1, 1) := by decide +kernel
theorem dM_source_11 : decode bM_source 11 = .ok (.goto 4, 3) := by decide +kernel
theorem dM_event_0 : decode bM_event 0 = .ok (.aload_n 0, 1) := by decide +kernel
theorem dM_event_1 : decode bM_event 1 = .ok (.iload_n 1, 1) := by decide +kernel
theorem dM_event_2 : decode bM_event 2 = .ok (.invokevirtual 69, 3) := by decide +kernel
theorem dM_isSource_0 : decode bM_isSource 0 = .ok (.iload_n 1, 1) := by decide +kernel
theorem dM_isSource_1 : decode bM_isSource 1 = .ok (.i2l, 1) := by decide +kernel
theorem dM_isSource_2 : decode bM_isSource 2 = .ok (.lconst 0, 1) := by decide +kernel
theorem dM_isSource_3 : decode bM_isSource 3 = .ok (.aload_n 0, 1) := by decide +kernel
theorem dM_isSource_4 : decode bM_isSource 4 = .ok (.getfield 47, 3) := by decide +kernel
theorem dM_isSource_7 : decode bM_isSource 7 = .ok (.iconst 1, 1) := by decide +kernel
theorem dM_isSource_8 : decode bM_isSource 8 = .ok (.isub, 1) := by decide +kernel
theorem dM_isSource_9 : decode bM_isSource 9 = .ok (.i2l, 1) := by decide +kernel
theorem dM_isSource_10 : decode bM_isSource 10 = .ok (.invokestatic 54, 3) := by decide +kernel
theorem dM_within_0 : decode bM_within 0 = .ok (.lload_n 0, 1) := by decide +kernel
theorem dM_within_1 : decode bM_within 1 = .ok (.lload_n 2, 1) := by decide +kernel
theorem dM_within_2 : decode bM_within 2 = .ok (.lcmp, 1) := by decide +kernel
theorem dM_within_3 : decode bM_within 3 = .ok (.ifCond .lt 14, 3) := by decide +kernel
theorem dM_within_17 : decode bM_within 17 = .ok (.iconst 0, 1) := by decide +kernel
theorem dM_within_18 : decode bM_within 18 = .ok (.ireturn, 1) := by decide +kernel
theorem dM_within_6 : decode bM_within 6 = .ok (.lload_n 0, 1) := by decide +kernel
theorem dM_within_7 : decode bM_within 7 = .ok (.lload 4, 2) := by decide +kernel
theorem dM_within_9 : decode bM_within 9 = .ok (.lcmp, 1) := by decide +kernel
theorem dM_within_10 : decode bM_within 10 = .ok (.ifCond .gt 7, 3) := by decide +kernel
theorem dM_within_13 : decode bM_within 13 = .ok (.iconst 1, 1) := by decide +kernel
theorem dM_within_14 : decode bM_within 14 = .ok (.goto 4, 3) := by decide +kernel
theorem dM_isSource_13 : decode bM_isSource 13 = .ok (.ireturn, 1) := by decide +kernel
theorem dM_event_5 : decode bM_event 5 = .ok (.ifCond .eq 15, 3) := by decide +kernel
theorem dM_event_20 : decode bM_event 20 = .ok (.iconst 1, 1) := by decide +kernel
theorem dM_event_21 : decode bM_event 21 = .ok (.goto 4, 3) := by decide +kernel
theorem dM_event_25 : decode bM_event 25 = .ok (.istore 7, 2) := by decide +kernel
theorem dM_event_27 : decode bM_event 27 = .ok (.iload_n 3, 1) := by decide +kernel
theorem dM_event_28 : decode bM_event 28 = .ok (.i2l, 1) := by decide +kernel
theorem dM_event_29 : decode bM_event 29 = .ok (.lconst 0, 1) := by decide +kernel
theorem dM_event_30 : decode bM_event 30 = .ok (.ldc2_w 75, 3) := by decide +kernel
theorem dM_event_33 : decode bM_event 33 = .ok (.invokestatic 54, 3) := by decide +kernel
theorem dM_event_36 : decode bM_event 36 = .ok (.ifCond .eq 30, 3) := by decide +kernel
theorem dM_event_66 : decode bM_event 66 = .ok (.iconst 1, 1) := by decide +kernel
theorem dM_event_67 : decode bM_event 67 = .ok (.goto 4, 3) := by decide +kernel
theorem dM_event_71 : decode bM_event 71 = .ok (.istore 8, 2) := by decide +kernel
theorem dM_event_73 : decode bM_event 73 = .ok (.iload 8, 2) := by decide +kernel
theorem dM_event_75 : decode bM_event 75 = .ok (.ifCond .ne 26, 3) := by decide +kernel
theorem dM_event_101 : decode bM_event 101 = .ok (.iconst 1, 1) := by decide +kernel
theorem dM_event_102 : decode bM_event 102 = .ok (.goto 4, 3) := by decide +kernel
theorem dM_event_106 : decode bM_event 106 = .ok (.istore 8, 2) := by decide +kernel
theorem dM_event_108 : decode bM_event 108 = .ok (.iload 7, 2) := by decide +kernel
theorem dM_event_110 : decode bM_event 110 = .ok (.ifCond .ne 26, 3) := by decide +kernel
theorem dM_event_136 : decode bM_event 136 = .ok (.iconst 0, 1) := by decide +kernel
theorem dM_event_137 : decode bM_event 137 = .ok (.istore 9, 2) := by decide +kernel
theorem dM_event_139 : decode bM_event 139 = .ok (.aload_n 0, 1) := by decide +kernel
theorem dM_event_140 : decode bM_event 140 = .ok (.iload 7, 2) := by decide +kernel
theorem dM_event_142 : decode bM_event 142 = .ok (.iload 8, 2) := by decide +kernel
theorem dM_event_144 : decode bM_event 144 = .ok (.iload 9, 2) := by decide +kernel
theorem dM_event_146 : decode bM_event 146 = .ok (.ifCond .ne 17, 3) := by decide +kernel
theorem dM_event_163 : decode bM_event 163 = .ok (.iconst 0, 1) := by decide +kernel
theorem dM_event_164 : decode bM_event 164 = .ok (.invokevirtual 61, 3) := by decide +kernel
theorem dM_event_167 : decode bM_event 167 = .ok (.ifCond .ne 8, 3) := by decide +kernel
theorem dM_event_175 : decode bM_event 175 = .ok (.iconst 0, 1) := by decide +kernel
theorem dM_event_176 : decode bM_event 176 = .ok (.ireturn, 1) := by decide +kernel
theorem dM_event_170 : decode bM_event 170 = .ok (.iload 9, 2) := by decide +kernel
theorem dM_event_172 : decode bM_event 172 = .ok (.ifCond .eq 5, 3) := by decide +kernel
theorem dM_event_177 : decode bM_event 177 = .ok (.aload_n 0, 1) := by decide +kernel
theorem dM_event_178 : decode bM_event 178 = .ok (.dup, 1) := by decide +kernel
theorem dM_event_179 : decode bM_event 179 = .ok (.getfield 58, 3) := by decide +kernel
theorem dM_event_182 : decode bM_event 182 = .ok (.iconst 1, 1) := by decide +kernel
theorem dM_event_183 : decode bM_event 183 = .ok (.iadd, 1) := by decide +kernel
theorem dM_event_184 : decode bM_event 184 = .ok (.putfield 58, 3) := by decide +kernel
theorem dM_event_187 : decode bM_event 187 = .ok (.aload_n 0, 1) := by decide +kernel
theorem dM_event_188 : decode bM_event 188 = .ok (.getfield 7, 3) := by decide +kernel
theorem dM_event_191 : decode bM_event 191 = .ok (.aload_n 0, 1) := by decide +kernel
theorem dM_event_192 : decode bM_event 192 = .ok (.getfield 58, 3) := by decide +kernel
theorem dM_event_195 : decode bM_event 195 = .ok (.iload_n 1, 1) := by decide +kernel
theorem dM_event_196 : decode bM_event 196 = .ok (.iastore, 1) := by decide +kernel
theorem dM_event_197 : decode bM_event 197 = .ok (.aload_n 0, 1) := by decide +kernel
theorem dM_event_198 : decode bM_event 198 = .ok (.getfield 13, 3) := by decide +kernel
theorem dM_event_201 : decode bM_event 201 = .ok (.aload_n 0, 1) := by decide +kernel
theorem dM_event_202 : decode bM_event 202 = .ok (.getfield 58, 3) := by decide +kernel
theorem dM_event_205 : decode bM_event 205 = .ok (.iload_n 2, 1) := by decide +kernel
theorem dM_event_206 : decode bM_event 206 = .ok (.iastore, 1) := by decide +kernel
theorem dM_event_207 : decode bM_event 207 = .ok (.aload_n 0, 1) := by decide +kernel
theorem dM_event_208 : decode bM_event 208 = .ok (.getfield 16, 3) := by decide +kernel
theorem dM_event_211 : decode bM_event 211 = .ok (.aload_n 0, 1) := by decide +kernel
theorem dM_event_212 : decode bM_event 212 = .ok (.getfield 58, 3) := by decide +kernel
theorem dM_event_215 : decode bM_event 215 = .ok (.iload_n 3, 1) := by decide +kernel
theorem dM_event_216 : decode bM_event 216 = .ok (.iastore, 1) := by decide +kernel
theorem dM_event_217 : decode bM_event 217 = .ok (.aload_n 0, 1) := by decide +kernel
theorem dM_event_218 : decode bM_event 218 = .ok (.getfield 19, 3) := by decide +kernel
theorem dM_event_221 : decode bM_event 221 = .ok (.aload_n 0, 1) := by decide +kernel
theorem dM_event_222 : decode bM_event 222 = .ok (.getfield 58, 3) := by decide +kernel
theorem dM_event_225 : decode bM_event 225 = .ok (.iload 4, 2) := by decide +kernel
theorem dM_event_227 : decode bM_event 227 = .ok (.iastore, 1) := by decide +kernel
theorem dM_event_228 : decode bM_event 228 = .ok (.aload_n 0, 1) := by decide +kernel
theorem dM_event_229 : decode bM_event 229 = .ok (.getfield 22, 3) := by decide +kernel
theorem dM_event_232 : decode bM_event 232 = .ok (.aload_n 0, 1) := by decide +kernel
theorem dM_event_233 : decode bM_event 233 = .ok (.getfield 58, 3) := by decide +kernel
theorem dM_event_236 : decode bM_event 236 = .ok (.lload 5, 2) := by decide +kernel
theorem dM_event_238 : decode bM_event 238 = .ok (.lastore, 1) := by decide +kernel
theorem dM_event_239 : decode bM_event 239 = .ok (.aload_n 0, 1) := by decide +kernel
theorem dM_event_240 : decode bM_event 240 = .ok (.iconst 0, 1) := by decide +kernel
theorem dM_event_241 : decode bM_event 241 = .ok (.putfield 65, 3) := by decide +kernel
theorem dM_event_244 : decode bM_event 244 = .ok (.aload_n 0, 1) := by decide +kernel
theorem dM_event_245 : decode bM_event 245 = .ok (.getfield 58, 3) := by decide +kernel
theorem dM_event_248 : decode bM_event 248 = .ok (.ireturn, 1) := by decide +kernel
theorem dM_event_149 : decode bM_event 149 = .ok (.aload_n 0, 1) := by decide +kernel
theorem dM_event_150 : decode bM_event 150 = .ok (.getfield 58, 3) := by decide +kernel
theorem dM_event_153 : decode bM_event 153 = .ok (.sipush 300, 3) := by decide +kernel
theorem dM_event_156 : decode bM_event 156 = .ok (.if_icmp .ne 7, 3) := by decide +kernel
theorem dM_event_159 : decode bM_event 159 = .ok (.iconst 1, 1) := by decide +kernel
theorem dM_event_160 : decode bM_event 160 = .ok (.goto 4, 3) := by decide +kernel
theorem dM_event_113 : decode bM_event 113 = .ok (.iload 8, 2) := by decide +kernel
theorem dM_event_115 : decode bM_event 115 = .ok (.ifCond .ne 21, 3) := by decide +kernel
theorem dM_event_118 : decode bM_event 118 = .ok (.aload_n 0, 1) := by decide +kernel
theorem dM_event_119 : decode bM_event 119 = .ok (.iload_n 1, 1) := by decide +kernel
theorem dM_event_120 : decode bM_event 120 = .ok (.iload_n 2, 1) := by decide +kernel
theorem dM_event_121 : decode bM_event 121 = .ok (.iload_n 3, 1) := by decide +kernel
theorem dM_event_122 : decode bM_event 122 = .ok (.iload 4, 2) := by decide +kernel
theorem dM_event_124 : decode bM_event 124 = .ok (.lload 5, 2) := by decide +kernel
theorem dM_event_126 : decode bM_event 126 = .ok (.invokevirtual 81, 3) := by decide +kernel
theorem dM_find_0 : decode bM_find 0 = .ok (.iconst 1, 1) := by decide +kernel
theorem dM_find_1 : decode bM_find 1 = .ok (.istore 7, 2) := by decide +kernel
theorem dM_find_3 : decode bM_find 3 = .ok (.iload 7, 2) := by decide +kernel
theorem dM_find_5 : decode bM_find 5 = .ok (.aload_n 0, 1) := by decide +kernel
theorem dM_find_6 : decode bM_find 6 = .ok (.getfield 58, 3) := by decide +kernel
theorem dM_find_9 : decode bM_find 9 = .ok (.if_icmp .gt 70, 3) := by decide +kernel
theorem dM_find_12 : decode bM_find 12 = .ok (.aload_n 0, 1) := by decide +kernel
theorem dM_find_13 : decode bM_find 13 = .ok (.getfield 7, 3) := by decide +kernel
theorem dM_find_16 : decode bM_find 16 = .ok (.iload 7, 2) := by decide +kernel
theorem dM_find_18 : decode bM_find 18 = .ok (.iaload, 1) := by decide +kernel
theorem dM_find_19 : decode bM_find 19 = .ok (.iload_n 1, 1) := by decide +kernel
theorem dM_find_20 : decode bM_find 20 = .ok (.if_icmp .ne 53, 3) := by decide +kernel
theorem dM_find_73 : decode bM_find 73 = .ok (.iinc 7 1, 3) := by decide +kernel
theorem dM_find_76 : decode bM_find 76 = .ok (.goto (-73), 3) := by decide +kernel
theorem dM_find_23 : decode bM_find 23 = .ok (.aload_n 0, 1) := by decide +kernel
theorem dM_find_24 : decode bM_find 24 = .ok (.getfield 13, 3) := by decide +kernel
theorem dM_find_27 : decode bM_find 27 = .ok (.iload 7, 2) := by decide +kernel
theorem dM_find_29 : decode bM_find 29 = .ok (.iaload, 1) := by decide +kernel
theorem dM_find_30 : decode bM_find 30 = .ok (.iload_n 2, 1) := by decide +kernel
theorem dM_find_31 : decode bM_find 31 = .ok (.if_icmp .ne 42, 3) := by decide +kernel
theorem dM_find_34 : decode bM_find 34 = .ok (.aload_n 0, 1) := by decide +kernel
theorem dM_find_35 : decode bM_find 35 = .ok (.getfield 16, 3) := by decide +kernel
theorem dM_find_38 : decode bM_find 38 = .ok (.iload 7, 2) := by decide +kernel
theorem dM_find_40 : decode bM_find 40 = .ok (.iaload, 1) := by decide +kernel
theorem dM_find_41 : decode bM_find 41 = .ok (.iload_n 3, 1) := by decide +kernel
theorem dM_find_42 : decode bM_find 42 = .ok (.if_icmp .ne 31, 3) := by decide +kernel
theorem dM_find_45 : decode bM_find 45 = .ok (.aload_n 0, 1) := by decide +kernel
theorem dM_find_46 : decode bM_find 46 = .ok (.getfield 19, 3) := by decide +kernel
theorem dM_find_49 : decode bM_find 49 = .ok (.iload 7, 2) := by decide +kernel
theorem dM_find_51 : decode bM_find 51 = .ok (.iaload, 1) := by decide +kernel
theorem dM_find_52 : decode bM_find 52 = .ok (.iload 4, 2) := by decide +kernel
theorem dM_find_54 : decode bM_find 54 = .ok (.if_icmp .ne 19, 3) := by decide +kernel
theorem dM_find_57 : decode bM_find 57 = .ok (.aload_n 0, 1) := by decide +kernel
theorem dM_find_58 : decode bM_find 58 = .ok (.getfield 22, 3) := by decide +kernel
theorem dM_find_61 : decode bM_find 61 = .ok (.iload 7, 2) := by decide +kernel
theorem dM_find_63 : decode bM_find 63 = .ok (.laload, 1) := by decide +kernel
theorem dM_find_64 : decode bM_find 64 = .ok (.lload 5, 2) := by decide +kernel
theorem dM_find_66 : decode bM_find 66 = .ok (.lcmp, 1) := by decide +kernel
theorem dM_find_67 : decode bM_find 67 = .ok (.ifCond .ne 6, 3) := by decide +kernel
theorem dM_find_70 : decode bM_find 70 = .ok (.iload 7, 2) := by decide +kernel
theorem dM_find_72 : decode bM_find 72 = .ok (.ireturn, 1) := by decide +kernel
theorem dM_find_79 : decode bM_find 79 = .ok (.iconst 0, 1) := by decide +kernel
theorem dM_find_80 : decode bM_find 80 = .ok (.ireturn, 1) := by decide +kernel
theorem dM_event_129 : decode bM_event 129 = .ok (.ifCond .le 7, 3) := by decide +kernel
theorem dM_event_132 : decode bM_event 132 = .ok (.iconst 1, 1) := by decide +kernel
theorem dM_event_133 : decode bM_event 133 = .ok (.goto 4, 3) := by decide +kernel
theorem dM_event_78 : decode bM_event 78 = .ok (.iload_n 3, 1) := by decide +kernel
theorem dM_event_79 : decode bM_event 79 = .ok (.iconst 1, 1) := by decide +kernel
theorem dM_event_80 : decode bM_event 80 = .ok (.if_icmp .eq 8, 3) := by decide +kernel
theorem dM_event_88 : decode bM_event 88 = .ok (.iload_n 2, 1) := by decide +kernel
theorem dM_event_89 : decode bM_event 89 = .ok (.bipush 100, 2) := by decide +kernel
theorem dM_event_91 : decode bM_event 91 = .ok (.if_icmp .ge 10, 3) := by decide +kernel
theorem dM_event_94 : decode bM_event 94 = .ok (.iload 4, 2) := by decide +kernel
theorem dM_event_96 : decode bM_event 96 = .ok (.bipush 100, 2) := by decide +kernel
theorem dM_event_98 : decode bM_event 98 = .ok (.if_icmp .ge 7, 3) := by decide +kernel
theorem dM_event_105 : decode bM_event 105 = .ok (.iconst 0, 1) := by decide +kernel
theorem dM_event_83 : decode bM_event 83 = .ok (.iload_n 3, 1) := by decide +kernel
theorem dM_event_84 : decode bM_event 84 = .ok (.iconst 2, 1) := by decide +kernel
theorem dM_event_85 : decode bM_event 85 = .ok (.if_icmp .ne 20, 3) := by decide +kernel
theorem dM_event_39 : decode bM_event 39 = .ok (.iload 4, 2) := by decide +kernel
theorem dM_event_41 : decode bM_event 41 = .ok (.i2l, 1) := by decide +kernel
theorem dM_event_42 : decode bM_event 42 = .ok (.lconst 0, 1) := by decide +kernel
theorem dM_event_43 : decode bM_event 43 = .ok (.ldc2_w 73, 3) := by decide +kernel
theorem dM_event_46 : decode bM_event 46 = .ok (.invokestatic 54, 3) := by decide +kernel
theorem dM_event_49 : decode bM_event 49 = .ok (.ifCond .eq 17, 3) := by decide +kernel
theorem dM_event_52 : decode bM_event 52 = .ok (.lload 5, 2) := by decide +kernel
theorem dM_event_54 : decode bM_event 54 = .ok (.ldc2_w 77, 3) := by decide +kernel
theorem dM_event_57 : decode bM_event 57 = .ok (.ldc2_w 79, 3) := by decide +kernel
theorem dM_event_60 : decode bM_event 60 = .ok (.invokestatic 54, 3) := by decide +kernel
theorem dM_event_63 : decode bM_event 63 = .ok (.ifCond .ne 7, 3) := by decide +kernel
theorem dM_event_70 : decode bM_event 70 = .ok (.iconst 0, 1) := by decide +kernel
theorem dM_event_8 : decode bM_event 8 = .ok (.iload_n 2, 1) := by decide +kernel
theorem dM_event_9 : decode bM_event 9 = .ok (.i2l, 1) := by decide +kernel
theorem dM_event_10 : decode bM_event 10 = .ok (.lconst 0, 1) := by decide +kernel
theorem dM_event_11 : decode bM_event 11 = .ok (.ldc2_w 73, 3) := by decide +kernel
theorem dM_event_14 : decode bM_event 14 = .ok (.invokestatic 54, 3) := by decide +kernel
theorem dM_event_17 : decode bM_event 17 = .ok (.ifCond .ne 7, 3) := by decide +kernel
theorem dM_event_24 : decode bM_event 24 = .ok (.iconst 0, 1) := by decide +kernel
theorem dM_need_0 : decode bM_need 0 = .ok (.aload_n 0, 1) := by decide +kernel
theorem dM_need_1 : decode bM_need 1 = .ok (.aload_n 0, 1) := by decide +kernel
theorem dM_need_2 : decode bM_need 2 = .ok (.iload_n 1, 1) := by decide +kernel
theorem dM_need_3 : decode bM_need 3 = .ok (.invokevirtual 85, 3) := by decide +kernel
theorem dM_isEvent_0 : decode bM_isEvent 0 = .ok (.iload_n 1, 1) := by decide +kernel
theorem dM_isEvent_1 : decode bM_isEvent 1 = .ok (.i2l, 1) := by decide +kernel
theorem dM_isEvent_2 : decode bM_isEvent 2 = .ok (.lconst 1, 1) := by decide +kernel
theorem dM_isEvent_3 : decode bM_isEvent 3 = .ok (.aload_n 0, 1) := by decide +kernel
theorem dM_isEvent_4 : decode bM_isEvent 4 = .ok (.getfield 58, 3) := by decide +kernel
theorem dM_isEvent_7 : decode bM_isEvent 7 = .ok (.i2l, 1) := by decide +kernel
theorem dM_isEvent_8 : decode bM_isEvent 8 = .ok (.invokestatic 54, 3) := by decide +kernel
theorem dM_isEvent_11 : decode bM_isEvent 11 = .ok (.ireturn, 1) := by decide +kernel
theorem dM_need_6 : decode bM_need 6 = .ok (.ifCond .eq 11, 3) := by decide +kernel
theorem dM_need_17 : decode bM_need 17 = .ok (.iconst 1, 1) := by decide +kernel
theorem dM_need_18 : decode bM_need 18 = .ok (.goto 4, 3) := by decide +kernel
theorem dM_need_22 : decode bM_need 22 = .ok (.iload_n 1, 1) := by decide +kernel
theorem dM_need_23 : decode bM_need 23 = .ok (.iload_n 2, 1) := by decide +kernel
theorem dM_need_24 : decode bM_need 24 = .ok (.if_icmp .ne 7, 3) := by decide +kernel
theorem dM_need_31 : decode bM_need 31 = .ok (.iconst 0, 1) := by decide +kernel
theorem dM_need_32 : decode bM_need 32 = .ok (.aload_n 0, 1) := by decide +kernel
theorem dM_need_33 : decode bM_need 33 = .ok (.getfield 88, 3) := by decide +kernel
theorem dM_need_36 : decode bM_need 36 = .ok (.sipush 300, 3) := by decide +kernel
theorem dM_need_39 : decode bM_need 39 = .ok (.if_icmp .ne 7, 3) := by decide +kernel
theorem dM_need_46 : decode bM_need 46 = .ok (.iconst 0, 1) := by decide +kernel
theorem dM_need_47 : decode bM_need 47 = .ok (.invokevirtual 61, 3) := by decide +kernel
theorem dM_need_50 : decode bM_need 50 = .ok (.ifCond .eq 5, 3) := by decide +kernel
theorem dM_need_55 : decode bM_need 55 = .ok (.aload_n 0, 1) := by decide +kernel
theorem dM_need_56 : decode bM_need 56 = .ok (.getfield 26, 3) := by decide +kernel
theorem dM_need_59 : decode bM_need 59 = .ok (.aload_n 0, 1) := by decide +kernel
theorem dM_need_60 : decode bM_need 60 = .ok (.getfield 88, 3) := by decide +kernel
theorem dM_need_63 : decode bM_need 63 = .ok (.iload_n 1, 1) := by decide +kernel
theorem dM_need_64 : decode bM_need 64 = .ok (.iastore, 1) := by decide +kernel
theorem dM_need_65 : decode bM_need 65 = .ok (.aload_n 0, 1) := by decide +kernel
theorem dM_need_66 : decode bM_need 66 = .ok (.getfield 29, 3) := by decide +kernel
theorem dM_need_69 : decode bM_need 69 = .ok (.aload_n 0, 1) := by decide +kernel
theorem dM_need_70 : decode bM_need 70 = .ok (.getfield 88, 3) := by decide +kernel
theorem dM_need_73 : decode bM_need 73 = .ok (.iload_n 2, 1) := by decide +kernel
theorem dM_need_74 : decode bM_need 74 = .ok (.iastore, 1) := by decide +kernel
theorem dM_need_75 : decode bM_need 75 = .ok (.aload_n 0, 1) := by decide +kernel
theorem dM_need_76 : decode bM_need 76 = .ok (.dup, 1) := by decide +kernel
theorem dM_need_77 : decode bM_need 77 = .ok (.getfield 88, 3) := by decide +kernel
theorem dM_need_80 : decode bM_need 80 = .ok (.iconst 1, 1) := by decide +kernel
theorem dM_need_81 : decode bM_need 81 = .ok (.iadd, 1) := by decide +kernel
theorem dM_need_82 : decode bM_need 82 = .ok (.putfield 88, 3) := by decide +kernel
theorem dM_need_85 : decode bM_need 85 = .ok (.aload_n 0, 1) := by decide +kernel
theorem dM_need_86 : decode bM_need 86 = .ok (.iconst 0, 1) := by decide +kernel
theorem dM_need_87 : decode bM_need 87 = .ok (.putfield 65, 3) := by decide +kernel
theorem dM_need_90 : decode bM_need 90 = .ok (.aload_n 0, 1) := by decide +kernel
theorem dM_need_91 : decode bM_need 91 = .ok (.getfield 88, 3) := by decide +kernel
theorem dM_need_94 : decode bM_need 94 = .ok (.ireturn, 1) := by decide +kernel
theorem dM_need_53 : decode bM_need 53 = .ok (.iconst 0, 1) := by decide +kernel
theorem dM_need_54 : decode bM_need 54 = .ok (.ireturn, 1) := by decide +kernel
theorem dM_need_42 : decode bM_need 42 = .ok (.iconst 1, 1) := by decide +kernel
theorem dM_need_43 : decode bM_need 43 = .ok (.goto 4, 3) := by decide +kernel
theorem dM_need_27 : decode bM_need 27 = .ok (.iconst 1, 1) := by decide +kernel
theorem dM_need_28 : decode bM_need 28 = .ok (.goto 4, 3) := by decide +kernel
theorem dM_need_9 : decode bM_need 9 = .ok (.aload_n 0, 1) := by decide +kernel
theorem dM_need_10 : decode bM_need 10 = .ok (.iload_n 2, 1) := by decide +kernel
theorem dM_need_11 : decode bM_need 11 = .ok (.invokevirtual 85, 3) := by decide +kernel
theorem dM_need_14 : decode bM_need 14 = .ok (.ifCond .ne 7, 3) := by decide +kernel
theorem dM_need_21 : decode bM_need 21 = .ok (.iconst 0, 1) := by decide +kernel
theorem dM_correct_0 : decode bM_correct 0 = .ok (.aload_n 0, 1) := by decide +kernel
theorem dM_correct_1 : decode bM_correct 1 = .ok (.aload_n 0, 1) := by decide +kernel
theorem dM_correct_2 : decode bM_correct 2 = .ok (.iload_n 1, 1) := by decide +kernel
theorem dM_correct_3 : decode bM_correct 3 = .ok (.invokevirtual 85, 3) := by decide +kernel
theorem dM_correct_6 : decode bM_correct 6 = .ok (.ifCond .ne 7, 3) := by decide +kernel
theorem dM_correct_13 : decode bM_correct 13 = .ok (.iconst 0, 1) := by decide +kernel
theorem dM_correct_14 : decode bM_correct 14 = .ok (.lload_n 2, 1) := by decide +kernel
theorem dM_correct_15 : decode bM_correct 15 = .ok (.ldc2_w 77, 3) := by decide +kernel
theorem dM_correct_18 : decode bM_correct 18 = .ok (.ldc2_w 79, 3) := by decide +kernel
theorem dM_correct_21 : decode bM_correct 21 = .ok (.invokestatic 54, 3) := by decide +kernel
theorem dM_correct_24 : decode bM_correct 24 = .ok (.ifCond .ne 7, 3) := by decide +kernel
theorem dM_correct_31 : decode bM_correct 31 = .ok (.iconst 0, 1) := by decide +kernel
theorem dM_correct_32 : decode bM_correct 32 = .ok (.iconst 0, 1) := by decide +kernel
theorem dM_correct_33 : decode bM_correct 33 = .ok (.invokevirtual 61, 3) := by decide +kernel
theorem dM_correct_36 : decode bM_correct 36 = .ok (.ifCond .eq 5, 3) := by decide +kernel
theorem dM_correct_41 : decode bM_correct 41 = .ok (.aload_n 0, 1) := by decide +kernel
theorem dM_correct_42 : decode bM_correct 42 = .ok (.aload_n 0, 1) := by decide +kernel
theorem dM_correct_43 : decode bM_correct 43 = .ok (.getfield 7, 3) := by decide +kernel
theorem dM_correct_46 : decode bM_correct 46 = .ok (.iload_n 1, 1) := by decide +kernel
theorem dM_correct_47 : decode bM_correct 47 = .ok (.iaload, 1) := by decide +kernel
theorem dM_correct_48 : decode bM_correct 48 = .ok (.aload_n 0, 1) := by decide +kernel
theorem dM_correct_49 : decode bM_correct 49 = .ok (.getfield 13, 3) := by decide +kernel
theorem dM_correct_52 : decode bM_correct 52 = .ok (.iload_n 1, 1) := by decide +kernel
theorem dM_correct_53 : decode bM_correct 53 = .ok (.iaload, 1) := by decide +kernel
theorem dM_correct_54 : decode bM_correct 54 = .ok (.aload_n 0, 1) := by decide +kernel
theorem dM_correct_55 : decode bM_correct 55 = .ok (.getfield 16, 3) := by decide +kernel
theorem dM_correct_58 : decode bM_correct 58 = .ok (.iload_n 1, 1) := by decide +kernel
theorem dM_correct_59 : decode bM_correct 59 = .ok (.iaload, 1) := by decide +kernel
theorem dM_correct_60 : decode bM_correct 60 = .ok (.aload_n 0, 1) := by decide +kernel
theorem dM_correct_61 : decode bM_correct 61 = .ok (.getfield 19, 3) := by decide +kernel
theorem dM_correct_64 : decode bM_correct 64 = .ok (.iload_n 1, 1) := by decide +kernel
theorem dM_correct_65 : decode bM_correct 65 = .ok (.iaload, 1) := by decide +kernel
theorem dM_correct_66 : decode bM_correct 66 = .ok (.lload_n 2, 1) := by decide +kernel
theorem dM_correct_67 : decode bM_correct 67 = .ok (.invokevirtual 81, 3) := by decide +kernel
theorem dM_correct_70 : decode bM_correct 70 = .ok (.ifCond .le 5, 3) := by decide +kernel
theorem dM_correct_75 : decode bM_correct 75 = .ok (.aload_n 0, 1) := by decide +kernel
theorem dM_correct_76 : decode bM_correct 76 = .ok (.getfield 22, 3) := by decide +kernel
theorem dM_correct_79 : decode bM_correct 79 = .ok (.iload_n 1, 1) := by decide +kernel
theorem dM_correct_80 : decode bM_correct 80 = .ok (.lload_n 2, 1) := by decide +kernel
theorem dM_correct_81 : decode bM_correct 81 = .ok (.lastore, 1) := by decide +kernel
theorem dM_correct_82 : decode bM_correct 82 = .ok (.aload_n 0, 1) := by decide +kernel
theorem dM_correct_83 : decode bM_correct 83 = .ok (.iconst 0, 1) := by decide +kernel
theorem dM_correct_84 : decode bM_correct 84 = .ok (.putfield 65, 3) := by decide +kernel
theorem dM_correct_87 : decode bM_correct 87 = .ok (.iconst 1, 1) := by decide +kernel
theorem dM_correct_88 : decode bM_correct 88 = .ok (.ireturn, 1) := by decide +kernel
theorem dM_correct_73 : decode bM_correct 73 = .ok (.iconst 0, 1) := by decide +kernel
theorem dM_correct_74 : decode bM_correct 74 = .ok (.ireturn, 1) := by decide +kernel
theorem dM_correct_39 : decode bM_correct 39 = .ok (.iconst 0, 1) := by decide +kernel
theorem dM_correct_40 : decode bM_correct 40 = .ok (.ireturn, 1) := by decide +kernel
theorem dM_correct_27 : decode bM_correct 27 = .ok (.iconst 1, 1) := by decide +kernel
theorem dM_correct_28 : decode bM_correct 28 = .ok (.goto 4, 3) := by decide +kernel
theorem dM_correct_9 : decode bM_correct 9 = .ok (.iconst 1, 1) := by decide +kernel
theorem dM_correct_10 : decode bM_correct 10 = .ok (.goto 4, 3) := by decide +kernel
theorem dM_ring_0 : decode bM_ring 0 = .ok (.aload_n 0, 1) := by decide +kernel
theorem dM_ring_1 : decode bM_ring 1 = .ok (.iconst 0, 1) := by decide +kernel
theorem dM_ring_2 : decode bM_ring 2 = .ok (.putfield 51, 3) := by decide +kernel
theorem dM_ring_5 : decode bM_ring 5 = .ok (.iload_n 1, 1) := by decide +kernel
theorem dM_ring_6 : decode bM_ring 6 = .ok (.i2l, 1) := by decide +kernel
theorem dM_ring_7 : decode bM_ring 7 = .ok (.lconst 0, 1) := by decide +kernel
theorem dM_ring_8 : decode bM_ring 8 = .ok (.aload_n 0, 1) := by decide +kernel
theorem dM_ring_9 : decode bM_ring 9 = .ok (.getfield 97, 3) := by decide +kernel
theorem dM_ring_12 : decode bM_ring 12 = .ok (.iconst 1, 1) := by decide +kernel
theorem dM_ring_13 : decode bM_ring 13 = .ok (.isub, 1) := by decide +kernel
theorem dM_ring_14 : decode bM_ring 14 = .ok (.i2l, 1) := by decide +kernel
theorem dM_ring_15 : decode bM_ring 15 = .ok (.invokestatic 54, 3) := by decide +kernel
theorem dM_ring_18 : decode bM_ring 18 = .ok (.ifCond .eq 12, 3) := by decide +kernel
theorem dM_ring_30 : decode bM_ring 30 = .ok (.iconst (-1), 1) := by decide +kernel
theorem dM_ring_31 : decode bM_ring 31 = .ok (.ireturn, 1) := by decide +kernel
theorem dM_ring_21 : decode bM_ring 21 = .ok (.aload_n 0, 1) := by decide +kernel
theorem dM_ring_22 : decode bM_ring 22 = .ok (.getfield 32, 3) := by decide +kernel
theorem dM_ring_25 : decode bM_ring 25 = .ok (.iload_n 1, 1) := by decide +kernel
theorem dM_ring_26 : decode bM_ring 26 = .ok (.iaload, 1) := by decide +kernel
theorem dM_ring_27 : decode bM_ring 27 = .ok (.goto 4, 3) := by decide +kernel
theorem dM_ask_0 : decode bM_ask 0 = .ok (.aload_n 0, 1) := by decide +kernel
theorem dM_ask_1 : decode bM_ask 1 = .ok (.iload_n 1, 1) := by decide +kernel
theorem dM_ask_2 : decode bM_ask 2 = .ok (.i2l, 1) := by decide +kernel
theorem dM_ask_3 : decode bM_ask 3 = .ok (.lconst 0, 1) := by decide +kernel
theorem dM_ask_4 : decode bM_ask 4 = .ok (.ldc2_w 140, 3) := by decide +kernel
theorem dM_ask_7 : decode bM_ask 7 = .ok (.invokestatic 54, 3) := by decide +kernel
theorem dM_ask_10 : decode bM_ask 10 = .ok (.ifCond .ne 7, 3) := by decide +kernel
theorem dM_ask_17 : decode bM_ask 17 = .ok (.iconst 0, 1) := by decide +kernel
theorem dM_ask_18 : decode bM_ask 18 = .ok (.iconst 0, 1) := by decide +kernel
theorem dM_ask_19 : decode bM_ask 19 = .ok (.iconst 0, 1) := by decide +kernel
theorem dM_ask_20 : decode bM_ask 20 = .ok (.invokevirtual 61, 3) := by decide +kernel
theorem dM_ask_23 : decode bM_ask 23 = .ok (.ifCond .eq 5, 3) := by decide +kernel
theorem dM_ask_28 : decode bM_ask 28 = .ok (.iconst 0, 1) := by decide +kernel
theorem dM_ask_29 : decode bM_ask 29 = .ok (.istore_n 3, 1) := by decide +kernel
theorem dM_ask_30 : decode bM_ask 30 = .ok (.iconst 1, 1) := by decide +kernel
theorem dM_ask_31 : decode bM_ask 31 = .ok (.istore 4, 2) := by decide +kernel
theorem dM_ask_33 : decode bM_ask 33 = .ok (.iload 4, 2) := by decide +kernel
theorem dM_ask_35 : decode bM_ask 35 = .ok (.aload_n 0, 1) := by decide +kernel
theorem dM_ask_36 : decode bM_ask 36 = .ok (.getfield 58, 3) := by decide +kernel
theorem dM_ask_39 : decode bM_ask 39 = .ok (.if_icmp .gt 76, 3) := by decide +kernel
theorem dM_ask_42 : decode bM_ask 42 = .ok (.iload_n 1, 1) := by decide +kernel
theorem dM_ask_43 : decode bM_ask 43 = .ok (.ifCond .ne 13, 3) := by decide +kernel
theorem dM_ask_56 : decode bM_ask 56 = .ok (.iload_n 1, 1) := by decide +kernel
theorem dM_ask_57 : decode bM_ask 57 = .ok (.iconst 1, 1) := by decide +kernel
theorem dM_ask_58 : decode bM_ask 58 = .ok (.if_icmp .ne 13, 3) := by decide +kernel
theorem dM_ask_71 : decode bM_ask 71 = .ok (.iload_n 1, 1) := by decide +kernel
theorem dM_ask_72 : decode bM_ask 72 = .ok (.iconst 2, 1) := by decide +kernel
theorem dM_ask_73 : decode bM_ask 73 = .ok (.if_icmp .ne 13, 3) := by decide +kernel
theorem dM_ask_86 : decode bM_ask 86 = .ok (.aload_n 0, 1) := by decide +kernel
theorem dM_ask_87 : decode bM_ask 87 = .ok (.getfield 16, 3) := by decide +kernel
theorem dM_ask_90 : decode bM_ask 90 = .ok (.iload 4, 2) := by decide +kernel
theorem dM_ask_92 : decode bM_ask 92 = .ok (.iaload, 1) := by decide +kernel
theorem dM_ask_93 : decode bM_ask 93 = .ok (.istore 5, 2) := by decide +kernel
theorem dM_ask_95 : decode bM_ask 95 = .ok (.iload 5, 2) := by decide +kernel
theorem dM_ask_97 : decode bM_ask 97 = .ok (.iload_n 2, 1) := by decide +kernel
theorem dM_ask_98 : decode bM_ask 98 = .ok (.if_icmp .ne 9, 3) := by decide +kernel
theorem dM_ask_107 : decode bM_ask 107 = .ok (.iload_n 3, 1) := by decide +kernel
theorem dM_ask_108 : decode bM_ask 108 = .ok (.istore_n 3, 1) := by decide +kernel
theorem dM_ask_109 : decode bM_ask 109 = .ok (.iinc 4 1, 3) := by decide +kernel
theorem dM_ask_112 : decode bM_ask 112 = .ok (.goto (-79), 3) := by decide +kernel
theorem dM_ask_101 : decode bM_ask 101 = .ok (.iload_n 3, 1) := by decide +kernel
theorem dM_ask_102 : decode bM_ask 102 = .ok (.iconst 1, 1) := by decide +kernel
theorem dM_ask_103 : decode bM_ask 103 = .ok (.iadd, 1) := by decide +kernel
theorem dM_ask_104 : decode bM_ask 104 = .ok (.goto 4, 3) := by decide +kernel
theorem dM_ask_76 : decode bM_ask 76 = .ok (.aload_n 0, 1) := by decide +kernel
theorem dM_ask_77 : decode bM_ask 77 = .ok (.getfield 7, 3) := by decide +kernel
theorem dM_ask_80 : decode bM_ask 80 = .ok (.iload 4, 2) := by decide +kernel
theorem dM_ask_82 : decode bM_ask 82 = .ok (.iaload, 1) := by decide +kernel
theorem dM_ask_83 : decode bM_ask 83 = .ok (.goto 10, 3) := by decide +kernel
theorem dM_ask_61 : decode bM_ask 61 = .ok (.aload_n 0, 1) := by decide +kernel
theorem dM_ask_62 : decode bM_ask 62 = .ok (.getfield 19, 3) := by decide +kernel
theorem dM_ask_65 : decode bM_ask 65 = .ok (.iload 4, 2) := by decide +kernel
theorem dM_ask_67 : decode bM_ask 67 = .ok (.iaload, 1) := by decide +kernel
theorem dM_ask_68 : decode bM_ask 68 = .ok (.goto 25, 3) := by decide +kernel
theorem dM_ask_46 : decode bM_ask 46 = .ok (.aload_n 0, 1) := by decide +kernel
theorem dM_ask_47 : decode bM_ask 47 = .ok (.getfield 13, 3) := by decide +kernel
theorem dM_ask_50 : decode bM_ask 50 = .ok (.iload 4, 2) := by decide +kernel
theorem dM_ask_52 : decode bM_ask 52 = .ok (.iaload, 1) := by decide +kernel
theorem dM_ask_53 : decode bM_ask 53 = .ok (.goto 40, 3) := by decide +kernel
theorem dM_ask_115 : decode bM_ask 115 = .ok (.iload_n 3, 1) := by decide +kernel
theorem dM_ask_116 : decode bM_ask 116 = .ok (.ireturn, 1) := by decide +kernel
theorem dM_ask_26 : decode bM_ask 26 = .ok (.iconst 0, 1) := by decide +kernel
theorem dM_ask_27 : decode bM_ask 27 = .ok (.ireturn, 1) := by decide +kernel
theorem dM_ask_13 : decode bM_ask 13 = .ok (.iconst 1, 1) := by decide +kernel
theorem dM_ask_14 : decode bM_ask 14 = .ok (.goto 4, 3) := by decide +kernel
theorem k_m0 : (.fieldLink RM 51 RM "thrown" "I" : Cond) ∈ TBL := TBL_in (by decide +kernel) (by decide +kernel)
theorem k_m1 : (.fieldLink RM 47 RM "sources" "I" : Cond) ∈ TBL := TBL_in (by decide +kernel) (by decide +kernel)
theorem k_m2 : (.fieldLink RM 65 RM "settled" "Z" : Cond) ∈ TBL := TBL_in (by decide +kernel) (by decide +kernel)
theorem k_m3 : (.code yM_refused bM_refused 4 (some .boolean) : Cond) ∈ TBL := TBL_in (by decide +kernel) (by decide +kernel)
theorem k_m4 : (.initialized yM_refused.cls : Cond) ∈ TBL := TBL_in (by decide +kernel) (by decide +kernel)
theorem k_m5 : (.methodLink RM 61 yM_refused : Cond) ∈ TBL := TBL_in (by decide +kernel) (by decide +kernel)
theorem k_m6 : (.instanceMethod yM_refused : Cond) ∈ TBL := TBL_in (by decide +kernel) (by decide +kernel)
theorem k_m7 : (.selects RM yM_refused yM_refused : Cond) ∈ TBL := TBL_in (by decide +kernel) (by decide +kernel)
theorem k_m8 : (.code yM_within bM_within 6 (some .boolean) : Cond) ∈ TBL := TBL_in (by decide +kernel) (by decide +kernel)
theorem k_m9 : (.initialized yM_within.cls : Cond) ∈ TBL := TBL_in (by decide +kernel) (by decide +kernel)
theorem k_m10 : (.methodLink RM 54 yM_within : Cond) ∈ TBL := TBL_in (by decide +kernel) (by decide +kernel)
theorem k_m11 : (.static yM_within : Cond) ∈ TBL := TBL_in (by decide +kernel) (by decide +kernel)
theorem k_m12 : (.constantLong RM 75 7 : Cond) ∈ TBL := TBL_in (by decide +kernel) (by decide +kernel)
theorem k_m13 : (.fieldLink RM 58 RM "events" "I" : Cond) ∈ TBL := TBL_in (by decide +kernel) (by decide +kernel)
theorem k_m14 : (.fieldLink RM 7 RM "source" "[I" : Cond) ∈ TBL := TBL_in (by decide +kernel) (by decide +kernel)
theorem k_m15 : (.fieldLink RM 13 RM "item" "[I" : Cond) ∈ TBL := TBL_in (by decide +kernel) (by decide +kernel)
theorem k_m16 : (.fieldLink RM 16 RM "kind" "[I" : Cond) ∈ TBL := TBL_in (by decide +kernel) (by decide +kernel)
theorem k_m17 : (.fieldLink RM 19 RM "place" "[I" : Cond) ∈ TBL := TBL_in (by decide +kernel) (by decide +kernel)
theorem k_m18 : (.fieldLink RM 22 RM "clock" "[J" : Cond) ∈ TBL := TBL_in (by decide +kernel) (by decide +kernel)
theorem k_m19 : (.code yM_find bM_find 8 (some .int) : Cond) ∈ TBL := TBL_in (by decide +kernel) (by decide +kernel)
theorem k_m20 : (.initialized yM_find.cls : Cond) ∈ TBL := TBL_in (by decide +kernel) (by decide +kernel)
theorem k_m21 : (.methodLink RM 81 yM_find : Cond) ∈ TBL := TBL_in (by decide +kernel) (by decide +kernel)
theorem k_m22 : (.instanceMethod yM_find : Cond) ∈ TBL := TBL_in (by decide +kernel) (by decide +kernel)
theorem k_m23 : (.selects RM yM_find yM_find : Cond) ∈ TBL := TBL_in (by decide +kernel) (by decide +kernel)
theorem k_m24 : (.constantLong RM 73 199 : Cond) ∈ TBL := TBL_in (by decide +kernel) (by decide +kernel)
theorem k_m25 : (.constantLong RM 77 (-1000000000) : Cond) ∈ TBL := TBL_in (by decide +kernel) (by decide +kernel)
theorem k_m26 : (.constantLong RM 79 1000000000 : Cond) ∈ TBL := TBL_in (by decide +kernel) (by decide +kernel)
theorem k_m27 : (.code yM_isSource bM_isSource 2 (some .boolean) : Cond) ∈ TBL := TBL_in (by decide +kernel) (by decide +kernel)
theorem k_m28 : (.initialized yM_isSource.cls : Cond) ∈ TBL := TBL_in (by decide +kernel) (by decide +kernel)
theorem k_m29 : (.methodLink RM 69 yM_isSource : Cond) ∈ TBL := TBL_in (by decide +kernel) (by decide +kernel)
theorem k_m30 : (.instanceMethod yM_isSource : Cond) ∈ TBL := TBL_in (by decide +kernel) (by decide +kernel)
theorem k_m31 : (.selects RM yM_isSource yM_isSource : Cond) ∈ TBL := TBL_in (by decide +kernel) (by decide +kernel)
theorem k_m32 : (.fieldLink RM 88 RM "needs" "I" : Cond) ∈ TBL := TBL_in (by decide +kernel) (by decide +kernel)
theorem k_m33 : (.fieldLink RM 26 RM "first" "[I" : Cond) ∈ TBL := TBL_in (by decide +kernel) (by decide +kernel)
theorem k_m34 : (.fieldLink RM 29 RM "second" "[I" : Cond) ∈ TBL := TBL_in (by decide +kernel) (by decide +kernel)
theorem k_m35 : (.code yM_isEvent bM_isEvent 2 (some .boolean) : Cond) ∈ TBL := TBL_in (by decide +kernel) (by decide +kernel)
theorem k_m36 : (.initialized yM_isEvent.cls : Cond) ∈ TBL := TBL_in (by decide +kernel) (by decide +kernel)
theorem k_m37 : (.methodLink RM 85 yM_isEvent : Cond) ∈ TBL := TBL_in (by decide +kernel) (by decide +kernel)
theorem k_m38 : (.instanceMethod yM_isEvent : Cond) ∈ TBL := TBL_in (by decide +kernel) (by decide +kernel)
theorem k_m39 : (.selects RM yM_isEvent yM_isEvent : Cond) ∈ TBL := TBL_in (by decide +kernel) (by decide +kernel)
theorem k_m40 : (.fieldLink RM 97 RM "ringSize" "I" : Cond) ∈ TBL := TBL_in (by decide +kernel) (by decide +kernel)
theorem k_m41 : (.fieldLink RM 32 RM "ring" "[I" : Cond) ∈ TBL := TBL_in (by decide +kernel) (by decide +kernel)
theorem k_m42 : (.constantLong RM 140 3 : Cond) ∈ TBL := TBL_in (by decide +kernel) (by decide +kernel)
