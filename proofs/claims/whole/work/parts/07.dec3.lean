theorem d_RF_init_0 : decode prog_14_method_1_code 0 = .ok (.aload_n 0, 1) := by decide +kernel
theorem d_RF_init_1 : decode prog_14_method_1_code 1 = .ok (.invokespecial 1, 3) := by decide +kernel
theorem d_RF_init_4 : decode prog_14_method_1_code 4 = .ok (.aload_n 0, 1) := by decide +kernel
theorem d_RF_init_5 : decode prog_14_method_1_code 5 = .ok (.bipush 40, 2) := by decide +kernel
theorem d_RF_init_7 : decode prog_14_method_1_code 7 = .ok (.newarray .int, 2) := by decide +kernel
theorem d_RF_init_9 : decode prog_14_method_1_code 9 = .ok (.putfield 7, 3) := by decide +kernel
theorem d_RF_init_12 : decode prog_14_method_1_code 12 = .ok (.aload_n 0, 1) := by decide +kernel
theorem d_RF_init_13 : decode prog_14_method_1_code 13 = .ok (.bipush 10, 2) := by decide +kernel
theorem d_RF_init_15 : decode prog_14_method_1_code 15 = .ok (.newarray .boolean, 2) := by decide +kernel
theorem d_RF_init_17 : decode prog_14_method_1_code 17 = .ok (.putfield 13, 3) := by decide +kernel
theorem d_RF_init_20 : decode prog_14_method_1_code 20 = .ok (.aload_n 0, 1) := by decide +kernel
theorem d_RF_init_21 : decode prog_14_method_1_code 21 = .ok (.bipush 10, 2) := by decide +kernel
theorem d_RF_init_23 : decode prog_14_method_1_code 23 = .ok (.newarray .boolean, 2) := by decide +kernel
theorem d_RF_init_25 : decode prog_14_method_1_code 25 = .ok (.putfield 17, 3) := by decide +kernel
theorem d_RF_init_28 : decode prog_14_method_1_code 28 = .ok (.aload_n 0, 1) := by decide +kernel
theorem d_RF_init_29 : decode prog_14_method_1_code 29 = .ok (.bipush 10, 2) := by decide +kernel
theorem d_RF_init_31 : decode prog_14_method_1_code 31 = .ok (.newarray .int, 2) := by decide +kernel
theorem d_RF_init_33 : decode prog_14_method_1_code 33 = .ok (.putfield 20, 3) := by decide +kernel
theorem d_RF_init_36 : decode prog_14_method_1_code 36 = .ok (.aload_n 0, 1) := by decide +kernel
theorem d_RF_init_37 : decode prog_14_method_1_code 37 = .ok (.bipush 10, 2) := by decide +kernel
theorem d_RF_init_39 : decode prog_14_method_1_code 39 = .ok (.newarray .int, 2) := by decide +kernel
theorem d_RF_init_41 : decode prog_14_method_1_code 41 = .ok (.putfield 23, 3) := by decide +kernel
theorem d_RF_init_44 : decode prog_14_method_1_code 44 = .ok (.aload_n 0, 1) := by decide +kernel
theorem d_RF_init_45 : decode prog_14_method_1_code 45 = .ok (.bipush 10, 2) := by decide +kernel
theorem d_RF_init_47 : decode prog_14_method_1_code 47 = .ok (.newarray .boolean, 2) := by decide +kernel
theorem d_RF_init_49 : decode prog_14_method_1_code 49 = .ok (.putfield 26, 3) := by decide +kernel
theorem d_RF_init_52 : decode prog_14_method_1_code 52 = .ok (.aload_n 0, 1) := by decide +kernel
theorem d_RF_init_53 : decode prog_14_method_1_code 53 = .ok (.bipush 10, 2) := by decide +kernel
theorem d_RF_init_55 : decode prog_14_method_1_code 55 = .ok (.newarray .int, 2) := by decide +kernel
theorem d_RF_init_57 : decode prog_14_method_1_code 57 = .ok (.putfield 29, 3) := by decide +kernel
theorem d_RF_init_60 : decode prog_14_method_1_code 60 = .ok (.aload_n 0, 1) := by decide +kernel
theorem d_RF_init_61 : decode prog_14_method_1_code 61 = .ok (.bipush 100, 2) := by decide +kernel
theorem d_RF_init_63 : decode prog_14_method_1_code 63 = .ok (.newarray .int, 2) := by decide +kernel
theorem d_RF_init_65 : decode prog_14_method_1_code 65 = .ok (.putfield 32, 3) := by decide +kernel
theorem d_RF_init_68 : decode prog_14_method_1_code 68 = .ok (.aload_n 0, 1) := by decide +kernel
theorem d_RF_init_69 : decode prog_14_method_1_code 69 = .ok (.bipush 100, 2) := by decide +kernel
theorem d_RF_init_71 : decode prog_14_method_1_code 71 = .ok (.newarray .int, 2) := by decide +kernel
theorem d_RF_init_73 : decode prog_14_method_1_code 73 = .ok (.putfield 35, 3) := by decide +kernel
theorem d_RF_init_76 : decode prog_14_method_1_code 76 = .ok (.aload_n 0, 1) := by decide +kernel
theorem d_RF_init_77 : decode prog_14_method_1_code 77 = .ok (.bipush 14, 2) := by decide +kernel
theorem d_RF_init_79 : decode prog_14_method_1_code 79 = .ok (.newarray .boolean, 2) := by decide +kernel
theorem d_RF_init_81 : decode prog_14_method_1_code 81 = .ok (.putfield 38, 3) := by decide +kernel
theorem d_RF_init_84 : decode prog_14_method_1_code 84 = .ok (.aload_n 0, 1) := by decide +kernel
theorem d_RF_init_85 : decode prog_14_method_1_code 85 = .ok (.bipush 14, 2) := by decide +kernel
theorem d_RF_init_87 : decode prog_14_method_1_code 87 = .ok (.newarray .int, 2) := by decide +kernel
theorem d_RF_init_89 : decode prog_14_method_1_code 89 = .ok (.putfield 41, 3) := by decide +kernel
theorem d_RF_init_92 : decode prog_14_method_1_code 92 = .ok (.aload_n 0, 1) := by decide +kernel
theorem d_RF_init_93 : decode prog_14_method_1_code 93 = .ok (.bipush 14, 2) := by decide +kernel
theorem d_RF_init_95 : decode prog_14_method_1_code 95 = .ok (.newarray .int, 2) := by decide +kernel
theorem d_RF_init_97 : decode prog_14_method_1_code 97 = .ok (.putfield 44, 3) := by decide +kernel
theorem d_RF_init_100 : decode prog_14_method_1_code 100 = .ok (.aload_n 0, 1) := by decide +kernel
theorem d_RF_init_101 : decode prog_14_method_1_code 101 = .ok (.bipush 14, 2) := by decide +kernel
theorem d_RF_init_103 : decode prog_14_method_1_code 103 = .ok (.newarray .boolean, 2) := by decide +kernel
theorem d_RF_init_105 : decode prog_14_method_1_code 105 = .ok (.putfield 47, 3) := by decide +kernel
theorem d_RF_init_108 : decode prog_14_method_1_code 108 = .ok (.aload_n 0, 1) := by decide +kernel
theorem d_RF_init_109 : decode prog_14_method_1_code 109 = .ok (.bipush 100, 2) := by decide +kernel
theorem d_RF_init_111 : decode prog_14_method_1_code 111 = .ok (.newarray .int, 2) := by decide +kernel
theorem d_RF_init_113 : decode prog_14_method_1_code 113 = .ok (.putfield 50, 3) := by decide +kernel
theorem d_RF_init_116 : decode prog_14_method_1_code 116 = .ok (.aload_n 0, 1) := by decide +kernel
theorem d_RF_init_117 : decode prog_14_method_1_code 117 = .ok (.bipush 40, 2) := by decide +kernel
theorem d_RF_init_119 : decode prog_14_method_1_code 119 = .ok (.newarray .int, 2) := by decide +kernel
theorem d_RF_init_121 : decode prog_14_method_1_code 121 = .ok (.putfield 53, 3) := by decide +kernel
theorem d_RF_init_124 : decode prog_14_method_1_code 124 = .ok (.aload_n 0, 1) := by decide +kernel
theorem d_RF_init_125 : decode prog_14_method_1_code 125 = .ok (.bipush 40, 2) := by decide +kernel
theorem d_RF_init_127 : decode prog_14_method_1_code 127 = .ok (.newarray .int, 2) := by decide +kernel
theorem d_RF_init_129 : decode prog_14_method_1_code 129 = .ok (.putfield 56, 3) := by decide +kernel
theorem d_RF_init_132 : decode prog_14_method_1_code 132 = .ok (.aload_n 0, 1) := by decide +kernel
theorem d_RF_init_133 : decode prog_14_method_1_code 133 = .ok (.bipush 40, 2) := by decide +kernel
theorem d_RF_init_135 : decode prog_14_method_1_code 135 = .ok (.newarray .int, 2) := by decide +kernel
theorem d_RF_init_137 : decode prog_14_method_1_code 137 = .ok (.putfield 59, 3) := by decide +kernel
theorem d_RF_init_140 : decode prog_14_method_1_code 140 = .ok (.aload_n 0, 1) := by decide +kernel
theorem d_RF_init_141 : decode prog_14_method_1_code 141 = .ok (.bipush 40, 2) := by decide +kernel
theorem d_RF_init_143 : decode prog_14_method_1_code 143 = .ok (.newarray .int, 2) := by decide +kernel
theorem d_RF_init_145 : decode prog_14_method_1_code 145 = .ok (.putfield 62, 3) := by decide +kernel
theorem d_RF_init_148 : decode prog_14_method_1_code 148 = .ok (.aload_n 0, 1) := by decide +kernel
theorem d_RF_init_149 : decode prog_14_method_1_code 149 = .ok (.bipush 40, 2) := by decide +kernel
theorem d_RF_init_151 : decode prog_14_method_1_code 151 = .ok (.newarray .int, 2) := by decide +kernel
theorem d_RF_init_153 : decode prog_14_method_1_code 153 = .ok (.putfield 65, 3) := by decide +kernel
theorem d_RF_init_156 : decode prog_14_method_1_code 156 = .ok (.aload_n 0, 1) := by decide +kernel
theorem d_RF_init_157 : decode prog_14_method_1_code 157 = .ok (.bipush 40, 2) := by decide +kernel
theorem d_RF_init_159 : decode prog_14_method_1_code 159 = .ok (.newarray .int, 2) := by decide +kernel
theorem d_RF_init_161 : decode prog_14_method_1_code 161 = .ok (.putfield 68, 3) := by decide +kernel
theorem d_RF_init_164 : decode prog_14_method_1_code 164 = .ok (.aload_n 0, 1) := by decide +kernel
theorem d_RF_init_165 : decode prog_14_method_1_code 165 = .ok (.bipush 40, 2) := by decide +kernel
theorem d_RF_init_167 : decode prog_14_method_1_code 167 = .ok (.newarray .int, 2) := by decide +kernel
theorem d_RF_init_169 : decode prog_14_method_1_code 169 = .ok (.putfield 71, 3) := by decide +kernel
theorem d_RF_init_172 : decode prog_14_method_1_code 172 = .ok (.aload_n 0, 1) := by decide +kernel
theorem d_RF_init_173 : decode prog_14_method_1_code 173 = .ok (.bipush 40, 2) := by decide +kernel
theorem d_RF_init_175 : decode prog_14_method_1_code 175 = .ok (.newarray .int, 2) := by decide +kernel
theorem d_RF_init_177 : decode prog_14_method_1_code 177 = .ok (.putfield 74, 3) := by decide +kernel
theorem d_RF_init_180 : decode prog_14_method_1_code 180 = .ok (.aload_n 0, 1) := by decide +kernel
theorem d_RF_init_181 : decode prog_14_method_1_code 181 = .ok (.bipush 40, 2) := by decide +kernel
theorem d_RF_init_183 : decode prog_14_method_1_code 183 = .ok (.newarray .boolean, 2) := by decide +kernel
theorem d_RF_init_185 : decode prog_14_method_1_code 185 = .ok (.putfield 77, 3) := by decide +kernel
theorem d_RF_init_188 : decode prog_14_method_1_code 188 = .ok (.aload_n 0, 1) := by decide +kernel
theorem d_RF_init_189 : decode prog_14_method_1_code 189 = .ok (.bipush 101, 2) := by decide +kernel
theorem d_RF_init_191 : decode prog_14_method_1_code 191 = .ok (.newarray .int, 2) := by decide +kernel
theorem d_RF_init_193 : decode prog_14_method_1_code 193 = .ok (.putfield 80, 3) := by decide +kernel
theorem d_RF_init_196 : decode prog_14_method_1_code 196 = .ok (.aload_n 0, 1) := by decide +kernel
theorem d_RF_init_197 : decode prog_14_method_1_code 197 = .ok (.bipush 101, 2) := by decide +kernel
theorem d_RF_init_199 : decode prog_14_method_1_code 199 = .ok (.newarray .int, 2) := by decide +kernel
theorem d_RF_init_201 : decode prog_14_method_1_code 201 = .ok (.putfield 83, 3) := by decide +kernel
theorem d_RF_init_204 : decode prog_14_method_1_code 204 = .ok (.aload_n 0, 1) := by decide +kernel
theorem d_RF_init_205 : decode prog_14_method_1_code 205 = .ok (.bipush 101, 2) := by decide +kernel
theorem d_RF_init_207 : decode prog_14_method_1_code 207 = .ok (.newarray .int, 2) := by decide +kernel
theorem d_RF_init_209 : decode prog_14_method_1_code 209 = .ok (.putfield 86, 3) := by decide +kernel
theorem d_RF_init_212 : decode prog_14_method_1_code 212 = .ok (.aload_n 0, 1) := by decide +kernel
theorem d_RF_init_213 : decode prog_14_method_1_code 213 = .ok (.sipush 400, 3) := by decide +kernel
theorem d_RF_init_216 : decode prog_14_method_1_code 216 = .ok (.newarray .int, 2) := by decide +kernel
theorem d_RF_init_218 : decode prog_14_method_1_code 218 = .ok (.putfield 89, 3) := by decide +kernel
theorem d_RF_init_221 : decode prog_14_method_1_code 221 = .ok (.aload_n 0, 1) := by decide +kernel
theorem d_RF_init_222 : decode prog_14_method_1_code 222 = .ok (.sipush 400, 3) := by decide +kernel
theorem d_RF_init_225 : decode prog_14_method_1_code 225 = .ok (.newarray .int, 2) := by decide +kernel
theorem d_RF_init_227 : decode prog_14_method_1_code 227 = .ok (.putfield 92, 3) := by decide +kernel
theorem d_RF_init_230 : decode prog_14_method_1_code 230 = .ok (.aload_n 0, 1) := by decide +kernel
theorem d_RF_init_231 : decode prog_14_method_1_code 231 = .ok (.bipush 13, 2) := by decide +kernel
theorem d_RF_init_233 : decode prog_14_method_1_code 233 = .ok (.newarray .int, 2) := by decide +kernel
theorem d_RF_init_235 : decode prog_14_method_1_code 235 = .ok (.putfield 95, 3) := by decide +kernel
theorem d_RF_init_238 : decode prog_14_method_1_code 238 = .ok (.aload_n 0, 1) := by decide +kernel
theorem d_RF_init_239 : decode prog_14_method_1_code 239 = .ok (.bipush 13, 2) := by decide +kernel
theorem d_RF_init_241 : decode prog_14_method_1_code 241 = .ok (.newarray .int, 2) := by decide +kernel
theorem d_RF_init_243 : decode prog_14_method_1_code 243 = .ok (.putfield 98, 3) := by decide +kernel
theorem d_RF_init_246 : decode prog_14_method_1_code 246 = .ok (.aload_n 0, 1) := by decide +kernel
theorem d_RF_init_247 : decode prog_14_method_1_code 247 = .ok (.bipush 13, 2) := by decide +kernel
theorem d_RF_init_249 : decode prog_14_method_1_code 249 = .ok (.newarray .int, 2) := by decide +kernel
theorem d_RF_init_251 : decode prog_14_method_1_code 251 = .ok (.putfield 101, 3) := by decide +kernel
theorem d_RF_init_254 : decode prog_14_method_1_code 254 = .ok (.aload_n 0, 1) := by decide +kernel
theorem d_RF_init_255 : decode prog_14_method_1_code 255 = .ok (.bipush 13, 2) := by decide +kernel
theorem d_RF_init_257 : decode prog_14_method_1_code 257 = .ok (.newarray .int, 2) := by decide +kernel
theorem d_RF_init_259 : decode prog_14_method_1_code 259 = .ok (.putfield 104, 3) := by decide +kernel
theorem d_RF_init_262 : decode prog_14_method_1_code 262 = .ok (.aload_n 0, 1) := by decide +kernel
theorem d_RF_init_263 : decode prog_14_method_1_code 263 = .ok (.bipush 13, 2) := by decide +kernel
theorem d_RF_init_265 : decode prog_14_method_1_code 265 = .ok (.newarray .int, 2) := by decide +kernel
theorem d_RF_init_267 : decode prog_14_method_1_code 267 = .ok (.putfield 107, 3) := by decide +kernel
theorem d_RF_init_270 : decode prog_14_method_1_code 270 = .ok (.aload_n 0, 1) := by decide +kernel
theorem d_RF_init_271 : decode prog_14_method_1_code 271 = .ok (.bipush 8, 2) := by decide +kernel
theorem d_RF_init_273 : decode prog_14_method_1_code 273 = .ok (.newarray .int, 2) := by decide +kernel
theorem d_RF_init_275 : decode prog_14_method_1_code 275 = .ok (.putfield 110, 3) := by decide +kernel
theorem d_RF_init_278 : decode prog_14_method_1_code 278 = .ok (.aload_n 0, 1) := by decide +kernel
theorem d_RF_init_279 : decode prog_14_method_1_code 279 = .ok (.bipush 8, 2) := by decide +kernel
theorem d_RF_init_281 : decode prog_14_method_1_code 281 = .ok (.newarray .int, 2) := by decide +kernel
theorem d_RF_init_283 : decode prog_14_method_1_code 283 = .ok (.putfield 113, 3) := by decide +kernel
theorem d_RF_init_286 : decode prog_14_method_1_code 286 = .ok (.aload_n 0, 1) := by decide +kernel
theorem d_RF_init_287 : decode prog_14_method_1_code 287 = .ok (.sipush 900, 3) := by decide +kernel
theorem d_RF_init_290 : decode prog_14_method_1_code 290 = .ok (.newarray .int, 2) := by decide +kernel
theorem d_RF_init_292 : decode prog_14_method_1_code 292 = .ok (.putfield 116, 3) := by decide +kernel
theorem d_RF_init_295 : decode prog_14_method_1_code 295 = .ok (.return_, 1) := by decide +kernel
theorem d_RF_write_0 : decode prog_14_method_3_code 0 = .ok (.iload_n 1, 1) := by decide +kernel
theorem d_RF_write_1 : decode prog_14_method_3_code 1 = .ok (.bipush 32, 2) := by decide +kernel
theorem d_RF_write_3 : decode prog_14_method_3_code 3 = .ok (.if_icmp .lt 18, 3) := by decide +kernel
theorem d_RF_write_6 : decode prog_14_method_3_code 6 = .ok (.iload_n 1, 1) := by decide +kernel
theorem d_RF_write_7 : decode prog_14_method_3_code 7 = .ok (.bipush 126, 2) := by decide +kernel
theorem d_RF_write_9 : decode prog_14_method_3_code 9 = .ok (.if_icmp .gt 12, 3) := by decide +kernel
theorem d_RF_write_12 : decode prog_14_method_3_code 12 = .ok (.aload_n 0, 1) := by decide +kernel
theorem d_RF_write_13 : decode prog_14_method_3_code 13 = .ok (.getfield 119, 3) := by decide +kernel
theorem d_RF_write_16 : decode prog_14_method_3_code 16 = .ok (.bipush 40, 2) := by decide +kernel
theorem d_RF_write_18 : decode prog_14_method_3_code 18 = .ok (.if_icmp .ne 5, 3) := by decide +kernel
theorem d_RF_write_21 : decode prog_14_method_3_code 21 = .ok (.iconst 0, 1) := by decide +kernel
theorem d_RF_write_22 : decode prog_14_method_3_code 22 = .ok (.ireturn, 1) := by decide +kernel
theorem d_RF_write_23 : decode prog_14_method_3_code 23 = .ok (.aload_n 0, 1) := by decide +kernel
theorem d_RF_write_24 : decode prog_14_method_3_code 24 = .ok (.getfield 7, 3) := by decide +kernel
theorem d_RF_write_27 : decode prog_14_method_3_code 27 = .ok (.aload_n 0, 1) := by decide +kernel
theorem d_RF_write_28 : decode prog_14_method_3_code 28 = .ok (.getfield 119, 3) := by decide +kernel
theorem d_RF_write_31 : decode prog_14_method_3_code 31 = .ok (.iload_n 1, 1) := by decide +kernel
theorem d_RF_write_32 : decode prog_14_method_3_code 32 = .ok (.iastore, 1) := by decide +kernel
theorem d_RF_write_33 : decode prog_14_method_3_code 33 = .ok (.aload_n 0, 1) := by decide +kernel
theorem d_RF_write_34 : decode prog_14_method_3_code 34 = .ok (.dup, 1) := by decide +kernel
theorem d_RF_write_35 : decode prog_14_method_3_code 35 = .ok (.getfield 119, 3) := by decide +kernel
theorem d_RF_write_38 : decode prog_14_method_3_code 38 = .ok (.iconst 1, 1) := by decide +kernel
theorem d_RF_write_39 : decode prog_14_method_3_code 39 = .ok (.iadd, 1) := by decide +kernel
theorem d_RF_write_40 : decode prog_14_method_3_code 40 = .ok (.putfield 119, 3) := by decide +kernel
theorem d_RF_write_43 : decode prog_14_method_3_code 43 = .ok (.iconst 1, 1) := by decide +kernel
theorem d_RF_write_44 : decode prog_14_method_3_code 44 = .ok (.ireturn, 1) := by decide +kernel
theorem d_RF_define_0 : decode prog_14_method_14_code 0 = .ok (.aload_n 0, 1) := by decide +kernel
theorem d_RF_define_1 : decode prog_14_method_14_code 1 = .ok (.iload_n 1, 1) := by decide +kernel
theorem d_RF_define_2 : decode prog_14_method_14_code 2 = .ok (.invokevirtual 160, 3) := by decide +kernel
theorem d_RF_define_5 : decode prog_14_method_14_code 5 = .ok (.istore_n 2, 1) := by decide +kernel
theorem d_RF_define_6 : decode prog_14_method_14_code 6 = .ok (.aload_n 0, 1) := by decide +kernel
theorem d_RF_define_7 : decode prog_14_method_14_code 7 = .ok (.iconst 0, 1) := by decide +kernel
theorem d_RF_define_8 : decode prog_14_method_14_code 8 = .ok (.putfield 119, 3) := by decide +kernel
theorem d_RF_define_11 : decode prog_14_method_14_code 11 = .ok (.iload_n 2, 1) := by decide +kernel
theorem d_RF_define_12 : decode prog_14_method_14_code 12 = .ok (.ireturn, 1) := by decide +kernel
theorem d_RF_takeDraft_0 : decode prog_14_method_13_code 0 = .ok (.iload_n 1, 1) := by decide +kernel
theorem d_RF_takeDraft_1 : decode prog_14_method_13_code 1 = .ok (.invokestatic 127, 3) := by decide +kernel
theorem d_RF_takeDraft_4 : decode prog_14_method_13_code 4 = .ok (.ifCond .ne 11, 3) := by decide +kernel
theorem d_RF_takeDraft_7 : decode prog_14_method_13_code 7 = .ok (.iload_n 1, 1) := by decide +kernel
theorem d_RF_takeDraft_8 : decode prog_14_method_13_code 8 = .ok (.bipush 46, 2) := by decide +kernel
theorem d_RF_takeDraft_10 : decode prog_14_method_13_code 10 = .ok (.if_icmp .eq 5, 3) := by decide +kernel
theorem d_RF_takeDraft_13 : decode prog_14_method_13_code 13 = .ok (.iconst (-1), 1) := by decide +kernel
theorem d_RF_takeDraft_14 : decode prog_14_method_13_code 14 = .ok (.ireturn, 1) := by decide +kernel
theorem d_RF_takeDraft_15 : decode prog_14_method_13_code 15 = .ok (.aload_n 0, 1) := by decide +kernel
theorem d_RF_takeDraft_16 : decode prog_14_method_13_code 16 = .ok (.iconst 1, 1) := by decide +kernel
theorem d_RF_takeDraft_17 : decode prog_14_method_13_code 17 = .ok (.invokevirtual 147, 3) := by decide +kernel
theorem d_RF_takeDraft_20 : decode prog_14_method_13_code 20 = .ok (.bipush 10, 2) := by decide +kernel
theorem d_RF_takeDraft_22 : decode prog_14_method_13_code 22 = .ok (.if_icmp .gt 13, 3) := by decide +kernel
theorem d_RF_takeDraft_25 : decode prog_14_method_13_code 25 = .ok (.aload_n 0, 1) := by decide +kernel
theorem d_RF_takeDraft_26 : decode prog_14_method_13_code 26 = .ok (.iconst 0, 1) := by decide +kernel
theorem d_RF_takeDraft_27 : decode prog_14_method_13_code 27 = .ok (.invokevirtual 147, 3) := by decide +kernel
theorem d_RF_takeDraft_30 : decode prog_14_method_13_code 30 = .ok (.bipush 6, 2) := by decide +kernel
theorem d_RF_takeDraft_32 : decode prog_14_method_13_code 32 = .ok (.if_icmp .le 6, 3) := by decide +kernel
theorem d_RF_takeDraft_35 : decode prog_14_method_13_code 35 = .ok (.bipush (-2), 2) := by decide +kernel
theorem d_RF_takeDraft_37 : decode prog_14_method_13_code 37 = .ok (.ireturn, 1) := by decide +kernel
theorem d_RF_takeDraft_38 : decode prog_14_method_13_code 38 = .ok (.aload_n 0, 1) := by decide +kernel
theorem d_RF_takeDraft_39 : decode prog_14_method_13_code 39 = .ok (.iconst 0, 1) := by decide +kernel
theorem d_RF_takeDraft_40 : decode prog_14_method_13_code 40 = .ok (.invokevirtual 123, 3) := by decide +kernel
theorem d_RF_takeDraft_43 : decode prog_14_method_13_code 43 = .ok (.bipush 35, 2) := by decide +kernel
theorem d_RF_takeDraft_45 : decode prog_14_method_13_code 45 = .ok (.if_icmp .ne 7, 3) := by decide +kernel
theorem d_RF_takeDraft_48 : decode prog_14_method_13_code 48 = .ok (.iconst 1, 1) := by decide +kernel
theorem d_RF_takeDraft_49 : decode prog_14_method_13_code 49 = .ok (.goto 4, 3) := by decide +kernel
theorem d_RF_takeDraft_52 : decode prog_14_method_13_code 52 = .ok (.iconst 0, 1) := by decide +kernel
theorem d_RF_takeDraft_53 : decode prog_14_method_13_code 53 = .ok (.istore_n 2, 1) := by decide +kernel
theorem d_RF_takeDraft_54 : decode prog_14_method_13_code 54 = .ok (.iload_n 2, 1) := by decide +kernel
theorem d_RF_takeDraft_55 : decode prog_14_method_13_code 55 = .ok (.ifCond .eq 7, 3) := by decide +kernel
theorem d_RF_takeDraft_58 : decode prog_14_method_13_code 58 = .ok (.iconst 1, 1) := by decide +kernel
theorem d_RF_takeDraft_59 : decode prog_14_method_13_code 59 = .ok (.goto 4, 3) := by decide +kernel
theorem d_RF_takeDraft_62 : decode prog_14_method_13_code 62 = .ok (.iconst 0, 1) := by decide +kernel
theorem d_RF_takeDraft_63 : decode prog_14_method_13_code 63 = .ok (.istore_n 3, 1) := by decide +kernel
theorem d_RF_takeDraft_64 : decode prog_14_method_13_code 64 = .ok (.iload_n 3, 1) := by decide +kernel
theorem d_RF_takeDraft_65 : decode prog_14_method_13_code 65 = .ok (.aload_n 0, 1) := by decide +kernel
theorem d_RF_takeDraft_66 : decode prog_14_method_13_code 66 = .ok (.getfield 119, 3) := by decide +kernel
theorem d_RF_takeDraft_69 : decode prog_14_method_13_code 69 = .ok (.if_icmp .ne 10, 3) := by decide +kernel
theorem d_RF_takeDraft_72 : decode prog_14_method_13_code 72 = .ok (.aload_n 0, 1) := by decide +kernel
theorem d_RF_takeDraft_73 : decode prog_14_method_13_code 73 = .ok (.invokevirtual 151, 3) := by decide +kernel
theorem d_RF_takeDraft_76 : decode prog_14_method_13_code 76 = .ok (.goto 21, 3) := by decide +kernel
theorem d_RF_takeDraft_79 : decode prog_14_method_13_code 79 = .ok (.aload_n 0, 1) := by decide +kernel
theorem d_RF_takeDraft_80 : decode prog_14_method_13_code 80 = .ok (.iload_n 3, 1) := by decide +kernel
theorem d_RF_takeDraft_81 : decode prog_14_method_13_code 81 = .ok (.invokevirtual 154, 3) := by decide +kernel
theorem d_RF_takeDraft_84 : decode prog_14_method_13_code 84 = .ok (.ifCond .eq 11, 3) := by decide +kernel
theorem d_RF_takeDraft_87 : decode prog_14_method_13_code 87 = .ok (.aload_n 0, 1) := by decide +kernel
theorem d_RF_takeDraft_88 : decode prog_14_method_13_code 88 = .ok (.iload_n 3, 1) := by decide +kernel
theorem d_RF_takeDraft_89 : decode prog_14_method_13_code 89 = .ok (.invokevirtual 157, 3) := by decide +kernel
theorem d_RF_takeDraft_92 : decode prog_14_method_13_code 92 = .ok (.goto 5, 3) := by decide +kernel
theorem d_RF_takeDraft_95 : decode prog_14_method_13_code 95 = .ok (.iconst (-1), 1) := by decide +kernel
theorem d_RF_takeDraft_96 : decode prog_14_method_13_code 96 = .ok (.ireturn, 1) := by decide +kernel
theorem d_RF_takeDraft_97 : decode prog_14_method_13_code 97 = .ok (.iload_n 1, 1) := by decide +kernel
theorem d_RF_takeDraft_98 : decode prog_14_method_13_code 98 = .ok (.bipush 46, 2) := by decide +kernel
theorem d_RF_takeDraft_100 : decode prog_14_method_13_code 100 = .ok (.if_icmp .ne 8, 3) := by decide +kernel
theorem d_RF_takeDraft_103 : decode prog_14_method_13_code 103 = .ok (.bipush 8, 2) := by decide +kernel
theorem d_RF_takeDraft_105 : decode prog_14_method_13_code 105 = .ok (.goto 7, 3) := by decide +kernel
theorem d_RF_takeDraft_108 : decode prog_14_method_13_code 108 = .ok (.iload_n 1, 1) := by decide +kernel
theorem d_RF_takeDraft_109 : decode prog_14_method_13_code 109 = .ok (.bipush 97, 2) := by decide +kernel
theorem d_RF_takeDraft_111 : decode prog_14_method_13_code 111 = .ok (.isub, 1) := by decide +kernel
theorem d_RF_takeDraft_112 : decode prog_14_method_13_code 112 = .ok (.istore 4, 2) := by decide +kernel
theorem d_RF_takeDraft_114 : decode prog_14_method_13_code 114 = .ok (.aload_n 0, 1) := by decide +kernel
theorem d_RF_takeDraft_115 : decode prog_14_method_13_code 115 = .ok (.getfield 13, 3) := by decide +kernel
theorem d_RF_takeDraft_118 : decode prog_14_method_13_code 118 = .ok (.iload 4, 2) := by decide +kernel
theorem d_RF_takeDraft_120 : decode prog_14_method_13_code 120 = .ok (.iconst 1, 1) := by decide +kernel
theorem d_RF_takeDraft_121 : decode prog_14_method_13_code 121 = .ok (.bastore, 1) := by decide +kernel
theorem d_RF_takeDraft_122 : decode prog_14_method_13_code 122 = .ok (.aload_n 0, 1) := by decide +kernel
theorem d_RF_takeDraft_123 : decode prog_14_method_13_code 123 = .ok (.getfield 17, 3) := by decide +kernel
theorem d_RF_takeDraft_126 : decode prog_14_method_13_code 126 = .ok (.iload 4, 2) := by decide +kernel
theorem d_RF_takeDraft_128 : decode prog_14_method_13_code 128 = .ok (.iload_n 2, 1) := by decide +kernel
theorem d_RF_takeDraft_129 : decode prog_14_method_13_code 129 = .ok (.bastore, 1) := by decide +kernel
theorem d_RF_takeDraft_130 : decode prog_14_method_13_code 130 = .ok (.aload_n 0, 1) := by decide +kernel
theorem d_RF_takeDraft_131 : decode prog_14_method_13_code 131 = .ok (.getfield 20, 3) := by decide +kernel
theorem d_RF_takeDraft_134 : decode prog_14_method_13_code 134 = .ok (.iload 4, 2) := by decide +kernel
theorem d_RF_takeDraft_136 : decode prog_14_method_13_code 136 = .ok (.aload_n 0, 1) := by decide +kernel
theorem d_RF_takeDraft_137 : decode prog_14_method_13_code 137 = .ok (.getfield 20, 3) := by decide +kernel
theorem d_RF_takeDraft_140 : decode prog_14_method_13_code 140 = .ok (.bipush 9, 2) := by decide +kernel
theorem d_RF_takeDraft_142 : decode prog_14_method_13_code 142 = .ok (.iaload, 1) := by decide +kernel
theorem d_RF_takeDraft_143 : decode prog_14_method_13_code 143 = .ok (.iastore, 1) := by decide +kernel
theorem d_RF_takeDraft_144 : decode prog_14_method_13_code 144 = .ok (.aload_n 0, 1) := by decide +kernel
theorem d_RF_takeDraft_145 : decode prog_14_method_13_code 145 = .ok (.getfield 23, 3) := by decide +kernel
theorem d_RF_takeDraft_148 : decode prog_14_method_13_code 148 = .ok (.iload 4, 2) := by decide +kernel
theorem d_RF_takeDraft_150 : decode prog_14_method_13_code 150 = .ok (.aload_n 0, 1) := by decide +kernel
theorem d_RF_takeDraft_151 : decode prog_14_method_13_code 151 = .ok (.getfield 23, 3) := by decide +kernel
theorem d_RF_takeDraft_154 : decode prog_14_method_13_code 154 = .ok (.bipush 9, 2) := by decide +kernel
theorem d_RF_takeDraft_156 : decode prog_14_method_13_code 156 = .ok (.iaload, 1) := by decide +kernel
theorem d_RF_takeDraft_157 : decode prog_14_method_13_code 157 = .ok (.iastore, 1) := by decide +kernel
theorem d_RF_takeDraft_158 : decode prog_14_method_13_code 158 = .ok (.aload_n 0, 1) := by decide +kernel
theorem d_RF_takeDraft_159 : decode prog_14_method_13_code 159 = .ok (.getfield 26, 3) := by decide +kernel
theorem d_RF_takeDraft_162 : decode prog_14_method_13_code 162 = .ok (.iload 4, 2) := by decide +kernel
theorem d_RF_takeDraft_164 : decode prog_14_method_13_code 164 = .ok (.aload_n 0, 1) := by decide +kernel
theorem d_RF_takeDraft_165 : decode prog_14_method_13_code 165 = .ok (.getfield 26, 3) := by decide +kernel
theorem d_RF_takeDraft_168 : decode prog_14_method_13_code 168 = .ok (.bipush 9, 2) := by decide +kernel
theorem d_RF_takeDraft_170 : decode prog_14_method_13_code 170 = .ok (.baload, 1) := by decide +kernel
theorem d_RF_takeDraft_171 : decode prog_14_method_13_code 171 = .ok (.bastore, 1) := by decide +kernel
theorem d_RF_takeDraft_172 : decode prog_14_method_13_code 172 = .ok (.aload_n 0, 1) := by decide +kernel
theorem d_RF_takeDraft_173 : decode prog_14_method_13_code 173 = .ok (.getfield 29, 3) := by decide +kernel
theorem d_RF_takeDraft_176 : decode prog_14_method_13_code 176 = .ok (.iload 4, 2) := by decide +kernel
theorem d_RF_takeDraft_178 : decode prog_14_method_13_code 178 = .ok (.aload_n 0, 1) := by decide +kernel
theorem d_RF_takeDraft_179 : decode prog_14_method_13_code 179 = .ok (.getfield 29, 3) := by decide +kernel
theorem d_RF_takeDraft_182 : decode prog_14_method_13_code 182 = .ok (.bipush 9, 2) := by decide +kernel
theorem d_RF_takeDraft_184 : decode prog_14_method_13_code 184 = .ok (.iaload, 1) := by decide +kernel
theorem d_RF_takeDraft_185 : decode prog_14_method_13_code 185 = .ok (.iastore, 1) := by decide +kernel
theorem d_RF_takeDraft_186 : decode prog_14_method_13_code 186 = .ok (.iconst 0, 1) := by decide +kernel
theorem d_RF_takeDraft_187 : decode prog_14_method_13_code 187 = .ok (.istore 5, 2) := by decide +kernel
theorem d_RF_takeDraft_189 : decode prog_14_method_13_code 189 = .ok (.iload 5, 2) := by decide +kernel
theorem d_RF_takeDraft_191 : decode prog_14_method_13_code 191 = .ok (.bipush 10, 2) := by decide +kernel
theorem d_RF_takeDraft_193 : decode prog_14_method_13_code 193 = .ok (.if_icmp .ge 55, 3) := by decide +kernel
theorem d_RF_takeDraft_196 : decode prog_14_method_13_code 196 = .ok (.aload_n 0, 1) := by decide +kernel
theorem d_RF_takeDraft_197 : decode prog_14_method_13_code 197 = .ok (.getfield 32, 3) := by decide +kernel
theorem d_RF_takeDraft_200 : decode prog_14_method_13_code 200 = .ok (.bipush 10, 2) := by decide +kernel
theorem d_RF_takeDraft_202 : decode prog_14_method_13_code 202 = .ok (.iload 4, 2) := by decide +kernel
theorem d_RF_takeDraft_204 : decode prog_14_method_13_code 204 = .ok (.imul, 1) := by decide +kernel
theorem d_RF_takeDraft_205 : decode prog_14_method_13_code 205 = .ok (.iload 5, 2) := by decide +kernel
theorem d_RF_takeDraft_207 : decode prog_14_method_13_code 207 = .ok (.iadd, 1) := by decide +kernel
theorem d_RF_takeDraft_208 : decode prog_14_method_13_code 208 = .ok (.aload_n 0, 1) := by decide +kernel
theorem d_RF_takeDraft_209 : decode prog_14_method_13_code 209 = .ok (.getfield 32, 3) := by decide +kernel
theorem d_RF_takeDraft_212 : decode prog_14_method_13_code 212 = .ok (.bipush 90, 2) := by decide +kernel
theorem d_RF_takeDraft_214 : decode prog_14_method_13_code 214 = .ok (.iload 5, 2) := by decide +kernel
theorem d_RF_takeDraft_216 : decode prog_14_method_13_code 216 = .ok (.iadd, 1) := by decide +kernel
theorem d_RF_takeDraft_217 : decode prog_14_method_13_code 217 = .ok (.iaload, 1) := by decide +kernel
theorem d_RF_takeDraft_218 : decode prog_14_method_13_code 218 = .ok (.iastore, 1) := by decide +kernel
theorem d_RF_takeDraft_219 : decode prog_14_method_13_code 219 = .ok (.aload_n 0, 1) := by decide +kernel
theorem d_RF_takeDraft_220 : decode prog_14_method_13_code 220 = .ok (.getfield 35, 3) := by decide +kernel
theorem d_RF_takeDraft_223 : decode prog_14_method_13_code 223 = .ok (.bipush 10, 2) := by decide +kernel
theorem d_RF_takeDraft_225 : decode prog_14_method_13_code 225 = .ok (.iload 4, 2) := by decide +kernel
theorem d_RF_takeDraft_227 : decode prog_14_method_13_code 227 = .ok (.imul, 1) := by decide +kernel
theorem d_RF_takeDraft_228 : decode prog_14_method_13_code 228 = .ok (.iload 5, 2) := by decide +kernel
theorem d_RF_takeDraft_230 : decode prog_14_method_13_code 230 = .ok (.iadd, 1) := by decide +kernel
theorem d_RF_takeDraft_231 : decode prog_14_method_13_code 231 = .ok (.aload_n 0, 1) := by decide +kernel
theorem d_RF_takeDraft_232 : decode prog_14_method_13_code 232 = .ok (.getfield 35, 3) := by decide +kernel
theorem d_RF_takeDraft_235 : decode prog_14_method_13_code 235 = .ok (.bipush 90, 2) := by decide +kernel
theorem d_RF_takeDraft_237 : decode prog_14_method_13_code 237 = .ok (.iload 5, 2) := by decide +kernel
theorem d_RF_takeDraft_239 : decode prog_14_method_13_code 239 = .ok (.iadd, 1) := by decide +kernel
theorem d_RF_takeDraft_240 : decode prog_14_method_13_code 240 = .ok (.iaload, 1) := by decide +kernel
theorem d_RF_takeDraft_241 : decode prog_14_method_13_code 241 = .ok (.iastore, 1) := by decide +kernel
theorem d_RF_takeDraft_242 : decode prog_14_method_13_code 242 = .ok (.iinc 5 1, 3) := by decide +kernel
theorem d_RF_takeDraft_245 : decode prog_14_method_13_code 245 = .ok (.goto (-56), 3) := by decide +kernel
theorem d_RF_takeDraft_248 : decode prog_14_method_13_code 248 = .ok (.iconst 0, 1) := by decide +kernel
theorem d_RF_takeDraft_249 : decode prog_14_method_13_code 249 = .ok (.ireturn, 1) := by decide +kernel
theorem d_RF_isName_0 : decode prog_14_method_2_code 0 = .ok (.iload_n 0, 1) := by decide +kernel
theorem d_RF_isName_1 : decode prog_14_method_2_code 1 = .ok (.bipush 97, 2) := by decide +kernel
theorem d_RF_isName_3 : decode prog_14_method_2_code 3 = .ok (.if_icmp .lt 13, 3) := by decide +kernel
theorem d_RF_isName_6 : decode prog_14_method_2_code 6 = .ok (.iload_n 0, 1) := by decide +kernel
theorem d_RF_isName_7 : decode prog_14_method_2_code 7 = .ok (.bipush 104, 2) := by decide +kernel
theorem d_RF_isName_9 : decode prog_14_method_2_code 9 = .ok (.if_icmp .gt 7, 3) := by decide +kernel
theorem d_RF_isName_12 : decode prog_14_method_2_code 12 = .ok (.iconst 1, 1) := by decide +kernel
theorem d_RF_isName_13 : decode prog_14_method_2_code 13 = .ok (.goto 4, 3) := by decide +kernel
theorem d_RF_isName_16 : decode prog_14_method_2_code 16 = .ok (.iconst 0, 1) := by decide +kernel
theorem d_RF_isName_17 : decode prog_14_method_2_code 17 = .ok (.ireturn, 1) := by decide +kernel
theorem d_RF_count_0 : decode prog_14_method_12_code 0 = .ok (.iconst 0, 1) := by decide +kernel
theorem d_RF_count_1 : decode prog_14_method_12_code 1 = .ok (.istore_n 2, 1) := by decide +kernel
theorem d_RF_count_2 : decode prog_14_method_12_code 2 = .ok (.iconst 0, 1) := by decide +kernel
theorem d_RF_count_3 : decode prog_14_method_12_code 3 = .ok (.istore_n 3, 1) := by decide +kernel
theorem d_RF_count_4 : decode prog_14_method_12_code 4 = .ok (.iload_n 3, 1) := by decide +kernel
theorem d_RF_count_5 : decode prog_14_method_12_code 5 = .ok (.aload_n 0, 1) := by decide +kernel
theorem d_RF_count_6 : decode prog_14_method_12_code 6 = .ok (.getfield 119, 3) := by decide +kernel
theorem d_RF_count_9 : decode prog_14_method_12_code 9 = .ok (.if_icmp .ge 40, 3) := by decide +kernel
theorem d_RF_count_12 : decode prog_14_method_12_code 12 = .ok (.iload_n 1, 1) := by decide +kernel
theorem d_RF_count_13 : decode prog_14_method_12_code 13 = .ok (.ifCond .eq 17, 3) := by decide +kernel
theorem d_RF_count_16 : decode prog_14_method_12_code 16 = .ok (.aload_n 0, 1) := by decide +kernel
theorem d_RF_count_17 : decode prog_14_method_12_code 17 = .ok (.iload_n 3, 1) := by decide +kernel
theorem d_RF_count_18 : decode prog_14_method_12_code 18 = .ok (.invokevirtual 123, 3) := by decide +kernel
theorem d_RF_count_21 : decode prog_14_method_12_code 21 = .ok (.invokestatic 127, 3) := by decide +kernel
theorem d_RF_count_24 : decode prog_14_method_12_code 24 = .ok (.ifCond .eq 19, 3) := by decide +kernel
theorem d_RF_count_27 : decode prog_14_method_12_code 27 = .ok (.goto 13, 3) := by decide +kernel
theorem d_RF_count_30 : decode prog_14_method_12_code 30 = .ok (.aload_n 0, 1) := by decide +kernel
theorem d_RF_count_31 : decode prog_14_method_12_code 31 = .ok (.iload_n 3, 1) := by decide +kernel
theorem d_RF_count_32 : decode prog_14_method_12_code 32 = .ok (.invokevirtual 123, 3) := by decide +kernel
theorem d_RF_count_35 : decode prog_14_method_12_code 35 = .ok (.bipush 40, 2) := by decide +kernel
theorem d_RF_count_37 : decode prog_14_method_12_code 37 = .ok (.if_icmp .ne 6, 3) := by decide +kernel
theorem d_RF_count_40 : decode prog_14_method_12_code 40 = .ok (.iinc 2 1, 3) := by decide +kernel
theorem d_RF_count_43 : decode prog_14_method_12_code 43 = .ok (.iinc 3 1, 3) := by decide +kernel
theorem d_RF_count_46 : decode prog_14_method_12_code 46 = .ok (.goto (-42), 3) := by decide +kernel
theorem d_RF_count_49 : decode prog_14_method_12_code 49 = .ok (.iload_n 2, 1) := by decide +kernel
theorem d_RF_count_50 : decode prog_14_method_12_code 50 = .ok (.ireturn, 1) := by decide +kernel
theorem d_RF_at_0 : decode prog_14_method_4_code 0 = .ok (.iload_n 1, 1) := by decide +kernel
theorem d_RF_at_1 : decode prog_14_method_4_code 1 = .ok (.aload_n 0, 1) := by decide +kernel
theorem d_RF_at_2 : decode prog_14_method_4_code 2 = .ok (.getfield 119, 3) := by decide +kernel
theorem d_RF_at_5 : decode prog_14_method_4_code 5 = .ok (.if_icmp .ge 12, 3) := by decide +kernel
theorem d_RF_at_8 : decode prog_14_method_4_code 8 = .ok (.aload_n 0, 1) := by decide +kernel
theorem d_RF_at_9 : decode prog_14_method_4_code 9 = .ok (.getfield 7, 3) := by decide +kernel
theorem d_RF_at_12 : decode prog_14_method_4_code 12 = .ok (.iload_n 1, 1) := by decide +kernel
theorem d_RF_at_13 : decode prog_14_method_4_code 13 = .ok (.iaload, 1) := by decide +kernel
theorem d_RF_at_14 : decode prog_14_method_4_code 14 = .ok (.goto 4, 3) := by decide +kernel
theorem d_RF_at_17 : decode prog_14_method_4_code 17 = .ok (.iconst 0, 1) := by decide +kernel
theorem d_RF_at_18 : decode prog_14_method_4_code 18 = .ok (.ireturn, 1) := by decide +kernel
theorem d_RF_readNothing_0 : decode prog_14_method_11_code 0 = .ok (.aload_n 0, 1) := by decide +kernel
theorem d_RF_readNothing_1 : decode prog_14_method_11_code 1 = .ok (.getfield 29, 3) := by decide +kernel
theorem d_RF_readNothing_4 : decode prog_14_method_11_code 4 = .ok (.bipush 9, 2) := by decide +kernel
theorem d_RF_readNothing_6 : decode prog_14_method_11_code 6 = .ok (.iconst 0, 1) := by decide +kernel
theorem d_RF_readNothing_7 : decode prog_14_method_11_code 7 = .ok (.iastore, 1) := by decide +kernel
theorem d_RF_readNothing_8 : decode prog_14_method_11_code 8 = .ok (.aload_n 0, 1) := by decide +kernel
theorem d_RF_readNothing_9 : decode prog_14_method_11_code 9 = .ok (.getfield 20, 3) := by decide +kernel
theorem d_RF_readNothing_12 : decode prog_14_method_11_code 12 = .ok (.bipush 9, 2) := by decide +kernel
theorem d_RF_readNothing_14 : decode prog_14_method_11_code 14 = .ok (.iconst 0, 1) := by decide +kernel
theorem d_RF_readNothing_15 : decode prog_14_method_11_code 15 = .ok (.iastore, 1) := by decide +kernel
theorem d_RF_readNothing_16 : decode prog_14_method_11_code 16 = .ok (.aload_n 0, 1) := by decide +kernel
theorem d_RF_readNothing_17 : decode prog_14_method_11_code 17 = .ok (.getfield 23, 3) := by decide +kernel
theorem d_RF_readNothing_20 : decode prog_14_method_11_code 20 = .ok (.bipush 9, 2) := by decide +kernel
theorem d_RF_readNothing_22 : decode prog_14_method_11_code 22 = .ok (.iconst 0, 1) := by decide +kernel
theorem d_RF_readNothing_23 : decode prog_14_method_11_code 23 = .ok (.iastore, 1) := by decide +kernel
theorem d_RF_readNothing_24 : decode prog_14_method_11_code 24 = .ok (.aload_n 0, 1) := by decide +kernel
theorem d_RF_readNothing_25 : decode prog_14_method_11_code 25 = .ok (.getfield 26, 3) := by decide +kernel
theorem d_RF_readNothing_28 : decode prog_14_method_11_code 28 = .ok (.bipush 9, 2) := by decide +kernel
theorem d_RF_readNothing_30 : decode prog_14_method_11_code 30 = .ok (.iconst 1, 1) := by decide +kernel
theorem d_RF_readNothing_31 : decode prog_14_method_11_code 31 = .ok (.bastore, 1) := by decide +kernel
theorem d_RF_readNothing_32 : decode prog_14_method_11_code 32 = .ok (.return_, 1) := by decide +kernel
theorem d_RF_isExpression_0 : decode prog_14_method_5_code 0 = .ok (.iconst 0, 1) := by decide +kernel
theorem d_RF_isExpression_1 : decode prog_14_method_5_code 1 = .ok (.istore_n 2, 1) := by decide +kernel
theorem d_RF_isExpression_2 : decode prog_14_method_5_code 2 = .ok (.iconst 0, 1) := by decide +kernel
theorem d_RF_isExpression_3 : decode prog_14_method_5_code 3 = .ok (.istore_n 3, 1) := by decide +kernel
theorem d_RF_isExpression_4 : decode prog_14_method_5_code 4 = .ok (.iconst 0, 1) := by decide +kernel
theorem d_RF_isExpression_5 : decode prog_14_method_5_code 5 = .ok (.istore 4, 2) := by decide +kernel
theorem d_RF_isExpression_7 : decode prog_14_method_5_code 7 = .ok (.iload_n 1, 1) := by decide +kernel
theorem d_RF_isExpression_8 : decode prog_14_method_5_code 8 = .ok (.istore 5, 2) := by decide +kernel
theorem d_RF_isExpression_10 : decode prog_14_method_5_code 10 = .ok (.iload 5, 2) := by decide +kernel
theorem d_RF_isExpression_12 : decode prog_14_method_5_code 12 = .ok (.aload_n 0, 1) := by decide +kernel
theorem d_RF_isExpression_13 : decode prog_14_method_5_code 13 = .ok (.getfield 119, 3) := by decide +kernel
theorem d_RF_isExpression_16 : decode prog_14_method_5_code 16 = .ok (.if_icmp .ge 133, 3) := by decide +kernel
theorem d_RF_isExpression_19 : decode prog_14_method_5_code 19 = .ok (.aload_n 0, 1) := by decide +kernel
theorem d_RF_isExpression_20 : decode prog_14_method_5_code 20 = .ok (.iload 5, 2) := by decide +kernel
theorem d_RF_isExpression_22 : decode prog_14_method_5_code 22 = .ok (.invokevirtual 123, 3) := by decide +kernel
theorem d_RF_isExpression_25 : decode prog_14_method_5_code 25 = .ok (.istore 6, 2) := by decide +kernel
theorem d_RF_isExpression_27 : decode prog_14_method_5_code 27 = .ok (.iload_n 3, 1) := by decide +kernel
theorem d_RF_isExpression_28 : decode prog_14_method_5_code 28 = .ok (.ifCond .ne 38, 3) := by decide +kernel
theorem d_RF_isExpression_31 : decode prog_14_method_5_code 31 = .ok (.iload 6, 2) := by decide +kernel
theorem d_RF_isExpression_33 : decode prog_14_method_5_code 33 = .ok (.bipush 40, 2) := by decide +kernel
theorem d_RF_isExpression_35 : decode prog_14_method_5_code 35 = .ok (.if_icmp .ne 9, 3) := by decide +kernel
theorem d_RF_isExpression_38 : decode prog_14_method_5_code 38 = .ok (.iinc 2 1, 3) := by decide +kernel
theorem d_RF_isExpression_41 : decode prog_14_method_5_code 41 = .ok (.goto 13, 3) := by decide +kernel
theorem d_RF_isExpression_44 : decode prog_14_method_5_code 44 = .ok (.iload 6, 2) := by decide +kernel
theorem d_RF_isExpression_46 : decode prog_14_method_5_code 46 = .ok (.invokestatic 127, 3) := by decide +kernel
theorem d_RF_isExpression_49 : decode prog_14_method_5_code 49 = .ok (.ifCond .ne 5, 3) := by decide +kernel
theorem d_RF_isExpression_52 : decode prog_14_method_5_code 52 = .ok (.iconst 0, 1) := by decide +kernel
theorem d_RF_isExpression_53 : decode prog_14_method_5_code 53 = .ok (.ireturn, 1) := by decide +kernel
theorem d_RF_isExpression_54 : decode prog_14_method_5_code 54 = .ok (.iload 6, 2) := by decide +kernel
theorem d_RF_isExpression_56 : decode prog_14_method_5_code 56 = .ok (.invokestatic 127, 3) := by decide +kernel
theorem d_RF_isExpression_59 : decode prog_14_method_5_code 59 = .ok (.istore_n 3, 1) := by decide +kernel
theorem d_RF_isExpression_60 : decode prog_14_method_5_code 60 = .ok (.iconst 0, 1) := by decide +kernel
theorem d_RF_isExpression_61 : decode prog_14_method_5_code 61 = .ok (.istore 4, 2) := by decide +kernel
theorem d_RF_isExpression_63 : decode prog_14_method_5_code 63 = .ok (.goto 80, 3) := by decide +kernel
theorem d_RF_isExpression_66 : decode prog_14_method_5_code 66 = .ok (.iload 6, 2) := by decide +kernel
theorem d_RF_isExpression_68 : decode prog_14_method_5_code 68 = .ok (.bipush 63, 2) := by decide +kernel
theorem d_RF_isExpression_70 : decode prog_14_method_5_code 70 = .ok (.if_icmp .eq 17, 3) := by decide +kernel
theorem d_RF_isExpression_73 : decode prog_14_method_5_code 73 = .ok (.iload 6, 2) := by decide +kernel
theorem d_RF_isExpression_75 : decode prog_14_method_5_code 75 = .ok (.bipush 42, 2) := by decide +kernel
theorem d_RF_isExpression_77 : decode prog_14_method_5_code 77 = .ok (.if_icmp .eq 10, 3) := by decide +kernel
theorem d_RF_isExpression_80 : decode prog_14_method_5_code 80 = .ok (.iload 6, 2) := by decide +kernel
theorem d_RF_isExpression_82 : decode prog_14_method_5_code 82 = .ok (.bipush 43, 2) := by decide +kernel
theorem d_RF_isExpression_84 : decode prog_14_method_5_code 84 = .ok (.if_icmp .ne 16, 3) := by decide +kernel
theorem d_RF_isExpression_87 : decode prog_14_method_5_code 87 = .ok (.iload 4, 2) := by decide +kernel
theorem d_RF_isExpression_89 : decode prog_14_method_5_code 89 = .ok (.ifCond .eq 5, 3) := by decide +kernel
theorem d_RF_isExpression_92 : decode prog_14_method_5_code 92 = .ok (.iconst 0, 1) := by decide +kernel
theorem d_RF_isExpression_93 : decode prog_14_method_5_code 93 = .ok (.ireturn, 1) := by decide +kernel
theorem d_RF_isExpression_94 : decode prog_14_method_5_code 94 = .ok (.iconst 1, 1) := by decide +kernel
theorem d_RF_isExpression_95 : decode prog_14_method_5_code 95 = .ok (.istore 4, 2) := by decide +kernel
theorem d_RF_isExpression_97 : decode prog_14_method_5_code 97 = .ok (.goto 46, 3) := by decide +kernel
theorem d_RF_isExpression_100 : decode prog_14_method_5_code 100 = .ok (.iload 6, 2) := by decide +kernel
theorem d_RF_isExpression_102 : decode prog_14_method_5_code 102 = .ok (.bipush 41, 2) := by decide +kernel
theorem d_RF_isExpression_104 : decode prog_14_method_5_code 104 = .ok (.if_icmp .ne 18, 3) := by decide +kernel
theorem d_RF_isExpression_107 : decode prog_14_method_5_code 107 = .ok (.iinc 2 (-1), 3) := by decide +kernel
theorem d_RF_isExpression_110 : decode prog_14_method_5_code 110 = .ok (.iload_n 2, 1) := by decide +kernel
theorem d_RF_isExpression_111 : decode prog_14_method_5_code 111 = .ok (.ifCond .ge 5, 3) := by decide +kernel
theorem d_RF_isExpression_114 : decode prog_14_method_5_code 114 = .ok (.iconst 0, 1) := by decide +kernel
theorem d_RF_isExpression_115 : decode prog_14_method_5_code 115 = .ok (.ireturn, 1) := by decide +kernel
theorem d_RF_isExpression_116 : decode prog_14_method_5_code 116 = .ok (.iconst 0, 1) := by decide +kernel
theorem d_RF_isExpression_117 : decode prog_14_method_5_code 117 = .ok (.istore 4, 2) := by decide +kernel
theorem d_RF_isExpression_119 : decode prog_14_method_5_code 119 = .ok (.goto 24, 3) := by decide +kernel
theorem d_RF_isExpression_122 : decode prog_14_method_5_code 122 = .ok (.iload 6, 2) := by decide +kernel
theorem d_RF_isExpression_124 : decode prog_14_method_5_code 124 = .ok (.bipush 124, 2) := by decide +kernel
theorem d_RF_isExpression_126 : decode prog_14_method_5_code 126 = .ok (.if_icmp .eq 10, 3) := by decide +kernel
theorem d_RF_isExpression_129 : decode prog_14_method_5_code 129 = .ok (.iload 6, 2) := by decide +kernel
theorem d_RF_isExpression_131 : decode prog_14_method_5_code 131 = .ok (.bipush 44, 2) := by decide +kernel
theorem d_RF_isExpression_133 : decode prog_14_method_5_code 133 = .ok (.if_icmp .ne 8, 3) := by decide +kernel
theorem d_RF_isExpression_136 : decode prog_14_method_5_code 136 = .ok (.iconst 0, 1) := by decide +kernel
theorem d_RF_isExpression_137 : decode prog_14_method_5_code 137 = .ok (.istore_n 3, 1) := by decide +kernel
theorem d_RF_isExpression_138 : decode prog_14_method_5_code 138 = .ok (.goto 5, 3) := by decide +kernel
theorem d_RF_isExpression_141 : decode prog_14_method_5_code 141 = .ok (.iconst 0, 1) := by decide +kernel
theorem d_RF_isExpression_142 : decode prog_14_method_5_code 142 = .ok (.ireturn, 1) := by decide +kernel
theorem d_RF_isExpression_143 : decode prog_14_method_5_code 143 = .ok (.iinc 5 1, 3) := by decide +kernel
theorem d_RF_isExpression_146 : decode prog_14_method_5_code 146 = .ok (.goto (-136), 3) := by decide +kernel
theorem d_RF_isExpression_149 : decode prog_14_method_5_code 149 = .ok (.iload_n 3, 1) := by decide +kernel
theorem d_RF_isExpression_150 : decode prog_14_method_5_code 150 = .ok (.ifCond .eq 11, 3) := by decide +kernel
theorem d_RF_isExpression_153 : decode prog_14_method_5_code 153 = .ok (.iload_n 2, 1) := by decide +kernel
theorem d_RF_isExpression_154 : decode prog_14_method_5_code 154 = .ok (.ifCond .ne 7, 3) := by decide +kernel
theorem d_RF_isExpression_157 : decode prog_14_method_5_code 157 = .ok (.iconst 1, 1) := by decide +kernel
theorem d_RF_isExpression_158 : decode prog_14_method_5_code 158 = .ok (.goto 4, 3) := by decide +kernel
theorem d_RF_isExpression_161 : decode prog_14_method_5_code 161 = .ok (.iconst 0, 1) := by decide +kernel
theorem d_RF_isExpression_162 : decode prog_14_method_5_code 162 = .ok (.ireturn, 1) := by decide +kernel
theorem d_RF_readExpression_0 : decode prog_14_method_10_code 0 = .ok (.iconst 0, 1) := by decide +kernel
theorem d_RF_readExpression_1 : decode prog_14_method_10_code 1 = .ok (.istore_n 2, 1) := by decide +kernel
theorem d_RF_readExpression_2 : decode prog_14_method_10_code 2 = .ok (.iconst 0, 1) := by decide +kernel
theorem d_RF_readExpression_3 : decode prog_14_method_10_code 3 = .ok (.istore_n 3, 1) := by decide +kernel
theorem d_RF_readExpression_4 : decode prog_14_method_10_code 4 = .ok (.iconst 0, 1) := by decide +kernel
theorem d_RF_readExpression_5 : decode prog_14_method_10_code 5 = .ok (.istore 4, 2) := by decide +kernel
theorem d_RF_readExpression_7 : decode prog_14_method_10_code 7 = .ok (.iload 4, 2) := by decide +kernel
theorem d_RF_readExpression_9 : decode prog_14_method_10_code 9 = .ok (.bipush 10, 2) := by decide +kernel
theorem d_RF_readExpression_11 : decode prog_14_method_10_code 11 = .ok (.if_icmp .ge 20, 3) := by decide +kernel
theorem d_RF_readExpression_14 : decode prog_14_method_10_code 14 = .ok (.aload_n 0, 1) := by decide +kernel
theorem d_RF_readExpression_15 : decode prog_14_method_10_code 15 = .ok (.getfield 35, 3) := by decide +kernel
theorem d_RF_readExpression_18 : decode prog_14_method_10_code 18 = .ok (.bipush 90, 2) := by decide +kernel
theorem d_RF_readExpression_20 : decode prog_14_method_10_code 20 = .ok (.iload 4, 2) := by decide +kernel
theorem d_RF_readExpression_22 : decode prog_14_method_10_code 22 = .ok (.iadd, 1) := by decide +kernel
theorem d_RF_readExpression_23 : decode prog_14_method_10_code 23 = .ok (.iconst 0, 1) := by decide +kernel
theorem d_RF_readExpression_24 : decode prog_14_method_10_code 24 = .ok (.iastore, 1) := by decide +kernel
theorem d_RF_readExpression_25 : decode prog_14_method_10_code 25 = .ok (.iinc 4 1, 3) := by decide +kernel
theorem d_RF_readExpression_28 : decode prog_14_method_10_code 28 = .ok (.goto (-21), 3) := by decide +kernel
theorem d_RF_readExpression_31 : decode prog_14_method_10_code 31 = .ok (.iconst 0, 1) := by decide +kernel
theorem d_RF_readExpression_32 : decode prog_14_method_10_code 32 = .ok (.istore 4, 2) := by decide +kernel
theorem d_RF_readExpression_34 : decode prog_14_method_10_code 34 = .ok (.iload 4, 2) := by decide +kernel
theorem d_RF_readExpression_36 : decode prog_14_method_10_code 36 = .ok (.bipush 14, 2) := by decide +kernel
theorem d_RF_readExpression_38 : decode prog_14_method_10_code 38 = .ok (.if_icmp .ge 19, 3) := by decide +kernel
theorem d_RF_readExpression_41 : decode prog_14_method_10_code 41 = .ok (.aload_n 0, 1) := by decide +kernel
theorem d_RF_readExpression_42 : decode prog_14_method_10_code 42 = .ok (.iload 4, 2) := by decide +kernel
theorem d_RF_readExpression_44 : decode prog_14_method_10_code 44 = .ok (.iconst 0, 1) := by decide +kernel
theorem d_RF_readExpression_45 : decode prog_14_method_10_code 45 = .ok (.iconst 0, 1) := by decide +kernel
theorem d_RF_readExpression_46 : decode prog_14_method_10_code 46 = .ok (.iconst 0, 1) := by decide +kernel
theorem d_RF_readExpression_47 : decode prog_14_method_10_code 47 = .ok (.iconst 0, 1) := by decide +kernel
theorem d_RF_readExpression_48 : decode prog_14_method_10_code 48 = .ok (.invokevirtual 131, 3) := by decide +kernel
theorem d_RF_readExpression_51 : decode prog_14_method_10_code 51 = .ok (.iinc 4 1, 3) := by decide +kernel
theorem d_RF_readExpression_54 : decode prog_14_method_10_code 54 = .ok (.goto (-20), 3) := by decide +kernel
theorem d_RF_readExpression_57 : decode prog_14_method_10_code 57 = .ok (.iload_n 1, 1) := by decide +kernel
theorem d_RF_readExpression_58 : decode prog_14_method_10_code 58 = .ok (.istore 4, 2) := by decide +kernel
theorem d_RF_readExpression_60 : decode prog_14_method_10_code 60 = .ok (.iload 4, 2) := by decide +kernel
theorem d_RF_readExpression_62 : decode prog_14_method_10_code 62 = .ok (.aload_n 0, 1) := by decide +kernel
theorem d_RF_readExpression_63 : decode prog_14_method_10_code 63 = .ok (.getfield 119, 3) := by decide +kernel
theorem d_RF_readExpression_66 : decode prog_14_method_10_code 66 = .ok (.if_icmp .ge 246, 3) := by decide +kernel
theorem d_RF_readExpression_69 : decode prog_14_method_10_code 69 = .ok (.aload_n 0, 1) := by decide +kernel
theorem d_RF_readExpression_70 : decode prog_14_method_10_code 70 = .ok (.iload 4, 2) := by decide +kernel
theorem d_RF_readExpression_72 : decode prog_14_method_10_code 72 = .ok (.invokevirtual 123, 3) := by decide +kernel
theorem d_RF_readExpression_75 : decode prog_14_method_10_code 75 = .ok (.istore 5, 2) := by decide +kernel
theorem d_RF_readExpression_77 : decode prog_14_method_10_code 77 = .ok (.iload 5, 2) := by decide +kernel
theorem d_RF_readExpression_79 : decode prog_14_method_10_code 79 = .ok (.bipush 40, 2) := by decide +kernel
theorem d_RF_readExpression_81 : decode prog_14_method_10_code 81 = .ok (.if_icmp .ne 33, 3) := by decide +kernel
theorem d_RF_readExpression_84 : decode prog_14_method_10_code 84 = .ok (.iinc 2 1, 3) := by decide +kernel
theorem d_RF_readExpression_87 : decode prog_14_method_10_code 87 = .ok (.aload_n 0, 1) := by decide +kernel
theorem d_RF_readExpression_88 : decode prog_14_method_10_code 88 = .ok (.iconst 2, 1) := by decide +kernel
theorem d_RF_readExpression_89 : decode prog_14_method_10_code 89 = .ok (.iload_n 2, 1) := by decide +kernel
theorem d_RF_readExpression_90 : decode prog_14_method_10_code 90 = .ok (.imul, 1) := by decide +kernel
theorem d_RF_readExpression_91 : decode prog_14_method_10_code 91 = .ok (.iconst 0, 1) := by decide +kernel
theorem d_RF_readExpression_92 : decode prog_14_method_10_code 92 = .ok (.iconst 0, 1) := by decide +kernel
theorem d_RF_readExpression_93 : decode prog_14_method_10_code 93 = .ok (.iconst 0, 1) := by decide +kernel
theorem d_RF_readExpression_94 : decode prog_14_method_10_code 94 = .ok (.iconst 0, 1) := by decide +kernel
theorem d_RF_readExpression_95 : decode prog_14_method_10_code 95 = .ok (.invokevirtual 131, 3) := by decide +kernel
theorem d_RF_readExpression_98 : decode prog_14_method_10_code 98 = .ok (.aload_n 0, 1) := by decide +kernel
theorem d_RF_readExpression_99 : decode prog_14_method_10_code 99 = .ok (.iconst 2, 1) := by decide +kernel
theorem d_RF_readExpression_100 : decode prog_14_method_10_code 100 = .ok (.iload_n 2, 1) := by decide +kernel
theorem d_RF_readExpression_101 : decode prog_14_method_10_code 101 = .ok (.imul, 1) := by decide +kernel
theorem d_RF_readExpression_102 : decode prog_14_method_10_code 102 = .ok (.iconst 1, 1) := by decide +kernel
theorem d_RF_readExpression_103 : decode prog_14_method_10_code 103 = .ok (.iadd, 1) := by decide +kernel
theorem d_RF_readExpression_104 : decode prog_14_method_10_code 104 = .ok (.iconst 0, 1) := by decide +kernel
theorem d_RF_readExpression_105 : decode prog_14_method_10_code 105 = .ok (.iconst 0, 1) := by decide +kernel
theorem d_RF_readExpression_106 : decode prog_14_method_10_code 106 = .ok (.iconst 0, 1) := by decide +kernel
theorem d_RF_readExpression_107 : decode prog_14_method_10_code 107 = .ok (.iconst 0, 1) := by decide +kernel
theorem d_RF_readExpression_108 : decode prog_14_method_10_code 108 = .ok (.invokevirtual 131, 3) := by decide +kernel
theorem d_RF_readExpression_111 : decode prog_14_method_10_code 111 = .ok (.goto 195, 3) := by decide +kernel
theorem d_RF_readExpression_114 : decode prog_14_method_10_code 114 = .ok (.iload 5, 2) := by decide +kernel
theorem d_RF_readExpression_116 : decode prog_14_method_10_code 116 = .ok (.bipush 124, 2) := by decide +kernel
theorem d_RF_readExpression_118 : decode prog_14_method_10_code 118 = .ok (.if_icmp .ne 11, 3) := by decide +kernel
theorem d_RF_readExpression_121 : decode prog_14_method_10_code 121 = .ok (.aload_n 0, 1) := by decide +kernel
theorem d_RF_readExpression_122 : decode prog_14_method_10_code 122 = .ok (.iload_n 2, 1) := by decide +kernel
theorem d_RF_readExpression_123 : decode prog_14_method_10_code 123 = .ok (.invokevirtual 139, 3) := by decide +kernel
theorem d_RF_readExpression_126 : decode prog_14_method_10_code 126 = .ok (.goto 180, 3) := by decide +kernel
theorem d_RF_readExpression_129 : decode prog_14_method_10_code 129 = .ok (.iload 5, 2) := by decide +kernel
theorem d_RF_readExpression_131 : decode prog_14_method_10_code 131 = .ok (.bipush 44, 2) := by decide +kernel
theorem d_RF_readExpression_133 : decode prog_14_method_10_code 133 = .ok (.if_icmp .eq 173, 3) := by decide +kernel
theorem d_RF_readExpression_136 : decode prog_14_method_10_code 136 = .ok (.iconst 1, 1) := by decide +kernel
theorem d_RF_readExpression_137 : decode prog_14_method_10_code 137 = .ok (.iload_n 3, 1) := by decide +kernel
theorem d_RF_readExpression_138 : decode prog_14_method_10_code 138 = .ok (.ishl, 1) := by decide +kernel
theorem d_RF_readExpression_139 : decode prog_14_method_10_code 139 = .ok (.istore 6, 2) := by decide +kernel
theorem d_RF_readExpression_141 : decode prog_14_method_10_code 141 = .ok (.iload 6, 2) := by decide +kernel
theorem d_RF_readExpression_143 : decode prog_14_method_10_code 143 = .ok (.istore 7, 2) := by decide +kernel
theorem d_RF_readExpression_145 : decode prog_14_method_10_code 145 = .ok (.iconst 0, 1) := by decide +kernel
theorem d_RF_readExpression_146 : decode prog_14_method_10_code 146 = .ok (.istore 8, 2) := by decide +kernel
theorem d_RF_readExpression_148 : decode prog_14_method_10_code 148 = .ok (.iload 5, 2) := by decide +kernel
theorem d_RF_readExpression_150 : decode prog_14_method_10_code 150 = .ok (.bipush 41, 2) := by decide +kernel
theorem d_RF_readExpression_152 : decode prog_14_method_10_code 152 = .ok (.if_icmp .ne 44, 3) := by decide +kernel
theorem d_RF_readExpression_155 : decode prog_14_method_10_code 155 = .ok (.aload_n 0, 1) := by decide +kernel
theorem d_RF_readExpression_156 : decode prog_14_method_10_code 156 = .ok (.iload_n 2, 1) := by decide +kernel
theorem d_RF_readExpression_157 : decode prog_14_method_10_code 157 = .ok (.invokevirtual 139, 3) := by decide +kernel
theorem d_RF_readExpression_160 : decode prog_14_method_10_code 160 = .ok (.aload_n 0, 1) := by decide +kernel
theorem d_RF_readExpression_161 : decode prog_14_method_10_code 161 = .ok (.getfield 41, 3) := by decide +kernel
theorem d_RF_readExpression_164 : decode prog_14_method_10_code 164 = .ok (.iconst 2, 1) := by decide +kernel
theorem d_RF_readExpression_165 : decode prog_14_method_10_code 165 = .ok (.iload_n 2, 1) := by decide +kernel
theorem d_RF_readExpression_166 : decode prog_14_method_10_code 166 = .ok (.imul, 1) := by decide +kernel
theorem d_RF_readExpression_167 : decode prog_14_method_10_code 167 = .ok (.iaload, 1) := by decide +kernel
theorem d_RF_readExpression_168 : decode prog_14_method_10_code 168 = .ok (.istore 6, 2) := by decide +kernel
theorem d_RF_readExpression_170 : decode prog_14_method_10_code 170 = .ok (.aload_n 0, 1) := by decide +kernel
theorem d_RF_readExpression_171 : decode prog_14_method_10_code 171 = .ok (.getfield 44, 3) := by decide +kernel
theorem d_RF_readExpression_174 : decode prog_14_method_10_code 174 = .ok (.iconst 2, 1) := by decide +kernel
theorem d_RF_readExpression_175 : decode prog_14_method_10_code 175 = .ok (.iload_n 2, 1) := by decide +kernel
theorem d_RF_readExpression_176 : decode prog_14_method_10_code 176 = .ok (.imul, 1) := by decide +kernel
theorem d_RF_readExpression_177 : decode prog_14_method_10_code 177 = .ok (.iaload, 1) := by decide +kernel
theorem d_RF_readExpression_178 : decode prog_14_method_10_code 178 = .ok (.istore 7, 2) := by decide +kernel
theorem d_RF_readExpression_180 : decode prog_14_method_10_code 180 = .ok (.aload_n 0, 1) := by decide +kernel
theorem d_RF_readExpression_181 : decode prog_14_method_10_code 181 = .ok (.getfield 47, 3) := by decide +kernel
theorem d_RF_readExpression_184 : decode prog_14_method_10_code 184 = .ok (.iconst 2, 1) := by decide +kernel
theorem d_RF_readExpression_185 : decode prog_14_method_10_code 185 = .ok (.iload_n 2, 1) := by decide +kernel
theorem d_RF_readExpression_186 : decode prog_14_method_10_code 186 = .ok (.imul, 1) := by decide +kernel
theorem d_RF_readExpression_187 : decode prog_14_method_10_code 187 = .ok (.baload, 1) := by decide +kernel
theorem d_RF_readExpression_188 : decode prog_14_method_10_code 188 = .ok (.istore 8, 2) := by decide +kernel
theorem d_RF_readExpression_190 : decode prog_14_method_10_code 190 = .ok (.iinc 2 (-1), 3) := by decide +kernel
theorem d_RF_readExpression_193 : decode prog_14_method_10_code 193 = .ok (.goto 17, 3) := by decide +kernel
theorem d_RF_readExpression_196 : decode prog_14_method_10_code 196 = .ok (.aload_n 0, 1) := by decide +kernel
theorem d_RF_readExpression_197 : decode prog_14_method_10_code 197 = .ok (.getfield 32, 3) := by decide +kernel
theorem d_RF_readExpression_200 : decode prog_14_method_10_code 200 = .ok (.bipush 90, 2) := by decide +kernel
theorem d_RF_readExpression_202 : decode prog_14_method_10_code 202 = .ok (.iload_n 3, 1) := by decide +kernel
theorem d_RF_readExpression_203 : decode prog_14_method_10_code 203 = .ok (.iadd, 1) := by decide +kernel
theorem d_RF_readExpression_204 : decode prog_14_method_10_code 204 = .ok (.iload 5, 2) := by decide +kernel
theorem d_RF_readExpression_206 : decode prog_14_method_10_code 206 = .ok (.iastore, 1) := by decide +kernel
theorem d_RF_readExpression_207 : decode prog_14_method_10_code 207 = .ok (.iinc 3 1, 3) := by decide +kernel
theorem d_RF_readExpression_210 : decode prog_14_method_10_code 210 = .ok (.aload_n 0, 1) := by decide +kernel
theorem d_RF_readExpression_211 : decode prog_14_method_10_code 211 = .ok (.iload 4, 2) := by decide +kernel
theorem d_RF_readExpression_213 : decode prog_14_method_10_code 213 = .ok (.iconst 1, 1) := by decide +kernel
theorem d_RF_readExpression_214 : decode prog_14_method_10_code 214 = .ok (.iadd, 1) := by decide +kernel
theorem d_RF_readExpression_215 : decode prog_14_method_10_code 215 = .ok (.invokevirtual 123, 3) := by decide +kernel
theorem d_RF_readExpression_218 : decode prog_14_method_10_code 218 = .ok (.istore 9, 2) := by decide +kernel
theorem d_RF_readExpression_220 : decode prog_14_method_10_code 220 = .ok (.iload 9, 2) := by decide +kernel
theorem d_RF_readExpression_222 : decode prog_14_method_10_code 222 = .ok (.bipush 42, 2) := by decide +kernel
theorem d_RF_readExpression_224 : decode prog_14_method_10_code 224 = .ok (.if_icmp .eq 10, 3) := by decide +kernel
theorem d_RF_readExpression_227 : decode prog_14_method_10_code 227 = .ok (.iload 9, 2) := by decide +kernel
theorem d_RF_readExpression_229 : decode prog_14_method_10_code 229 = .ok (.bipush 43, 2) := by decide +kernel
theorem d_RF_readExpression_231 : decode prog_14_method_10_code 231 = .ok (.if_icmp .ne 7, 3) := by decide +kernel
theorem d_RF_readExpression_234 : decode prog_14_method_10_code 234 = .ok (.iconst 1, 1) := by decide +kernel
theorem d_RF_readExpression_235 : decode prog_14_method_10_code 235 = .ok (.goto 4, 3) := by decide +kernel
theorem d_RF_readExpression_238 : decode prog_14_method_10_code 238 = .ok (.iconst 0, 1) := by decide +kernel
theorem d_RF_readExpression_239 : decode prog_14_method_10_code 239 = .ok (.istore 10, 2) := by decide +kernel
theorem d_RF_readExpression_241 : decode prog_14_method_10_code 241 = .ok (.iload 10, 2) := by decide +kernel
theorem d_RF_readExpression_243 : decode prog_14_method_10_code 243 = .ok (.ifCond .eq 11, 3) := by decide +kernel
theorem d_RF_readExpression_246 : decode prog_14_method_10_code 246 = .ok (.aload_n 0, 1) := by decide +kernel
theorem d_RF_readExpression_247 : decode prog_14_method_10_code 247 = .ok (.iload 7, 2) := by decide +kernel
theorem d_RF_readExpression_249 : decode prog_14_method_10_code 249 = .ok (.iload 6, 2) := by decide +kernel
theorem d_RF_readExpression_251 : decode prog_14_method_10_code 251 = .ok (.invokevirtual 135, 3) := by decide +kernel
theorem d_RF_readExpression_254 : decode prog_14_method_10_code 254 = .ok (.iload 10, 2) := by decide +kernel
theorem d_RF_readExpression_256 : decode prog_14_method_10_code 256 = .ok (.ifCond .ne 10, 3) := by decide +kernel
theorem d_RF_readExpression_259 : decode prog_14_method_10_code 259 = .ok (.iload 9, 2) := by decide +kernel
theorem d_RF_readExpression_261 : decode prog_14_method_10_code 261 = .ok (.bipush 63, 2) := by decide +kernel
theorem d_RF_readExpression_263 : decode prog_14_method_10_code 263 = .ok (.if_icmp .ne 6, 3) := by decide +kernel
theorem d_RF_readExpression_266 : decode prog_14_method_10_code 266 = .ok (.iinc 4 1, 3) := by decide +kernel
theorem d_RF_readExpression_269 : decode prog_14_method_10_code 269 = .ok (.aload_n 0, 1) := by decide +kernel
theorem d_RF_readExpression_270 : decode prog_14_method_10_code 270 = .ok (.iconst 2, 1) := by decide +kernel
theorem d_RF_readExpression_271 : decode prog_14_method_10_code 271 = .ok (.iload_n 2, 1) := by decide +kernel
theorem d_RF_readExpression_272 : decode prog_14_method_10_code 272 = .ok (.imul, 1) := by decide +kernel
theorem d_RF_readExpression_273 : decode prog_14_method_10_code 273 = .ok (.iconst 1, 1) := by decide +kernel
theorem d_RF_readExpression_274 : decode prog_14_method_10_code 274 = .ok (.iadd, 1) := by decide +kernel
theorem d_RF_readExpression_275 : decode prog_14_method_10_code 275 = .ok (.iload 6, 2) := by decide +kernel
theorem d_RF_readExpression_277 : decode prog_14_method_10_code 277 = .ok (.iload 7, 2) := by decide +kernel
theorem d_RF_readExpression_279 : decode prog_14_method_10_code 279 = .ok (.iload 8, 2) := by decide +kernel
theorem d_RF_readExpression_281 : decode prog_14_method_10_code 281 = .ok (.ifCond .ne 17, 3) := by decide +kernel
theorem d_RF_readExpression_284 : decode prog_14_method_10_code 284 = .ok (.iload 9, 2) := by decide +kernel
theorem d_RF_readExpression_286 : decode prog_14_method_10_code 286 = .ok (.bipush 42, 2) := by decide +kernel
theorem d_RF_readExpression_288 : decode prog_14_method_10_code 288 = .ok (.if_icmp .eq 10, 3) := by decide +kernel
theorem d_RF_readExpression_291 : decode prog_14_method_10_code 291 = .ok (.iload 9, 2) := by decide +kernel
theorem d_RF_readExpression_293 : decode prog_14_method_10_code 293 = .ok (.bipush 63, 2) := by decide +kernel
theorem d_RF_readExpression_295 : decode prog_14_method_10_code 295 = .ok (.if_icmp .ne 7, 3) := by decide +kernel
theorem d_RF_readExpression_298 : decode prog_14_method_10_code 298 = .ok (.iconst 1, 1) := by decide +kernel
theorem d_RF_readExpression_299 : decode prog_14_method_10_code 299 = .ok (.goto 4, 3) := by decide +kernel
theorem d_RF_readExpression_302 : decode prog_14_method_10_code 302 = .ok (.iconst 0, 1) := by decide +kernel
theorem d_RF_readExpression_303 : decode prog_14_method_10_code 303 = .ok (.invokevirtual 143, 3) := by decide +kernel
theorem d_RF_readExpression_306 : decode prog_14_method_10_code 306 = .ok (.iinc 4 1, 3) := by decide +kernel
theorem d_RF_readExpression_309 : decode prog_14_method_10_code 309 = .ok (.goto (-249), 3) := by decide +kernel
theorem d_RF_readExpression_312 : decode prog_14_method_10_code 312 = .ok (.aload_n 0, 1) := by decide +kernel
theorem d_RF_readExpression_313 : decode prog_14_method_10_code 313 = .ok (.iconst 0, 1) := by decide +kernel
theorem d_RF_readExpression_314 : decode prog_14_method_10_code 314 = .ok (.invokevirtual 139, 3) := by decide +kernel
theorem d_RF_readExpression_317 : decode prog_14_method_10_code 317 = .ok (.aload_n 0, 1) := by decide +kernel
theorem d_RF_readExpression_318 : decode prog_14_method_10_code 318 = .ok (.getfield 29, 3) := by decide +kernel
theorem d_RF_readExpression_321 : decode prog_14_method_10_code 321 = .ok (.bipush 9, 2) := by decide +kernel
theorem d_RF_readExpression_323 : decode prog_14_method_10_code 323 = .ok (.iload_n 3, 1) := by decide +kernel
theorem d_RF_readExpression_324 : decode prog_14_method_10_code 324 = .ok (.iastore, 1) := by decide +kernel
theorem d_RF_readExpression_325 : decode prog_14_method_10_code 325 = .ok (.aload_n 0, 1) := by decide +kernel
theorem d_RF_readExpression_326 : decode prog_14_method_10_code 326 = .ok (.getfield 20, 3) := by decide +kernel
theorem d_RF_readExpression_329 : decode prog_14_method_10_code 329 = .ok (.bipush 9, 2) := by decide +kernel
theorem d_RF_readExpression_331 : decode prog_14_method_10_code 331 = .ok (.aload_n 0, 1) := by decide +kernel
theorem d_RF_readExpression_332 : decode prog_14_method_10_code 332 = .ok (.getfield 41, 3) := by decide +kernel
theorem d_RF_readExpression_335 : decode prog_14_method_10_code 335 = .ok (.iconst 0, 1) := by decide +kernel
theorem d_RF_readExpression_336 : decode prog_14_method_10_code 336 = .ok (.iaload, 1) := by decide +kernel
theorem d_RF_readExpression_337 : decode prog_14_method_10_code 337 = .ok (.iastore, 1) := by decide +kernel
theorem d_RF_readExpression_338 : decode prog_14_method_10_code 338 = .ok (.aload_n 0, 1) := by decide +kernel
theorem d_RF_readExpression_339 : decode prog_14_method_10_code 339 = .ok (.getfield 23, 3) := by decide +kernel
theorem d_RF_readExpression_342 : decode prog_14_method_10_code 342 = .ok (.bipush 9, 2) := by decide +kernel
theorem d_RF_readExpression_344 : decode prog_14_method_10_code 344 = .ok (.aload_n 0, 1) := by decide +kernel
theorem d_RF_readExpression_345 : decode prog_14_method_10_code 345 = .ok (.getfield 44, 3) := by decide +kernel
theorem d_RF_readExpression_348 : decode prog_14_method_10_code 348 = .ok (.iconst 0, 1) := by decide +kernel
theorem d_RF_readExpression_349 : decode prog_14_method_10_code 349 = .ok (.iaload, 1) := by decide +kernel
theorem d_RF_readExpression_350 : decode prog_14_method_10_code 350 = .ok (.iastore, 1) := by decide +kernel
theorem d_RF_readExpression_351 : decode prog_14_method_10_code 351 = .ok (.aload_n 0, 1) := by decide +kernel
theorem d_RF_readExpression_352 : decode prog_14_method_10_code 352 = .ok (.getfield 26, 3) := by decide +kernel
theorem d_RF_readExpression_355 : decode prog_14_method_10_code 355 = .ok (.bipush 9, 2) := by decide +kernel
theorem d_RF_readExpression_357 : decode prog_14_method_10_code 357 = .ok (.aload_n 0, 1) := by decide +kernel
theorem d_RF_readExpression_358 : decode prog_14_method_10_code 358 = .ok (.getfield 47, 3) := by decide +kernel
theorem d_RF_readExpression_361 : decode prog_14_method_10_code 361 = .ok (.iconst 0, 1) := by decide +kernel
theorem d_RF_readExpression_362 : decode prog_14_method_10_code 362 = .ok (.baload, 1) := by decide +kernel
theorem d_RF_readExpression_363 : decode prog_14_method_10_code 363 = .ok (.bastore, 1) := by decide +kernel
theorem d_RF_readExpression_364 : decode prog_14_method_10_code 364 = .ok (.return_, 1) := by decide +kernel
theorem d_RF_setPart_0 : decode prog_14_method_7_code 0 = .ok (.aload_n 0, 1) := by decide +kernel
theorem d_RF_setPart_1 : decode prog_14_method_7_code 1 = .ok (.getfield 38, 3) := by decide +kernel
theorem d_RF_setPart_4 : decode prog_14_method_7_code 4 = .ok (.iload_n 1, 1) := by decide +kernel
theorem d_RF_setPart_5 : decode prog_14_method_7_code 5 = .ok (.iload_n 2, 1) := by decide +kernel
theorem d_RF_setPart_6 : decode prog_14_method_7_code 6 = .ok (.bastore, 1) := by decide +kernel
theorem d_RF_setPart_7 : decode prog_14_method_7_code 7 = .ok (.aload_n 0, 1) := by decide +kernel
theorem d_RF_setPart_8 : decode prog_14_method_7_code 8 = .ok (.getfield 41, 3) := by decide +kernel
theorem d_RF_setPart_11 : decode prog_14_method_7_code 11 = .ok (.iload_n 1, 1) := by decide +kernel
theorem d_RF_setPart_12 : decode prog_14_method_7_code 12 = .ok (.iload_n 3, 1) := by decide +kernel
theorem d_RF_setPart_13 : decode prog_14_method_7_code 13 = .ok (.iastore, 1) := by decide +kernel
theorem d_RF_setPart_14 : decode prog_14_method_7_code 14 = .ok (.aload_n 0, 1) := by decide +kernel
theorem d_RF_setPart_15 : decode prog_14_method_7_code 15 = .ok (.getfield 44, 3) := by decide +kernel
theorem d_RF_setPart_18 : decode prog_14_method_7_code 18 = .ok (.iload_n 1, 1) := by decide +kernel
theorem d_RF_setPart_19 : decode prog_14_method_7_code 19 = .ok (.iload 4, 2) := by decide +kernel
theorem d_RF_setPart_21 : decode prog_14_method_7_code 21 = .ok (.iastore, 1) := by decide +kernel
theorem d_RF_setPart_22 : decode prog_14_method_7_code 22 = .ok (.aload_n 0, 1) := by decide +kernel
theorem d_RF_setPart_23 : decode prog_14_method_7_code 23 = .ok (.getfield 47, 3) := by decide +kernel
theorem d_RF_setPart_26 : decode prog_14_method_7_code 26 = .ok (.iload_n 1, 1) := by decide +kernel
theorem d_RF_setPart_27 : decode prog_14_method_7_code 27 = .ok (.iload 5, 2) := by decide +kernel
theorem d_RF_setPart_29 : decode prog_14_method_7_code 29 = .ok (.bastore, 1) := by decide +kernel
theorem d_RF_setPart_30 : decode prog_14_method_7_code 30 = .ok (.return_, 1) := by decide +kernel
theorem d_RF_choose_0 : decode prog_14_method_9_code 0 = .ok (.iconst 2, 1) := by decide +kernel
theorem d_RF_choose_1 : decode prog_14_method_9_code 1 = .ok (.iload_n 1, 1) := by decide +kernel
theorem d_RF_choose_2 : decode prog_14_method_9_code 2 = .ok (.imul, 1) := by decide +kernel
theorem d_RF_choose_3 : decode prog_14_method_9_code 3 = .ok (.istore_n 2, 1) := by decide +kernel
theorem d_RF_choose_4 : decode prog_14_method_9_code 4 = .ok (.iload_n 2, 1) := by decide +kernel
theorem d_RF_choose_5 : decode prog_14_method_9_code 5 = .ok (.iconst 1, 1) := by decide +kernel
theorem d_RF_choose_6 : decode prog_14_method_9_code 6 = .ok (.iadd, 1) := by decide +kernel
theorem d_RF_choose_7 : decode prog_14_method_9_code 7 = .ok (.istore_n 3, 1) := by decide +kernel
theorem d_RF_choose_8 : decode prog_14_method_9_code 8 = .ok (.aload_n 0, 1) := by decide +kernel
theorem d_RF_choose_9 : decode prog_14_method_9_code 9 = .ok (.getfield 38, 3) := by decide +kernel
theorem d_RF_choose_12 : decode prog_14_method_9_code 12 = .ok (.iload_n 2, 1) := by decide +kernel
theorem d_RF_choose_13 : decode prog_14_method_9_code 13 = .ok (.baload, 1) := by decide +kernel
theorem d_RF_choose_14 : decode prog_14_method_9_code 14 = .ok (.istore 4, 2) := by decide +kernel
theorem d_RF_choose_16 : decode prog_14_method_9_code 16 = .ok (.iload 4, 2) := by decide +kernel
theorem d_RF_choose_18 : decode prog_14_method_9_code 18 = .ok (.ifCond .eq 12, 3) := by decide +kernel
theorem d_RF_choose_21 : decode prog_14_method_9_code 21 = .ok (.aload_n 0, 1) := by decide +kernel
theorem d_RF_choose_22 : decode prog_14_method_9_code 22 = .ok (.getfield 47, 3) := by decide +kernel
theorem d_RF_choose_25 : decode prog_14_method_9_code 25 = .ok (.iload_n 2, 1) := by decide +kernel
theorem d_RF_choose_26 : decode prog_14_method_9_code 26 = .ok (.baload, 1) := by decide +kernel
theorem d_RF_choose_27 : decode prog_14_method_9_code 27 = .ok (.ifCond .ne 12, 3) := by decide +kernel
theorem d_RF_choose_30 : decode prog_14_method_9_code 30 = .ok (.aload_n 0, 1) := by decide +kernel
theorem d_RF_choose_31 : decode prog_14_method_9_code 31 = .ok (.getfield 47, 3) := by decide +kernel
theorem d_RF_choose_34 : decode prog_14_method_9_code 34 = .ok (.iload_n 3, 1) := by decide +kernel
theorem d_RF_choose_35 : decode prog_14_method_9_code 35 = .ok (.baload, 1) := by decide +kernel
theorem d_RF_choose_36 : decode prog_14_method_9_code 36 = .ok (.ifCond .eq 7, 3) := by decide +kernel
theorem d_RF_choose_39 : decode prog_14_method_9_code 39 = .ok (.iconst 1, 1) := by decide +kernel
theorem d_RF_choose_40 : decode prog_14_method_9_code 40 = .ok (.goto 4, 3) := by decide +kernel
theorem d_RF_choose_43 : decode prog_14_method_9_code 43 = .ok (.iconst 0, 1) := by decide +kernel
theorem d_RF_choose_44 : decode prog_14_method_9_code 44 = .ok (.istore 5, 2) := by decide +kernel
theorem d_RF_choose_46 : decode prog_14_method_9_code 46 = .ok (.iload 4, 2) := by decide +kernel
theorem d_RF_choose_48 : decode prog_14_method_9_code 48 = .ok (.ifCond .eq 19, 3) := by decide +kernel
theorem d_RF_choose_51 : decode prog_14_method_9_code 51 = .ok (.aload_n 0, 1) := by decide +kernel
theorem d_RF_choose_52 : decode prog_14_method_9_code 52 = .ok (.getfield 41, 3) := by decide +kernel
theorem d_RF_choose_55 : decode prog_14_method_9_code 55 = .ok (.iload_n 2, 1) := by decide +kernel
theorem d_RF_choose_56 : decode prog_14_method_9_code 56 = .ok (.iaload, 1) := by decide +kernel
theorem d_RF_choose_57 : decode prog_14_method_9_code 57 = .ok (.aload_n 0, 1) := by decide +kernel
theorem d_RF_choose_58 : decode prog_14_method_9_code 58 = .ok (.getfield 41, 3) := by decide +kernel
theorem d_RF_choose_61 : decode prog_14_method_9_code 61 = .ok (.iload_n 3, 1) := by decide +kernel
theorem d_RF_choose_62 : decode prog_14_method_9_code 62 = .ok (.iaload, 1) := by decide +kernel
theorem d_RF_choose_63 : decode prog_14_method_9_code 63 = .ok (.ior, 1) := by decide +kernel
theorem d_RF_choose_64 : decode prog_14_method_9_code 64 = .ok (.goto 9, 3) := by decide +kernel
theorem d_RF_choose_67 : decode prog_14_method_9_code 67 = .ok (.aload_n 0, 1) := by decide +kernel
theorem d_RF_choose_68 : decode prog_14_method_9_code 68 = .ok (.getfield 41, 3) := by decide +kernel
theorem d_RF_choose_71 : decode prog_14_method_9_code 71 = .ok (.iload_n 3, 1) := by decide +kernel
theorem d_RF_choose_72 : decode prog_14_method_9_code 72 = .ok (.iaload, 1) := by decide +kernel
theorem d_RF_choose_73 : decode prog_14_method_9_code 73 = .ok (.istore 6, 2) := by decide +kernel
theorem d_RF_choose_75 : decode prog_14_method_9_code 75 = .ok (.iload 4, 2) := by decide +kernel
theorem d_RF_choose_77 : decode prog_14_method_9_code 77 = .ok (.ifCond .eq 19, 3) := by decide +kernel
theorem d_RF_choose_80 : decode prog_14_method_9_code 80 = .ok (.aload_n 0, 1) := by decide +kernel
theorem d_RF_choose_81 : decode prog_14_method_9_code 81 = .ok (.getfield 44, 3) := by decide +kernel
theorem d_RF_choose_84 : decode prog_14_method_9_code 84 = .ok (.iload_n 2, 1) := by decide +kernel
theorem d_RF_choose_85 : decode prog_14_method_9_code 85 = .ok (.iaload, 1) := by decide +kernel
theorem d_RF_choose_86 : decode prog_14_method_9_code 86 = .ok (.aload_n 0, 1) := by decide +kernel
theorem d_RF_choose_87 : decode prog_14_method_9_code 87 = .ok (.getfield 44, 3) := by decide +kernel
theorem d_RF_choose_90 : decode prog_14_method_9_code 90 = .ok (.iload_n 3, 1) := by decide +kernel
theorem d_RF_choose_91 : decode prog_14_method_9_code 91 = .ok (.iaload, 1) := by decide +kernel
theorem d_RF_choose_92 : decode prog_14_method_9_code 92 = .ok (.ior, 1) := by decide +kernel
theorem d_RF_choose_93 : decode prog_14_method_9_code 93 = .ok (.goto 9, 3) := by decide +kernel
theorem d_RF_choose_96 : decode prog_14_method_9_code 96 = .ok (.aload_n 0, 1) := by decide +kernel
theorem d_RF_choose_97 : decode prog_14_method_9_code 97 = .ok (.getfield 44, 3) := by decide +kernel
theorem d_RF_choose_100 : decode prog_14_method_9_code 100 = .ok (.iload_n 3, 1) := by decide +kernel
theorem d_RF_choose_101 : decode prog_14_method_9_code 101 = .ok (.iaload, 1) := by decide +kernel
theorem d_RF_choose_102 : decode prog_14_method_9_code 102 = .ok (.istore 7, 2) := by decide +kernel
theorem d_RF_choose_104 : decode prog_14_method_9_code 104 = .ok (.aload_n 0, 1) := by decide +kernel
theorem d_RF_choose_105 : decode prog_14_method_9_code 105 = .ok (.iload_n 2, 1) := by decide +kernel
theorem d_RF_choose_106 : decode prog_14_method_9_code 106 = .ok (.iconst 1, 1) := by decide +kernel
theorem d_RF_choose_107 : decode prog_14_method_9_code 107 = .ok (.iload 6, 2) := by decide +kernel
theorem d_RF_choose_109 : decode prog_14_method_9_code 109 = .ok (.iload 7, 2) := by decide +kernel
theorem d_RF_choose_111 : decode prog_14_method_9_code 111 = .ok (.iload 5, 2) := by decide +kernel
theorem d_RF_choose_113 : decode prog_14_method_9_code 113 = .ok (.invokevirtual 131, 3) := by decide +kernel
theorem d_RF_choose_116 : decode prog_14_method_9_code 116 = .ok (.aload_n 0, 1) := by decide +kernel
theorem d_RF_choose_117 : decode prog_14_method_9_code 117 = .ok (.iload_n 3, 1) := by decide +kernel
theorem d_RF_choose_118 : decode prog_14_method_9_code 118 = .ok (.iconst 0, 1) := by decide +kernel
theorem d_RF_choose_119 : decode prog_14_method_9_code 119 = .ok (.iconst 0, 1) := by decide +kernel
theorem d_RF_choose_120 : decode prog_14_method_9_code 120 = .ok (.iconst 0, 1) := by decide +kernel
theorem d_RF_choose_121 : decode prog_14_method_9_code 121 = .ok (.iconst 0, 1) := by decide +kernel
theorem d_RF_choose_122 : decode prog_14_method_9_code 122 = .ok (.invokevirtual 131, 3) := by decide +kernel
theorem d_RF_choose_125 : decode prog_14_method_9_code 125 = .ok (.return_, 1) := by decide +kernel
theorem d_RF_link_0 : decode prog_14_method_6_code 0 = .ok (.iconst 0, 1) := by decide +kernel
theorem d_RF_link_1 : decode prog_14_method_6_code 1 = .ok (.istore_n 3, 1) := by decide +kernel
theorem d_RF_link_2 : decode prog_14_method_6_code 2 = .ok (.iload_n 3, 1) := by decide +kernel
theorem d_RF_link_3 : decode prog_14_method_6_code 3 = .ok (.bipush 10, 2) := by decide +kernel
theorem d_RF_link_5 : decode prog_14_method_6_code 5 = .ok (.if_icmp .ge 38, 3) := by decide +kernel
theorem d_RF_link_8 : decode prog_14_method_6_code 8 = .ok (.iload_n 1, 1) := by decide +kernel
theorem d_RF_link_9 : decode prog_14_method_6_code 9 = .ok (.iload_n 3, 1) := by decide +kernel
theorem d_RF_link_10 : decode prog_14_method_6_code 10 = .ok (.ishr, 1) := by decide +kernel
theorem d_RF_link_11 : decode prog_14_method_6_code 11 = .ok (.iconst 1, 1) := by decide +kernel
theorem d_RF_link_12 : decode prog_14_method_6_code 12 = .ok (.iand, 1) := by decide +kernel
theorem d_RF_link_13 : decode prog_14_method_6_code 13 = .ok (.iconst 1, 1) := by decide +kernel
theorem d_RF_link_14 : decode prog_14_method_6_code 14 = .ok (.if_icmp .ne 23, 3) := by decide +kernel
theorem d_RF_link_17 : decode prog_14_method_6_code 17 = .ok (.aload_n 0, 1) := by decide +kernel
theorem d_RF_link_18 : decode prog_14_method_6_code 18 = .ok (.getfield 35, 3) := by decide +kernel
theorem d_RF_link_21 : decode prog_14_method_6_code 21 = .ok (.bipush 90, 2) := by decide +kernel
theorem d_RF_link_23 : decode prog_14_method_6_code 23 = .ok (.iload_n 3, 1) := by decide +kernel
theorem d_RF_link_24 : decode prog_14_method_6_code 24 = .ok (.iadd, 1) := by decide +kernel
theorem d_RF_link_25 : decode prog_14_method_6_code 25 = .ok (.aload_n 0, 1) := by decide +kernel
theorem d_RF_link_26 : decode prog_14_method_6_code 26 = .ok (.getfield 35, 3) := by decide +kernel
theorem d_RF_link_29 : decode prog_14_method_6_code 29 = .ok (.bipush 90, 2) := by decide +kernel
theorem d_RF_link_31 : decode prog_14_method_6_code 31 = .ok (.iload_n 3, 1) := by decide +kernel
theorem d_RF_link_32 : decode prog_14_method_6_code 32 = .ok (.iadd, 1) := by decide +kernel
theorem d_RF_link_33 : decode prog_14_method_6_code 33 = .ok (.iaload, 1) := by decide +kernel
theorem d_RF_link_34 : decode prog_14_method_6_code 34 = .ok (.iload_n 2, 1) := by decide +kernel
theorem d_RF_link_35 : decode prog_14_method_6_code 35 = .ok (.ior, 1) := by decide +kernel
theorem d_RF_link_36 : decode prog_14_method_6_code 36 = .ok (.iastore, 1) := by decide +kernel
theorem d_RF_link_37 : decode prog_14_method_6_code 37 = .ok (.iinc 3 1, 3) := by decide +kernel
theorem d_RF_link_40 : decode prog_14_method_6_code 40 = .ok (.goto (-38), 3) := by decide +kernel
theorem d_RF_link_43 : decode prog_14_method_6_code 43 = .ok (.return_, 1) := by decide +kernel
theorem d_RF_append_0 : decode prog_14_method_8_code 0 = .ok (.aload_n 0, 1) := by decide +kernel
theorem d_RF_append_1 : decode prog_14_method_8_code 1 = .ok (.getfield 38, 3) := by decide +kernel
theorem d_RF_append_4 : decode prog_14_method_8_code 4 = .ok (.iload_n 1, 1) := by decide +kernel
theorem d_RF_append_5 : decode prog_14_method_8_code 5 = .ok (.baload, 1) := by decide +kernel
theorem d_RF_append_6 : decode prog_14_method_8_code 6 = .ok (.ifCond .ne 14, 3) := by decide +kernel
theorem d_RF_append_9 : decode prog_14_method_8_code 9 = .ok (.aload_n 0, 1) := by decide +kernel
theorem d_RF_append_10 : decode prog_14_method_8_code 10 = .ok (.iload_n 1, 1) := by decide +kernel
theorem d_RF_append_11 : decode prog_14_method_8_code 11 = .ok (.iconst 1, 1) := by decide +kernel
theorem d_RF_append_12 : decode prog_14_method_8_code 12 = .ok (.iload_n 2, 1) := by decide +kernel
theorem d_RF_append_13 : decode prog_14_method_8_code 13 = .ok (.iload_n 3, 1) := by decide +kernel
theorem d_RF_append_14 : decode prog_14_method_8_code 14 = .ok (.iload 4, 2) := by decide +kernel
theorem d_RF_append_16 : decode prog_14_method_8_code 16 = .ok (.invokevirtual 131, 3) := by decide +kernel
theorem d_RF_append_19 : decode prog_14_method_8_code 19 = .ok (.return_, 1) := by decide +kernel
theorem d_RF_append_20 : decode prog_14_method_8_code 20 = .ok (.aload_n 0, 1) := by decide +kernel
theorem d_RF_append_21 : decode prog_14_method_8_code 21 = .ok (.aload_n 0, 1) := by decide +kernel
theorem d_RF_append_22 : decode prog_14_method_8_code 22 = .ok (.getfield 44, 3) := by decide +kernel
theorem d_RF_append_25 : decode prog_14_method_8_code 25 = .ok (.iload_n 1, 1) := by decide +kernel
theorem d_RF_append_26 : decode prog_14_method_8_code 26 = .ok (.iaload, 1) := by decide +kernel
theorem d_RF_append_27 : decode prog_14_method_8_code 27 = .ok (.iload_n 2, 1) := by decide +kernel
theorem d_RF_append_28 : decode prog_14_method_8_code 28 = .ok (.invokevirtual 135, 3) := by decide +kernel
theorem d_RF_append_31 : decode prog_14_method_8_code 31 = .ok (.aload_n 0, 1) := by decide +kernel
theorem d_RF_append_32 : decode prog_14_method_8_code 32 = .ok (.getfield 47, 3) := by decide +kernel
theorem d_RF_append_35 : decode prog_14_method_8_code 35 = .ok (.iload_n 1, 1) := by decide +kernel
theorem d_RF_append_36 : decode prog_14_method_8_code 36 = .ok (.baload, 1) := by decide +kernel
theorem d_RF_append_37 : decode prog_14_method_8_code 37 = .ok (.ifCond .eq 14, 3) := by decide +kernel
theorem d_RF_append_40 : decode prog_14_method_8_code 40 = .ok (.aload_n 0, 1) := by decide +kernel
theorem d_RF_append_41 : decode prog_14_method_8_code 41 = .ok (.getfield 41, 3) := by decide +kernel
theorem d_RF_append_44 : decode prog_14_method_8_code 44 = .ok (.iload_n 1, 1) := by decide +kernel
theorem d_RF_append_45 : decode prog_14_method_8_code 45 = .ok (.iaload, 1) := by decide +kernel
theorem d_RF_append_46 : decode prog_14_method_8_code 46 = .ok (.iload_n 2, 1) := by decide +kernel
theorem d_RF_append_47 : decode prog_14_method_8_code 47 = .ok (.ior, 1) := by decide +kernel
theorem d_RF_append_48 : decode prog_14_method_8_code 48 = .ok (.goto 9, 3) := by decide +kernel
theorem d_RF_append_51 : decode prog_14_method_8_code 51 = .ok (.aload_n 0, 1) := by decide +kernel
theorem d_RF_append_52 : decode prog_14_method_8_code 52 = .ok (.getfield 41, 3) := by decide +kernel
theorem d_RF_append_55 : decode prog_14_method_8_code 55 = .ok (.iload_n 1, 1) := by decide +kernel
theorem d_RF_append_56 : decode prog_14_method_8_code 56 = .ok (.iaload, 1) := by decide +kernel
theorem d_RF_append_57 : decode prog_14_method_8_code 57 = .ok (.istore 5, 2) := by decide +kernel
theorem d_RF_append_59 : decode prog_14_method_8_code 59 = .ok (.iload 4, 2) := by decide +kernel
theorem d_RF_append_61 : decode prog_14_method_8_code 61 = .ok (.ifCond .eq 14, 3) := by decide +kernel
theorem d_RF_append_64 : decode prog_14_method_8_code 64 = .ok (.aload_n 0, 1) := by decide +kernel
theorem d_RF_append_65 : decode prog_14_method_8_code 65 = .ok (.getfield 44, 3) := by decide +kernel
theorem d_RF_append_68 : decode prog_14_method_8_code 68 = .ok (.iload_n 1, 1) := by decide +kernel
theorem d_RF_append_69 : decode prog_14_method_8_code 69 = .ok (.iaload, 1) := by decide +kernel
theorem d_RF_append_70 : decode prog_14_method_8_code 70 = .ok (.iload_n 3, 1) := by decide +kernel
theorem d_RF_append_71 : decode prog_14_method_8_code 71 = .ok (.ior, 1) := by decide +kernel
theorem d_RF_append_72 : decode prog_14_method_8_code 72 = .ok (.goto 4, 3) := by decide +kernel
theorem d_RF_append_75 : decode prog_14_method_8_code 75 = .ok (.iload_n 3, 1) := by decide +kernel
theorem d_RF_append_76 : decode prog_14_method_8_code 76 = .ok (.istore 6, 2) := by decide +kernel
theorem d_RF_append_78 : decode prog_14_method_8_code 78 = .ok (.aload_n 0, 1) := by decide +kernel
theorem d_RF_append_79 : decode prog_14_method_8_code 79 = .ok (.iload_n 1, 1) := by decide +kernel
theorem d_RF_append_80 : decode prog_14_method_8_code 80 = .ok (.iconst 1, 1) := by decide +kernel
theorem d_RF_append_81 : decode prog_14_method_8_code 81 = .ok (.iload 5, 2) := by decide +kernel
theorem d_RF_append_83 : decode prog_14_method_8_code 83 = .ok (.iload 6, 2) := by decide +kernel
theorem d_RF_append_85 : decode prog_14_method_8_code 85 = .ok (.aload_n 0, 1) := by decide +kernel
theorem d_RF_append_86 : decode prog_14_method_8_code 86 = .ok (.getfield 47, 3) := by decide +kernel
theorem d_RF_append_89 : decode prog_14_method_8_code 89 = .ok (.iload_n 1, 1) := by decide +kernel
theorem d_RF_append_90 : decode prog_14_method_8_code 90 = .ok (.baload, 1) := by decide +kernel
theorem d_RF_append_91 : decode prog_14_method_8_code 91 = .ok (.ifCond .eq 12, 3) := by decide +kernel
theorem d_RF_append_94 : decode prog_14_method_8_code 94 = .ok (.iload 4, 2) := by decide +kernel
theorem d_RF_append_96 : decode prog_14_method_8_code 96 = .ok (.ifCond .eq 7, 3) := by decide +kernel
theorem d_RF_append_99 : decode prog_14_method_8_code 99 = .ok (.iconst 1, 1) := by decide +kernel
theorem d_RF_append_100 : decode prog_14_method_8_code 100 = .ok (.goto 4, 3) := by decide +kernel
theorem d_RF_append_103 : decode prog_14_method_8_code 103 = .ok (.iconst 0, 1) := by decide +kernel
theorem d_RF_append_104 : decode prog_14_method_8_code 104 = .ok (.invokevirtual 131, 3) := by decide +kernel
theorem d_RF_append_107 : decode prog_14_method_8_code 107 = .ok (.return_, 1) := by decide +kernel
theorem d_RF_fertile_0 : decode prog_14_method_19_code 0 = .ok (.iconst 0, 1) := by decide +kernel
theorem d_RF_fertile_1 : decode prog_14_method_19_code 1 = .ok (.istore_n 1, 1) := by decide +kernel
theorem d_RF_fertile_2 : decode prog_14_method_19_code 2 = .ok (.iconst 0, 1) := by decide +kernel
theorem d_RF_fertile_3 : decode prog_14_method_19_code 3 = .ok (.istore_n 2, 1) := by decide +kernel
theorem d_RF_fertile_4 : decode prog_14_method_19_code 4 = .ok (.iload_n 2, 1) := by decide +kernel
theorem d_RF_fertile_5 : decode prog_14_method_19_code 5 = .ok (.bipush 9, 2) := by decide +kernel
theorem d_RF_fertile_7 : decode prog_14_method_19_code 7 = .ok (.if_icmp .ge 55, 3) := by decide +kernel
theorem d_RF_fertile_10 : decode prog_14_method_19_code 10 = .ok (.iconst 0, 1) := by decide +kernel
theorem d_RF_fertile_11 : decode prog_14_method_19_code 11 = .ok (.istore_n 3, 1) := by decide +kernel
theorem d_RF_fertile_12 : decode prog_14_method_19_code 12 = .ok (.iload_n 3, 1) := by decide +kernel
theorem d_RF_fertile_13 : decode prog_14_method_19_code 13 = .ok (.bipush 8, 2) := by decide +kernel
theorem d_RF_fertile_15 : decode prog_14_method_19_code 15 = .ok (.if_icmp .ge 41, 3) := by decide +kernel
theorem d_RF_fertile_18 : decode prog_14_method_19_code 18 = .ok (.aload_n 0, 1) := by decide +kernel
theorem d_RF_fertile_19 : decode prog_14_method_19_code 19 = .ok (.getfield 13, 3) := by decide +kernel
theorem d_RF_fertile_22 : decode prog_14_method_19_code 22 = .ok (.iload_n 3, 1) := by decide +kernel
theorem d_RF_fertile_23 : decode prog_14_method_19_code 23 = .ok (.baload, 1) := by decide +kernel
theorem d_RF_fertile_24 : decode prog_14_method_19_code 24 = .ok (.ifCond .eq 26, 3) := by decide +kernel
theorem d_RF_fertile_27 : decode prog_14_method_19_code 27 = .ok (.aload_n 0, 1) := by decide +kernel
theorem d_RF_fertile_28 : decode prog_14_method_19_code 28 = .ok (.iload_n 3, 1) := by decide +kernel
theorem d_RF_fertile_29 : decode prog_14_method_19_code 29 = .ok (.aload_n 0, 1) := by decide +kernel
theorem d_RF_fertile_30 : decode prog_14_method_19_code 30 = .ok (.iload_n 3, 1) := by decide +kernel
theorem d_RF_fertile_31 : decode prog_14_method_19_code 31 = .ok (.sipush 1024, 3) := by decide +kernel
theorem d_RF_fertile_34 : decode prog_14_method_19_code 34 = .ok (.iload_n 1, 1) := by decide +kernel
theorem d_RF_fertile_35 : decode prog_14_method_19_code 35 = .ok (.invokevirtual 172, 3) := by decide +kernel
theorem d_RF_fertile_38 : decode prog_14_method_19_code 38 = .ok (.invokevirtual 175, 3) := by decide +kernel
theorem d_RF_fertile_41 : decode prog_14_method_19_code 41 = .ok (.ifCond .eq 9, 3) := by decide +kernel
theorem d_RF_fertile_44 : decode prog_14_method_19_code 44 = .ok (.iload_n 1, 1) := by decide +kernel
theorem d_RF_fertile_45 : decode prog_14_method_19_code 45 = .ok (.iconst 1, 1) := by decide +kernel
theorem d_RF_fertile_46 : decode prog_14_method_19_code 46 = .ok (.iload_n 3, 1) := by decide +kernel
theorem d_RF_fertile_47 : decode prog_14_method_19_code 47 = .ok (.ishl, 1) := by decide +kernel
theorem d_RF_fertile_48 : decode prog_14_method_19_code 48 = .ok (.ior, 1) := by decide +kernel
theorem d_RF_fertile_49 : decode prog_14_method_19_code 49 = .ok (.istore_n 1, 1) := by decide +kernel
theorem d_RF_fertile_50 : decode prog_14_method_19_code 50 = .ok (.iinc 3 1, 3) := by decide +kernel
theorem d_RF_fertile_53 : decode prog_14_method_19_code 53 = .ok (.goto (-41), 3) := by decide +kernel
theorem d_RF_fertile_56 : decode prog_14_method_19_code 56 = .ok (.iinc 2 1, 3) := by decide +kernel
theorem d_RF_fertile_59 : decode prog_14_method_19_code 59 = .ok (.goto (-55), 3) := by decide +kernel
theorem d_RF_fertile_62 : decode prog_14_method_19_code 62 = .ok (.iload_n 1, 1) := by decide +kernel
theorem d_RF_fertile_63 : decode prog_14_method_19_code 63 = .ok (.ireturn, 1) := by decide +kernel
theorem d_RF_steps_0 : decode prog_14_method_18_code 0 = .ok (.iload_n 2, 1) := by decide +kernel
theorem d_RF_steps_1 : decode prog_14_method_18_code 1 = .ok (.istore 4, 2) := by decide +kernel
theorem d_RF_steps_3 : decode prog_14_method_18_code 3 = .ok (.iconst 0, 1) := by decide +kernel
theorem d_RF_steps_4 : decode prog_14_method_18_code 4 = .ok (.istore 5, 2) := by decide +kernel
theorem d_RF_steps_6 : decode prog_14_method_18_code 6 = .ok (.iload 5, 2) := by decide +kernel
theorem d_RF_steps_8 : decode prog_14_method_18_code 8 = .ok (.bipush 11, 2) := by decide +kernel
theorem d_RF_steps_10 : decode prog_14_method_18_code 10 = .ok (.if_icmp .ge 22, 3) := by decide +kernel
theorem d_RF_steps_13 : decode prog_14_method_18_code 13 = .ok (.iload 4, 2) := by decide +kernel
theorem d_RF_steps_15 : decode prog_14_method_18_code 15 = .ok (.aload_n 0, 1) := by decide +kernel
theorem d_RF_steps_16 : decode prog_14_method_18_code 16 = .ok (.iload_n 1, 1) := by decide +kernel
theorem d_RF_steps_17 : decode prog_14_method_18_code 17 = .ok (.iload 4, 2) := by decide +kernel
theorem d_RF_steps_19 : decode prog_14_method_18_code 19 = .ok (.iload_n 3, 1) := by decide +kernel
theorem d_RF_steps_20 : decode prog_14_method_18_code 20 = .ok (.invokevirtual 168, 3) := by decide +kernel
theorem d_RF_steps_23 : decode prog_14_method_18_code 23 = .ok (.ior, 1) := by decide +kernel
theorem d_RF_steps_24 : decode prog_14_method_18_code 24 = .ok (.istore 4, 2) := by decide +kernel
theorem d_RF_steps_26 : decode prog_14_method_18_code 26 = .ok (.iinc 5 1, 3) := by decide +kernel
theorem d_RF_steps_29 : decode prog_14_method_18_code 29 = .ok (.goto (-23), 3) := by decide +kernel
theorem d_RF_steps_32 : decode prog_14_method_18_code 32 = .ok (.iload 4, 2) := by decide +kernel
theorem d_RF_steps_34 : decode prog_14_method_18_code 34 = .ok (.ireturn, 1) := by decide +kernel
theorem d_RF_step_0 : decode prog_14_method_16_code 0 = .ok (.aload_n 0, 1) := by decide +kernel
theorem d_RF_step_1 : decode prog_14_method_16_code 1 = .ok (.iload_n 1, 1) := by decide +kernel
theorem d_RF_step_2 : decode prog_14_method_16_code 2 = .ok (.iload_n 2, 1) := by decide +kernel
theorem d_RF_step_3 : decode prog_14_method_16_code 3 = .ok (.invokevirtual 164, 3) := by decide +kernel
theorem d_RF_step_6 : decode prog_14_method_16_code 6 = .ok (.istore 4, 2) := by decide +kernel
theorem d_RF_step_8 : decode prog_14_method_16_code 8 = .ok (.iconst 0, 1) := by decide +kernel
theorem d_RF_step_9 : decode prog_14_method_16_code 9 = .ok (.istore 5, 2) := by decide +kernel
theorem d_RF_step_11 : decode prog_14_method_16_code 11 = .ok (.iload 5, 2) := by decide +kernel
theorem d_RF_step_13 : decode prog_14_method_16_code 13 = .ok (.aload_n 0, 1) := by decide +kernel
theorem d_RF_step_14 : decode prog_14_method_16_code 14 = .ok (.getfield 29, 3) := by decide +kernel
theorem d_RF_step_17 : decode prog_14_method_16_code 17 = .ok (.iload_n 1, 1) := by decide +kernel
theorem d_RF_step_18 : decode prog_14_method_16_code 18 = .ok (.iaload, 1) := by decide +kernel
theorem d_RF_step_19 : decode prog_14_method_16_code 19 = .ok (.if_icmp .ge 42, 3) := by decide +kernel
theorem d_RF_step_22 : decode prog_14_method_16_code 22 = .ok (.iload_n 3, 1) := by decide +kernel
theorem d_RF_step_23 : decode prog_14_method_16_code 23 = .ok (.aload_n 0, 1) := by decide +kernel
theorem d_RF_step_24 : decode prog_14_method_16_code 24 = .ok (.getfield 32, 3) := by decide +kernel
theorem d_RF_step_27 : decode prog_14_method_16_code 27 = .ok (.bipush 10, 2) := by decide +kernel
theorem d_RF_step_29 : decode prog_14_method_16_code 29 = .ok (.iload_n 1, 1) := by decide +kernel
theorem d_RF_step_30 : decode prog_14_method_16_code 30 = .ok (.imul, 1) := by decide +kernel
theorem d_RF_step_31 : decode prog_14_method_16_code 31 = .ok (.iload 5, 2) := by decide +kernel
theorem d_RF_step_33 : decode prog_14_method_16_code 33 = .ok (.iadd, 1) := by decide +kernel
theorem d_RF_step_34 : decode prog_14_method_16_code 34 = .ok (.iaload, 1) := by decide +kernel
theorem d_RF_step_35 : decode prog_14_method_16_code 35 = .ok (.bipush 97, 2) := by decide +kernel
theorem d_RF_step_37 : decode prog_14_method_16_code 37 = .ok (.isub, 1) := by decide +kernel
theorem d_RF_step_38 : decode prog_14_method_16_code 38 = .ok (.ishr, 1) := by decide +kernel
theorem d_RF_step_39 : decode prog_14_method_16_code 39 = .ok (.iconst 1, 1) := by decide +kernel
theorem d_RF_step_40 : decode prog_14_method_16_code 40 = .ok (.iand, 1) := by decide +kernel
theorem d_RF_step_41 : decode prog_14_method_16_code 41 = .ok (.ifCond .ne 14, 3) := by decide +kernel
theorem d_RF_step_44 : decode prog_14_method_16_code 44 = .ok (.iload 4, 2) := by decide +kernel
theorem d_RF_step_46 : decode prog_14_method_16_code 46 = .ok (.iconst 1, 1) := by decide +kernel
theorem d_RF_step_47 : decode prog_14_method_16_code 47 = .ok (.iload 5, 2) := by decide +kernel
theorem d_RF_step_49 : decode prog_14_method_16_code 49 = .ok (.ishl, 1) := by decide +kernel
theorem d_RF_step_50 : decode prog_14_method_16_code 50 = .ok (.iconst (-1), 1) := by decide +kernel
theorem d_RF_step_51 : decode prog_14_method_16_code 51 = .ok (.ixor, 1) := by decide +kernel
theorem d_RF_step_52 : decode prog_14_method_16_code 52 = .ok (.iand, 1) := by decide +kernel
theorem d_RF_step_53 : decode prog_14_method_16_code 53 = .ok (.istore 4, 2) := by decide +kernel
theorem d_RF_step_55 : decode prog_14_method_16_code 55 = .ok (.iinc 5 1, 3) := by decide +kernel
theorem d_RF_step_58 : decode prog_14_method_16_code 58 = .ok (.goto (-47), 3) := by decide +kernel
theorem d_RF_step_61 : decode prog_14_method_16_code 61 = .ok (.iload 4, 2) := by decide +kernel
theorem d_RF_step_63 : decode prog_14_method_16_code 63 = .ok (.ireturn, 1) := by decide +kernel
theorem d_RF_next_0 : decode prog_14_method_15_code 0 = .ok (.iload_n 2, 1) := by decide +kernel
theorem d_RF_next_1 : decode prog_14_method_15_code 1 = .ok (.sipush 1024, 3) := by decide +kernel
theorem d_RF_next_4 : decode prog_14_method_15_code 4 = .ok (.iand, 1) := by decide +kernel
theorem d_RF_next_5 : decode prog_14_method_15_code 5 = .ok (.ifCond .eq 12, 3) := by decide +kernel
theorem d_RF_next_8 : decode prog_14_method_15_code 8 = .ok (.aload_n 0, 1) := by decide +kernel
theorem d_RF_next_9 : decode prog_14_method_15_code 9 = .ok (.getfield 20, 3) := by decide +kernel
theorem d_RF_next_12 : decode prog_14_method_15_code 12 = .ok (.iload_n 1, 1) := by decide +kernel
theorem d_RF_next_13 : decode prog_14_method_15_code 13 = .ok (.iaload, 1) := by decide +kernel
theorem d_RF_next_14 : decode prog_14_method_15_code 14 = .ok (.goto 4, 3) := by decide +kernel
theorem d_RF_next_17 : decode prog_14_method_15_code 17 = .ok (.iconst 0, 1) := by decide +kernel
theorem d_RF_next_18 : decode prog_14_method_15_code 18 = .ok (.istore_n 3, 1) := by decide +kernel
theorem d_RF_next_19 : decode prog_14_method_15_code 19 = .ok (.iconst 0, 1) := by decide +kernel
theorem d_RF_next_20 : decode prog_14_method_15_code 20 = .ok (.istore 4, 2) := by decide +kernel
theorem d_RF_next_22 : decode prog_14_method_15_code 22 = .ok (.iload 4, 2) := by decide +kernel
theorem d_RF_next_24 : decode prog_14_method_15_code 24 = .ok (.aload_n 0, 1) := by decide +kernel
theorem d_RF_next_25 : decode prog_14_method_15_code 25 = .ok (.getfield 29, 3) := by decide +kernel
theorem d_RF_next_28 : decode prog_14_method_15_code 28 = .ok (.iload_n 1, 1) := by decide +kernel
theorem d_RF_next_29 : decode prog_14_method_15_code 29 = .ok (.iaload, 1) := by decide +kernel
theorem d_RF_next_30 : decode prog_14_method_15_code 30 = .ok (.if_icmp .ge 34, 3) := by decide +kernel
theorem d_RF_next_33 : decode prog_14_method_15_code 33 = .ok (.iload_n 2, 1) := by decide +kernel
theorem d_RF_next_34 : decode prog_14_method_15_code 34 = .ok (.iload 4, 2) := by decide +kernel
theorem d_RF_next_36 : decode prog_14_method_15_code 36 = .ok (.ishr, 1) := by decide +kernel
theorem d_RF_next_37 : decode prog_14_method_15_code 37 = .ok (.iconst 1, 1) := by decide +kernel
theorem d_RF_next_38 : decode prog_14_method_15_code 38 = .ok (.iand, 1) := by decide +kernel
theorem d_RF_next_39 : decode prog_14_method_15_code 39 = .ok (.iconst 1, 1) := by decide +kernel
theorem d_RF_next_40 : decode prog_14_method_15_code 40 = .ok (.if_icmp .ne 18, 3) := by decide +kernel
theorem d_RF_next_43 : decode prog_14_method_15_code 43 = .ok (.iload_n 3, 1) := by decide +kernel
theorem d_RF_next_44 : decode prog_14_method_15_code 44 = .ok (.aload_n 0, 1) := by decide +kernel
theorem d_RF_next_45 : decode prog_14_method_15_code 45 = .ok (.getfield 35, 3) := by decide +kernel
theorem d_RF_next_48 : decode prog_14_method_15_code 48 = .ok (.bipush 10, 2) := by decide +kernel
theorem d_RF_next_50 : decode prog_14_method_15_code 50 = .ok (.iload_n 1, 1) := by decide +kernel
theorem d_RF_next_51 : decode prog_14_method_15_code 51 = .ok (.imul, 1) := by decide +kernel
theorem d_RF_next_52 : decode prog_14_method_15_code 52 = .ok (.iload 4, 2) := by decide +kernel
theorem d_RF_next_54 : decode prog_14_method_15_code 54 = .ok (.iadd, 1) := by decide +kernel
theorem d_RF_next_55 : decode prog_14_method_15_code 55 = .ok (.iaload, 1) := by decide +kernel
theorem d_RF_next_56 : decode prog_14_method_15_code 56 = .ok (.ior, 1) := by decide +kernel
theorem d_RF_next_57 : decode prog_14_method_15_code 57 = .ok (.istore_n 3, 1) := by decide +kernel
theorem d_RF_next_58 : decode prog_14_method_15_code 58 = .ok (.iinc 4 1, 3) := by decide +kernel
theorem d_RF_next_61 : decode prog_14_method_15_code 61 = .ok (.goto (-39), 3) := by decide +kernel
theorem d_RF_next_64 : decode prog_14_method_15_code 64 = .ok (.iload_n 3, 1) := by decide +kernel
theorem d_RF_next_65 : decode prog_14_method_15_code 65 = .ok (.ireturn, 1) := by decide +kernel
theorem d_RF_accepts_0 : decode prog_14_method_17_code 0 = .ok (.iload_n 2, 1) := by decide +kernel
theorem d_RF_accepts_1 : decode prog_14_method_17_code 1 = .ok (.aload_n 0, 1) := by decide +kernel
theorem d_RF_accepts_2 : decode prog_14_method_17_code 2 = .ok (.getfield 23, 3) := by decide +kernel
theorem d_RF_accepts_5 : decode prog_14_method_17_code 5 = .ok (.iload_n 1, 1) := by decide +kernel
theorem d_RF_accepts_6 : decode prog_14_method_17_code 6 = .ok (.iaload, 1) := by decide +kernel
theorem d_RF_accepts_7 : decode prog_14_method_17_code 7 = .ok (.iand, 1) := by decide +kernel
theorem d_RF_accepts_8 : decode prog_14_method_17_code 8 = .ok (.ifCond .ne 20, 3) := by decide +kernel
theorem d_RF_accepts_11 : decode prog_14_method_17_code 11 = .ok (.iload_n 2, 1) := by decide +kernel
theorem d_RF_accepts_12 : decode prog_14_method_17_code 12 = .ok (.sipush 1024, 3) := by decide +kernel
theorem d_RF_accepts_15 : decode prog_14_method_17_code 15 = .ok (.iand, 1) := by decide +kernel
theorem d_RF_accepts_16 : decode prog_14_method_17_code 16 = .ok (.ifCond .eq 16, 3) := by decide +kernel
theorem d_RF_accepts_19 : decode prog_14_method_17_code 19 = .ok (.aload_n 0, 1) := by decide +kernel
theorem d_RF_accepts_20 : decode prog_14_method_17_code 20 = .ok (.getfield 26, 3) := by decide +kernel
theorem d_RF_accepts_23 : decode prog_14_method_17_code 23 = .ok (.iload_n 1, 1) := by decide +kernel
theorem d_RF_accepts_24 : decode prog_14_method_17_code 24 = .ok (.baload, 1) := by decide +kernel
theorem d_RF_accepts_25 : decode prog_14_method_17_code 25 = .ok (.ifCond .eq 7, 3) := by decide +kernel
theorem d_RF_accepts_28 : decode prog_14_method_17_code 28 = .ok (.iconst 1, 1) := by decide +kernel
theorem d_RF_accepts_29 : decode prog_14_method_17_code 29 = .ok (.goto 4, 3) := by decide +kernel
theorem d_RF_accepts_32 : decode prog_14_method_17_code 32 = .ok (.iconst 0, 1) := by decide +kernel
theorem d_RF_accepts_33 : decode prog_14_method_17_code 33 = .ok (.ireturn, 1) := by decide +kernel
theorem d_RF_insert_0 : decode prog_14_method_46_code 0 = .ok (.aload_n 0, 1) := by decide +kernel
theorem d_RF_insert_1 : decode prog_14_method_46_code 1 = .ok (.getfield 261, 3) := by decide +kernel
theorem d_RF_insert_4 : decode prog_14_method_46_code 4 = .ok (.bipush 12, 2) := by decide +kernel
theorem d_RF_insert_6 : decode prog_14_method_46_code 6 = .ok (.if_icmp .ne 5, 3) := by decide +kernel
theorem d_RF_insert_9 : decode prog_14_method_46_code 9 = .ok (.iconst 0, 1) := by decide +kernel
theorem d_RF_insert_10 : decode prog_14_method_46_code 10 = .ok (.ireturn, 1) := by decide +kernel
theorem d_RF_insert_11 : decode prog_14_method_46_code 11 = .ok (.aload_n 0, 1) := by decide +kernel
theorem d_RF_insert_12 : decode prog_14_method_46_code 12 = .ok (.iconst 0, 1) := by decide +kernel
theorem d_RF_insert_13 : decode prog_14_method_46_code 13 = .ok (.iload_n 1, 1) := by decide +kernel
theorem d_RF_insert_14 : decode prog_14_method_46_code 14 = .ok (.iload_n 2, 1) := by decide +kernel
theorem d_RF_insert_15 : decode prog_14_method_46_code 15 = .ok (.iconst 0, 1) := by decide +kernel
theorem d_RF_insert_16 : decode prog_14_method_46_code 16 = .ok (.iconst 0, 1) := by decide +kernel
theorem d_RF_insert_17 : decode prog_14_method_46_code 17 = .ok (.invokevirtual 264, 3) := by decide +kernel
theorem d_RF_insert_20 : decode prog_14_method_46_code 20 = .ok (.iconst 1, 1) := by decide +kernel
theorem d_RF_insert_21 : decode prog_14_method_46_code 21 = .ok (.ireturn, 1) := by decide +kernel
theorem d_RF_post_0 : decode prog_14_method_45_code 0 = .ok (.aload_n 0, 1) := by decide +kernel
theorem d_RF_post_1 : decode prog_14_method_45_code 1 = .ok (.getfield 95, 3) := by decide +kernel
theorem d_RF_post_4 : decode prog_14_method_45_code 4 = .ok (.aload_n 0, 1) := by decide +kernel
theorem d_RF_post_5 : decode prog_14_method_45_code 5 = .ok (.getfield 261, 3) := by decide +kernel
theorem d_RF_post_8 : decode prog_14_method_45_code 8 = .ok (.iload_n 1, 1) := by decide +kernel
theorem d_RF_post_9 : decode prog_14_method_45_code 9 = .ok (.iastore, 1) := by decide +kernel
theorem d_RF_post_10 : decode prog_14_method_45_code 10 = .ok (.aload_n 0, 1) := by decide +kernel
theorem d_RF_post_11 : decode prog_14_method_45_code 11 = .ok (.getfield 98, 3) := by decide +kernel
theorem d_RF_post_14 : decode prog_14_method_45_code 14 = .ok (.aload_n 0, 1) := by decide +kernel
theorem d_RF_post_15 : decode prog_14_method_45_code 15 = .ok (.getfield 261, 3) := by decide +kernel
theorem d_RF_post_18 : decode prog_14_method_45_code 18 = .ok (.iload_n 2, 1) := by decide +kernel
theorem d_RF_post_19 : decode prog_14_method_45_code 19 = .ok (.iastore, 1) := by decide +kernel
theorem d_RF_post_20 : decode prog_14_method_45_code 20 = .ok (.aload_n 0, 1) := by decide +kernel
theorem d_RF_post_21 : decode prog_14_method_45_code 21 = .ok (.getfield 101, 3) := by decide +kernel
theorem d_RF_post_24 : decode prog_14_method_45_code 24 = .ok (.aload_n 0, 1) := by decide +kernel
theorem d_RF_post_25 : decode prog_14_method_45_code 25 = .ok (.getfield 261, 3) := by decide +kernel
theorem d_RF_post_28 : decode prog_14_method_45_code 28 = .ok (.iload_n 3, 1) := by decide +kernel
theorem d_RF_post_29 : decode prog_14_method_45_code 29 = .ok (.iastore, 1) := by decide +kernel
theorem d_RF_post_30 : decode prog_14_method_45_code 30 = .ok (.aload_n 0, 1) := by decide +kernel
theorem d_RF_post_31 : decode prog_14_method_45_code 31 = .ok (.getfield 104, 3) := by decide +kernel
theorem d_RF_post_34 : decode prog_14_method_45_code 34 = .ok (.aload_n 0, 1) := by decide +kernel
theorem d_RF_post_35 : decode prog_14_method_45_code 35 = .ok (.getfield 261, 3) := by decide +kernel
theorem d_RF_post_38 : decode prog_14_method_45_code 38 = .ok (.iload 4, 2) := by decide +kernel
theorem d_RF_post_40 : decode prog_14_method_45_code 40 = .ok (.iastore, 1) := by decide +kernel
theorem d_RF_post_41 : decode prog_14_method_45_code 41 = .ok (.aload_n 0, 1) := by decide +kernel
theorem d_RF_post_42 : decode prog_14_method_45_code 42 = .ok (.getfield 107, 3) := by decide +kernel
theorem d_RF_post_45 : decode prog_14_method_45_code 45 = .ok (.aload_n 0, 1) := by decide +kernel
theorem d_RF_post_46 : decode prog_14_method_45_code 46 = .ok (.getfield 261, 3) := by decide +kernel
theorem d_RF_post_49 : decode prog_14_method_45_code 49 = .ok (.iload 5, 2) := by decide +kernel
theorem d_RF_post_51 : decode prog_14_method_45_code 51 = .ok (.iastore, 1) := by decide +kernel
theorem d_RF_post_52 : decode prog_14_method_45_code 52 = .ok (.aload_n 0, 1) := by decide +kernel
theorem d_RF_post_53 : decode prog_14_method_45_code 53 = .ok (.dup, 1) := by decide +kernel
theorem d_RF_post_54 : decode prog_14_method_45_code 54 = .ok (.getfield 261, 3) := by decide +kernel
theorem d_RF_post_57 : decode prog_14_method_45_code 57 = .ok (.iconst 1, 1) := by decide +kernel
theorem d_RF_post_58 : decode prog_14_method_45_code 58 = .ok (.iadd, 1) := by decide +kernel
theorem d_RF_post_59 : decode prog_14_method_45_code 59 = .ok (.putfield 261, 3) := by decide +kernel
theorem d_RF_post_62 : decode prog_14_method_45_code 62 = .ok (.return_, 1) := by decide +kernel
theorem d_RF_erase_0 : decode prog_14_method_47_code 0 = .ok (.aload_n 0, 1) := by decide +kernel
theorem d_RF_erase_1 : decode prog_14_method_47_code 1 = .ok (.getfield 261, 3) := by decide +kernel
theorem d_RF_erase_4 : decode prog_14_method_47_code 4 = .ok (.bipush 12, 2) := by decide +kernel
theorem d_RF_erase_6 : decode prog_14_method_47_code 6 = .ok (.if_icmp .ne 5, 3) := by decide +kernel
theorem d_RF_erase_9 : decode prog_14_method_47_code 9 = .ok (.iconst 0, 1) := by decide +kernel
theorem d_RF_erase_10 : decode prog_14_method_47_code 10 = .ok (.ireturn, 1) := by decide +kernel
theorem d_RF_erase_11 : decode prog_14_method_47_code 11 = .ok (.aload_n 0, 1) := by decide +kernel
theorem d_RF_erase_12 : decode prog_14_method_47_code 12 = .ok (.iconst 1, 1) := by decide +kernel
theorem d_RF_erase_13 : decode prog_14_method_47_code 13 = .ok (.iload_n 1, 1) := by decide +kernel
theorem d_RF_erase_14 : decode prog_14_method_47_code 14 = .ok (.iload_n 2, 1) := by decide +kernel
theorem d_RF_erase_15 : decode prog_14_method_47_code 15 = .ok (.iconst 0, 1) := by decide +kernel
theorem d_RF_erase_16 : decode prog_14_method_47_code 16 = .ok (.iconst 0, 1) := by decide +kernel
theorem d_RF_erase_17 : decode prog_14_method_47_code 17 = .ok (.invokevirtual 264, 3) := by decide +kernel
theorem d_RF_erase_20 : decode prog_14_method_47_code 20 = .ok (.iconst 1, 1) := by decide +kernel
theorem d_RF_erase_21 : decode prog_14_method_47_code 21 = .ok (.ireturn, 1) := by decide +kernel
theorem d_RF_ask_0 : decode prog_14_method_48_code 0 = .ok (.iload_n 1, 1) := by decide +kernel
theorem d_RF_ask_1 : decode prog_14_method_48_code 1 = .ok (.ifCond .lt 8, 3) := by decide +kernel
theorem d_RF_ask_4 : decode prog_14_method_48_code 4 = .ok (.iload_n 1, 1) := by decide +kernel
theorem d_RF_ask_5 : decode prog_14_method_48_code 5 = .ok (.iconst 3, 1) := by decide +kernel
theorem d_RF_ask_6 : decode prog_14_method_48_code 6 = .ok (.if_icmp .le 5, 3) := by decide +kernel
theorem d_RF_ask_9 : decode prog_14_method_48_code 9 = .ok (.iconst (-1), 1) := by decide +kernel
theorem d_RF_ask_10 : decode prog_14_method_48_code 10 = .ok (.ireturn, 1) := by decide +kernel
theorem d_RF_ask_11 : decode prog_14_method_48_code 11 = .ok (.aload_n 0, 1) := by decide +kernel
theorem d_RF_ask_12 : decode prog_14_method_48_code 12 = .ok (.getfield 261, 3) := by decide +kernel
theorem d_RF_ask_15 : decode prog_14_method_48_code 15 = .ok (.bipush 12, 2) := by decide +kernel
theorem d_RF_ask_17 : decode prog_14_method_48_code 17 = .ok (.if_icmp .ne 6, 3) := by decide +kernel
theorem d_RF_ask_20 : decode prog_14_method_48_code 20 = .ok (.bipush (-2), 2) := by decide +kernel
theorem d_RF_ask_22 : decode prog_14_method_48_code 22 = .ok (.ireturn, 1) := by decide +kernel
theorem d_RF_ask_23 : decode prog_14_method_48_code 23 = .ok (.aload_n 0, 1) := by decide +kernel
theorem d_RF_ask_24 : decode prog_14_method_48_code 24 = .ok (.dup, 1) := by decide +kernel
theorem d_RF_ask_25 : decode prog_14_method_48_code 25 = .ok (.getfield 268, 3) := by decide +kernel
theorem d_RF_ask_28 : decode prog_14_method_48_code 28 = .ok (.iconst 1, 1) := by decide +kernel
theorem d_RF_ask_29 : decode prog_14_method_48_code 29 = .ok (.iadd, 1) := by decide +kernel
theorem d_RF_ask_30 : decode prog_14_method_48_code 30 = .ok (.putfield 268, 3) := by decide +kernel
theorem d_RF_ask_33 : decode prog_14_method_48_code 33 = .ok (.aload_n 0, 1) := by decide +kernel
theorem d_RF_ask_34 : decode prog_14_method_48_code 34 = .ok (.iconst 2, 1) := by decide +kernel
theorem d_RF_ask_35 : decode prog_14_method_48_code 35 = .ok (.iload_n 2, 1) := by decide +kernel
theorem d_RF_ask_36 : decode prog_14_method_48_code 36 = .ok (.iload_n 3, 1) := by decide +kernel
theorem d_RF_ask_37 : decode prog_14_method_48_code 37 = .ok (.aload_n 0, 1) := by decide +kernel
theorem d_RF_ask_38 : decode prog_14_method_48_code 38 = .ok (.getfield 268, 3) := by decide +kernel
theorem d_RF_ask_41 : decode prog_14_method_48_code 41 = .ok (.iload_n 1, 1) := by decide +kernel
theorem d_RF_ask_42 : decode prog_14_method_48_code 42 = .ok (.invokevirtual 264, 3) := by decide +kernel
theorem d_RF_ask_45 : decode prog_14_method_48_code 45 = .ok (.aload_n 0, 1) := by decide +kernel
theorem d_RF_ask_46 : decode prog_14_method_48_code 46 = .ok (.getfield 268, 3) := by decide +kernel
theorem d_RF_ask_49 : decode prog_14_method_48_code 49 = .ok (.ireturn, 1) := by decide +kernel
theorem d_RF_cancel_0 : decode prog_14_method_51_code 0 = .ok (.aload_n 0, 1) := by decide +kernel
theorem d_RF_cancel_1 : decode prog_14_method_51_code 1 = .ok (.iload_n 1, 1) := by decide +kernel
theorem d_RF_cancel_2 : decode prog_14_method_51_code 2 = .ok (.invokevirtual 271, 3) := by decide +kernel
theorem d_RF_cancel_5 : decode prog_14_method_51_code 5 = .ok (.istore_n 2, 1) := by decide +kernel
theorem d_RF_cancel_6 : decode prog_14_method_51_code 6 = .ok (.iload_n 2, 1) := by decide +kernel
theorem d_RF_cancel_7 : decode prog_14_method_51_code 7 = .ok (.ifCond .ge 5, 3) := by decide +kernel
theorem d_RF_cancel_10 : decode prog_14_method_51_code 10 = .ok (.iconst 0, 1) := by decide +kernel
theorem d_RF_cancel_11 : decode prog_14_method_51_code 11 = .ok (.ireturn, 1) := by decide +kernel
theorem d_RF_cancel_12 : decode prog_14_method_51_code 12 = .ok (.aload_n 0, 1) := by decide +kernel
theorem d_RF_cancel_13 : decode prog_14_method_51_code 13 = .ok (.iload_n 2, 1) := by decide +kernel
theorem d_RF_cancel_14 : decode prog_14_method_51_code 14 = .ok (.invokevirtual 274, 3) := by decide +kernel
theorem d_RF_cancel_17 : decode prog_14_method_51_code 17 = .ok (.iconst 1, 1) := by decide +kernel
theorem d_RF_cancel_18 : decode prog_14_method_51_code 18 = .ok (.ireturn, 1) := by decide +kernel
theorem d_RF_waitsAt_0 : decode prog_14_method_50_code 0 = .ok (.iconst 0, 1) := by decide +kernel
theorem d_RF_waitsAt_1 : decode prog_14_method_50_code 1 = .ok (.istore_n 2, 1) := by decide +kernel
theorem d_RF_waitsAt_2 : decode prog_14_method_50_code 2 = .ok (.iload_n 2, 1) := by decide +kernel
theorem d_RF_waitsAt_3 : decode prog_14_method_50_code 3 = .ok (.aload_n 0, 1) := by decide +kernel
theorem d_RF_waitsAt_4 : decode prog_14_method_50_code 4 = .ok (.getfield 261, 3) := by decide +kernel
theorem d_RF_waitsAt_7 : decode prog_14_method_50_code 7 = .ok (.if_icmp .ge 31, 3) := by decide +kernel
theorem d_RF_waitsAt_10 : decode prog_14_method_50_code 10 = .ok (.aload_n 0, 1) := by decide +kernel
theorem d_RF_waitsAt_11 : decode prog_14_method_50_code 11 = .ok (.getfield 95, 3) := by decide +kernel
theorem d_RF_waitsAt_14 : decode prog_14_method_50_code 14 = .ok (.iload_n 2, 1) := by decide +kernel
theorem d_RF_waitsAt_15 : decode prog_14_method_50_code 15 = .ok (.iaload, 1) := by decide +kernel
theorem d_RF_waitsAt_16 : decode prog_14_method_50_code 16 = .ok (.iconst 2, 1) := by decide +kernel
theorem d_RF_waitsAt_17 : decode prog_14_method_50_code 17 = .ok (.if_icmp .ne 15, 3) := by decide +kernel
theorem d_RF_waitsAt_20 : decode prog_14_method_50_code 20 = .ok (.aload_n 0, 1) := by decide +kernel
theorem d_RF_waitsAt_21 : decode prog_14_method_50_code 21 = .ok (.getfield 104, 3) := by decide +kernel
theorem d_RF_waitsAt_24 : decode prog_14_method_50_code 24 = .ok (.iload_n 2, 1) := by decide +kernel
theorem d_RF_waitsAt_25 : decode prog_14_method_50_code 25 = .ok (.iaload, 1) := by decide +kernel
theorem d_RF_waitsAt_26 : decode prog_14_method_50_code 26 = .ok (.iload_n 1, 1) := by decide +kernel
theorem d_RF_waitsAt_27 : decode prog_14_method_50_code 27 = .ok (.if_icmp .ne 5, 3) := by decide +kernel
theorem d_RF_waitsAt_30 : decode prog_14_method_50_code 30 = .ok (.iload_n 2, 1) := by decide +kernel
theorem d_RF_waitsAt_31 : decode prog_14_method_50_code 31 = .ok (.ireturn, 1) := by decide +kernel
theorem d_RF_waitsAt_32 : decode prog_14_method_50_code 32 = .ok (.iinc 2 1, 3) := by decide +kernel
theorem d_RF_waitsAt_35 : decode prog_14_method_50_code 35 = .ok (.goto (-33), 3) := by decide +kernel
theorem d_RF_waitsAt_38 : decode prog_14_method_50_code 38 = .ok (.iconst (-1), 1) := by decide +kernel
theorem d_RF_waitsAt_39 : decode prog_14_method_50_code 39 = .ok (.ireturn, 1) := by decide +kernel
theorem d_RF_strike_0 : decode prog_14_method_49_code 0 = .ok (.aload_n 0, 1) := by decide +kernel
theorem d_RF_strike_1 : decode prog_14_method_49_code 1 = .ok (.dup, 1) := by decide +kernel
theorem d_RF_strike_2 : decode prog_14_method_49_code 2 = .ok (.getfield 261, 3) := by decide +kernel
theorem d_RF_strike_5 : decode prog_14_method_49_code 5 = .ok (.iconst 1, 1) := by decide +kernel
theorem d_RF_strike_6 : decode prog_14_method_49_code 6 = .ok (.isub, 1) := by decide +kernel
theorem d_RF_strike_7 : decode prog_14_method_49_code 7 = .ok (.putfield 261, 3) := by decide +kernel
theorem d_RF_strike_10 : decode prog_14_method_49_code 10 = .ok (.iload_n 1, 1) := by decide +kernel
theorem d_RF_strike_11 : decode prog_14_method_49_code 11 = .ok (.istore_n 2, 1) := by decide +kernel
theorem d_RF_strike_12 : decode prog_14_method_49_code 12 = .ok (.iload_n 2, 1) := by decide +kernel
theorem d_RF_strike_13 : decode prog_14_method_49_code 13 = .ok (.aload_n 0, 1) := by decide +kernel
theorem d_RF_strike_14 : decode prog_14_method_49_code 14 = .ok (.getfield 261, 3) := by decide +kernel
theorem d_RF_strike_17 : decode prog_14_method_49_code 17 = .ok (.if_icmp .ge 79, 3) := by decide +kernel
theorem d_RF_strike_20 : decode prog_14_method_49_code 20 = .ok (.aload_n 0, 1) := by decide +kernel
theorem d_RF_strike_21 : decode prog_14_method_49_code 21 = .ok (.getfield 95, 3) := by decide +kernel
theorem d_RF_strike_24 : decode prog_14_method_49_code 24 = .ok (.iload_n 2, 1) := by decide +kernel
theorem d_RF_strike_25 : decode prog_14_method_49_code 25 = .ok (.aload_n 0, 1) := by decide +kernel
theorem d_RF_strike_26 : decode prog_14_method_49_code 26 = .ok (.getfield 95, 3) := by decide +kernel
theorem d_RF_strike_29 : decode prog_14_method_49_code 29 = .ok (.iload_n 2, 1) := by decide +kernel
theorem d_RF_strike_30 : decode prog_14_method_49_code 30 = .ok (.iconst 1, 1) := by decide +kernel
theorem d_RF_strike_31 : decode prog_14_method_49_code 31 = .ok (.iadd, 1) := by decide +kernel
theorem d_RF_strike_32 : decode prog_14_method_49_code 32 = .ok (.iaload, 1) := by decide +kernel
theorem d_RF_strike_33 : decode prog_14_method_49_code 33 = .ok (.iastore, 1) := by decide +kernel
theorem d_RF_strike_34 : decode prog_14_method_49_code 34 = .ok (.aload_n 0, 1) := by decide +kernel
theorem d_RF_strike_35 : decode prog_14_method_49_code 35 = .ok (.getfield 98, 3) := by decide +kernel
theorem d_RF_strike_38 : decode prog_14_method_49_code 38 = .ok (.iload_n 2, 1) := by decide +kernel
theorem d_RF_strike_39 : decode prog_14_method_49_code 39 = .ok (.aload_n 0, 1) := by decide +kernel
theorem d_RF_strike_40 : decode prog_14_method_49_code 40 = .ok (.getfield 98, 3) := by decide +kernel
theorem d_RF_strike_43 : decode prog_14_method_49_code 43 = .ok (.iload_n 2, 1) := by decide +kernel
theorem d_RF_strike_44 : decode prog_14_method_49_code 44 = .ok (.iconst 1, 1) := by decide +kernel
theorem d_RF_strike_45 : decode prog_14_method_49_code 45 = .ok (.iadd, 1) := by decide +kernel
theorem d_RF_strike_46 : decode prog_14_method_49_code 46 = .ok (.iaload, 1) := by decide +kernel
theorem d_RF_strike_47 : decode prog_14_method_49_code 47 = .ok (.iastore, 1) := by decide +kernel
theorem d_RF_strike_48 : decode prog_14_method_49_code 48 = .ok (.aload_n 0, 1) := by decide +kernel
theorem d_RF_strike_49 : decode prog_14_method_49_code 49 = .ok (.getfield 101, 3) := by decide +kernel
theorem d_RF_strike_52 : decode prog_14_method_49_code 52 = .ok (.iload_n 2, 1) := by decide +kernel
theorem d_RF_strike_53 : decode prog_14_method_49_code 53 = .ok (.aload_n 0, 1) := by decide +kernel
theorem d_RF_strike_54 : decode prog_14_method_49_code 54 = .ok (.getfield 101, 3) := by decide +kernel
theorem d_RF_strike_57 : decode prog_14_method_49_code 57 = .ok (.iload_n 2, 1) := by decide +kernel
theorem d_RF_strike_58 : decode prog_14_method_49_code 58 = .ok (.iconst 1, 1) := by decide +kernel
theorem d_RF_strike_59 : decode prog_14_method_49_code 59 = .ok (.iadd, 1) := by decide +kernel
theorem d_RF_strike_60 : decode prog_14_method_49_code 60 = .ok (.iaload, 1) := by decide +kernel
theorem d_RF_strike_61 : decode prog_14_method_49_code 61 = .ok (.iastore, 1) := by decide +kernel
theorem d_RF_strike_62 : decode prog_14_method_49_code 62 = .ok (.aload_n 0, 1) := by decide +kernel
theorem d_RF_strike_63 : decode prog_14_method_49_code 63 = .ok (.getfield 104, 3) := by decide +kernel
theorem d_RF_strike_66 : decode prog_14_method_49_code 66 = .ok (.iload_n 2, 1) := by decide +kernel
theorem d_RF_strike_67 : decode prog_14_method_49_code 67 = .ok (.aload_n 0, 1) := by decide +kernel
theorem d_RF_strike_68 : decode prog_14_method_49_code 68 = .ok (.getfield 104, 3) := by decide +kernel
theorem d_RF_strike_71 : decode prog_14_method_49_code 71 = .ok (.iload_n 2, 1) := by decide +kernel
theorem d_RF_strike_72 : decode prog_14_method_49_code 72 = .ok (.iconst 1, 1) := by decide +kernel
theorem d_RF_strike_73 : decode prog_14_method_49_code 73 = .ok (.iadd, 1) := by decide +kernel
theorem d_RF_strike_74 : decode prog_14_method_49_code 74 = .ok (.iaload, 1) := by decide +kernel
theorem d_RF_strike_75 : decode prog_14_method_49_code 75 = .ok (.iastore, 1) := by decide +kernel
theorem d_RF_strike_76 : decode prog_14_method_49_code 76 = .ok (.aload_n 0, 1) := by decide +kernel
theorem d_RF_strike_77 : decode prog_14_method_49_code 77 = .ok (.getfield 107, 3) := by decide +kernel
theorem d_RF_strike_80 : decode prog_14_method_49_code 80 = .ok (.iload_n 2, 1) := by decide +kernel
theorem d_RF_strike_81 : decode prog_14_method_49_code 81 = .ok (.aload_n 0, 1) := by decide +kernel
theorem d_RF_strike_82 : decode prog_14_method_49_code 82 = .ok (.getfield 107, 3) := by decide +kernel
theorem d_RF_strike_85 : decode prog_14_method_49_code 85 = .ok (.iload_n 2, 1) := by decide +kernel
theorem d_RF_strike_86 : decode prog_14_method_49_code 86 = .ok (.iconst 1, 1) := by decide +kernel
theorem d_RF_strike_87 : decode prog_14_method_49_code 87 = .ok (.iadd, 1) := by decide +kernel
theorem d_RF_strike_88 : decode prog_14_method_49_code 88 = .ok (.iaload, 1) := by decide +kernel
theorem d_RF_strike_89 : decode prog_14_method_49_code 89 = .ok (.iastore, 1) := by decide +kernel
theorem d_RF_strike_90 : decode prog_14_method_49_code 90 = .ok (.iinc 2 1, 3) := by decide +kernel
theorem d_RF_strike_93 : decode prog_14_method_49_code 93 = .ok (.goto (-81), 3) := by decide +kernel
theorem d_RF_strike_96 : decode prog_14_method_49_code 96 = .ok (.return_, 1) := by decide +kernel
theorem d_RF_work_0 : decode prog_14_method_55_code 0 = .ok (.aload_n 0, 1) := by decide +kernel
theorem d_RF_work_1 : decode prog_14_method_55_code 1 = .ok (.getfield 261, 3) := by decide +kernel
theorem d_RF_work_4 : decode prog_14_method_55_code 4 = .ok (.ifCond .ne 5, 3) := by decide +kernel
theorem d_RF_work_7 : decode prog_14_method_55_code 7 = .ok (.iconst (-1), 1) := by decide +kernel
theorem d_RF_work_8 : decode prog_14_method_55_code 8 = .ok (.ireturn, 1) := by decide +kernel
theorem d_RF_work_9 : decode prog_14_method_55_code 9 = .ok (.aload_n 0, 1) := by decide +kernel
theorem d_RF_work_10 : decode prog_14_method_55_code 10 = .ok (.getfield 95, 3) := by decide +kernel
theorem d_RF_work_13 : decode prog_14_method_55_code 13 = .ok (.iconst 0, 1) := by decide +kernel
theorem d_RF_work_14 : decode prog_14_method_55_code 14 = .ok (.iaload, 1) := by decide +kernel
theorem d_RF_work_15 : decode prog_14_method_55_code 15 = .ok (.istore_n 1, 1) := by decide +kernel
theorem d_RF_work_16 : decode prog_14_method_55_code 16 = .ok (.aload_n 0, 1) := by decide +kernel
theorem d_RF_work_17 : decode prog_14_method_55_code 17 = .ok (.getfield 98, 3) := by decide +kernel
theorem d_RF_work_20 : decode prog_14_method_55_code 20 = .ok (.iconst 0, 1) := by decide +kernel
theorem d_RF_work_21 : decode prog_14_method_55_code 21 = .ok (.iaload, 1) := by decide +kernel
theorem d_RF_work_22 : decode prog_14_method_55_code 22 = .ok (.istore_n 2, 1) := by decide +kernel
theorem d_RF_work_23 : decode prog_14_method_55_code 23 = .ok (.aload_n 0, 1) := by decide +kernel
theorem d_RF_work_24 : decode prog_14_method_55_code 24 = .ok (.getfield 101, 3) := by decide +kernel
theorem d_RF_work_27 : decode prog_14_method_55_code 27 = .ok (.iconst 0, 1) := by decide +kernel
theorem d_RF_work_28 : decode prog_14_method_55_code 28 = .ok (.iaload, 1) := by decide +kernel
theorem d_RF_work_29 : decode prog_14_method_55_code 29 = .ok (.istore_n 3, 1) := by decide +kernel
theorem d_RF_work_30 : decode prog_14_method_55_code 30 = .ok (.aload_n 0, 1) := by decide +kernel
theorem d_RF_work_31 : decode prog_14_method_55_code 31 = .ok (.getfield 104, 3) := by decide +kernel
theorem d_RF_work_34 : decode prog_14_method_55_code 34 = .ok (.iconst 0, 1) := by decide +kernel
theorem d_RF_work_35 : decode prog_14_method_55_code 35 = .ok (.iaload, 1) := by decide +kernel
theorem d_RF_work_36 : decode prog_14_method_55_code 36 = .ok (.istore 4, 2) := by decide +kernel
theorem d_RF_work_38 : decode prog_14_method_55_code 38 = .ok (.aload_n 0, 1) := by decide +kernel
theorem d_RF_work_39 : decode prog_14_method_55_code 39 = .ok (.getfield 107, 3) := by decide +kernel
theorem d_RF_work_42 : decode prog_14_method_55_code 42 = .ok (.iconst 0, 1) := by decide +kernel
theorem d_RF_work_43 : decode prog_14_method_55_code 43 = .ok (.iaload, 1) := by decide +kernel
theorem d_RF_work_44 : decode prog_14_method_55_code 44 = .ok (.istore 5, 2) := by decide +kernel
theorem d_RF_work_46 : decode prog_14_method_55_code 46 = .ok (.aload_n 0, 1) := by decide +kernel
theorem d_RF_work_47 : decode prog_14_method_55_code 47 = .ok (.iconst 0, 1) := by decide +kernel
theorem d_RF_work_48 : decode prog_14_method_55_code 48 = .ok (.invokevirtual 274, 3) := by decide +kernel
theorem d_RF_work_51 : decode prog_14_method_55_code 51 = .ok (.iload_n 1, 1) := by decide +kernel
theorem d_RF_work_52 : decode prog_14_method_55_code 52 = .ok (.ifCond .ne 12, 3) := by decide +kernel
theorem d_RF_work_55 : decode prog_14_method_55_code 55 = .ok (.aload_n 0, 1) := by decide +kernel
theorem d_RF_work_56 : decode prog_14_method_55_code 56 = .ok (.iload_n 2, 1) := by decide +kernel
theorem d_RF_work_57 : decode prog_14_method_55_code 57 = .ok (.iload_n 3, 1) := by decide +kernel
theorem d_RF_work_58 : decode prog_14_method_55_code 58 = .ok (.invokevirtual 289, 3) := by decide +kernel
theorem d_RF_work_61 : decode prog_14_method_55_code 61 = .ok (.goto 61, 3) := by decide +kernel
theorem d_RF_work_64 : decode prog_14_method_55_code 64 = .ok (.iload_n 1, 1) := by decide +kernel
theorem d_RF_work_65 : decode prog_14_method_55_code 65 = .ok (.iconst 1, 1) := by decide +kernel
theorem d_RF_work_66 : decode prog_14_method_55_code 66 = .ok (.if_icmp .ne 12, 3) := by decide +kernel
theorem d_RF_work_69 : decode prog_14_method_55_code 69 = .ok (.aload_n 0, 1) := by decide +kernel
theorem d_RF_work_70 : decode prog_14_method_55_code 70 = .ok (.iload_n 2, 1) := by decide +kernel
theorem d_RF_work_71 : decode prog_14_method_55_code 71 = .ok (.iload_n 3, 1) := by decide +kernel
theorem d_RF_work_72 : decode prog_14_method_55_code 72 = .ok (.invokevirtual 292, 3) := by decide +kernel
theorem d_RF_work_75 : decode prog_14_method_55_code 75 = .ok (.goto 47, 3) := by decide +kernel
theorem d_RF_work_78 : decode prog_14_method_55_code 78 = .ok (.aload_n 0, 1) := by decide +kernel
theorem d_RF_work_79 : decode prog_14_method_55_code 79 = .ok (.getfield 110, 3) := by decide +kernel
theorem d_RF_work_82 : decode prog_14_method_55_code 82 = .ok (.aload_n 0, 1) := by decide +kernel
theorem d_RF_work_83 : decode prog_14_method_55_code 83 = .ok (.getfield 295, 3) := by decide +kernel
theorem d_RF_work_86 : decode prog_14_method_55_code 86 = .ok (.bipush 8, 2) := by decide +kernel
theorem d_RF_work_88 : decode prog_14_method_55_code 88 = .ok (.irem, 1) := by decide +kernel
theorem d_RF_work_89 : decode prog_14_method_55_code 89 = .ok (.iload 4, 2) := by decide +kernel
theorem d_RF_work_91 : decode prog_14_method_55_code 91 = .ok (.iastore, 1) := by decide +kernel
theorem d_RF_work_92 : decode prog_14_method_55_code 92 = .ok (.aload_n 0, 1) := by decide +kernel
theorem d_RF_work_93 : decode prog_14_method_55_code 93 = .ok (.getfield 113, 3) := by decide +kernel
theorem d_RF_work_96 : decode prog_14_method_55_code 96 = .ok (.aload_n 0, 1) := by decide +kernel
theorem d_RF_work_97 : decode prog_14_method_55_code 97 = .ok (.getfield 295, 3) := by decide +kernel
theorem d_RF_work_100 : decode prog_14_method_55_code 100 = .ok (.bipush 8, 2) := by decide +kernel
theorem d_RF_work_102 : decode prog_14_method_55_code 102 = .ok (.irem, 1) := by decide +kernel
theorem d_RF_work_103 : decode prog_14_method_55_code 103 = .ok (.aload_n 0, 1) := by decide +kernel
theorem d_RF_work_104 : decode prog_14_method_55_code 104 = .ok (.iload 5, 2) := by decide +kernel
theorem d_RF_work_106 : decode prog_14_method_55_code 106 = .ok (.iload_n 2, 1) := by decide +kernel
theorem d_RF_work_107 : decode prog_14_method_55_code 107 = .ok (.iload_n 3, 1) := by decide +kernel
theorem d_RF_work_108 : decode prog_14_method_55_code 108 = .ok (.invokevirtual 298, 3) := by decide +kernel
theorem d_RF_work_111 : decode prog_14_method_55_code 111 = .ok (.iastore, 1) := by decide +kernel
theorem d_RF_work_112 : decode prog_14_method_55_code 112 = .ok (.aload_n 0, 1) := by decide +kernel
theorem d_RF_work_113 : decode prog_14_method_55_code 113 = .ok (.dup, 1) := by decide +kernel
theorem d_RF_work_114 : decode prog_14_method_55_code 114 = .ok (.getfield 295, 3) := by decide +kernel
theorem d_RF_work_117 : decode prog_14_method_55_code 117 = .ok (.iconst 1, 1) := by decide +kernel
theorem d_RF_work_118 : decode prog_14_method_55_code 118 = .ok (.iadd, 1) := by decide +kernel
theorem d_RF_work_119 : decode prog_14_method_55_code 119 = .ok (.putfield 295, 3) := by decide +kernel
theorem d_RF_work_122 : decode prog_14_method_55_code 122 = .ok (.iload 4, 2) := by decide +kernel
theorem d_RF_work_124 : decode prog_14_method_55_code 124 = .ok (.ireturn, 1) := by decide +kernel
theorem d_RF_insertNow_0 : decode prog_14_method_52_code 0 = .ok (.iload_n 1, 1) := by decide +kernel
theorem d_RF_insertNow_1 : decode prog_14_method_52_code 1 = .ok (.ifCond .lt 32, 3) := by decide +kernel
theorem d_RF_insertNow_4 : decode prog_14_method_52_code 4 = .ok (.iload_n 1, 1) := by decide +kernel
theorem d_RF_insertNow_5 : decode prog_14_method_52_code 5 = .ok (.aload_n 0, 1) := by decide +kernel
theorem d_RF_insertNow_6 : decode prog_14_method_52_code 6 = .ok (.getfield 179, 3) := by decide +kernel
theorem d_RF_insertNow_9 : decode prog_14_method_52_code 9 = .ok (.if_icmp .gt 24, 3) := by decide +kernel
theorem d_RF_insertNow_12 : decode prog_14_method_52_code 12 = .ok (.iload_n 2, 1) := by decide +kernel
theorem d_RF_insertNow_13 : decode prog_14_method_52_code 13 = .ok (.bipush 32, 2) := by decide +kernel
theorem d_RF_insertNow_15 : decode prog_14_method_52_code 15 = .ok (.if_icmp .lt 18, 3) := by decide +kernel
theorem d_RF_insertNow_18 : decode prog_14_method_52_code 18 = .ok (.iload_n 2, 1) := by decide +kernel
theorem d_RF_insertNow_19 : decode prog_14_method_52_code 19 = .ok (.bipush 126, 2) := by decide +kernel
theorem d_RF_insertNow_21 : decode prog_14_method_52_code 21 = .ok (.if_icmp .gt 12, 3) := by decide +kernel
theorem d_RF_insertNow_24 : decode prog_14_method_52_code 24 = .ok (.aload_n 0, 1) := by decide +kernel
theorem d_RF_insertNow_25 : decode prog_14_method_52_code 25 = .ok (.getfield 179, 3) := by decide +kernel
theorem d_RF_insertNow_28 : decode prog_14_method_52_code 28 = .ok (.bipush 100, 2) := by decide +kernel
theorem d_RF_insertNow_30 : decode prog_14_method_52_code 30 = .ok (.if_icmp .ne 4, 3) := by decide +kernel
theorem d_RF_insertNow_33 : decode prog_14_method_52_code 33 = .ok (.return_, 1) := by decide +kernel
theorem d_RF_insertNow_34 : decode prog_14_method_52_code 34 = .ok (.aload_n 0, 1) := by decide +kernel
theorem d_RF_insertNow_35 : decode prog_14_method_52_code 35 = .ok (.getfield 179, 3) := by decide +kernel
theorem d_RF_insertNow_38 : decode prog_14_method_52_code 38 = .ok (.istore_n 3, 1) := by decide +kernel
theorem d_RF_insertNow_39 : decode prog_14_method_52_code 39 = .ok (.iload_n 3, 1) := by decide +kernel
theorem d_RF_insertNow_40 : decode prog_14_method_52_code 40 = .ok (.iload_n 1, 1) := by decide +kernel
theorem d_RF_insertNow_41 : decode prog_14_method_52_code 41 = .ok (.if_icmp .le 23, 3) := by decide +kernel
theorem d_RF_insertNow_44 : decode prog_14_method_52_code 44 = .ok (.aload_n 0, 1) := by decide +kernel
theorem d_RF_insertNow_45 : decode prog_14_method_52_code 45 = .ok (.getfield 50, 3) := by decide +kernel
theorem d_RF_insertNow_48 : decode prog_14_method_52_code 48 = .ok (.iload_n 3, 1) := by decide +kernel
theorem d_RF_insertNow_49 : decode prog_14_method_52_code 49 = .ok (.aload_n 0, 1) := by decide +kernel
theorem d_RF_insertNow_50 : decode prog_14_method_52_code 50 = .ok (.getfield 50, 3) := by decide +kernel
theorem d_RF_insertNow_53 : decode prog_14_method_52_code 53 = .ok (.iload_n 3, 1) := by decide +kernel
theorem d_RF_insertNow_54 : decode prog_14_method_52_code 54 = .ok (.iconst 1, 1) := by decide +kernel
theorem d_RF_insertNow_55 : decode prog_14_method_52_code 55 = .ok (.isub, 1) := by decide +kernel
theorem d_RF_insertNow_56 : decode prog_14_method_52_code 56 = .ok (.iaload, 1) := by decide +kernel
theorem d_RF_insertNow_57 : decode prog_14_method_52_code 57 = .ok (.iastore, 1) := by decide +kernel
theorem d_RF_insertNow_58 : decode prog_14_method_52_code 58 = .ok (.iinc 3 (-1), 3) := by decide +kernel
theorem d_RF_insertNow_61 : decode prog_14_method_52_code 61 = .ok (.goto (-22), 3) := by decide +kernel
theorem d_RF_insertNow_64 : decode prog_14_method_52_code 64 = .ok (.aload_n 0, 1) := by decide +kernel
theorem d_RF_insertNow_65 : decode prog_14_method_52_code 65 = .ok (.getfield 50, 3) := by decide +kernel
theorem d_RF_insertNow_68 : decode prog_14_method_52_code 68 = .ok (.iload_n 1, 1) := by decide +kernel
theorem d_RF_insertNow_69 : decode prog_14_method_52_code 69 = .ok (.iload_n 2, 1) := by decide +kernel
theorem d_RF_insertNow_70 : decode prog_14_method_52_code 70 = .ok (.iastore, 1) := by decide +kernel
theorem d_RF_insertNow_71 : decode prog_14_method_52_code 71 = .ok (.aload_n 0, 1) := by decide +kernel
theorem d_RF_insertNow_72 : decode prog_14_method_52_code 72 = .ok (.dup, 1) := by decide +kernel
theorem d_RF_insertNow_73 : decode prog_14_method_52_code 73 = .ok (.getfield 179, 3) := by decide +kernel
theorem d_RF_insertNow_76 : decode prog_14_method_52_code 76 = .ok (.iconst 1, 1) := by decide +kernel
theorem d_RF_insertNow_77 : decode prog_14_method_52_code 77 = .ok (.iadd, 1) := by decide +kernel
theorem d_RF_insertNow_78 : decode prog_14_method_52_code 78 = .ok (.putfield 179, 3) := by decide +kernel
theorem d_RF_insertNow_81 : decode prog_14_method_52_code 81 = .ok (.return_, 1) := by decide +kernel
theorem d_RF_eraseNow_0 : decode prog_14_method_53_code 0 = .ok (.iload_n 2, 1) := by decide +kernel
theorem d_RF_eraseNow_1 : decode prog_14_method_53_code 1 = .ok (.iconst 1, 1) := by decide +kernel
theorem d_RF_eraseNow_2 : decode prog_14_method_53_code 2 = .ok (.if_icmp .lt 25, 3) := by decide +kernel
theorem d_RF_eraseNow_5 : decode prog_14_method_53_code 5 = .ok (.iload_n 1, 1) := by decide +kernel
theorem d_RF_eraseNow_6 : decode prog_14_method_53_code 6 = .ok (.ifCond .lt 21, 3) := by decide +kernel
theorem d_RF_eraseNow_9 : decode prog_14_method_53_code 9 = .ok (.iload_n 1, 1) := by decide +kernel
theorem d_RF_eraseNow_10 : decode prog_14_method_53_code 10 = .ok (.aload_n 0, 1) := by decide +kernel
theorem d_RF_eraseNow_11 : decode prog_14_method_53_code 11 = .ok (.getfield 179, 3) := by decide +kernel
theorem d_RF_eraseNow_14 : decode prog_14_method_53_code 14 = .ok (.if_icmp .gt 13, 3) := by decide +kernel
theorem d_RF_eraseNow_17 : decode prog_14_method_53_code 17 = .ok (.iload_n 2, 1) := by decide +kernel
theorem d_RF_eraseNow_18 : decode prog_14_method_53_code 18 = .ok (.aload_n 0, 1) := by decide +kernel
theorem d_RF_eraseNow_19 : decode prog_14_method_53_code 19 = .ok (.getfield 179, 3) := by decide +kernel
theorem d_RF_eraseNow_22 : decode prog_14_method_53_code 22 = .ok (.iload_n 1, 1) := by decide +kernel
theorem d_RF_eraseNow_23 : decode prog_14_method_53_code 23 = .ok (.isub, 1) := by decide +kernel
theorem d_RF_eraseNow_24 : decode prog_14_method_53_code 24 = .ok (.if_icmp .le 4, 3) := by decide +kernel
theorem d_RF_eraseNow_27 : decode prog_14_method_53_code 27 = .ok (.return_, 1) := by decide +kernel
theorem d_RF_eraseNow_28 : decode prog_14_method_53_code 28 = .ok (.iload_n 1, 1) := by decide +kernel
theorem d_RF_eraseNow_29 : decode prog_14_method_53_code 29 = .ok (.istore_n 3, 1) := by decide +kernel
theorem d_RF_eraseNow_30 : decode prog_14_method_53_code 30 = .ok (.iload_n 3, 1) := by decide +kernel
theorem d_RF_eraseNow_31 : decode prog_14_method_53_code 31 = .ok (.iload_n 2, 1) := by decide +kernel
theorem d_RF_eraseNow_32 : decode prog_14_method_53_code 32 = .ok (.iadd, 1) := by decide +kernel
theorem d_RF_eraseNow_33 : decode prog_14_method_53_code 33 = .ok (.aload_n 0, 1) := by decide +kernel
theorem d_RF_eraseNow_34 : decode prog_14_method_53_code 34 = .ok (.getfield 179, 3) := by decide +kernel
theorem d_RF_eraseNow_37 : decode prog_14_method_53_code 37 = .ok (.if_icmp .ge 23, 3) := by decide +kernel
theorem d_RF_eraseNow_40 : decode prog_14_method_53_code 40 = .ok (.aload_n 0, 1) := by decide +kernel
theorem d_RF_eraseNow_41 : decode prog_14_method_53_code 41 = .ok (.getfield 50, 3) := by decide +kernel
theorem d_RF_eraseNow_44 : decode prog_14_method_53_code 44 = .ok (.iload_n 3, 1) := by decide +kernel
theorem d_RF_eraseNow_45 : decode prog_14_method_53_code 45 = .ok (.aload_n 0, 1) := by decide +kernel
theorem d_RF_eraseNow_46 : decode prog_14_method_53_code 46 = .ok (.getfield 50, 3) := by decide +kernel
theorem d_RF_eraseNow_49 : decode prog_14_method_53_code 49 = .ok (.iload_n 3, 1) := by decide +kernel
theorem d_RF_eraseNow_50 : decode prog_14_method_53_code 50 = .ok (.iload_n 2, 1) := by decide +kernel
theorem d_RF_eraseNow_51 : decode prog_14_method_53_code 51 = .ok (.iadd, 1) := by decide +kernel
theorem d_RF_eraseNow_52 : decode prog_14_method_53_code 52 = .ok (.iaload, 1) := by decide +kernel
theorem d_RF_eraseNow_53 : decode prog_14_method_53_code 53 = .ok (.iastore, 1) := by decide +kernel
theorem d_RF_eraseNow_54 : decode prog_14_method_53_code 54 = .ok (.iinc 3 1, 3) := by decide +kernel
theorem d_RF_eraseNow_57 : decode prog_14_method_53_code 57 = .ok (.goto (-27), 3) := by decide +kernel
theorem d_RF_eraseNow_60 : decode prog_14_method_53_code 60 = .ok (.aload_n 0, 1) := by decide +kernel
theorem d_RF_eraseNow_61 : decode prog_14_method_53_code 61 = .ok (.aload_n 0, 1) := by decide +kernel
theorem d_RF_eraseNow_62 : decode prog_14_method_53_code 62 = .ok (.getfield 179, 3) := by decide +kernel
theorem d_RF_eraseNow_65 : decode prog_14_method_53_code 65 = .ok (.iload_n 2, 1) := by decide +kernel
theorem d_RF_eraseNow_66 : decode prog_14_method_53_code 66 = .ok (.isub, 1) := by decide +kernel
theorem d_RF_eraseNow_67 : decode prog_14_method_53_code 67 = .ok (.putfield 179, 3) := by decide +kernel
theorem d_RF_eraseNow_70 : decode prog_14_method_53_code 70 = .ok (.return_, 1) := by decide +kernel
theorem d_RF_respond_0 : decode prog_14_method_54_code 0 = .ok (.aload_n 0, 1) := by decide +kernel
theorem d_RF_respond_1 : decode prog_14_method_54_code 1 = .ok (.invokevirtual 277, 3) := by decide +kernel
theorem d_RF_respond_4 : decode prog_14_method_54_code 4 = .ok (.iload_n 1, 1) := by decide +kernel
theorem d_RF_respond_5 : decode prog_14_method_54_code 5 = .ok (.ifCond .ne 11, 3) := by decide +kernel
theorem d_RF_respond_8 : decode prog_14_method_54_code 8 = .ok (.aload_n 0, 1) := by decide +kernel
theorem d_RF_respond_9 : decode prog_14_method_54_code 9 = .ok (.iload_n 2, 1) := by decide +kernel
theorem d_RF_respond_10 : decode prog_14_method_54_code 10 = .ok (.invokevirtual 280, 3) := by decide +kernel
theorem d_RF_respond_13 : decode prog_14_method_54_code 13 = .ok (.goto 33, 3) := by decide +kernel
theorem d_RF_respond_16 : decode prog_14_method_54_code 16 = .ok (.iload_n 1, 1) := by decide +kernel
theorem d_RF_respond_17 : decode prog_14_method_54_code 17 = .ok (.iconst 1, 1) := by decide +kernel
theorem d_RF_respond_18 : decode prog_14_method_54_code 18 = .ok (.if_icmp .ne 10, 3) := by decide +kernel
theorem d_RF_respond_21 : decode prog_14_method_54_code 21 = .ok (.aload_n 0, 1) := by decide +kernel
theorem d_RF_respond_22 : decode prog_14_method_54_code 22 = .ok (.getfield 182, 3) := by decide +kernel
theorem d_RF_respond_25 : decode prog_14_method_54_code 25 = .ok (.goto 21, 3) := by decide +kernel
theorem d_RF_respond_28 : decode prog_14_method_54_code 28 = .ok (.iload_n 1, 1) := by decide +kernel
theorem d_RF_respond_29 : decode prog_14_method_54_code 29 = .ok (.iconst 2, 1) := by decide +kernel
theorem d_RF_respond_30 : decode prog_14_method_54_code 30 = .ok (.if_icmp .ne 12, 3) := by decide +kernel
theorem d_RF_respond_33 : decode prog_14_method_54_code 33 = .ok (.aload_n 0, 1) := by decide +kernel
theorem d_RF_respond_34 : decode prog_14_method_54_code 34 = .ok (.iload_n 2, 1) := by decide +kernel
theorem d_RF_respond_35 : decode prog_14_method_54_code 35 = .ok (.iload_n 3, 1) := by decide +kernel
theorem d_RF_respond_36 : decode prog_14_method_54_code 36 = .ok (.invokevirtual 283, 3) := by decide +kernel
theorem d_RF_respond_39 : decode prog_14_method_54_code 39 = .ok (.goto 7, 3) := by decide +kernel
theorem d_RF_respond_42 : decode prog_14_method_54_code 42 = .ok (.aload_n 0, 1) := by decide +kernel
theorem d_RF_respond_43 : decode prog_14_method_54_code 43 = .ok (.invokevirtual 286, 3) := by decide +kernel
theorem d_RF_respond_46 : decode prog_14_method_54_code 46 = .ok (.ireturn, 1) := by decide +kernel
theorem d_RF_analyse_0 : decode prog_14_method_30_code 0 = .ok (.aload_n 0, 1) := by decide +kernel
theorem d_RF_analyse_1 : decode prog_14_method_30_code 1 = .ok (.iconst 0, 1) := by decide +kernel
theorem d_RF_analyse_2 : decode prog_14_method_30_code 2 = .ok (.putfield 185, 3) := by decide +kernel
theorem d_RF_analyse_5 : decode prog_14_method_30_code 5 = .ok (.aload_n 0, 1) := by decide +kernel
theorem d_RF_analyse_6 : decode prog_14_method_30_code 6 = .ok (.iconst 0, 1) := by decide +kernel
theorem d_RF_analyse_7 : decode prog_14_method_30_code 7 = .ok (.putfield 182, 3) := by decide +kernel
theorem d_RF_analyse_10 : decode prog_14_method_30_code 10 = .ok (.iconst 0, 1) := by decide +kernel
theorem d_RF_analyse_11 : decode prog_14_method_30_code 11 = .ok (.istore_n 1, 1) := by decide +kernel
theorem d_RF_analyse_12 : decode prog_14_method_30_code 12 = .ok (.iload_n 1, 1) := by decide +kernel
theorem d_RF_analyse_13 : decode prog_14_method_30_code 13 = .ok (.bipush 100, 2) := by decide +kernel
theorem d_RF_analyse_15 : decode prog_14_method_30_code 15 = .ok (.if_icmp .gt 16, 3) := by decide +kernel
theorem d_RF_analyse_18 : decode prog_14_method_30_code 18 = .ok (.aload_n 0, 1) := by decide +kernel
theorem d_RF_analyse_19 : decode prog_14_method_30_code 19 = .ok (.getfield 80, 3) := by decide +kernel
theorem d_RF_analyse_22 : decode prog_14_method_30_code 22 = .ok (.iload_n 1, 1) := by decide +kernel
theorem d_RF_analyse_23 : decode prog_14_method_30_code 23 = .ok (.iconst (-1), 1) := by decide +kernel
theorem d_RF_analyse_24 : decode prog_14_method_30_code 24 = .ok (.iastore, 1) := by decide +kernel
theorem d_RF_analyse_25 : decode prog_14_method_30_code 25 = .ok (.iinc 1 1, 3) := by decide +kernel
theorem d_RF_analyse_28 : decode prog_14_method_30_code 28 = .ok (.goto (-16), 3) := by decide +kernel
theorem d_RF_analyse_31 : decode prog_14_method_30_code 31 = .ok (.aload_n 0, 1) := by decide +kernel
theorem d_RF_analyse_32 : decode prog_14_method_30_code 32 = .ok (.bipush 46, 2) := by decide +kernel
theorem d_RF_analyse_34 : decode prog_14_method_30_code 34 = .ok (.iconst (-1), 1) := by decide +kernel
theorem d_RF_analyse_35 : decode prog_14_method_30_code 35 = .ok (.iconst 0, 1) := by decide +kernel
theorem d_RF_analyse_36 : decode prog_14_method_30_code 36 = .ok (.iconst 0, 1) := by decide +kernel
theorem d_RF_analyse_37 : decode prog_14_method_30_code 37 = .ok (.invokevirtual 208, 3) := by decide +kernel
theorem d_RF_analyse_40 : decode prog_14_method_30_code 40 = .ok (.pop, 1) := by decide +kernel
theorem d_RF_analyse_41 : decode prog_14_method_30_code 41 = .ok (.iconst 0, 1) := by decide +kernel
theorem d_RF_analyse_42 : decode prog_14_method_30_code 42 = .ok (.istore_n 1, 1) := by decide +kernel
theorem d_RF_analyse_43 : decode prog_14_method_30_code 43 = .ok (.iload_n 1, 1) := by decide +kernel
theorem d_RF_analyse_44 : decode prog_14_method_30_code 44 = .ok (.aload_n 0, 1) := by decide +kernel
theorem d_RF_analyse_45 : decode prog_14_method_30_code 45 = .ok (.getfield 179, 3) := by decide +kernel
theorem d_RF_analyse_48 : decode prog_14_method_30_code 48 = .ok (.if_icmp .ge 240, 3) := by decide +kernel
theorem d_RF_analyse_51 : decode prog_14_method_30_code 51 = .ok (.aload_n 0, 1) := by decide +kernel
theorem d_RF_analyse_52 : decode prog_14_method_30_code 52 = .ok (.iload_n 1, 1) := by decide +kernel
theorem d_RF_analyse_53 : decode prog_14_method_30_code 53 = .ok (.invokevirtual 191, 3) := by decide +kernel
theorem d_RF_analyse_56 : decode prog_14_method_30_code 56 = .ok (.bipush 60, 2) := by decide +kernel
theorem d_RF_analyse_58 : decode prog_14_method_30_code 58 = .ok (.if_icmp .ne 7, 3) := by decide +kernel
theorem d_RF_analyse_61 : decode prog_14_method_30_code 61 = .ok (.iconst 1, 1) := by decide +kernel
theorem d_RF_analyse_62 : decode prog_14_method_30_code 62 = .ok (.goto 4, 3) := by decide +kernel
theorem d_RF_analyse_65 : decode prog_14_method_30_code 65 = .ok (.iconst 0, 1) := by decide +kernel
theorem d_RF_analyse_66 : decode prog_14_method_30_code 66 = .ok (.istore_n 2, 1) := by decide +kernel
theorem d_RF_analyse_67 : decode prog_14_method_30_code 67 = .ok (.iload_n 2, 1) := by decide +kernel
theorem d_RF_analyse_68 : decode prog_14_method_30_code 68 = .ok (.ifCond .eq 20, 3) := by decide +kernel
theorem d_RF_analyse_71 : decode prog_14_method_30_code 71 = .ok (.aload_n 0, 1) := by decide +kernel
theorem d_RF_analyse_72 : decode prog_14_method_30_code 72 = .ok (.iload_n 1, 1) := by decide +kernel
theorem d_RF_analyse_73 : decode prog_14_method_30_code 73 = .ok (.iconst 1, 1) := by decide +kernel
theorem d_RF_analyse_74 : decode prog_14_method_30_code 74 = .ok (.iadd, 1) := by decide +kernel
theorem d_RF_analyse_75 : decode prog_14_method_30_code 75 = .ok (.invokevirtual 191, 3) := by decide +kernel
theorem d_RF_analyse_78 : decode prog_14_method_30_code 78 = .ok (.invokestatic 127, 3) := by decide +kernel
theorem d_RF_analyse_81 : decode prog_14_method_30_code 81 = .ok (.ifCond .eq 7, 3) := by decide +kernel
theorem d_RF_analyse_84 : decode prog_14_method_30_code 84 = .ok (.iconst 1, 1) := by decide +kernel
theorem d_RF_analyse_85 : decode prog_14_method_30_code 85 = .ok (.goto 4, 3) := by decide +kernel
theorem d_RF_analyse_88 : decode prog_14_method_30_code 88 = .ok (.iconst 0, 1) := by decide +kernel
theorem d_RF_analyse_89 : decode prog_14_method_30_code 89 = .ok (.istore_n 3, 1) := by decide +kernel
theorem d_RF_analyse_90 : decode prog_14_method_30_code 90 = .ok (.iload_n 3, 1) := by decide +kernel
theorem d_RF_analyse_91 : decode prog_14_method_30_code 91 = .ok (.ifCond .eq 19, 3) := by decide +kernel
theorem d_RF_analyse_94 : decode prog_14_method_30_code 94 = .ok (.aload_n 0, 1) := by decide +kernel
theorem d_RF_analyse_95 : decode prog_14_method_30_code 95 = .ok (.iload_n 1, 1) := by decide +kernel
theorem d_RF_analyse_96 : decode prog_14_method_30_code 96 = .ok (.iconst 2, 1) := by decide +kernel
theorem d_RF_analyse_97 : decode prog_14_method_30_code 97 = .ok (.iadd, 1) := by decide +kernel
theorem d_RF_analyse_98 : decode prog_14_method_30_code 98 = .ok (.invokevirtual 191, 3) := by decide +kernel
theorem d_RF_analyse_101 : decode prog_14_method_30_code 101 = .ok (.bipush 62, 2) := by decide +kernel
theorem d_RF_analyse_103 : decode prog_14_method_30_code 103 = .ok (.if_icmp .ne 7, 3) := by decide +kernel
theorem d_RF_analyse_106 : decode prog_14_method_30_code 106 = .ok (.iconst 1, 1) := by decide +kernel
theorem d_RF_analyse_107 : decode prog_14_method_30_code 107 = .ok (.goto 4, 3) := by decide +kernel
theorem d_RF_analyse_110 : decode prog_14_method_30_code 110 = .ok (.iconst 0, 1) := by decide +kernel
theorem d_RF_analyse_111 : decode prog_14_method_30_code 111 = .ok (.istore 4, 2) := by decide +kernel
theorem d_RF_analyse_113 : decode prog_14_method_30_code 113 = .ok (.iload_n 3, 1) := by decide +kernel
theorem d_RF_analyse_114 : decode prog_14_method_30_code 114 = .ok (.ifCond .eq 31, 3) := by decide +kernel
theorem d_RF_analyse_117 : decode prog_14_method_30_code 117 = .ok (.aload_n 0, 1) := by decide +kernel
theorem d_RF_analyse_118 : decode prog_14_method_30_code 118 = .ok (.iload_n 1, 1) := by decide +kernel
theorem d_RF_analyse_119 : decode prog_14_method_30_code 119 = .ok (.iconst 2, 1) := by decide +kernel
theorem d_RF_analyse_120 : decode prog_14_method_30_code 120 = .ok (.iadd, 1) := by decide +kernel
theorem d_RF_analyse_121 : decode prog_14_method_30_code 121 = .ok (.invokevirtual 191, 3) := by decide +kernel
theorem d_RF_analyse_124 : decode prog_14_method_30_code 124 = .ok (.bipush 47, 2) := by decide +kernel
theorem d_RF_analyse_126 : decode prog_14_method_30_code 126 = .ok (.if_icmp .ne 19, 3) := by decide +kernel
theorem d_RF_analyse_129 : decode prog_14_method_30_code 129 = .ok (.aload_n 0, 1) := by decide +kernel
theorem d_RF_analyse_130 : decode prog_14_method_30_code 130 = .ok (.iload_n 1, 1) := by decide +kernel
theorem d_RF_analyse_131 : decode prog_14_method_30_code 131 = .ok (.iconst 3, 1) := by decide +kernel
theorem d_RF_analyse_132 : decode prog_14_method_30_code 132 = .ok (.iadd, 1) := by decide +kernel
theorem d_RF_analyse_133 : decode prog_14_method_30_code 133 = .ok (.invokevirtual 191, 3) := by decide +kernel
theorem d_RF_analyse_136 : decode prog_14_method_30_code 136 = .ok (.bipush 62, 2) := by decide +kernel
theorem d_RF_analyse_138 : decode prog_14_method_30_code 138 = .ok (.if_icmp .ne 7, 3) := by decide +kernel
theorem d_RF_analyse_141 : decode prog_14_method_30_code 141 = .ok (.iconst 1, 1) := by decide +kernel
theorem d_RF_analyse_142 : decode prog_14_method_30_code 142 = .ok (.goto 4, 3) := by decide +kernel
theorem d_RF_analyse_145 : decode prog_14_method_30_code 145 = .ok (.iconst 0, 1) := by decide +kernel
theorem d_RF_analyse_146 : decode prog_14_method_30_code 146 = .ok (.istore 5, 2) := by decide +kernel
theorem d_RF_analyse_148 : decode prog_14_method_30_code 148 = .ok (.iload_n 2, 1) := by decide +kernel
theorem d_RF_analyse_149 : decode prog_14_method_30_code 149 = .ok (.ifCond .eq 44, 3) := by decide +kernel
theorem d_RF_analyse_152 : decode prog_14_method_30_code 152 = .ok (.aload_n 0, 1) := by decide +kernel
theorem d_RF_analyse_153 : decode prog_14_method_30_code 153 = .ok (.iload_n 1, 1) := by decide +kernel
theorem d_RF_analyse_154 : decode prog_14_method_30_code 154 = .ok (.iconst 1, 1) := by decide +kernel
theorem d_RF_analyse_155 : decode prog_14_method_30_code 155 = .ok (.iadd, 1) := by decide +kernel
theorem d_RF_analyse_156 : decode prog_14_method_30_code 156 = .ok (.invokevirtual 191, 3) := by decide +kernel
theorem d_RF_analyse_159 : decode prog_14_method_30_code 159 = .ok (.bipush 47, 2) := by decide +kernel
theorem d_RF_analyse_161 : decode prog_14_method_30_code 161 = .ok (.if_icmp .ne 32, 3) := by decide +kernel
theorem d_RF_analyse_164 : decode prog_14_method_30_code 164 = .ok (.aload_n 0, 1) := by decide +kernel
theorem d_RF_analyse_165 : decode prog_14_method_30_code 165 = .ok (.iload_n 1, 1) := by decide +kernel
theorem d_RF_analyse_166 : decode prog_14_method_30_code 166 = .ok (.iconst 2, 1) := by decide +kernel
theorem d_RF_analyse_167 : decode prog_14_method_30_code 167 = .ok (.iadd, 1) := by decide +kernel
theorem d_RF_analyse_168 : decode prog_14_method_30_code 168 = .ok (.invokevirtual 191, 3) := by decide +kernel
theorem d_RF_analyse_171 : decode prog_14_method_30_code 171 = .ok (.invokestatic 127, 3) := by decide +kernel
theorem d_RF_analyse_174 : decode prog_14_method_30_code 174 = .ok (.ifCond .eq 19, 3) := by decide +kernel
theorem d_RF_analyse_177 : decode prog_14_method_30_code 177 = .ok (.aload_n 0, 1) := by decide +kernel
theorem d_RF_analyse_178 : decode prog_14_method_30_code 178 = .ok (.iload_n 1, 1) := by decide +kernel
theorem d_RF_analyse_179 : decode prog_14_method_30_code 179 = .ok (.iconst 3, 1) := by decide +kernel
theorem d_RF_analyse_180 : decode prog_14_method_30_code 180 = .ok (.iadd, 1) := by decide +kernel
theorem d_RF_analyse_181 : decode prog_14_method_30_code 181 = .ok (.invokevirtual 191, 3) := by decide +kernel
theorem d_RF_analyse_184 : decode prog_14_method_30_code 184 = .ok (.bipush 62, 2) := by decide +kernel
theorem d_RF_analyse_186 : decode prog_14_method_30_code 186 = .ok (.if_icmp .ne 7, 3) := by decide +kernel
theorem d_RF_analyse_189 : decode prog_14_method_30_code 189 = .ok (.iconst 1, 1) := by decide +kernel
theorem d_RF_analyse_190 : decode prog_14_method_30_code 190 = .ok (.goto 4, 3) := by decide +kernel
theorem d_RF_analyse_193 : decode prog_14_method_30_code 193 = .ok (.iconst 0, 1) := by decide +kernel
theorem d_RF_analyse_194 : decode prog_14_method_30_code 194 = .ok (.istore 6, 2) := by decide +kernel
theorem d_RF_analyse_196 : decode prog_14_method_30_code 196 = .ok (.iload 4, 2) := by decide +kernel
theorem d_RF_analyse_198 : decode prog_14_method_30_code 198 = .ok (.ifCond .eq 9, 3) := by decide +kernel
theorem d_RF_analyse_201 : decode prog_14_method_30_code 201 = .ok (.iload_n 1, 1) := by decide +kernel
theorem d_RF_analyse_202 : decode prog_14_method_30_code 202 = .ok (.iconst 3, 1) := by decide +kernel
theorem d_RF_analyse_203 : decode prog_14_method_30_code 203 = .ok (.iadd, 1) := by decide +kernel
theorem d_RF_analyse_204 : decode prog_14_method_30_code 204 = .ok (.goto 22, 3) := by decide +kernel
theorem d_RF_analyse_207 : decode prog_14_method_30_code 207 = .ok (.iload 5, 2) := by decide +kernel
theorem d_RF_analyse_209 : decode prog_14_method_30_code 209 = .ok (.ifCond .ne 8, 3) := by decide +kernel
theorem d_RF_analyse_212 : decode prog_14_method_30_code 212 = .ok (.iload 6, 2) := by decide +kernel
theorem d_RF_analyse_214 : decode prog_14_method_30_code 214 = .ok (.ifCond .eq 9, 3) := by decide +kernel
theorem d_RF_analyse_217 : decode prog_14_method_30_code 217 = .ok (.iload_n 1, 1) := by decide +kernel
theorem d_RF_analyse_218 : decode prog_14_method_30_code 218 = .ok (.iconst 4, 1) := by decide +kernel
theorem d_RF_analyse_219 : decode prog_14_method_30_code 219 = .ok (.iadd, 1) := by decide +kernel
theorem d_RF_analyse_220 : decode prog_14_method_30_code 220 = .ok (.goto 6, 3) := by decide +kernel
theorem d_RF_analyse_223 : decode prog_14_method_30_code 223 = .ok (.iload_n 1, 1) := by decide +kernel
theorem d_RF_analyse_224 : decode prog_14_method_30_code 224 = .ok (.iconst 1, 1) := by decide +kernel
theorem d_RF_analyse_225 : decode prog_14_method_30_code 225 = .ok (.iadd, 1) := by decide +kernel
theorem d_RF_analyse_226 : decode prog_14_method_30_code 226 = .ok (.istore 7, 2) := by decide +kernel
theorem d_RF_analyse_228 : decode prog_14_method_30_code 228 = .ok (.iload 7, 2) := by decide +kernel
theorem d_RF_analyse_230 : decode prog_14_method_30_code 230 = .ok (.iload_n 1, 1) := by decide +kernel
theorem d_RF_analyse_231 : decode prog_14_method_30_code 231 = .ok (.iconst 1, 1) := by decide +kernel
theorem d_RF_analyse_232 : decode prog_14_method_30_code 232 = .ok (.iadd, 1) := by decide +kernel
theorem d_RF_analyse_233 : decode prog_14_method_30_code 233 = .ok (.if_icmp .le 11, 3) := by decide +kernel
theorem d_RF_analyse_236 : decode prog_14_method_30_code 236 = .ok (.aload_n 0, 1) := by decide +kernel
theorem d_RF_analyse_237 : decode prog_14_method_30_code 237 = .ok (.iload_n 1, 1) := by decide +kernel
theorem d_RF_analyse_238 : decode prog_14_method_30_code 238 = .ok (.iload 7, 2) := by decide +kernel
theorem d_RF_analyse_240 : decode prog_14_method_30_code 240 = .ok (.iconst (-1), 1) := by decide +kernel
theorem d_RF_analyse_241 : decode prog_14_method_30_code 241 = .ok (.invokevirtual 197, 3) := by decide +kernel
theorem d_RF_analyse_244 : decode prog_14_method_30_code 244 = .ok (.iload 4, 2) := by decide +kernel
theorem d_RF_analyse_246 : decode prog_14_method_30_code 246 = .ok (.ifCond .ne 8, 3) := by decide +kernel
theorem d_RF_analyse_249 : decode prog_14_method_30_code 249 = .ok (.iload 5, 2) := by decide +kernel
theorem d_RF_analyse_251 : decode prog_14_method_30_code 251 = .ok (.ifCond .eq 13, 3) := by decide +kernel
theorem d_RF_analyse_254 : decode prog_14_method_30_code 254 = .ok (.aload_n 0, 1) := by decide +kernel
theorem d_RF_analyse_255 : decode prog_14_method_30_code 255 = .ok (.iload_n 1, 1) := by decide +kernel
theorem d_RF_analyse_256 : decode prog_14_method_30_code 256 = .ok (.iload 5, 2) := by decide +kernel
theorem d_RF_analyse_258 : decode prog_14_method_30_code 258 = .ok (.invokevirtual 212, 3) := by decide +kernel
theorem d_RF_analyse_261 : decode prog_14_method_30_code 261 = .ok (.goto 21, 3) := by decide +kernel
theorem d_RF_analyse_264 : decode prog_14_method_30_code 264 = .ok (.iload 6, 2) := by decide +kernel
theorem d_RF_analyse_266 : decode prog_14_method_30_code 266 = .ok (.ifCond .eq 11, 3) := by decide +kernel
theorem d_RF_analyse_269 : decode prog_14_method_30_code 269 = .ok (.aload_n 0, 1) := by decide +kernel
theorem d_RF_analyse_270 : decode prog_14_method_30_code 270 = .ok (.iload_n 1, 1) := by decide +kernel
theorem d_RF_analyse_271 : decode prog_14_method_30_code 271 = .ok (.invokevirtual 216, 3) := by decide +kernel
theorem d_RF_analyse_274 : decode prog_14_method_30_code 274 = .ok (.goto 8, 3) := by decide +kernel
theorem d_RF_analyse_277 : decode prog_14_method_30_code 277 = .ok (.aload_n 0, 1) := by decide +kernel
theorem d_RF_analyse_278 : decode prog_14_method_30_code 278 = .ok (.iload_n 1, 1) := by decide +kernel
theorem d_RF_analyse_279 : decode prog_14_method_30_code 279 = .ok (.invokevirtual 219, 3) := by decide +kernel
theorem d_RF_analyse_282 : decode prog_14_method_30_code 282 = .ok (.iload 7, 2) := by decide +kernel
theorem d_RF_analyse_284 : decode prog_14_method_30_code 284 = .ok (.istore_n 1, 1) := by decide +kernel
theorem d_RF_analyse_285 : decode prog_14_method_30_code 285 = .ok (.goto (-242), 3) := by decide +kernel
theorem d_RF_analyse_288 : decode prog_14_method_30_code 288 = .ok (.iconst 1, 1) := by decide +kernel
theorem d_RF_analyse_289 : decode prog_14_method_30_code 289 = .ok (.istore_n 2, 1) := by decide +kernel
theorem d_RF_analyse_290 : decode prog_14_method_30_code 290 = .ok (.iload_n 2, 1) := by decide +kernel
theorem d_RF_analyse_291 : decode prog_14_method_30_code 291 = .ok (.aload_n 0, 1) := by decide +kernel
theorem d_RF_analyse_292 : decode prog_14_method_30_code 292 = .ok (.getfield 185, 3) := by decide +kernel
theorem d_RF_analyse_295 : decode prog_14_method_30_code 295 = .ok (.if_icmp .ge 27, 3) := by decide +kernel
theorem d_RF_analyse_298 : decode prog_14_method_30_code 298 = .ok (.aload_n 0, 1) := by decide +kernel
theorem d_RF_analyse_299 : decode prog_14_method_30_code 299 = .ok (.getfield 77, 3) := by decide +kernel
theorem d_RF_analyse_302 : decode prog_14_method_30_code 302 = .ok (.iload_n 2, 1) := by decide +kernel
theorem d_RF_analyse_303 : decode prog_14_method_30_code 303 = .ok (.baload, 1) := by decide +kernel
theorem d_RF_analyse_304 : decode prog_14_method_30_code 304 = .ok (.ifCond .eq 12, 3) := by decide +kernel
theorem d_RF_analyse_307 : decode prog_14_method_30_code 307 = .ok (.aload_n 0, 1) := by decide +kernel
theorem d_RF_analyse_308 : decode prog_14_method_30_code 308 = .ok (.iload_n 2, 1) := by decide +kernel
theorem d_RF_analyse_309 : decode prog_14_method_30_code 309 = .ok (.aload_n 0, 1) := by decide +kernel
theorem d_RF_analyse_310 : decode prog_14_method_30_code 310 = .ok (.getfield 179, 3) := by decide +kernel
theorem d_RF_analyse_313 : decode prog_14_method_30_code 313 = .ok (.invokevirtual 194, 3) := by decide +kernel
theorem d_RF_analyse_316 : decode prog_14_method_30_code 316 = .ok (.iinc 2 1, 3) := by decide +kernel
theorem d_RF_analyse_319 : decode prog_14_method_30_code 319 = .ok (.goto (-29), 3) := by decide +kernel
theorem d_RF_analyse_322 : decode prog_14_method_30_code 322 = .ok (.aload_n 0, 1) := by decide +kernel
theorem d_RF_analyse_323 : decode prog_14_method_30_code 323 = .ok (.getfield 68, 3) := by decide +kernel
theorem d_RF_analyse_326 : decode prog_14_method_30_code 326 = .ok (.iconst 0, 1) := by decide +kernel
theorem d_RF_analyse_327 : decode prog_14_method_30_code 327 = .ok (.aload_n 0, 1) := by decide +kernel
theorem d_RF_analyse_328 : decode prog_14_method_30_code 328 = .ok (.getfield 179, 3) := by decide +kernel
theorem d_RF_analyse_331 : decode prog_14_method_30_code 331 = .ok (.iastore, 1) := by decide +kernel
theorem d_RF_analyse_332 : decode prog_14_method_30_code 332 = .ok (.aload_n 0, 1) := by decide +kernel
theorem d_RF_analyse_333 : decode prog_14_method_30_code 333 = .ok (.getfield 62, 3) := by decide +kernel
theorem d_RF_analyse_336 : decode prog_14_method_30_code 336 = .ok (.iconst 0, 1) := by decide +kernel
theorem d_RF_analyse_337 : decode prog_14_method_30_code 337 = .ok (.aload_n 0, 1) := by decide +kernel
theorem d_RF_analyse_338 : decode prog_14_method_30_code 338 = .ok (.getfield 179, 3) := by decide +kernel
theorem d_RF_analyse_341 : decode prog_14_method_30_code 341 = .ok (.iastore, 1) := by decide +kernel
theorem d_RF_analyse_342 : decode prog_14_method_30_code 342 = .ok (.iconst 0, 1) := by decide +kernel
theorem d_RF_analyse_343 : decode prog_14_method_30_code 343 = .ok (.istore_n 2, 1) := by decide +kernel
theorem d_RF_analyse_344 : decode prog_14_method_30_code 344 = .ok (.iload_n 2, 1) := by decide +kernel
theorem d_RF_analyse_345 : decode prog_14_method_30_code 345 = .ok (.aload_n 0, 1) := by decide +kernel
theorem d_RF_analyse_346 : decode prog_14_method_30_code 346 = .ok (.getfield 185, 3) := by decide +kernel
theorem d_RF_analyse_349 : decode prog_14_method_30_code 349 = .ok (.if_icmp .ge 14, 3) := by decide +kernel
theorem d_RF_analyse_352 : decode prog_14_method_30_code 352 = .ok (.aload_n 0, 1) := by decide +kernel
theorem d_RF_analyse_353 : decode prog_14_method_30_code 353 = .ok (.iload_n 2, 1) := by decide +kernel
theorem d_RF_analyse_354 : decode prog_14_method_30_code 354 = .ok (.invokevirtual 222, 3) := by decide +kernel
theorem d_RF_analyse_357 : decode prog_14_method_30_code 357 = .ok (.iinc 2 1, 3) := by decide +kernel
theorem d_RF_analyse_360 : decode prog_14_method_30_code 360 = .ok (.goto (-16), 3) := by decide +kernel
theorem d_RF_analyse_363 : decode prog_14_method_30_code 363 = .ok (.return_, 1) := by decide +kernel
theorem d_RF_newElement_0 : decode prog_14_method_23_code 0 = .ok (.aload_n 0, 1) := by decide +kernel
theorem d_RF_newElement_1 : decode prog_14_method_23_code 1 = .ok (.getfield 53, 3) := by decide +kernel
theorem d_RF_newElement_4 : decode prog_14_method_23_code 4 = .ok (.aload_n 0, 1) := by decide +kernel
theorem d_RF_newElement_5 : decode prog_14_method_23_code 5 = .ok (.getfield 185, 3) := by decide +kernel
theorem d_RF_newElement_8 : decode prog_14_method_23_code 8 = .ok (.iload_n 1, 1) := by decide +kernel
theorem d_RF_newElement_9 : decode prog_14_method_23_code 9 = .ok (.iastore, 1) := by decide +kernel
theorem d_RF_newElement_10 : decode prog_14_method_23_code 10 = .ok (.aload_n 0, 1) := by decide +kernel
theorem d_RF_newElement_11 : decode prog_14_method_23_code 11 = .ok (.getfield 56, 3) := by decide +kernel
theorem d_RF_newElement_14 : decode prog_14_method_23_code 14 = .ok (.aload_n 0, 1) := by decide +kernel
theorem d_RF_newElement_15 : decode prog_14_method_23_code 15 = .ok (.getfield 185, 3) := by decide +kernel
theorem d_RF_newElement_18 : decode prog_14_method_23_code 18 = .ok (.iload_n 2, 1) := by decide +kernel
theorem d_RF_newElement_19 : decode prog_14_method_23_code 19 = .ok (.iastore, 1) := by decide +kernel
theorem d_RF_newElement_20 : decode prog_14_method_23_code 20 = .ok (.aload_n 0, 1) := by decide +kernel
theorem d_RF_newElement_21 : decode prog_14_method_23_code 21 = .ok (.getfield 59, 3) := by decide +kernel
theorem d_RF_newElement_24 : decode prog_14_method_23_code 24 = .ok (.aload_n 0, 1) := by decide +kernel
theorem d_RF_newElement_25 : decode prog_14_method_23_code 25 = .ok (.getfield 185, 3) := by decide +kernel
theorem d_RF_newElement_28 : decode prog_14_method_23_code 28 = .ok (.iload_n 3, 1) := by decide +kernel
theorem d_RF_newElement_29 : decode prog_14_method_23_code 29 = .ok (.iastore, 1) := by decide +kernel
theorem d_RF_newElement_30 : decode prog_14_method_23_code 30 = .ok (.aload_n 0, 1) := by decide +kernel
theorem d_RF_newElement_31 : decode prog_14_method_23_code 31 = .ok (.getfield 65, 3) := by decide +kernel
theorem d_RF_newElement_34 : decode prog_14_method_23_code 34 = .ok (.aload_n 0, 1) := by decide +kernel
theorem d_RF_newElement_35 : decode prog_14_method_23_code 35 = .ok (.getfield 185, 3) := by decide +kernel
theorem d_RF_newElement_38 : decode prog_14_method_23_code 38 = .ok (.iload 4, 2) := by decide +kernel
theorem d_RF_newElement_40 : decode prog_14_method_23_code 40 = .ok (.iastore, 1) := by decide +kernel
theorem d_RF_newElement_41 : decode prog_14_method_23_code 41 = .ok (.aload_n 0, 1) := by decide +kernel
theorem d_RF_newElement_42 : decode prog_14_method_23_code 42 = .ok (.getfield 68, 3) := by decide +kernel
theorem d_RF_newElement_45 : decode prog_14_method_23_code 45 = .ok (.aload_n 0, 1) := by decide +kernel
theorem d_RF_newElement_46 : decode prog_14_method_23_code 46 = .ok (.getfield 185, 3) := by decide +kernel
theorem d_RF_newElement_49 : decode prog_14_method_23_code 49 = .ok (.iload 4, 2) := by decide +kernel
theorem d_RF_newElement_51 : decode prog_14_method_23_code 51 = .ok (.iastore, 1) := by decide +kernel
theorem d_RF_newElement_52 : decode prog_14_method_23_code 52 = .ok (.aload_n 0, 1) := by decide +kernel
theorem d_RF_newElement_53 : decode prog_14_method_23_code 53 = .ok (.getfield 62, 3) := by decide +kernel
theorem d_RF_newElement_56 : decode prog_14_method_23_code 56 = .ok (.aload_n 0, 1) := by decide +kernel
theorem d_RF_newElement_57 : decode prog_14_method_23_code 57 = .ok (.getfield 185, 3) := by decide +kernel
theorem d_RF_newElement_60 : decode prog_14_method_23_code 60 = .ok (.iload 4, 2) := by decide +kernel
theorem d_RF_newElement_62 : decode prog_14_method_23_code 62 = .ok (.iastore, 1) := by decide +kernel
theorem d_RF_newElement_63 : decode prog_14_method_23_code 63 = .ok (.aload_n 0, 1) := by decide +kernel
theorem d_RF_newElement_64 : decode prog_14_method_23_code 64 = .ok (.getfield 71, 3) := by decide +kernel
theorem d_RF_newElement_67 : decode prog_14_method_23_code 67 = .ok (.aload_n 0, 1) := by decide +kernel
theorem d_RF_newElement_68 : decode prog_14_method_23_code 68 = .ok (.getfield 185, 3) := by decide +kernel
theorem d_RF_newElement_71 : decode prog_14_method_23_code 71 = .ok (.iconst (-1), 1) := by decide +kernel
theorem d_RF_newElement_72 : decode prog_14_method_23_code 72 = .ok (.iastore, 1) := by decide +kernel
theorem d_RF_newElement_73 : decode prog_14_method_23_code 73 = .ok (.aload_n 0, 1) := by decide +kernel
theorem d_RF_newElement_74 : decode prog_14_method_23_code 74 = .ok (.getfield 74, 3) := by decide +kernel
theorem d_RF_newElement_77 : decode prog_14_method_23_code 77 = .ok (.aload_n 0, 1) := by decide +kernel
theorem d_RF_newElement_78 : decode prog_14_method_23_code 78 = .ok (.getfield 185, 3) := by decide +kernel
theorem d_RF_newElement_81 : decode prog_14_method_23_code 81 = .ok (.iconst (-1), 1) := by decide +kernel
theorem d_RF_newElement_82 : decode prog_14_method_23_code 82 = .ok (.iastore, 1) := by decide +kernel
theorem d_RF_newElement_83 : decode prog_14_method_23_code 83 = .ok (.aload_n 0, 1) := by decide +kernel
theorem d_RF_newElement_84 : decode prog_14_method_23_code 84 = .ok (.getfield 77, 3) := by decide +kernel
theorem d_RF_newElement_87 : decode prog_14_method_23_code 87 = .ok (.aload_n 0, 1) := by decide +kernel
theorem d_RF_newElement_88 : decode prog_14_method_23_code 88 = .ok (.getfield 185, 3) := by decide +kernel
theorem d_RF_newElement_91 : decode prog_14_method_23_code 91 = .ok (.iconst 1, 1) := by decide +kernel
theorem d_RF_newElement_92 : decode prog_14_method_23_code 92 = .ok (.bastore, 1) := by decide +kernel
theorem d_RF_newElement_93 : decode prog_14_method_23_code 93 = .ok (.aload_n 0, 1) := by decide +kernel
theorem d_RF_newElement_94 : decode prog_14_method_23_code 94 = .ok (.dup, 1) := by decide +kernel
theorem d_RF_newElement_95 : decode prog_14_method_23_code 95 = .ok (.getfield 185, 3) := by decide +kernel
theorem d_RF_newElement_98 : decode prog_14_method_23_code 98 = .ok (.iconst 1, 1) := by decide +kernel
theorem d_RF_newElement_99 : decode prog_14_method_23_code 99 = .ok (.iadd, 1) := by decide +kernel
theorem d_RF_newElement_100 : decode prog_14_method_23_code 100 = .ok (.putfield 185, 3) := by decide +kernel
theorem d_RF_newElement_103 : decode prog_14_method_23_code 103 = .ok (.aload_n 0, 1) := by decide +kernel
theorem d_RF_newElement_104 : decode prog_14_method_23_code 104 = .ok (.getfield 185, 3) := by decide +kernel
theorem d_RF_newElement_107 : decode prog_14_method_23_code 107 = .ok (.iconst 1, 1) := by decide +kernel
theorem d_RF_newElement_108 : decode prog_14_method_23_code 108 = .ok (.isub, 1) := by decide +kernel
theorem d_RF_newElement_109 : decode prog_14_method_23_code 109 = .ok (.ireturn, 1) := by decide +kernel
theorem d_RF_charAt_0 : decode prog_14_method_20_code 0 = .ok (.iload_n 1, 1) := by decide +kernel
theorem d_RF_charAt_1 : decode prog_14_method_20_code 1 = .ok (.ifCond .lt 20, 3) := by decide +kernel
theorem d_RF_charAt_4 : decode prog_14_method_20_code 4 = .ok (.iload_n 1, 1) := by decide +kernel
theorem d_RF_charAt_5 : decode prog_14_method_20_code 5 = .ok (.aload_n 0, 1) := by decide +kernel
theorem d_RF_charAt_6 : decode prog_14_method_20_code 6 = .ok (.getfield 179, 3) := by decide +kernel
theorem d_RF_charAt_9 : decode prog_14_method_20_code 9 = .ok (.if_icmp .ge 12, 3) := by decide +kernel
theorem d_RF_charAt_12 : decode prog_14_method_20_code 12 = .ok (.aload_n 0, 1) := by decide +kernel
theorem d_RF_charAt_13 : decode prog_14_method_20_code 13 = .ok (.getfield 50, 3) := by decide +kernel
theorem d_RF_charAt_16 : decode prog_14_method_20_code 16 = .ok (.iload_n 1, 1) := by decide +kernel
theorem d_RF_charAt_17 : decode prog_14_method_20_code 17 = .ok (.iaload, 1) := by decide +kernel
theorem d_RF_charAt_18 : decode prog_14_method_20_code 18 = .ok (.goto 4, 3) := by decide +kernel
theorem d_RF_charAt_21 : decode prog_14_method_20_code 21 = .ok (.iconst 0, 1) := by decide +kernel
theorem d_RF_charAt_22 : decode prog_14_method_20_code 22 = .ok (.ireturn, 1) := by decide +kernel
theorem d_RF_mark_0 : decode prog_14_method_22_code 0 = .ok (.iload_n 1, 1) := by decide +kernel
theorem d_RF_mark_1 : decode prog_14_method_22_code 1 = .ok (.istore 4, 2) := by decide +kernel
theorem d_RF_mark_3 : decode prog_14_method_22_code 3 = .ok (.iload 4, 2) := by decide +kernel
theorem d_RF_mark_5 : decode prog_14_method_22_code 5 = .ok (.iload_n 2, 1) := by decide +kernel
theorem d_RF_mark_6 : decode prog_14_method_22_code 6 = .ok (.if_icmp .ge 33, 3) := by decide +kernel
theorem d_RF_mark_9 : decode prog_14_method_22_code 9 = .ok (.aload_n 0, 1) := by decide +kernel
theorem d_RF_mark_10 : decode prog_14_method_22_code 10 = .ok (.getfield 80, 3) := by decide +kernel
theorem d_RF_mark_13 : decode prog_14_method_22_code 13 = .ok (.iload 4, 2) := by decide +kernel
theorem d_RF_mark_15 : decode prog_14_method_22_code 15 = .ok (.iload_n 1, 1) := by decide +kernel
theorem d_RF_mark_16 : decode prog_14_method_22_code 16 = .ok (.iastore, 1) := by decide +kernel
theorem d_RF_mark_17 : decode prog_14_method_22_code 17 = .ok (.aload_n 0, 1) := by decide +kernel
theorem d_RF_mark_18 : decode prog_14_method_22_code 18 = .ok (.getfield 83, 3) := by decide +kernel
theorem d_RF_mark_21 : decode prog_14_method_22_code 21 = .ok (.iload 4, 2) := by decide +kernel
theorem d_RF_mark_23 : decode prog_14_method_22_code 23 = .ok (.iload_n 2, 1) := by decide +kernel
theorem d_RF_mark_24 : decode prog_14_method_22_code 24 = .ok (.iastore, 1) := by decide +kernel
theorem d_RF_mark_25 : decode prog_14_method_22_code 25 = .ok (.aload_n 0, 1) := by decide +kernel
theorem d_RF_mark_26 : decode prog_14_method_22_code 26 = .ok (.getfield 86, 3) := by decide +kernel
theorem d_RF_mark_29 : decode prog_14_method_22_code 29 = .ok (.iload 4, 2) := by decide +kernel
theorem d_RF_mark_31 : decode prog_14_method_22_code 31 = .ok (.iload_n 3, 1) := by decide +kernel
theorem d_RF_mark_32 : decode prog_14_method_22_code 32 = .ok (.iastore, 1) := by decide +kernel
theorem d_RF_mark_33 : decode prog_14_method_22_code 33 = .ok (.iinc 4 1, 3) := by decide +kernel
theorem d_RF_mark_36 : decode prog_14_method_22_code 36 = .ok (.goto (-33), 3) := by decide +kernel
theorem d_RF_mark_39 : decode prog_14_method_22_code 39 = .ok (.return_, 1) := by decide +kernel
theorem d_RF_takeStart_0 : decode prog_14_method_28_code 0 = .ok (.iload_n 2, 1) := by decide +kernel
theorem d_RF_takeStart_1 : decode prog_14_method_28_code 1 = .ok (.ifCond .eq 9, 3) := by decide +kernel
theorem d_RF_takeStart_4 : decode prog_14_method_28_code 4 = .ok (.iload_n 1, 1) := by decide +kernel
theorem d_RF_takeStart_5 : decode prog_14_method_28_code 5 = .ok (.iconst 4, 1) := by decide +kernel
theorem d_RF_takeStart_6 : decode prog_14_method_28_code 6 = .ok (.iadd, 1) := by decide +kernel
theorem d_RF_takeStart_7 : decode prog_14_method_28_code 7 = .ok (.goto 6, 3) := by decide +kernel
theorem d_RF_takeStart_10 : decode prog_14_method_28_code 10 = .ok (.iload_n 1, 1) := by decide +kernel
theorem d_RF_takeStart_11 : decode prog_14_method_28_code 11 = .ok (.iconst 3, 1) := by decide +kernel
theorem d_RF_takeStart_12 : decode prog_14_method_28_code 12 = .ok (.iadd, 1) := by decide +kernel
theorem d_RF_takeStart_13 : decode prog_14_method_28_code 13 = .ok (.istore_n 3, 1) := by decide +kernel
theorem d_RF_takeStart_14 : decode prog_14_method_28_code 14 = .ok (.aload_n 0, 1) := by decide +kernel
theorem d_RF_takeStart_15 : decode prog_14_method_28_code 15 = .ok (.invokevirtual 201, 3) := by decide +kernel
theorem d_RF_takeStart_18 : decode prog_14_method_28_code 18 = .ok (.bipush 8, 2) := by decide +kernel
theorem d_RF_takeStart_20 : decode prog_14_method_28_code 20 = .ok (.if_icmp .ne 10, 3) := by decide +kernel
theorem d_RF_takeStart_23 : decode prog_14_method_28_code 23 = .ok (.aload_n 0, 1) := by decide +kernel
theorem d_RF_takeStart_24 : decode prog_14_method_28_code 24 = .ok (.iconst 2, 1) := by decide +kernel
theorem d_RF_takeStart_25 : decode prog_14_method_28_code 25 = .ok (.iload_n 1, 1) := by decide +kernel
theorem d_RF_takeStart_26 : decode prog_14_method_28_code 26 = .ok (.invokevirtual 188, 3) := by decide +kernel
theorem d_RF_takeStart_29 : decode prog_14_method_28_code 29 = .ok (.return_, 1) := by decide +kernel
theorem d_RF_takeStart_30 : decode prog_14_method_28_code 30 = .ok (.aload_n 0, 1) := by decide +kernel
theorem d_RF_takeStart_31 : decode prog_14_method_28_code 31 = .ok (.aload_n 0, 1) := by decide +kernel
theorem d_RF_takeStart_32 : decode prog_14_method_28_code 32 = .ok (.iload_n 1, 1) := by decide +kernel
theorem d_RF_takeStart_33 : decode prog_14_method_28_code 33 = .ok (.iconst 1, 1) := by decide +kernel
theorem d_RF_takeStart_34 : decode prog_14_method_28_code 34 = .ok (.iadd, 1) := by decide +kernel
theorem d_RF_takeStart_35 : decode prog_14_method_28_code 35 = .ok (.invokevirtual 191, 3) := by decide +kernel
theorem d_RF_takeStart_38 : decode prog_14_method_28_code 38 = .ok (.aload_n 0, 1) := by decide +kernel
theorem d_RF_takeStart_39 : decode prog_14_method_28_code 39 = .ok (.invokevirtual 205, 3) := by decide +kernel
theorem d_RF_takeStart_42 : decode prog_14_method_28_code 42 = .ok (.iload_n 1, 1) := by decide +kernel
theorem d_RF_takeStart_43 : decode prog_14_method_28_code 43 = .ok (.iload_n 3, 1) := by decide +kernel
theorem d_RF_takeStart_44 : decode prog_14_method_28_code 44 = .ok (.invokevirtual 208, 3) := by decide +kernel
theorem d_RF_takeStart_47 : decode prog_14_method_28_code 47 = .ok (.istore 4, 2) := by decide +kernel
theorem d_RF_takeStart_49 : decode prog_14_method_28_code 49 = .ok (.aload_n 0, 1) := by decide +kernel
theorem d_RF_takeStart_50 : decode prog_14_method_28_code 50 = .ok (.iload_n 1, 1) := by decide +kernel
theorem d_RF_takeStart_51 : decode prog_14_method_28_code 51 = .ok (.iload_n 3, 1) := by decide +kernel
theorem d_RF_takeStart_52 : decode prog_14_method_28_code 52 = .ok (.iload 4, 2) := by decide +kernel
theorem d_RF_takeStart_54 : decode prog_14_method_28_code 54 = .ok (.invokevirtual 197, 3) := by decide +kernel
theorem d_RF_takeStart_57 : decode prog_14_method_28_code 57 = .ok (.iload_n 2, 1) := by decide +kernel
theorem d_RF_takeStart_58 : decode prog_14_method_28_code 58 = .ok (.ifCond .ne 4, 3) := by decide +kernel
theorem d_RF_takeStart_61 : decode prog_14_method_28_code 61 = .ok (.return_, 1) := by decide +kernel
theorem d_RF_takeStart_62 : decode prog_14_method_28_code 62 = .ok (.aload_n 0, 1) := by decide +kernel
theorem d_RF_takeStart_63 : decode prog_14_method_28_code 63 = .ok (.getfield 77, 3) := by decide +kernel
theorem d_RF_takeStart_66 : decode prog_14_method_28_code 66 = .ok (.iload 4, 2) := by decide +kernel
theorem d_RF_takeStart_68 : decode prog_14_method_28_code 68 = .ok (.iconst 0, 1) := by decide +kernel
theorem d_RF_takeStart_69 : decode prog_14_method_28_code 69 = .ok (.bastore, 1) := by decide +kernel
theorem d_RF_takeStart_70 : decode prog_14_method_28_code 70 = .ok (.aload_n 0, 1) := by decide +kernel
theorem d_RF_takeStart_71 : decode prog_14_method_28_code 71 = .ok (.getfield 65, 3) := by decide +kernel
theorem d_RF_takeStart_74 : decode prog_14_method_28_code 74 = .ok (.iload 4, 2) := by decide +kernel
theorem d_RF_takeStart_76 : decode prog_14_method_28_code 76 = .ok (.iconst (-1), 1) := by decide +kernel
theorem d_RF_takeStart_77 : decode prog_14_method_28_code 77 = .ok (.iastore, 1) := by decide +kernel
theorem d_RF_takeStart_78 : decode prog_14_method_28_code 78 = .ok (.aload_n 0, 1) := by decide +kernel
theorem d_RF_takeStart_79 : decode prog_14_method_28_code 79 = .ok (.getfield 68, 3) := by decide +kernel
theorem d_RF_takeStart_82 : decode prog_14_method_28_code 82 = .ok (.iload 4, 2) := by decide +kernel
theorem d_RF_takeStart_84 : decode prog_14_method_28_code 84 = .ok (.iconst (-1), 1) := by decide +kernel
theorem d_RF_takeStart_85 : decode prog_14_method_28_code 85 = .ok (.iastore, 1) := by decide +kernel
theorem d_RF_takeStart_86 : decode prog_14_method_28_code 86 = .ok (.return_, 1) := by decide +kernel
theorem d_RF_openElements_0 : decode prog_14_method_25_code 0 = .ok (.iconst 0, 1) := by decide +kernel
theorem d_RF_openElements_1 : decode prog_14_method_25_code 1 = .ok (.istore_n 1, 1) := by decide +kernel
theorem d_RF_openElements_2 : decode prog_14_method_25_code 2 = .ok (.iconst 1, 1) := by decide +kernel
theorem d_RF_openElements_3 : decode prog_14_method_25_code 3 = .ok (.istore_n 2, 1) := by decide +kernel
theorem d_RF_openElements_4 : decode prog_14_method_25_code 4 = .ok (.iload_n 2, 1) := by decide +kernel
theorem d_RF_openElements_5 : decode prog_14_method_25_code 5 = .ok (.aload_n 0, 1) := by decide +kernel
theorem d_RF_openElements_6 : decode prog_14_method_25_code 6 = .ok (.getfield 185, 3) := by decide +kernel
theorem d_RF_openElements_9 : decode prog_14_method_25_code 9 = .ok (.if_icmp .ge 21, 3) := by decide +kernel
theorem d_RF_openElements_12 : decode prog_14_method_25_code 12 = .ok (.aload_n 0, 1) := by decide +kernel
theorem d_RF_openElements_13 : decode prog_14_method_25_code 13 = .ok (.getfield 77, 3) := by decide +kernel
theorem d_RF_openElements_16 : decode prog_14_method_25_code 16 = .ok (.iload_n 2, 1) := by decide +kernel
theorem d_RF_openElements_17 : decode prog_14_method_25_code 17 = .ok (.baload, 1) := by decide +kernel
theorem d_RF_openElements_18 : decode prog_14_method_25_code 18 = .ok (.ifCond .eq 6, 3) := by decide +kernel
theorem d_RF_openElements_21 : decode prog_14_method_25_code 21 = .ok (.iinc 1 1, 3) := by decide +kernel
theorem d_RF_openElements_24 : decode prog_14_method_25_code 24 = .ok (.iinc 2 1, 3) := by decide +kernel
theorem d_RF_openElements_27 : decode prog_14_method_25_code 27 = .ok (.goto (-23), 3) := by decide +kernel
theorem d_RF_openElements_30 : decode prog_14_method_25_code 30 = .ok (.iload_n 1, 1) := by decide +kernel
theorem d_RF_openElements_31 : decode prog_14_method_25_code 31 = .ok (.ireturn, 1) := by decide +kernel
theorem d_RF_addFault_0 : decode prog_14_method_21_code 0 = .ok (.aload_n 0, 1) := by decide +kernel
theorem d_RF_addFault_1 : decode prog_14_method_21_code 1 = .ok (.getfield 182, 3) := by decide +kernel
theorem d_RF_addFault_4 : decode prog_14_method_21_code 4 = .ok (.istore_n 3, 1) := by decide +kernel
theorem d_RF_addFault_5 : decode prog_14_method_21_code 5 = .ok (.iload_n 3, 1) := by decide +kernel
theorem d_RF_addFault_6 : decode prog_14_method_21_code 6 = .ok (.ifCond .le 73, 3) := by decide +kernel
theorem d_RF_addFault_9 : decode prog_14_method_21_code 9 = .ok (.aload_n 0, 1) := by decide +kernel
theorem d_RF_addFault_10 : decode prog_14_method_21_code 10 = .ok (.getfield 92, 3) := by decide +kernel
theorem d_RF_addFault_13 : decode prog_14_method_21_code 13 = .ok (.iload_n 3, 1) := by decide +kernel
theorem d_RF_addFault_14 : decode prog_14_method_21_code 14 = .ok (.iconst 1, 1) := by decide +kernel
theorem d_RF_addFault_15 : decode prog_14_method_21_code 15 = .ok (.isub, 1) := by decide +kernel
theorem d_RF_addFault_16 : decode prog_14_method_21_code 16 = .ok (.iaload, 1) := by decide +kernel
theorem d_RF_addFault_17 : decode prog_14_method_21_code 17 = .ok (.iload_n 2, 1) := by decide +kernel
theorem d_RF_addFault_18 : decode prog_14_method_21_code 18 = .ok (.if_icmp .gt 27, 3) := by decide +kernel
theorem d_RF_addFault_21 : decode prog_14_method_21_code 21 = .ok (.aload_n 0, 1) := by decide +kernel
theorem d_RF_addFault_22 : decode prog_14_method_21_code 22 = .ok (.getfield 92, 3) := by decide +kernel
theorem d_RF_addFault_25 : decode prog_14_method_21_code 25 = .ok (.iload_n 3, 1) := by decide +kernel
theorem d_RF_addFault_26 : decode prog_14_method_21_code 26 = .ok (.iconst 1, 1) := by decide +kernel
theorem d_RF_addFault_27 : decode prog_14_method_21_code 27 = .ok (.isub, 1) := by decide +kernel
theorem d_RF_addFault_28 : decode prog_14_method_21_code 28 = .ok (.iaload, 1) := by decide +kernel
theorem d_RF_addFault_29 : decode prog_14_method_21_code 29 = .ok (.iload_n 2, 1) := by decide +kernel
theorem d_RF_addFault_30 : decode prog_14_method_21_code 30 = .ok (.if_icmp .ne 49, 3) := by decide +kernel
theorem d_RF_addFault_33 : decode prog_14_method_21_code 33 = .ok (.aload_n 0, 1) := by decide +kernel
theorem d_RF_addFault_34 : decode prog_14_method_21_code 34 = .ok (.getfield 89, 3) := by decide +kernel
theorem d_RF_addFault_37 : decode prog_14_method_21_code 37 = .ok (.iload_n 3, 1) := by decide +kernel
theorem d_RF_addFault_38 : decode prog_14_method_21_code 38 = .ok (.iconst 1, 1) := by decide +kernel
theorem d_RF_addFault_39 : decode prog_14_method_21_code 39 = .ok (.isub, 1) := by decide +kernel
theorem d_RF_addFault_40 : decode prog_14_method_21_code 40 = .ok (.iaload, 1) := by decide +kernel
theorem d_RF_addFault_41 : decode prog_14_method_21_code 41 = .ok (.iload_n 1, 1) := by decide +kernel
theorem d_RF_addFault_42 : decode prog_14_method_21_code 42 = .ok (.if_icmp .le 37, 3) := by decide +kernel
theorem d_RF_addFault_45 : decode prog_14_method_21_code 45 = .ok (.aload_n 0, 1) := by decide +kernel
theorem d_RF_addFault_46 : decode prog_14_method_21_code 46 = .ok (.getfield 89, 3) := by decide +kernel
theorem d_RF_addFault_49 : decode prog_14_method_21_code 49 = .ok (.iload_n 3, 1) := by decide +kernel
theorem d_RF_addFault_50 : decode prog_14_method_21_code 50 = .ok (.aload_n 0, 1) := by decide +kernel
theorem d_RF_addFault_51 : decode prog_14_method_21_code 51 = .ok (.getfield 89, 3) := by decide +kernel
theorem d_RF_addFault_54 : decode prog_14_method_21_code 54 = .ok (.iload_n 3, 1) := by decide +kernel
theorem d_RF_addFault_55 : decode prog_14_method_21_code 55 = .ok (.iconst 1, 1) := by decide +kernel
theorem d_RF_addFault_56 : decode prog_14_method_21_code 56 = .ok (.isub, 1) := by decide +kernel
theorem d_RF_addFault_57 : decode prog_14_method_21_code 57 = .ok (.iaload, 1) := by decide +kernel
theorem d_RF_addFault_58 : decode prog_14_method_21_code 58 = .ok (.iastore, 1) := by decide +kernel
theorem d_RF_addFault_59 : decode prog_14_method_21_code 59 = .ok (.aload_n 0, 1) := by decide +kernel
theorem d_RF_addFault_60 : decode prog_14_method_21_code 60 = .ok (.getfield 92, 3) := by decide +kernel
theorem d_RF_addFault_63 : decode prog_14_method_21_code 63 = .ok (.iload_n 3, 1) := by decide +kernel
theorem d_RF_addFault_64 : decode prog_14_method_21_code 64 = .ok (.aload_n 0, 1) := by decide +kernel
theorem d_RF_addFault_65 : decode prog_14_method_21_code 65 = .ok (.getfield 92, 3) := by decide +kernel
theorem d_RF_addFault_68 : decode prog_14_method_21_code 68 = .ok (.iload_n 3, 1) := by decide +kernel
theorem d_RF_addFault_69 : decode prog_14_method_21_code 69 = .ok (.iconst 1, 1) := by decide +kernel
theorem d_RF_addFault_70 : decode prog_14_method_21_code 70 = .ok (.isub, 1) := by decide +kernel
theorem d_RF_addFault_71 : decode prog_14_method_21_code 71 = .ok (.iaload, 1) := by decide +kernel
theorem d_RF_addFault_72 : decode prog_14_method_21_code 72 = .ok (.iastore, 1) := by decide +kernel
theorem d_RF_addFault_73 : decode prog_14_method_21_code 73 = .ok (.iinc 3 (-1), 3) := by decide +kernel
theorem d_RF_addFault_76 : decode prog_14_method_21_code 76 = .ok (.goto (-71), 3) := by decide +kernel
theorem d_RF_addFault_79 : decode prog_14_method_21_code 79 = .ok (.aload_n 0, 1) := by decide +kernel
theorem d_RF_addFault_80 : decode prog_14_method_21_code 80 = .ok (.getfield 89, 3) := by decide +kernel
theorem d_RF_addFault_83 : decode prog_14_method_21_code 83 = .ok (.iload_n 3, 1) := by decide +kernel
theorem d_RF_addFault_84 : decode prog_14_method_21_code 84 = .ok (.iload_n 1, 1) := by decide +kernel
theorem d_RF_addFault_85 : decode prog_14_method_21_code 85 = .ok (.iastore, 1) := by decide +kernel
theorem d_RF_addFault_86 : decode prog_14_method_21_code 86 = .ok (.aload_n 0, 1) := by decide +kernel
theorem d_RF_addFault_87 : decode prog_14_method_21_code 87 = .ok (.getfield 92, 3) := by decide +kernel
theorem d_RF_addFault_90 : decode prog_14_method_21_code 90 = .ok (.iload_n 3, 1) := by decide +kernel
theorem d_RF_addFault_91 : decode prog_14_method_21_code 91 = .ok (.iload_n 2, 1) := by decide +kernel
theorem d_RF_addFault_92 : decode prog_14_method_21_code 92 = .ok (.iastore, 1) := by decide +kernel
theorem d_RF_addFault_93 : decode prog_14_method_21_code 93 = .ok (.aload_n 0, 1) := by decide +kernel
theorem d_RF_addFault_94 : decode prog_14_method_21_code 94 = .ok (.dup, 1) := by decide +kernel
theorem d_RF_addFault_95 : decode prog_14_method_21_code 95 = .ok (.getfield 182, 3) := by decide +kernel
theorem d_RF_addFault_98 : decode prog_14_method_21_code 98 = .ok (.iconst 1, 1) := by decide +kernel
theorem d_RF_addFault_99 : decode prog_14_method_21_code 99 = .ok (.iadd, 1) := by decide +kernel
theorem d_RF_addFault_100 : decode prog_14_method_21_code 100 = .ok (.putfield 182, 3) := by decide +kernel
theorem d_RF_addFault_103 : decode prog_14_method_21_code 103 = .ok (.return_, 1) := by decide +kernel
theorem d_RF_current_0 : decode prog_14_method_24_code 0 = .ok (.aload_n 0, 1) := by decide +kernel
theorem d_RF_current_1 : decode prog_14_method_24_code 1 = .ok (.getfield 185, 3) := by decide +kernel
theorem d_RF_current_4 : decode prog_14_method_24_code 4 = .ok (.iconst 1, 1) := by decide +kernel
theorem d_RF_current_5 : decode prog_14_method_24_code 5 = .ok (.isub, 1) := by decide +kernel
theorem d_RF_current_6 : decode prog_14_method_24_code 6 = .ok (.istore_n 1, 1) := by decide +kernel
theorem d_RF_current_7 : decode prog_14_method_24_code 7 = .ok (.iload_n 1, 1) := by decide +kernel
theorem d_RF_current_8 : decode prog_14_method_24_code 8 = .ok (.ifCond .le 18, 3) := by decide +kernel
theorem d_RF_current_11 : decode prog_14_method_24_code 11 = .ok (.aload_n 0, 1) := by decide +kernel
theorem d_RF_current_12 : decode prog_14_method_24_code 12 = .ok (.getfield 77, 3) := by decide +kernel
theorem d_RF_current_15 : decode prog_14_method_24_code 15 = .ok (.iload_n 1, 1) := by decide +kernel
theorem d_RF_current_16 : decode prog_14_method_24_code 16 = .ok (.baload, 1) := by decide +kernel
theorem d_RF_current_17 : decode prog_14_method_24_code 17 = .ok (.ifCond .ne 9, 3) := by decide +kernel
theorem d_RF_current_20 : decode prog_14_method_24_code 20 = .ok (.iinc 1 (-1), 3) := by decide +kernel
theorem d_RF_current_23 : decode prog_14_method_24_code 23 = .ok (.goto (-16), 3) := by decide +kernel
theorem d_RF_current_26 : decode prog_14_method_24_code 26 = .ok (.iload_n 1, 1) := by decide +kernel
theorem d_RF_current_27 : decode prog_14_method_24_code 27 = .ok (.ireturn, 1) := by decide +kernel
theorem d_RF_takeEnd_0 : decode prog_14_method_27_code 0 = .ok (.aload_n 0, 1) := by decide +kernel
theorem d_RF_takeEnd_1 : decode prog_14_method_27_code 1 = .ok (.getfield 185, 3) := by decide +kernel
theorem d_RF_takeEnd_4 : decode prog_14_method_27_code 4 = .ok (.iconst 1, 1) := by decide +kernel
theorem d_RF_takeEnd_5 : decode prog_14_method_27_code 5 = .ok (.isub, 1) := by decide +kernel
theorem d_RF_takeEnd_6 : decode prog_14_method_27_code 6 = .ok (.istore_n 2, 1) := by decide +kernel
theorem d_RF_takeEnd_7 : decode prog_14_method_27_code 7 = .ok (.iload_n 2, 1) := by decide +kernel
theorem d_RF_takeEnd_8 : decode prog_14_method_27_code 8 = .ok (.ifCond .le 34, 3) := by decide +kernel
theorem d_RF_takeEnd_11 : decode prog_14_method_27_code 11 = .ok (.aload_n 0, 1) := by decide +kernel
theorem d_RF_takeEnd_12 : decode prog_14_method_27_code 12 = .ok (.getfield 77, 3) := by decide +kernel
theorem d_RF_takeEnd_15 : decode prog_14_method_27_code 15 = .ok (.iload_n 2, 1) := by decide +kernel
theorem d_RF_takeEnd_16 : decode prog_14_method_27_code 16 = .ok (.baload, 1) := by decide +kernel
theorem d_RF_takeEnd_17 : decode prog_14_method_27_code 17 = .ok (.ifCond .eq 19, 3) := by decide +kernel
theorem d_RF_takeEnd_20 : decode prog_14_method_27_code 20 = .ok (.aload_n 0, 1) := by decide +kernel
theorem d_RF_takeEnd_21 : decode prog_14_method_27_code 21 = .ok (.getfield 53, 3) := by decide +kernel
theorem d_RF_takeEnd_24 : decode prog_14_method_27_code 24 = .ok (.iload_n 2, 1) := by decide +kernel
theorem d_RF_takeEnd_25 : decode prog_14_method_27_code 25 = .ok (.iaload, 1) := by decide +kernel
theorem d_RF_takeEnd_26 : decode prog_14_method_27_code 26 = .ok (.aload_n 0, 1) := by decide +kernel
theorem d_RF_takeEnd_27 : decode prog_14_method_27_code 27 = .ok (.iload_n 1, 1) := by decide +kernel
theorem d_RF_takeEnd_28 : decode prog_14_method_27_code 28 = .ok (.iconst 2, 1) := by decide +kernel
theorem d_RF_takeEnd_29 : decode prog_14_method_27_code 29 = .ok (.iadd, 1) := by decide +kernel
theorem d_RF_takeEnd_30 : decode prog_14_method_27_code 30 = .ok (.invokevirtual 191, 3) := by decide +kernel
theorem d_RF_takeEnd_33 : decode prog_14_method_27_code 33 = .ok (.if_icmp .eq 9, 3) := by decide +kernel
theorem d_RF_takeEnd_36 : decode prog_14_method_27_code 36 = .ok (.iinc 2 (-1), 3) := by decide +kernel
theorem d_RF_takeEnd_39 : decode prog_14_method_27_code 39 = .ok (.goto (-32), 3) := by decide +kernel
theorem d_RF_takeEnd_42 : decode prog_14_method_27_code 42 = .ok (.iload_n 2, 1) := by decide +kernel
theorem d_RF_takeEnd_43 : decode prog_14_method_27_code 43 = .ok (.ifCond .ne 10, 3) := by decide +kernel
theorem d_RF_takeEnd_46 : decode prog_14_method_27_code 46 = .ok (.aload_n 0, 1) := by decide +kernel
theorem d_RF_takeEnd_47 : decode prog_14_method_27_code 47 = .ok (.iconst 3, 1) := by decide +kernel
theorem d_RF_takeEnd_48 : decode prog_14_method_27_code 48 = .ok (.iload_n 1, 1) := by decide +kernel
theorem d_RF_takeEnd_49 : decode prog_14_method_27_code 49 = .ok (.invokevirtual 188, 3) := by decide +kernel
theorem d_RF_takeEnd_52 : decode prog_14_method_27_code 52 = .ok (.return_, 1) := by decide +kernel
theorem d_RF_takeEnd_53 : decode prog_14_method_27_code 53 = .ok (.iload_n 2, 1) := by decide +kernel
theorem d_RF_takeEnd_54 : decode prog_14_method_27_code 54 = .ok (.iconst 1, 1) := by decide +kernel
theorem d_RF_takeEnd_55 : decode prog_14_method_27_code 55 = .ok (.iadd, 1) := by decide +kernel
theorem d_RF_takeEnd_56 : decode prog_14_method_27_code 56 = .ok (.istore_n 3, 1) := by decide +kernel
theorem d_RF_takeEnd_57 : decode prog_14_method_27_code 57 = .ok (.iload_n 3, 1) := by decide +kernel
theorem d_RF_takeEnd_58 : decode prog_14_method_27_code 58 = .ok (.aload_n 0, 1) := by decide +kernel
theorem d_RF_takeEnd_59 : decode prog_14_method_27_code 59 = .ok (.getfield 185, 3) := by decide +kernel
theorem d_RF_takeEnd_62 : decode prog_14_method_27_code 62 = .ok (.if_icmp .ge 24, 3) := by decide +kernel
theorem d_RF_takeEnd_65 : decode prog_14_method_27_code 65 = .ok (.aload_n 0, 1) := by decide +kernel
theorem d_RF_takeEnd_66 : decode prog_14_method_27_code 66 = .ok (.getfield 77, 3) := by decide +kernel
theorem d_RF_takeEnd_69 : decode prog_14_method_27_code 69 = .ok (.iload_n 3, 1) := by decide +kernel
theorem d_RF_takeEnd_70 : decode prog_14_method_27_code 70 = .ok (.baload, 1) := by decide +kernel
theorem d_RF_takeEnd_71 : decode prog_14_method_27_code 71 = .ok (.ifCond .eq 9, 3) := by decide +kernel
theorem d_RF_takeEnd_74 : decode prog_14_method_27_code 74 = .ok (.aload_n 0, 1) := by decide +kernel
theorem d_RF_takeEnd_75 : decode prog_14_method_27_code 75 = .ok (.iload_n 3, 1) := by decide +kernel
theorem d_RF_takeEnd_76 : decode prog_14_method_27_code 76 = .ok (.iload_n 1, 1) := by decide +kernel
theorem d_RF_takeEnd_77 : decode prog_14_method_27_code 77 = .ok (.invokevirtual 194, 3) := by decide +kernel
theorem d_RF_takeEnd_80 : decode prog_14_method_27_code 80 = .ok (.iinc 3 1, 3) := by decide +kernel
theorem d_RF_takeEnd_83 : decode prog_14_method_27_code 83 = .ok (.goto (-26), 3) := by decide +kernel
theorem d_RF_takeEnd_86 : decode prog_14_method_27_code 86 = .ok (.aload_n 0, 1) := by decide +kernel
theorem d_RF_takeEnd_87 : decode prog_14_method_27_code 87 = .ok (.getfield 77, 3) := by decide +kernel
theorem d_RF_takeEnd_90 : decode prog_14_method_27_code 90 = .ok (.iload_n 2, 1) := by decide +kernel
theorem d_RF_takeEnd_91 : decode prog_14_method_27_code 91 = .ok (.iconst 0, 1) := by decide +kernel
theorem d_RF_takeEnd_92 : decode prog_14_method_27_code 92 = .ok (.bastore, 1) := by decide +kernel
theorem d_RF_takeEnd_93 : decode prog_14_method_27_code 93 = .ok (.aload_n 0, 1) := by decide +kernel
theorem d_RF_takeEnd_94 : decode prog_14_method_27_code 94 = .ok (.getfield 68, 3) := by decide +kernel
theorem d_RF_takeEnd_97 : decode prog_14_method_27_code 97 = .ok (.iload_n 2, 1) := by decide +kernel
theorem d_RF_takeEnd_98 : decode prog_14_method_27_code 98 = .ok (.iload_n 1, 1) := by decide +kernel
theorem d_RF_takeEnd_99 : decode prog_14_method_27_code 99 = .ok (.iastore, 1) := by decide +kernel
theorem d_RF_takeEnd_100 : decode prog_14_method_27_code 100 = .ok (.aload_n 0, 1) := by decide +kernel
theorem d_RF_takeEnd_101 : decode prog_14_method_27_code 101 = .ok (.getfield 62, 3) := by decide +kernel
theorem d_RF_takeEnd_104 : decode prog_14_method_27_code 104 = .ok (.iload_n 2, 1) := by decide +kernel
theorem d_RF_takeEnd_105 : decode prog_14_method_27_code 105 = .ok (.iload_n 1, 1) := by decide +kernel
theorem d_RF_takeEnd_106 : decode prog_14_method_27_code 106 = .ok (.iconst 4, 1) := by decide +kernel
theorem d_RF_takeEnd_107 : decode prog_14_method_27_code 107 = .ok (.iadd, 1) := by decide +kernel
theorem d_RF_takeEnd_108 : decode prog_14_method_27_code 108 = .ok (.iastore, 1) := by decide +kernel
theorem d_RF_takeEnd_109 : decode prog_14_method_27_code 109 = .ok (.aload_n 0, 1) := by decide +kernel
theorem d_RF_takeEnd_110 : decode prog_14_method_27_code 110 = .ok (.getfield 71, 3) := by decide +kernel
theorem d_RF_takeEnd_113 : decode prog_14_method_27_code 113 = .ok (.iload_n 2, 1) := by decide +kernel
theorem d_RF_takeEnd_114 : decode prog_14_method_27_code 114 = .ok (.iload_n 1, 1) := by decide +kernel
theorem d_RF_takeEnd_115 : decode prog_14_method_27_code 115 = .ok (.iastore, 1) := by decide +kernel
theorem d_RF_takeEnd_116 : decode prog_14_method_27_code 116 = .ok (.aload_n 0, 1) := by decide +kernel
theorem d_RF_takeEnd_117 : decode prog_14_method_27_code 117 = .ok (.iload_n 1, 1) := by decide +kernel
theorem d_RF_takeEnd_118 : decode prog_14_method_27_code 118 = .ok (.iload_n 1, 1) := by decide +kernel
theorem d_RF_takeEnd_119 : decode prog_14_method_27_code 119 = .ok (.iconst 4, 1) := by decide +kernel
theorem d_RF_takeEnd_120 : decode prog_14_method_27_code 120 = .ok (.iadd, 1) := by decide +kernel
theorem d_RF_takeEnd_121 : decode prog_14_method_27_code 121 = .ok (.iload_n 2, 1) := by decide +kernel
theorem d_RF_takeEnd_122 : decode prog_14_method_27_code 122 = .ok (.invokevirtual 197, 3) := by decide +kernel
theorem d_RF_takeEnd_125 : decode prog_14_method_27_code 125 = .ok (.return_, 1) := by decide +kernel
theorem d_RF_closeBare_0 : decode prog_14_method_26_code 0 = .ok (.aload_n 0, 1) := by decide +kernel
theorem d_RF_closeBare_1 : decode prog_14_method_26_code 1 = .ok (.getfield 77, 3) := by decide +kernel
theorem d_RF_closeBare_4 : decode prog_14_method_26_code 4 = .ok (.iload_n 1, 1) := by decide +kernel
theorem d_RF_closeBare_5 : decode prog_14_method_26_code 5 = .ok (.iconst 0, 1) := by decide +kernel
theorem d_RF_closeBare_6 : decode prog_14_method_26_code 6 = .ok (.bastore, 1) := by decide +kernel
theorem d_RF_closeBare_7 : decode prog_14_method_26_code 7 = .ok (.aload_n 0, 1) := by decide +kernel
theorem d_RF_closeBare_8 : decode prog_14_method_26_code 8 = .ok (.getfield 68, 3) := by decide +kernel
theorem d_RF_closeBare_11 : decode prog_14_method_26_code 11 = .ok (.iload_n 1, 1) := by decide +kernel
theorem d_RF_closeBare_12 : decode prog_14_method_26_code 12 = .ok (.iload_n 2, 1) := by decide +kernel
theorem d_RF_closeBare_13 : decode prog_14_method_26_code 13 = .ok (.iastore, 1) := by decide +kernel
theorem d_RF_closeBare_14 : decode prog_14_method_26_code 14 = .ok (.aload_n 0, 1) := by decide +kernel
theorem d_RF_closeBare_15 : decode prog_14_method_26_code 15 = .ok (.getfield 62, 3) := by decide +kernel
theorem d_RF_closeBare_18 : decode prog_14_method_26_code 18 = .ok (.iload_n 1, 1) := by decide +kernel
theorem d_RF_closeBare_19 : decode prog_14_method_26_code 19 = .ok (.iload_n 2, 1) := by decide +kernel
theorem d_RF_closeBare_20 : decode prog_14_method_26_code 20 = .ok (.iastore, 1) := by decide +kernel
theorem d_RF_closeBare_21 : decode prog_14_method_26_code 21 = .ok (.aload_n 0, 1) := by decide +kernel
theorem d_RF_closeBare_22 : decode prog_14_method_26_code 22 = .ok (.iconst 4, 1) := by decide +kernel
theorem d_RF_closeBare_23 : decode prog_14_method_26_code 23 = .ok (.aload_n 0, 1) := by decide +kernel
theorem d_RF_closeBare_24 : decode prog_14_method_26_code 24 = .ok (.getfield 59, 3) := by decide +kernel
theorem d_RF_closeBare_27 : decode prog_14_method_26_code 27 = .ok (.iload_n 1, 1) := by decide +kernel
theorem d_RF_closeBare_28 : decode prog_14_method_26_code 28 = .ok (.iaload, 1) := by decide +kernel
theorem d_RF_closeBare_29 : decode prog_14_method_26_code 29 = .ok (.invokevirtual 188, 3) := by decide +kernel
theorem d_RF_closeBare_32 : decode prog_14_method_26_code 32 = .ok (.return_, 1) := by decide +kernel
theorem d_RF_takeCharacter_0 : decode prog_14_method_29_code 0 = .ok (.aload_n 0, 1) := by decide +kernel
theorem d_RF_takeCharacter_1 : decode prog_14_method_29_code 1 = .ok (.iload_n 1, 1) := by decide +kernel
theorem d_RF_takeCharacter_2 : decode prog_14_method_29_code 2 = .ok (.invokevirtual 191, 3) := by decide +kernel
theorem d_RF_takeCharacter_5 : decode prog_14_method_29_code 5 = .ok (.istore_n 2, 1) := by decide +kernel
theorem d_RF_takeCharacter_6 : decode prog_14_method_29_code 6 = .ok (.aload_n 0, 1) := by decide +kernel
theorem d_RF_takeCharacter_7 : decode prog_14_method_29_code 7 = .ok (.invokevirtual 205, 3) := by decide +kernel
theorem d_RF_takeCharacter_10 : decode prog_14_method_29_code 10 = .ok (.istore_n 3, 1) := by decide +kernel
theorem d_RF_takeCharacter_11 : decode prog_14_method_29_code 11 = .ok (.iload_n 2, 1) := by decide +kernel
theorem d_RF_takeCharacter_12 : decode prog_14_method_29_code 12 = .ok (.bipush 60, 2) := by decide +kernel
theorem d_RF_takeCharacter_14 : decode prog_14_method_29_code 14 = .ok (.if_icmp .ne 9, 3) := by decide +kernel
theorem d_RF_takeCharacter_17 : decode prog_14_method_29_code 17 = .ok (.aload_n 0, 1) := by decide +kernel
theorem d_RF_takeCharacter_18 : decode prog_14_method_29_code 18 = .ok (.iconst 1, 1) := by decide +kernel
theorem d_RF_takeCharacter_19 : decode prog_14_method_29_code 19 = .ok (.iload_n 1, 1) := by decide +kernel
theorem d_RF_takeCharacter_20 : decode prog_14_method_29_code 20 = .ok (.invokevirtual 188, 3) := by decide +kernel
theorem d_RF_takeCharacter_23 : decode prog_14_method_29_code 23 = .ok (.iload_n 2, 1) := by decide +kernel
theorem d_RF_takeCharacter_24 : decode prog_14_method_29_code 24 = .ok (.bipush 32, 2) := by decide +kernel
theorem d_RF_takeCharacter_26 : decode prog_14_method_29_code 26 = .ok (.if_icmp .eq 19, 3) := by decide +kernel
theorem d_RF_takeCharacter_29 : decode prog_14_method_29_code 29 = .ok (.aload_n 0, 1) := by decide +kernel
theorem d_RF_takeCharacter_30 : decode prog_14_method_29_code 30 = .ok (.getfield 74, 3) := by decide +kernel
theorem d_RF_takeCharacter_33 : decode prog_14_method_29_code 33 = .ok (.iload_n 3, 1) := by decide +kernel
theorem d_RF_takeCharacter_34 : decode prog_14_method_29_code 34 = .ok (.iaload, 1) := by decide +kernel
theorem d_RF_takeCharacter_35 : decode prog_14_method_29_code 35 = .ok (.ifCond .ge 10, 3) := by decide +kernel
theorem d_RF_takeCharacter_38 : decode prog_14_method_29_code 38 = .ok (.aload_n 0, 1) := by decide +kernel
theorem d_RF_takeCharacter_39 : decode prog_14_method_29_code 39 = .ok (.getfield 74, 3) := by decide +kernel
theorem d_RF_takeCharacter_42 : decode prog_14_method_29_code 42 = .ok (.iload_n 3, 1) := by decide +kernel
theorem d_RF_takeCharacter_43 : decode prog_14_method_29_code 43 = .ok (.iload_n 1, 1) := by decide +kernel
theorem d_RF_takeCharacter_44 : decode prog_14_method_29_code 44 = .ok (.iastore, 1) := by decide +kernel
theorem d_RF_takeCharacter_45 : decode prog_14_method_29_code 45 = .ok (.return_, 1) := by decide +kernel
theorem d_RF_judge_0 : decode prog_14_method_33_code 0 = .ok (.aload_n 0, 1) := by decide +kernel
theorem d_RF_judge_1 : decode prog_14_method_33_code 1 = .ok (.iload_n 1, 1) := by decide +kernel
theorem d_RF_judge_2 : decode prog_14_method_33_code 2 = .ok (.invokevirtual 225, 3) := by decide +kernel
theorem d_RF_judge_5 : decode prog_14_method_33_code 5 = .ok (.istore_n 2, 1) := by decide +kernel
theorem d_RF_judge_6 : decode prog_14_method_33_code 6 = .ok (.aload_n 0, 1) := by decide +kernel
theorem d_RF_judge_7 : decode prog_14_method_33_code 7 = .ok (.getfield 13, 3) := by decide +kernel
theorem d_RF_judge_10 : decode prog_14_method_33_code 10 = .ok (.iload_n 2, 1) := by decide +kernel
theorem d_RF_judge_11 : decode prog_14_method_33_code 11 = .ok (.baload, 1) := by decide +kernel
theorem d_RF_judge_12 : decode prog_14_method_33_code 12 = .ok (.ifCond .ne 19, 3) := by decide +kernel
theorem d_RF_judge_15 : decode prog_14_method_33_code 15 = .ok (.iload_n 1, 1) := by decide +kernel
theorem d_RF_judge_16 : decode prog_14_method_33_code 16 = .ok (.ifCond .le 14, 3) := by decide +kernel
theorem d_RF_judge_19 : decode prog_14_method_33_code 19 = .ok (.aload_n 0, 1) := by decide +kernel
theorem d_RF_judge_20 : decode prog_14_method_33_code 20 = .ok (.iconst 5, 1) := by decide +kernel
theorem d_RF_judge_21 : decode prog_14_method_33_code 21 = .ok (.aload_n 0, 1) := by decide +kernel
theorem d_RF_judge_22 : decode prog_14_method_33_code 22 = .ok (.getfield 59, 3) := by decide +kernel
theorem d_RF_judge_25 : decode prog_14_method_33_code 25 = .ok (.iload_n 1, 1) := by decide +kernel
theorem d_RF_judge_26 : decode prog_14_method_33_code 26 = .ok (.iaload, 1) := by decide +kernel
theorem d_RF_judge_27 : decode prog_14_method_33_code 27 = .ok (.invokevirtual 188, 3) := by decide +kernel
theorem d_RF_judge_30 : decode prog_14_method_33_code 30 = .ok (.return_, 1) := by decide +kernel
theorem d_RF_judge_31 : decode prog_14_method_33_code 31 = .ok (.aload_n 0, 1) := by decide +kernel
theorem d_RF_judge_32 : decode prog_14_method_33_code 32 = .ok (.getfield 17, 3) := by decide +kernel
theorem d_RF_judge_35 : decode prog_14_method_33_code 35 = .ok (.iload_n 2, 1) := by decide +kernel
theorem d_RF_judge_36 : decode prog_14_method_33_code 36 = .ok (.baload, 1) := by decide +kernel
theorem d_RF_judge_37 : decode prog_14_method_33_code 37 = .ok (.ifCond .ne 24, 3) := by decide +kernel
theorem d_RF_judge_40 : decode prog_14_method_33_code 40 = .ok (.aload_n 0, 1) := by decide +kernel
theorem d_RF_judge_41 : decode prog_14_method_33_code 41 = .ok (.getfield 74, 3) := by decide +kernel
theorem d_RF_judge_44 : decode prog_14_method_33_code 44 = .ok (.iload_n 1, 1) := by decide +kernel
theorem d_RF_judge_45 : decode prog_14_method_33_code 45 = .ok (.iaload, 1) := by decide +kernel
theorem d_RF_judge_46 : decode prog_14_method_33_code 46 = .ok (.ifCond .lt 15, 3) := by decide +kernel
theorem d_RF_judge_49 : decode prog_14_method_33_code 49 = .ok (.aload_n 0, 1) := by decide +kernel
theorem d_RF_judge_50 : decode prog_14_method_33_code 50 = .ok (.bipush 6, 2) := by decide +kernel
theorem d_RF_judge_52 : decode prog_14_method_33_code 52 = .ok (.aload_n 0, 1) := by decide +kernel
theorem d_RF_judge_53 : decode prog_14_method_33_code 53 = .ok (.getfield 74, 3) := by decide +kernel
theorem d_RF_judge_56 : decode prog_14_method_33_code 56 = .ok (.iload_n 1, 1) := by decide +kernel
theorem d_RF_judge_57 : decode prog_14_method_33_code 57 = .ok (.iaload, 1) := by decide +kernel
theorem d_RF_judge_58 : decode prog_14_method_33_code 58 = .ok (.invokevirtual 188, 3) := by decide +kernel
theorem d_RF_judge_61 : decode prog_14_method_33_code 61 = .ok (.sipush 1024, 3) := by decide +kernel
theorem d_RF_judge_64 : decode prog_14_method_33_code 64 = .ok (.istore_n 3, 1) := by decide +kernel
theorem d_RF_judge_65 : decode prog_14_method_33_code 65 = .ok (.iconst 1, 1) := by decide +kernel
theorem d_RF_judge_66 : decode prog_14_method_33_code 66 = .ok (.istore 4, 2) := by decide +kernel
theorem d_RF_judge_68 : decode prog_14_method_33_code 68 = .ok (.iload 4, 2) := by decide +kernel
theorem d_RF_judge_70 : decode prog_14_method_33_code 70 = .ok (.aload_n 0, 1) := by decide +kernel
theorem d_RF_judge_71 : decode prog_14_method_33_code 71 = .ok (.getfield 185, 3) := by decide +kernel
theorem d_RF_judge_74 : decode prog_14_method_33_code 74 = .ok (.if_icmp .ge 39, 3) := by decide +kernel
theorem d_RF_judge_77 : decode prog_14_method_33_code 77 = .ok (.aload_n 0, 1) := by decide +kernel
theorem d_RF_judge_78 : decode prog_14_method_33_code 78 = .ok (.getfield 56, 3) := by decide +kernel
theorem d_RF_judge_81 : decode prog_14_method_33_code 81 = .ok (.iload 4, 2) := by decide +kernel
theorem d_RF_judge_83 : decode prog_14_method_33_code 83 = .ok (.iaload, 1) := by decide +kernel
theorem d_RF_judge_84 : decode prog_14_method_33_code 84 = .ok (.iload_n 1, 1) := by decide +kernel
theorem d_RF_judge_85 : decode prog_14_method_33_code 85 = .ok (.if_icmp .ne 22, 3) := by decide +kernel
theorem d_RF_judge_88 : decode prog_14_method_33_code 88 = .ok (.aload_n 0, 1) := by decide +kernel
theorem d_RF_judge_89 : decode prog_14_method_33_code 89 = .ok (.iload_n 2, 1) := by decide +kernel
theorem d_RF_judge_90 : decode prog_14_method_33_code 90 = .ok (.iload_n 3, 1) := by decide +kernel
theorem d_RF_judge_91 : decode prog_14_method_33_code 91 = .ok (.iconst 1, 1) := by decide +kernel
theorem d_RF_judge_92 : decode prog_14_method_33_code 92 = .ok (.aload_n 0, 1) := by decide +kernel
theorem d_RF_judge_93 : decode prog_14_method_33_code 93 = .ok (.getfield 53, 3) := by decide +kernel
theorem d_RF_judge_96 : decode prog_14_method_33_code 96 = .ok (.iload 4, 2) := by decide +kernel
theorem d_RF_judge_98 : decode prog_14_method_33_code 98 = .ok (.iaload, 1) := by decide +kernel
theorem d_RF_judge_99 : decode prog_14_method_33_code 99 = .ok (.bipush 97, 2) := by decide +kernel
theorem d_RF_judge_101 : decode prog_14_method_33_code 101 = .ok (.isub, 1) := by decide +kernel
theorem d_RF_judge_102 : decode prog_14_method_33_code 102 = .ok (.ishl, 1) := by decide +kernel
theorem d_RF_judge_103 : decode prog_14_method_33_code 103 = .ok (.invokevirtual 168, 3) := by decide +kernel
theorem d_RF_judge_106 : decode prog_14_method_33_code 106 = .ok (.istore_n 3, 1) := by decide +kernel
theorem d_RF_judge_107 : decode prog_14_method_33_code 107 = .ok (.iinc 4 1, 3) := by decide +kernel
theorem d_RF_judge_110 : decode prog_14_method_33_code 110 = .ok (.goto (-42), 3) := by decide +kernel
theorem d_RF_judge_113 : decode prog_14_method_33_code 113 = .ok (.aload_n 0, 1) := by decide +kernel
theorem d_RF_judge_114 : decode prog_14_method_33_code 114 = .ok (.iload_n 2, 1) := by decide +kernel
theorem d_RF_judge_115 : decode prog_14_method_33_code 115 = .ok (.iload_n 3, 1) := by decide +kernel
theorem d_RF_judge_116 : decode prog_14_method_33_code 116 = .ok (.invokevirtual 175, 3) := by decide +kernel
theorem d_RF_judge_119 : decode prog_14_method_33_code 119 = .ok (.ifCond .ne 15, 3) := by decide +kernel
theorem d_RF_judge_122 : decode prog_14_method_33_code 122 = .ok (.aload_n 0, 1) := by decide +kernel
theorem d_RF_judge_123 : decode prog_14_method_33_code 123 = .ok (.bipush 7, 2) := by decide +kernel
theorem d_RF_judge_125 : decode prog_14_method_33_code 125 = .ok (.aload_n 0, 1) := by decide +kernel
theorem d_RF_judge_126 : decode prog_14_method_33_code 126 = .ok (.getfield 59, 3) := by decide +kernel
theorem d_RF_judge_129 : decode prog_14_method_33_code 129 = .ok (.iload_n 1, 1) := by decide +kernel
theorem d_RF_judge_130 : decode prog_14_method_33_code 130 = .ok (.iaload, 1) := by decide +kernel
theorem d_RF_judge_131 : decode prog_14_method_33_code 131 = .ok (.invokevirtual 188, 3) := by decide +kernel
theorem d_RF_judge_134 : decode prog_14_method_33_code 134 = .ok (.return_, 1) := by decide +kernel
theorem d_RF_modelOf_0 : decode prog_14_method_31_code 0 = .ok (.iload_n 1, 1) := by decide +kernel
theorem d_RF_modelOf_1 : decode prog_14_method_31_code 1 = .ok (.ifCond .ne 8, 3) := by decide +kernel
theorem d_RF_modelOf_4 : decode prog_14_method_31_code 4 = .ok (.bipush 8, 2) := by decide +kernel
theorem d_RF_modelOf_6 : decode prog_14_method_31_code 6 = .ok (.goto 12, 3) := by decide +kernel
theorem d_RF_modelOf_9 : decode prog_14_method_31_code 9 = .ok (.aload_n 0, 1) := by decide +kernel
theorem d_RF_modelOf_10 : decode prog_14_method_31_code 10 = .ok (.getfield 53, 3) := by decide +kernel
theorem d_RF_modelOf_13 : decode prog_14_method_31_code 13 = .ok (.iload_n 1, 1) := by decide +kernel
theorem d_RF_modelOf_14 : decode prog_14_method_31_code 14 = .ok (.iaload, 1) := by decide +kernel
theorem d_RF_modelOf_15 : decode prog_14_method_31_code 15 = .ok (.bipush 97, 2) := by decide +kernel
theorem d_RF_modelOf_17 : decode prog_14_method_31_code 17 = .ok (.isub, 1) := by decide +kernel
theorem d_RF_modelOf_18 : decode prog_14_method_31_code 18 = .ok (.ireturn, 1) := by decide +kernel
theorem d_RF_offer_0 : decode prog_14_method_34_code 0 = .ok (.iload_n 1, 1) := by decide +kernel
theorem d_RF_offer_1 : decode prog_14_method_34_code 1 = .ok (.ifCond .lt 11, 3) := by decide +kernel
theorem d_RF_offer_4 : decode prog_14_method_34_code 4 = .ok (.iload_n 1, 1) := by decide +kernel
theorem d_RF_offer_5 : decode prog_14_method_34_code 5 = .ok (.aload_n 0, 1) := by decide +kernel
theorem d_RF_offer_6 : decode prog_14_method_34_code 6 = .ok (.getfield 179, 3) := by decide +kernel
theorem d_RF_offer_9 : decode prog_14_method_34_code 9 = .ok (.if_icmp .le 5, 3) := by decide +kernel
theorem d_RF_offer_12 : decode prog_14_method_34_code 12 = .ok (.iconst (-1), 1) := by decide +kernel
theorem d_RF_offer_13 : decode prog_14_method_34_code 13 = .ok (.ireturn, 1) := by decide +kernel
theorem d_RF_offer_14 : decode prog_14_method_34_code 14 = .ok (.iload_n 1, 1) := by decide +kernel
theorem d_RF_offer_15 : decode prog_14_method_34_code 15 = .ok (.aload_n 0, 1) := by decide +kernel
theorem d_RF_offer_16 : decode prog_14_method_34_code 16 = .ok (.getfield 179, 3) := by decide +kernel
theorem d_RF_offer_19 : decode prog_14_method_34_code 19 = .ok (.if_icmp .ge 24, 3) := by decide +kernel
theorem d_RF_offer_22 : decode prog_14_method_34_code 22 = .ok (.aload_n 0, 1) := by decide +kernel
theorem d_RF_offer_23 : decode prog_14_method_34_code 23 = .ok (.getfield 80, 3) := by decide +kernel
theorem d_RF_offer_26 : decode prog_14_method_34_code 26 = .ok (.iload_n 1, 1) := by decide +kernel
theorem d_RF_offer_27 : decode prog_14_method_34_code 27 = .ok (.iaload, 1) := by decide +kernel
theorem d_RF_offer_28 : decode prog_14_method_34_code 28 = .ok (.ifCond .lt 15, 3) := by decide +kernel
theorem d_RF_offer_31 : decode prog_14_method_34_code 31 = .ok (.aload_n 0, 1) := by decide +kernel
theorem d_RF_offer_32 : decode prog_14_method_34_code 32 = .ok (.getfield 80, 3) := by decide +kernel
theorem d_RF_offer_35 : decode prog_14_method_34_code 35 = .ok (.iload_n 1, 1) := by decide +kernel
theorem d_RF_offer_36 : decode prog_14_method_34_code 36 = .ok (.iaload, 1) := by decide +kernel
theorem d_RF_offer_37 : decode prog_14_method_34_code 37 = .ok (.iload_n 1, 1) := by decide +kernel
theorem d_RF_offer_38 : decode prog_14_method_34_code 38 = .ok (.if_icmp .ge 5, 3) := by decide +kernel
theorem d_RF_offer_41 : decode prog_14_method_34_code 41 = .ok (.iconst (-1), 1) := by decide +kernel
theorem d_RF_offer_42 : decode prog_14_method_34_code 42 = .ok (.ireturn, 1) := by decide +kernel
theorem d_RF_offer_43 : decode prog_14_method_34_code 43 = .ok (.aload_n 0, 1) := by decide +kernel
theorem d_RF_offer_44 : decode prog_14_method_34_code 44 = .ok (.getfield 185, 3) := by decide +kernel
theorem d_RF_offer_47 : decode prog_14_method_34_code 47 = .ok (.iconst 1, 1) := by decide +kernel
theorem d_RF_offer_48 : decode prog_14_method_34_code 48 = .ok (.isub, 1) := by decide +kernel
theorem d_RF_offer_49 : decode prog_14_method_34_code 49 = .ok (.istore_n 2, 1) := by decide +kernel
theorem d_RF_offer_50 : decode prog_14_method_34_code 50 = .ok (.iload_n 2, 1) := by decide +kernel
theorem d_RF_offer_51 : decode prog_14_method_34_code 51 = .ok (.ifCond .le 38, 3) := by decide +kernel
theorem d_RF_offer_54 : decode prog_14_method_34_code 54 = .ok (.aload_n 0, 1) := by decide +kernel
theorem d_RF_offer_55 : decode prog_14_method_34_code 55 = .ok (.getfield 65, 3) := by decide +kernel
theorem d_RF_offer_58 : decode prog_14_method_34_code 58 = .ok (.iload_n 2, 1) := by decide +kernel
theorem d_RF_offer_59 : decode prog_14_method_34_code 59 = .ok (.iaload, 1) := by decide +kernel
theorem d_RF_offer_60 : decode prog_14_method_34_code 60 = .ok (.ifCond .lt 23, 3) := by decide +kernel
theorem d_RF_offer_63 : decode prog_14_method_34_code 63 = .ok (.iload_n 1, 1) := by decide +kernel
theorem d_RF_offer_64 : decode prog_14_method_34_code 64 = .ok (.aload_n 0, 1) := by decide +kernel
theorem d_RF_offer_65 : decode prog_14_method_34_code 65 = .ok (.getfield 65, 3) := by decide +kernel
theorem d_RF_offer_68 : decode prog_14_method_34_code 68 = .ok (.iload_n 2, 1) := by decide +kernel
theorem d_RF_offer_69 : decode prog_14_method_34_code 69 = .ok (.iaload, 1) := by decide +kernel
theorem d_RF_offer_70 : decode prog_14_method_34_code 70 = .ok (.if_icmp .lt 13, 3) := by decide +kernel
theorem d_RF_offer_73 : decode prog_14_method_34_code 73 = .ok (.iload_n 1, 1) := by decide +kernel
theorem d_RF_offer_74 : decode prog_14_method_34_code 74 = .ok (.aload_n 0, 1) := by decide +kernel
theorem d_RF_offer_75 : decode prog_14_method_34_code 75 = .ok (.getfield 68, 3) := by decide +kernel
theorem d_RF_offer_78 : decode prog_14_method_34_code 78 = .ok (.iload_n 2, 1) := by decide +kernel
theorem d_RF_offer_79 : decode prog_14_method_34_code 79 = .ok (.iaload, 1) := by decide +kernel
theorem d_RF_offer_80 : decode prog_14_method_34_code 80 = .ok (.if_icmp .le 9, 3) := by decide +kernel
theorem d_RF_offer_83 : decode prog_14_method_34_code 83 = .ok (.iinc 2 (-1), 3) := by decide +kernel
theorem d_RF_offer_86 : decode prog_14_method_34_code 86 = .ok (.goto (-36), 3) := by decide +kernel
theorem d_RF_offer_89 : decode prog_14_method_34_code 89 = .ok (.aload_n 0, 1) := by decide +kernel
theorem d_RF_offer_90 : decode prog_14_method_34_code 90 = .ok (.iload_n 2, 1) := by decide +kernel
theorem d_RF_offer_91 : decode prog_14_method_34_code 91 = .ok (.invokevirtual 225, 3) := by decide +kernel
theorem d_RF_offer_94 : decode prog_14_method_34_code 94 = .ok (.istore_n 3, 1) := by decide +kernel
theorem d_RF_offer_95 : decode prog_14_method_34_code 95 = .ok (.aload_n 0, 1) := by decide +kernel
theorem d_RF_offer_96 : decode prog_14_method_34_code 96 = .ok (.getfield 13, 3) := by decide +kernel
theorem d_RF_offer_99 : decode prog_14_method_34_code 99 = .ok (.iload_n 3, 1) := by decide +kernel
theorem d_RF_offer_100 : decode prog_14_method_34_code 100 = .ok (.baload, 1) := by decide +kernel
theorem d_RF_offer_101 : decode prog_14_method_34_code 101 = .ok (.ifCond .ne 5, 3) := by decide +kernel
theorem d_RF_offer_104 : decode prog_14_method_34_code 104 = .ok (.iconst 0, 1) := by decide +kernel
theorem d_RF_offer_105 : decode prog_14_method_34_code 105 = .ok (.ireturn, 1) := by decide +kernel
theorem d_RF_offer_106 : decode prog_14_method_34_code 106 = .ok (.aload_n 0, 1) := by decide +kernel
theorem d_RF_offer_107 : decode prog_14_method_34_code 107 = .ok (.invokevirtual 228, 3) := by decide +kernel
theorem d_RF_offer_110 : decode prog_14_method_34_code 110 = .ok (.istore 4, 2) := by decide +kernel
theorem d_RF_offer_112 : decode prog_14_method_34_code 112 = .ok (.sipush 1024, 3) := by decide +kernel
theorem d_RF_offer_115 : decode prog_14_method_34_code 115 = .ok (.istore 5, 2) := by decide +kernel
theorem d_RF_offer_117 : decode prog_14_method_34_code 117 = .ok (.iconst 1, 1) := by decide +kernel
theorem d_RF_offer_118 : decode prog_14_method_34_code 118 = .ok (.istore 6, 2) := by decide +kernel
theorem d_RF_offer_120 : decode prog_14_method_34_code 120 = .ok (.iload 6, 2) := by decide +kernel
theorem d_RF_offer_122 : decode prog_14_method_34_code 122 = .ok (.aload_n 0, 1) := by decide +kernel
theorem d_RF_offer_123 : decode prog_14_method_34_code 123 = .ok (.getfield 185, 3) := by decide +kernel
theorem d_RF_offer_126 : decode prog_14_method_34_code 126 = .ok (.if_icmp .ge 52, 3) := by decide +kernel
theorem d_RF_offer_129 : decode prog_14_method_34_code 129 = .ok (.aload_n 0, 1) := by decide +kernel
theorem d_RF_offer_130 : decode prog_14_method_34_code 130 = .ok (.getfield 56, 3) := by decide +kernel
theorem d_RF_offer_133 : decode prog_14_method_34_code 133 = .ok (.iload 6, 2) := by decide +kernel
theorem d_RF_offer_135 : decode prog_14_method_34_code 135 = .ok (.iaload, 1) := by decide +kernel
theorem d_RF_offer_136 : decode prog_14_method_34_code 136 = .ok (.iload_n 2, 1) := by decide +kernel
theorem d_RF_offer_137 : decode prog_14_method_34_code 137 = .ok (.if_icmp .ne 35, 3) := by decide +kernel
theorem d_RF_offer_140 : decode prog_14_method_34_code 140 = .ok (.aload_n 0, 1) := by decide +kernel
theorem d_RF_offer_141 : decode prog_14_method_34_code 141 = .ok (.getfield 59, 3) := by decide +kernel
theorem d_RF_offer_144 : decode prog_14_method_34_code 144 = .ok (.iload 6, 2) := by decide +kernel
theorem d_RF_offer_146 : decode prog_14_method_34_code 146 = .ok (.iaload, 1) := by decide +kernel
theorem d_RF_offer_147 : decode prog_14_method_34_code 147 = .ok (.iload_n 1, 1) := by decide +kernel
theorem d_RF_offer_148 : decode prog_14_method_34_code 148 = .ok (.if_icmp .ge 24, 3) := by decide +kernel
theorem d_RF_offer_151 : decode prog_14_method_34_code 151 = .ok (.aload_n 0, 1) := by decide +kernel
theorem d_RF_offer_152 : decode prog_14_method_34_code 152 = .ok (.iload_n 3, 1) := by decide +kernel
theorem d_RF_offer_153 : decode prog_14_method_34_code 153 = .ok (.iload 5, 2) := by decide +kernel
theorem d_RF_offer_155 : decode prog_14_method_34_code 155 = .ok (.iconst 1, 1) := by decide +kernel
theorem d_RF_offer_156 : decode prog_14_method_34_code 156 = .ok (.aload_n 0, 1) := by decide +kernel
theorem d_RF_offer_157 : decode prog_14_method_34_code 157 = .ok (.getfield 53, 3) := by decide +kernel
theorem d_RF_offer_160 : decode prog_14_method_34_code 160 = .ok (.iload 6, 2) := by decide +kernel
theorem d_RF_offer_162 : decode prog_14_method_34_code 162 = .ok (.iaload, 1) := by decide +kernel
theorem d_RF_offer_163 : decode prog_14_method_34_code 163 = .ok (.bipush 97, 2) := by decide +kernel
theorem d_RF_offer_165 : decode prog_14_method_34_code 165 = .ok (.isub, 1) := by decide +kernel
theorem d_RF_offer_166 : decode prog_14_method_34_code 166 = .ok (.ishl, 1) := by decide +kernel
theorem d_RF_offer_167 : decode prog_14_method_34_code 167 = .ok (.invokevirtual 168, 3) := by decide +kernel
theorem d_RF_offer_170 : decode prog_14_method_34_code 170 = .ok (.istore 5, 2) := by decide +kernel
theorem d_RF_offer_172 : decode prog_14_method_34_code 172 = .ok (.iinc 6 1, 3) := by decide +kernel
theorem d_RF_offer_175 : decode prog_14_method_34_code 175 = .ok (.goto (-55), 3) := by decide +kernel
theorem d_RF_offer_178 : decode prog_14_method_34_code 178 = .ok (.iconst 0, 1) := by decide +kernel
theorem d_RF_offer_179 : decode prog_14_method_34_code 179 = .ok (.istore 6, 2) := by decide +kernel
theorem d_RF_offer_181 : decode prog_14_method_34_code 181 = .ok (.iconst 0, 1) := by decide +kernel
theorem d_RF_offer_182 : decode prog_14_method_34_code 182 = .ok (.istore 7, 2) := by decide +kernel
theorem d_RF_offer_184 : decode prog_14_method_34_code 184 = .ok (.iload 7, 2) := by decide +kernel
theorem d_RF_offer_186 : decode prog_14_method_34_code 186 = .ok (.bipush 8, 2) := by decide +kernel
theorem d_RF_offer_188 : decode prog_14_method_34_code 188 = .ok (.if_icmp .ge 123, 3) := by decide +kernel
theorem d_RF_offer_191 : decode prog_14_method_34_code 191 = .ok (.aload_n 0, 1) := by decide +kernel
theorem d_RF_offer_192 : decode prog_14_method_34_code 192 = .ok (.iload 4, 2) := by decide +kernel
theorem d_RF_offer_194 : decode prog_14_method_34_code 194 = .ok (.iload 7, 2) := by decide +kernel
theorem d_RF_offer_196 : decode prog_14_method_34_code 196 = .ok (.invokevirtual 231, 3) := by decide +kernel
theorem d_RF_offer_199 : decode prog_14_method_34_code 199 = .ok (.ifCond .ne 6, 3) := by decide +kernel
theorem d_RF_offer_202 : decode prog_14_method_34_code 202 = .ok (.goto 103, 3) := by decide +kernel
theorem d_RF_offer_205 : decode prog_14_method_34_code 205 = .ok (.aload_n 0, 1) := by decide +kernel
theorem d_RF_offer_206 : decode prog_14_method_34_code 206 = .ok (.iload_n 3, 1) := by decide +kernel
theorem d_RF_offer_207 : decode prog_14_method_34_code 207 = .ok (.aload_n 0, 1) := by decide +kernel
theorem d_RF_offer_208 : decode prog_14_method_34_code 208 = .ok (.iload_n 3, 1) := by decide +kernel
theorem d_RF_offer_209 : decode prog_14_method_34_code 209 = .ok (.iload 5, 2) := by decide +kernel
theorem d_RF_offer_211 : decode prog_14_method_34_code 211 = .ok (.iconst 1, 1) := by decide +kernel
theorem d_RF_offer_212 : decode prog_14_method_34_code 212 = .ok (.iload 7, 2) := by decide +kernel
theorem d_RF_offer_214 : decode prog_14_method_34_code 214 = .ok (.ishl, 1) := by decide +kernel
theorem d_RF_offer_215 : decode prog_14_method_34_code 215 = .ok (.invokevirtual 168, 3) := by decide +kernel
theorem d_RF_offer_218 : decode prog_14_method_34_code 218 = .ok (.iload 4, 2) := by decide +kernel
theorem d_RF_offer_220 : decode prog_14_method_34_code 220 = .ok (.invokevirtual 172, 3) := by decide +kernel
theorem d_RF_offer_223 : decode prog_14_method_34_code 223 = .ok (.istore 8, 2) := by decide +kernel
theorem d_RF_offer_225 : decode prog_14_method_34_code 225 = .ok (.iconst 1, 1) := by decide +kernel
theorem d_RF_offer_226 : decode prog_14_method_34_code 226 = .ok (.istore 9, 2) := by decide +kernel
theorem d_RF_offer_228 : decode prog_14_method_34_code 228 = .ok (.iload 9, 2) := by decide +kernel
theorem d_RF_offer_230 : decode prog_14_method_34_code 230 = .ok (.aload_n 0, 1) := by decide +kernel
theorem d_RF_offer_231 : decode prog_14_method_34_code 231 = .ok (.getfield 185, 3) := by decide +kernel
theorem d_RF_offer_234 : decode prog_14_method_34_code 234 = .ok (.if_icmp .ge 52, 3) := by decide +kernel
theorem d_RF_offer_237 : decode prog_14_method_34_code 237 = .ok (.aload_n 0, 1) := by decide +kernel
theorem d_RF_offer_238 : decode prog_14_method_34_code 238 = .ok (.getfield 56, 3) := by decide +kernel
theorem d_RF_offer_241 : decode prog_14_method_34_code 241 = .ok (.iload 9, 2) := by decide +kernel
theorem d_RF_offer_243 : decode prog_14_method_34_code 243 = .ok (.iaload, 1) := by decide +kernel
theorem d_RF_offer_244 : decode prog_14_method_34_code 244 = .ok (.iload_n 2, 1) := by decide +kernel
theorem d_RF_offer_245 : decode prog_14_method_34_code 245 = .ok (.if_icmp .ne 35, 3) := by decide +kernel
theorem d_RF_offer_248 : decode prog_14_method_34_code 248 = .ok (.aload_n 0, 1) := by decide +kernel
theorem d_RF_offer_249 : decode prog_14_method_34_code 249 = .ok (.getfield 59, 3) := by decide +kernel
theorem d_RF_offer_252 : decode prog_14_method_34_code 252 = .ok (.iload 9, 2) := by decide +kernel
theorem d_RF_offer_254 : decode prog_14_method_34_code 254 = .ok (.iaload, 1) := by decide +kernel
theorem d_RF_offer_255 : decode prog_14_method_34_code 255 = .ok (.iload_n 1, 1) := by decide +kernel
theorem d_RF_offer_256 : decode prog_14_method_34_code 256 = .ok (.if_icmp .lt 24, 3) := by decide +kernel
theorem d_RF_offer_259 : decode prog_14_method_34_code 259 = .ok (.aload_n 0, 1) := by decide +kernel
theorem d_RF_offer_260 : decode prog_14_method_34_code 260 = .ok (.iload_n 3, 1) := by decide +kernel
theorem d_RF_offer_261 : decode prog_14_method_34_code 261 = .ok (.iload 8, 2) := by decide +kernel
theorem d_RF_offer_263 : decode prog_14_method_34_code 263 = .ok (.iconst 1, 1) := by decide +kernel
theorem d_RF_offer_264 : decode prog_14_method_34_code 264 = .ok (.aload_n 0, 1) := by decide +kernel
theorem d_RF_offer_265 : decode prog_14_method_34_code 265 = .ok (.getfield 53, 3) := by decide +kernel
theorem d_RF_offer_268 : decode prog_14_method_34_code 268 = .ok (.iload 9, 2) := by decide +kernel
theorem d_RF_offer_270 : decode prog_14_method_34_code 270 = .ok (.iaload, 1) := by decide +kernel
theorem d_RF_offer_271 : decode prog_14_method_34_code 271 = .ok (.bipush 97, 2) := by decide +kernel
theorem d_RF_offer_273 : decode prog_14_method_34_code 273 = .ok (.isub, 1) := by decide +kernel
theorem d_RF_offer_274 : decode prog_14_method_34_code 274 = .ok (.ishl, 1) := by decide +kernel
theorem d_RF_offer_275 : decode prog_14_method_34_code 275 = .ok (.invokevirtual 168, 3) := by decide +kernel
theorem d_RF_offer_278 : decode prog_14_method_34_code 278 = .ok (.istore 8, 2) := by decide +kernel
theorem d_RF_offer_280 : decode prog_14_method_34_code 280 = .ok (.iinc 9 1, 3) := by decide +kernel
theorem d_RF_offer_283 : decode prog_14_method_34_code 283 = .ok (.goto (-55), 3) := by decide +kernel
theorem d_RF_offer_286 : decode prog_14_method_34_code 286 = .ok (.aload_n 0, 1) := by decide +kernel
theorem d_RF_offer_287 : decode prog_14_method_34_code 287 = .ok (.iload_n 3, 1) := by decide +kernel
theorem d_RF_offer_288 : decode prog_14_method_34_code 288 = .ok (.iload 8, 2) := by decide +kernel
theorem d_RF_offer_290 : decode prog_14_method_34_code 290 = .ok (.invokevirtual 175, 3) := by decide +kernel
theorem d_RF_offer_293 : decode prog_14_method_34_code 293 = .ok (.ifCond .eq 12, 3) := by decide +kernel
theorem d_RF_offer_296 : decode prog_14_method_34_code 296 = .ok (.iload 6, 2) := by decide +kernel
theorem d_RF_offer_298 : decode prog_14_method_34_code 298 = .ok (.iconst 1, 1) := by decide +kernel
theorem d_RF_offer_299 : decode prog_14_method_34_code 299 = .ok (.iload 7, 2) := by decide +kernel
theorem d_RF_offer_301 : decode prog_14_method_34_code 301 = .ok (.ishl, 1) := by decide +kernel
theorem d_RF_offer_302 : decode prog_14_method_34_code 302 = .ok (.ior, 1) := by decide +kernel
theorem d_RF_offer_303 : decode prog_14_method_34_code 303 = .ok (.istore 6, 2) := by decide +kernel
theorem d_RF_offer_305 : decode prog_14_method_34_code 305 = .ok (.iinc 7 1, 3) := by decide +kernel
theorem d_RF_offer_308 : decode prog_14_method_34_code 308 = .ok (.goto (-124), 3) := by decide +kernel
theorem d_RF_offer_311 : decode prog_14_method_34_code 311 = .ok (.iload 6, 2) := by decide +kernel
theorem d_RF_offer_313 : decode prog_14_method_34_code 313 = .ok (.ireturn, 1) := by decide +kernel
theorem d_RF_isBit_0 : decode prog_14_method_32_code 0 = .ok (.iload_n 1, 1) := by decide +kernel
theorem d_RF_isBit_1 : decode prog_14_method_32_code 1 = .ok (.iload_n 2, 1) := by decide +kernel
theorem d_RF_isBit_2 : decode prog_14_method_32_code 2 = .ok (.ishr, 1) := by decide +kernel
theorem d_RF_isBit_3 : decode prog_14_method_32_code 3 = .ok (.iconst 1, 1) := by decide +kernel
theorem d_RF_isBit_4 : decode prog_14_method_32_code 4 = .ok (.iand, 1) := by decide +kernel
theorem d_RF_isBit_5 : decode prog_14_method_32_code 5 = .ok (.iconst 1, 1) := by decide +kernel
theorem d_RF_isBit_6 : decode prog_14_method_32_code 6 = .ok (.if_icmp .ne 7, 3) := by decide +kernel
theorem d_RF_isBit_9 : decode prog_14_method_32_code 9 = .ok (.iconst 1, 1) := by decide +kernel
theorem d_RF_isBit_10 : decode prog_14_method_32_code 10 = .ok (.goto 4, 3) := by decide +kernel
theorem d_RF_isBit_13 : decode prog_14_method_32_code 13 = .ok (.iconst 0, 1) := by decide +kernel
theorem d_RF_isBit_14 : decode prog_14_method_32_code 14 = .ok (.ireturn, 1) := by decide +kernel
theorem d_RF_rename_0 : decode prog_14_method_35_code 0 = .ok (.iload_n 1, 1) := by decide +kernel
theorem d_RF_rename_1 : decode prog_14_method_35_code 1 = .ok (.ifCond .lt 18, 3) := by decide +kernel
theorem d_RF_rename_4 : decode prog_14_method_35_code 4 = .ok (.iload_n 1, 1) := by decide +kernel
theorem d_RF_rename_5 : decode prog_14_method_35_code 5 = .ok (.aload_n 0, 1) := by decide +kernel
theorem d_RF_rename_6 : decode prog_14_method_35_code 6 = .ok (.getfield 179, 3) := by decide +kernel
theorem d_RF_rename_9 : decode prog_14_method_35_code 9 = .ok (.if_icmp .ge 10, 3) := by decide +kernel
theorem d_RF_rename_12 : decode prog_14_method_35_code 12 = .ok (.iload_n 2, 1) := by decide +kernel
theorem d_RF_rename_13 : decode prog_14_method_35_code 13 = .ok (.invokestatic 127, 3) := by decide +kernel
theorem d_RF_rename_16 : decode prog_14_method_35_code 16 = .ok (.ifCond .ne 5, 3) := by decide +kernel
theorem d_RF_rename_19 : decode prog_14_method_35_code 19 = .ok (.iconst (-1), 1) := by decide +kernel
theorem d_RF_rename_20 : decode prog_14_method_35_code 20 = .ok (.ireturn, 1) := by decide +kernel
theorem d_RF_rename_21 : decode prog_14_method_35_code 21 = .ok (.aload_n 0, 1) := by decide +kernel
theorem d_RF_rename_22 : decode prog_14_method_35_code 22 = .ok (.getfield 80, 3) := by decide +kernel
theorem d_RF_rename_25 : decode prog_14_method_35_code 25 = .ok (.iload_n 1, 1) := by decide +kernel
theorem d_RF_rename_26 : decode prog_14_method_35_code 26 = .ok (.iaload, 1) := by decide +kernel
theorem d_RF_rename_27 : decode prog_14_method_35_code 27 = .ok (.ifCond .lt 12, 3) := by decide +kernel
theorem d_RF_rename_30 : decode prog_14_method_35_code 30 = .ok (.aload_n 0, 1) := by decide +kernel
theorem d_RF_rename_31 : decode prog_14_method_35_code 31 = .ok (.getfield 86, 3) := by decide +kernel
theorem d_RF_rename_34 : decode prog_14_method_35_code 34 = .ok (.iload_n 1, 1) := by decide +kernel
theorem d_RF_rename_35 : decode prog_14_method_35_code 35 = .ok (.iaload, 1) := by decide +kernel
theorem d_RF_rename_36 : decode prog_14_method_35_code 36 = .ok (.ifCond .ge 5, 3) := by decide +kernel
theorem d_RF_rename_39 : decode prog_14_method_35_code 39 = .ok (.iconst (-1), 1) := by decide +kernel
theorem d_RF_rename_40 : decode prog_14_method_35_code 40 = .ok (.ireturn, 1) := by decide +kernel
theorem d_RF_rename_41 : decode prog_14_method_35_code 41 = .ok (.aload_n 0, 1) := by decide +kernel
theorem d_RF_rename_42 : decode prog_14_method_35_code 42 = .ok (.getfield 86, 3) := by decide +kernel
theorem d_RF_rename_45 : decode prog_14_method_35_code 45 = .ok (.iload_n 1, 1) := by decide +kernel
theorem d_RF_rename_46 : decode prog_14_method_35_code 46 = .ok (.iaload, 1) := by decide +kernel
theorem d_RF_rename_47 : decode prog_14_method_35_code 47 = .ok (.istore_n 3, 1) := by decide +kernel
theorem d_RF_rename_48 : decode prog_14_method_35_code 48 = .ok (.aload_n 0, 1) := by decide +kernel
theorem d_RF_rename_49 : decode prog_14_method_35_code 49 = .ok (.getfield 50, 3) := by decide +kernel
theorem d_RF_rename_52 : decode prog_14_method_35_code 52 = .ok (.aload_n 0, 1) := by decide +kernel
theorem d_RF_rename_53 : decode prog_14_method_35_code 53 = .ok (.getfield 59, 3) := by decide +kernel
theorem d_RF_rename_56 : decode prog_14_method_35_code 56 = .ok (.iload_n 3, 1) := by decide +kernel
theorem d_RF_rename_57 : decode prog_14_method_35_code 57 = .ok (.iaload, 1) := by decide +kernel
theorem d_RF_rename_58 : decode prog_14_method_35_code 58 = .ok (.iconst 1, 1) := by decide +kernel
theorem d_RF_rename_59 : decode prog_14_method_35_code 59 = .ok (.iadd, 1) := by decide +kernel
theorem d_RF_rename_60 : decode prog_14_method_35_code 60 = .ok (.iload_n 2, 1) := by decide +kernel
theorem d_RF_rename_61 : decode prog_14_method_35_code 61 = .ok (.iastore, 1) := by decide +kernel
theorem d_RF_rename_62 : decode prog_14_method_35_code 62 = .ok (.aload_n 0, 1) := by decide +kernel
theorem d_RF_rename_63 : decode prog_14_method_35_code 63 = .ok (.getfield 71, 3) := by decide +kernel
theorem d_RF_rename_66 : decode prog_14_method_35_code 66 = .ok (.iload_n 3, 1) := by decide +kernel
theorem d_RF_rename_67 : decode prog_14_method_35_code 67 = .ok (.iaload, 1) := by decide +kernel
theorem d_RF_rename_68 : decode prog_14_method_35_code 68 = .ok (.ifCond .ge 5, 3) := by decide +kernel
theorem d_RF_rename_71 : decode prog_14_method_35_code 71 = .ok (.iconst 1, 1) := by decide +kernel
theorem d_RF_rename_72 : decode prog_14_method_35_code 72 = .ok (.ireturn, 1) := by decide +kernel
theorem d_RF_rename_73 : decode prog_14_method_35_code 73 = .ok (.aload_n 0, 1) := by decide +kernel
theorem d_RF_rename_74 : decode prog_14_method_35_code 74 = .ok (.getfield 50, 3) := by decide +kernel
theorem d_RF_rename_77 : decode prog_14_method_35_code 77 = .ok (.aload_n 0, 1) := by decide +kernel
theorem d_RF_rename_78 : decode prog_14_method_35_code 78 = .ok (.getfield 71, 3) := by decide +kernel
theorem d_RF_rename_81 : decode prog_14_method_35_code 81 = .ok (.iload_n 3, 1) := by decide +kernel
theorem d_RF_rename_82 : decode prog_14_method_35_code 82 = .ok (.iaload, 1) := by decide +kernel
theorem d_RF_rename_83 : decode prog_14_method_35_code 83 = .ok (.iconst 2, 1) := by decide +kernel
theorem d_RF_rename_84 : decode prog_14_method_35_code 84 = .ok (.iadd, 1) := by decide +kernel
theorem d_RF_rename_85 : decode prog_14_method_35_code 85 = .ok (.iload_n 2, 1) := by decide +kernel
theorem d_RF_rename_86 : decode prog_14_method_35_code 86 = .ok (.iastore, 1) := by decide +kernel
theorem d_RF_rename_87 : decode prog_14_method_35_code 87 = .ok (.iconst 2, 1) := by decide +kernel
theorem d_RF_rename_88 : decode prog_14_method_35_code 88 = .ok (.ireturn, 1) := by decide +kernel
theorem d_RF_makeForm_0 : decode prog_14_method_44_code 0 = .ok (.iconst 0, 1) := by decide +kernel
theorem d_RF_makeForm_1 : decode prog_14_method_44_code 1 = .ok (.istore_n 1, 1) := by decide +kernel
theorem d_RF_makeForm_2 : decode prog_14_method_44_code 2 = .ok (.iload_n 1, 1) := by decide +kernel
theorem d_RF_makeForm_3 : decode prog_14_method_44_code 3 = .ok (.aload_n 0, 1) := by decide +kernel
theorem d_RF_makeForm_4 : decode prog_14_method_44_code 4 = .ok (.getfield 182, 3) := by decide +kernel
theorem d_RF_makeForm_7 : decode prog_14_method_44_code 7 = .ok (.if_icmp .ge 21, 3) := by decide +kernel
theorem d_RF_makeForm_10 : decode prog_14_method_44_code 10 = .ok (.aload_n 0, 1) := by decide +kernel
theorem d_RF_makeForm_11 : decode prog_14_method_44_code 11 = .ok (.getfield 89, 3) := by decide +kernel
theorem d_RF_makeForm_14 : decode prog_14_method_44_code 14 = .ok (.iload_n 1, 1) := by decide +kernel
theorem d_RF_makeForm_15 : decode prog_14_method_44_code 15 = .ok (.iaload, 1) := by decide +kernel
theorem d_RF_makeForm_16 : decode prog_14_method_44_code 16 = .ok (.iconst 5, 1) := by decide +kernel
theorem d_RF_makeForm_17 : decode prog_14_method_44_code 17 = .ok (.if_icmp .ge 5, 3) := by decide +kernel
theorem d_RF_makeForm_20 : decode prog_14_method_44_code 20 = .ok (.iconst (-1), 1) := by decide +kernel
theorem d_RF_makeForm_21 : decode prog_14_method_44_code 21 = .ok (.ireturn, 1) := by decide +kernel
theorem d_RF_makeForm_22 : decode prog_14_method_44_code 22 = .ok (.iinc 1 1, 3) := by decide +kernel
theorem d_RF_makeForm_25 : decode prog_14_method_44_code 25 = .ok (.goto (-23), 3) := by decide +kernel
theorem d_RF_makeForm_28 : decode prog_14_method_44_code 28 = .ok (.aload_n 0, 1) := by decide +kernel
theorem d_RF_makeForm_29 : decode prog_14_method_44_code 29 = .ok (.iconst 0, 1) := by decide +kernel
theorem d_RF_makeForm_30 : decode prog_14_method_44_code 30 = .ok (.putfield 234, 3) := by decide +kernel
theorem d_RF_makeForm_33 : decode prog_14_method_44_code 33 = .ok (.aload_n 0, 1) := by decide +kernel
theorem d_RF_makeForm_34 : decode prog_14_method_44_code 34 = .ok (.iconst 0, 1) := by decide +kernel
theorem d_RF_makeForm_35 : decode prog_14_method_44_code 35 = .ok (.invokevirtual 240, 3) := by decide +kernel
theorem d_RF_makeForm_38 : decode prog_14_method_44_code 38 = .ok (.ifCond .ne 17, 3) := by decide +kernel
theorem d_RF_makeForm_41 : decode prog_14_method_44_code 41 = .ok (.aload_n 0, 1) := by decide +kernel
theorem d_RF_makeForm_42 : decode prog_14_method_44_code 42 = .ok (.iconst 0, 1) := by decide +kernel
theorem d_RF_makeForm_43 : decode prog_14_method_44_code 43 = .ok (.aload_n 0, 1) := by decide +kernel
theorem d_RF_makeForm_44 : decode prog_14_method_44_code 44 = .ok (.getfield 179, 3) := by decide +kernel
theorem d_RF_makeForm_47 : decode prog_14_method_44_code 47 = .ok (.invokevirtual 252, 3) := by decide +kernel
theorem d_RF_makeForm_50 : decode prog_14_method_44_code 50 = .ok (.aload_n 0, 1) := by decide +kernel
theorem d_RF_makeForm_51 : decode prog_14_method_44_code 51 = .ok (.getfield 234, 3) := by decide +kernel
theorem d_RF_makeForm_54 : decode prog_14_method_44_code 54 = .ok (.ireturn, 1) := by decide +kernel
theorem d_RF_makeForm_55 : decode prog_14_method_44_code 55 = .ok (.iconst 0, 1) := by decide +kernel
theorem d_RF_makeForm_56 : decode prog_14_method_44_code 56 = .ok (.istore_n 1, 1) := by decide +kernel
theorem d_RF_makeForm_57 : decode prog_14_method_44_code 57 = .ok (.iconst 1, 1) := by decide +kernel
theorem d_RF_makeForm_58 : decode prog_14_method_44_code 58 = .ok (.istore_n 2, 1) := by decide +kernel
theorem d_RF_makeForm_59 : decode prog_14_method_44_code 59 = .ok (.iload_n 2, 1) := by decide +kernel
theorem d_RF_makeForm_60 : decode prog_14_method_44_code 60 = .ok (.aload_n 0, 1) := by decide +kernel
theorem d_RF_makeForm_61 : decode prog_14_method_44_code 61 = .ok (.getfield 185, 3) := by decide +kernel
theorem d_RF_makeForm_64 : decode prog_14_method_44_code 64 = .ok (.if_icmp .ge 74, 3) := by decide +kernel
theorem d_RF_makeForm_67 : decode prog_14_method_44_code 67 = .ok (.aload_n 0, 1) := by decide +kernel
theorem d_RF_makeForm_68 : decode prog_14_method_44_code 68 = .ok (.iload_n 2, 1) := by decide +kernel
theorem d_RF_makeForm_69 : decode prog_14_method_44_code 69 = .ok (.invokevirtual 255, 3) := by decide +kernel
theorem d_RF_makeForm_72 : decode prog_14_method_44_code 72 = .ok (.ifCond .ne 6, 3) := by decide +kernel
theorem d_RF_makeForm_75 : decode prog_14_method_44_code 75 = .ok (.goto 57, 3) := by decide +kernel
theorem d_RF_makeForm_78 : decode prog_14_method_44_code 78 = .ok (.aload_n 0, 1) := by decide +kernel
theorem d_RF_makeForm_79 : decode prog_14_method_44_code 79 = .ok (.iload_n 1, 1) := by decide +kernel
theorem d_RF_makeForm_80 : decode prog_14_method_44_code 80 = .ok (.iload_n 2, 1) := by decide +kernel
theorem d_RF_makeForm_81 : decode prog_14_method_44_code 81 = .ok (.invokevirtual 258, 3) := by decide +kernel
theorem d_RF_makeForm_84 : decode prog_14_method_44_code 84 = .ok (.iload_n 1, 1) := by decide +kernel
theorem d_RF_makeForm_85 : decode prog_14_method_44_code 85 = .ok (.ifCond .le 12, 3) := by decide +kernel
theorem d_RF_makeForm_88 : decode prog_14_method_44_code 88 = .ok (.aload_n 0, 1) := by decide +kernel
theorem d_RF_makeForm_89 : decode prog_14_method_44_code 89 = .ok (.aload_n 0, 1) := by decide +kernel
theorem d_RF_makeForm_90 : decode prog_14_method_44_code 90 = .ok (.iload_n 2, 1) := by decide +kernel
theorem d_RF_makeForm_91 : decode prog_14_method_44_code 91 = .ok (.invokevirtual 246, 3) := by decide +kernel
theorem d_RF_makeForm_94 : decode prog_14_method_44_code 94 = .ok (.invokevirtual 249, 3) := by decide +kernel
theorem d_RF_makeForm_97 : decode prog_14_method_44_code 97 = .ok (.aload_n 0, 1) := by decide +kernel
theorem d_RF_makeForm_98 : decode prog_14_method_44_code 98 = .ok (.aload_n 0, 1) := by decide +kernel
theorem d_RF_makeForm_99 : decode prog_14_method_44_code 99 = .ok (.getfield 59, 3) := by decide +kernel
theorem d_RF_makeForm_102 : decode prog_14_method_44_code 102 = .ok (.iload_n 2, 1) := by decide +kernel
theorem d_RF_makeForm_103 : decode prog_14_method_44_code 103 = .ok (.iaload, 1) := by decide +kernel
theorem d_RF_makeForm_104 : decode prog_14_method_44_code 104 = .ok (.aload_n 0, 1) := by decide +kernel
theorem d_RF_makeForm_105 : decode prog_14_method_44_code 105 = .ok (.iload_n 2, 1) := by decide +kernel
theorem d_RF_makeForm_106 : decode prog_14_method_44_code 106 = .ok (.invokevirtual 240, 3) := by decide +kernel
theorem d_RF_makeForm_109 : decode prog_14_method_44_code 109 = .ok (.ifCond .eq 12, 3) := by decide +kernel
theorem d_RF_makeForm_112 : decode prog_14_method_44_code 112 = .ok (.aload_n 0, 1) := by decide +kernel
theorem d_RF_makeForm_113 : decode prog_14_method_44_code 113 = .ok (.getfield 65, 3) := by decide +kernel
theorem d_RF_makeForm_116 : decode prog_14_method_44_code 116 = .ok (.iload_n 2, 1) := by decide +kernel
theorem d_RF_makeForm_117 : decode prog_14_method_44_code 117 = .ok (.iaload, 1) := by decide +kernel
theorem d_RF_makeForm_118 : decode prog_14_method_44_code 118 = .ok (.goto 9, 3) := by decide +kernel
theorem d_RF_makeForm_121 : decode prog_14_method_44_code 121 = .ok (.aload_n 0, 1) := by decide +kernel
theorem d_RF_makeForm_122 : decode prog_14_method_44_code 122 = .ok (.getfield 62, 3) := by decide +kernel
theorem d_RF_makeForm_125 : decode prog_14_method_44_code 125 = .ok (.iload_n 2, 1) := by decide +kernel
theorem d_RF_makeForm_126 : decode prog_14_method_44_code 126 = .ok (.iaload, 1) := by decide +kernel
theorem d_RF_makeForm_127 : decode prog_14_method_44_code 127 = .ok (.invokevirtual 252, 3) := by decide +kernel
theorem d_RF_makeForm_130 : decode prog_14_method_44_code 130 = .ok (.iload_n 2, 1) := by decide +kernel
theorem d_RF_makeForm_131 : decode prog_14_method_44_code 131 = .ok (.istore_n 1, 1) := by decide +kernel
theorem d_RF_makeForm_132 : decode prog_14_method_44_code 132 = .ok (.iinc 2 1, 3) := by decide +kernel
theorem d_RF_makeForm_135 : decode prog_14_method_44_code 135 = .ok (.goto (-76), 3) := by decide +kernel
theorem d_RF_makeForm_138 : decode prog_14_method_44_code 138 = .ok (.aload_n 0, 1) := by decide +kernel
theorem d_RF_makeForm_139 : decode prog_14_method_44_code 139 = .ok (.iload_n 1, 1) := by decide +kernel
theorem d_RF_makeForm_140 : decode prog_14_method_44_code 140 = .ok (.aload_n 0, 1) := by decide +kernel
theorem d_RF_makeForm_141 : decode prog_14_method_44_code 141 = .ok (.getfield 185, 3) := by decide +kernel
theorem d_RF_makeForm_144 : decode prog_14_method_44_code 144 = .ok (.invokevirtual 258, 3) := by decide +kernel
theorem d_RF_makeForm_147 : decode prog_14_method_44_code 147 = .ok (.aload_n 0, 1) := by decide +kernel
theorem d_RF_makeForm_148 : decode prog_14_method_44_code 148 = .ok (.getfield 234, 3) := by decide +kernel
theorem d_RF_makeForm_151 : decode prog_14_method_44_code 151 = .ok (.ireturn, 1) := by decide +kernel
theorem d_RF_loose_0 : decode prog_14_method_36_code 0 = .ok (.aload_n 0, 1) := by decide +kernel
theorem d_RF_loose_1 : decode prog_14_method_36_code 1 = .ok (.iload_n 1, 1) := by decide +kernel
theorem d_RF_loose_2 : decode prog_14_method_36_code 2 = .ok (.invokevirtual 225, 3) := by decide +kernel
theorem d_RF_loose_5 : decode prog_14_method_36_code 5 = .ok (.istore_n 2, 1) := by decide +kernel
theorem d_RF_loose_6 : decode prog_14_method_36_code 6 = .ok (.iconst 0, 1) := by decide +kernel
theorem d_RF_loose_7 : decode prog_14_method_36_code 7 = .ok (.istore_n 3, 1) := by decide +kernel
theorem d_RF_loose_8 : decode prog_14_method_36_code 8 = .ok (.iconst 1, 1) := by decide +kernel
theorem d_RF_loose_9 : decode prog_14_method_36_code 9 = .ok (.istore 4, 2) := by decide +kernel
theorem d_RF_loose_11 : decode prog_14_method_36_code 11 = .ok (.iload 4, 2) := by decide +kernel
theorem d_RF_loose_13 : decode prog_14_method_36_code 13 = .ok (.aload_n 0, 1) := by decide +kernel
theorem d_RF_loose_14 : decode prog_14_method_36_code 14 = .ok (.getfield 185, 3) := by decide +kernel
theorem d_RF_loose_17 : decode prog_14_method_36_code 17 = .ok (.if_icmp .ge 30, 3) := by decide +kernel
theorem d_RF_loose_20 : decode prog_14_method_36_code 20 = .ok (.iload_n 3, 1) := by decide +kernel
theorem d_RF_loose_21 : decode prog_14_method_36_code 21 = .ok (.ifCond .ne 14, 3) := by decide +kernel
theorem d_RF_loose_24 : decode prog_14_method_36_code 24 = .ok (.aload_n 0, 1) := by decide +kernel
theorem d_RF_loose_25 : decode prog_14_method_36_code 25 = .ok (.getfield 56, 3) := by decide +kernel
theorem d_RF_loose_28 : decode prog_14_method_36_code 28 = .ok (.iload 4, 2) := by decide +kernel
theorem d_RF_loose_30 : decode prog_14_method_36_code 30 = .ok (.iaload, 1) := by decide +kernel
theorem d_RF_loose_31 : decode prog_14_method_36_code 31 = .ok (.iload_n 1, 1) := by decide +kernel
theorem d_RF_loose_32 : decode prog_14_method_36_code 32 = .ok (.if_icmp .ne 7, 3) := by decide +kernel
theorem d_RF_loose_35 : decode prog_14_method_36_code 35 = .ok (.iconst 1, 1) := by decide +kernel
theorem d_RF_loose_36 : decode prog_14_method_36_code 36 = .ok (.goto 4, 3) := by decide +kernel
theorem d_RF_loose_39 : decode prog_14_method_36_code 39 = .ok (.iconst 0, 1) := by decide +kernel
theorem d_RF_loose_40 : decode prog_14_method_36_code 40 = .ok (.istore_n 3, 1) := by decide +kernel
theorem d_RF_loose_41 : decode prog_14_method_36_code 41 = .ok (.iinc 4 1, 3) := by decide +kernel
theorem d_RF_loose_44 : decode prog_14_method_36_code 44 = .ok (.goto (-33), 3) := by decide +kernel
theorem d_RF_loose_47 : decode prog_14_method_36_code 47 = .ok (.aload_n 0, 1) := by decide +kernel
theorem d_RF_loose_48 : decode prog_14_method_36_code 48 = .ok (.getfield 13, 3) := by decide +kernel
theorem d_RF_loose_51 : decode prog_14_method_36_code 51 = .ok (.iload_n 2, 1) := by decide +kernel
theorem d_RF_loose_52 : decode prog_14_method_36_code 52 = .ok (.baload, 1) := by decide +kernel
theorem d_RF_loose_53 : decode prog_14_method_36_code 53 = .ok (.ifCond .eq 29, 3) := by decide +kernel
theorem d_RF_loose_56 : decode prog_14_method_36_code 56 = .ok (.aload_n 0, 1) := by decide +kernel
theorem d_RF_loose_57 : decode prog_14_method_36_code 57 = .ok (.getfield 17, 3) := by decide +kernel
theorem d_RF_loose_60 : decode prog_14_method_36_code 60 = .ok (.iload_n 2, 1) := by decide +kernel
theorem d_RF_loose_61 : decode prog_14_method_36_code 61 = .ok (.baload, 1) := by decide +kernel
theorem d_RF_loose_62 : decode prog_14_method_36_code 62 = .ok (.ifCond .ne 20, 3) := by decide +kernel
theorem d_RF_loose_65 : decode prog_14_method_36_code 65 = .ok (.iload_n 3, 1) := by decide +kernel
theorem d_RF_loose_66 : decode prog_14_method_36_code 66 = .ok (.ifCond .eq 16, 3) := by decide +kernel
theorem d_RF_loose_69 : decode prog_14_method_36_code 69 = .ok (.aload_n 0, 1) := by decide +kernel
theorem d_RF_loose_70 : decode prog_14_method_36_code 70 = .ok (.getfield 74, 3) := by decide +kernel
theorem d_RF_loose_73 : decode prog_14_method_36_code 73 = .ok (.iload_n 1, 1) := by decide +kernel
theorem d_RF_loose_74 : decode prog_14_method_36_code 74 = .ok (.iaload, 1) := by decide +kernel
theorem d_RF_loose_75 : decode prog_14_method_36_code 75 = .ok (.ifCond .ge 7, 3) := by decide +kernel
theorem d_RF_loose_78 : decode prog_14_method_36_code 78 = .ok (.iconst 1, 1) := by decide +kernel
theorem d_RF_loose_79 : decode prog_14_method_36_code 79 = .ok (.goto 4, 3) := by decide +kernel
theorem d_RF_loose_82 : decode prog_14_method_36_code 82 = .ok (.iconst 0, 1) := by decide +kernel
theorem d_RF_loose_83 : decode prog_14_method_36_code 83 = .ok (.ireturn, 1) := by decide +kernel
theorem d_RF_putText_0 : decode prog_14_method_39_code 0 = .ok (.iload_n 1, 1) := by decide +kernel
theorem d_RF_putText_1 : decode prog_14_method_39_code 1 = .ok (.istore_n 3, 1) := by decide +kernel
theorem d_RF_putText_2 : decode prog_14_method_39_code 2 = .ok (.iload_n 3, 1) := by decide +kernel
theorem d_RF_putText_3 : decode prog_14_method_39_code 3 = .ok (.iload_n 2, 1) := by decide +kernel
theorem d_RF_putText_4 : decode prog_14_method_39_code 4 = .ok (.if_icmp .ge 19, 3) := by decide +kernel
theorem d_RF_putText_7 : decode prog_14_method_39_code 7 = .ok (.aload_n 0, 1) := by decide +kernel
theorem d_RF_putText_8 : decode prog_14_method_39_code 8 = .ok (.aload_n 0, 1) := by decide +kernel
theorem d_RF_putText_9 : decode prog_14_method_39_code 9 = .ok (.getfield 50, 3) := by decide +kernel
theorem d_RF_putText_12 : decode prog_14_method_39_code 12 = .ok (.iload_n 3, 1) := by decide +kernel
theorem d_RF_putText_13 : decode prog_14_method_39_code 13 = .ok (.iaload, 1) := by decide +kernel
theorem d_RF_putText_14 : decode prog_14_method_39_code 14 = .ok (.invokevirtual 237, 3) := by decide +kernel
theorem d_RF_putText_17 : decode prog_14_method_39_code 17 = .ok (.iinc 3 1, 3) := by decide +kernel
theorem d_RF_putText_20 : decode prog_14_method_39_code 20 = .ok (.goto (-18), 3) := by decide +kernel
theorem d_RF_putText_23 : decode prog_14_method_39_code 23 = .ok (.return_, 1) := by decide +kernel
theorem d_RF_put_0 : decode prog_14_method_38_code 0 = .ok (.aload_n 0, 1) := by decide +kernel
theorem d_RF_put_1 : decode prog_14_method_38_code 1 = .ok (.getfield 116, 3) := by decide +kernel
theorem d_RF_put_4 : decode prog_14_method_38_code 4 = .ok (.aload_n 0, 1) := by decide +kernel
theorem d_RF_put_5 : decode prog_14_method_38_code 5 = .ok (.getfield 234, 3) := by decide +kernel
theorem d_RF_put_8 : decode prog_14_method_38_code 8 = .ok (.iload_n 1, 1) := by decide +kernel
theorem d_RF_put_9 : decode prog_14_method_38_code 9 = .ok (.iastore, 1) := by decide +kernel
theorem d_RF_put_10 : decode prog_14_method_38_code 10 = .ok (.aload_n 0, 1) := by decide +kernel
theorem d_RF_put_11 : decode prog_14_method_38_code 11 = .ok (.dup, 1) := by decide +kernel
theorem d_RF_put_12 : decode prog_14_method_38_code 12 = .ok (.getfield 234, 3) := by decide +kernel
theorem d_RF_put_15 : decode prog_14_method_38_code 15 = .ok (.iconst 1, 1) := by decide +kernel
theorem d_RF_put_16 : decode prog_14_method_38_code 16 = .ok (.iadd, 1) := by decide +kernel
theorem d_RF_put_17 : decode prog_14_method_38_code 17 = .ok (.putfield 234, 3) := by decide +kernel
theorem d_RF_put_20 : decode prog_14_method_38_code 20 = .ok (.return_, 1) := by decide +kernel
theorem d_RF_laid_0 : decode prog_14_method_41_code 0 = .ok (.iconst 1, 1) := by decide +kernel
theorem d_RF_laid_1 : decode prog_14_method_41_code 1 = .ok (.istore_n 2, 1) := by decide +kernel
theorem d_RF_laid_2 : decode prog_14_method_41_code 2 = .ok (.aload_n 0, 1) := by decide +kernel
theorem d_RF_laid_3 : decode prog_14_method_41_code 3 = .ok (.getfield 56, 3) := by decide +kernel
theorem d_RF_laid_6 : decode prog_14_method_41_code 6 = .ok (.iload_n 1, 1) := by decide +kernel
theorem d_RF_laid_7 : decode prog_14_method_41_code 7 = .ok (.iaload, 1) := by decide +kernel
theorem d_RF_laid_8 : decode prog_14_method_41_code 8 = .ok (.istore_n 3, 1) := by decide +kernel
theorem d_RF_laid_9 : decode prog_14_method_41_code 9 = .ok (.iload_n 3, 1) := by decide +kernel
theorem d_RF_laid_10 : decode prog_14_method_41_code 10 = .ok (.ifCond .lt 31, 3) := by decide +kernel
theorem d_RF_laid_13 : decode prog_14_method_41_code 13 = .ok (.iload_n 2, 1) := by decide +kernel
theorem d_RF_laid_14 : decode prog_14_method_41_code 14 = .ok (.ifCond .eq 15, 3) := by decide +kernel
theorem d_RF_laid_17 : decode prog_14_method_41_code 17 = .ok (.aload_n 0, 1) := by decide +kernel
theorem d_RF_laid_18 : decode prog_14_method_41_code 18 = .ok (.iload_n 3, 1) := by decide +kernel
theorem d_RF_laid_19 : decode prog_14_method_41_code 19 = .ok (.invokevirtual 240, 3) := by decide +kernel
theorem d_RF_laid_22 : decode prog_14_method_41_code 22 = .ok (.ifCond .eq 7, 3) := by decide +kernel
theorem d_RF_laid_25 : decode prog_14_method_41_code 25 = .ok (.iconst 1, 1) := by decide +kernel
theorem d_RF_laid_26 : decode prog_14_method_41_code 26 = .ok (.goto 4, 3) := by decide +kernel
theorem d_RF_laid_29 : decode prog_14_method_41_code 29 = .ok (.iconst 0, 1) := by decide +kernel
theorem d_RF_laid_30 : decode prog_14_method_41_code 30 = .ok (.istore_n 2, 1) := by decide +kernel
theorem d_RF_laid_31 : decode prog_14_method_41_code 31 = .ok (.aload_n 0, 1) := by decide +kernel
theorem d_RF_laid_32 : decode prog_14_method_41_code 32 = .ok (.getfield 56, 3) := by decide +kernel
theorem d_RF_laid_35 : decode prog_14_method_41_code 35 = .ok (.iload_n 3, 1) := by decide +kernel
theorem d_RF_laid_36 : decode prog_14_method_41_code 36 = .ok (.iaload, 1) := by decide +kernel
theorem d_RF_laid_37 : decode prog_14_method_41_code 37 = .ok (.istore_n 3, 1) := by decide +kernel
theorem d_RF_laid_38 : decode prog_14_method_41_code 38 = .ok (.goto (-29), 3) := by decide +kernel
theorem d_RF_laid_41 : decode prog_14_method_41_code 41 = .ok (.iload_n 2, 1) := by decide +kernel
theorem d_RF_laid_42 : decode prog_14_method_41_code 42 = .ok (.ireturn, 1) := by decide +kernel
theorem d_RF_endLines_0 : decode prog_14_method_43_code 0 = .ok (.iload_n 1, 1) := by decide +kernel
theorem d_RF_endLines_1 : decode prog_14_method_43_code 1 = .ok (.istore_n 3, 1) := by decide +kernel
theorem d_RF_endLines_2 : decode prog_14_method_43_code 2 = .ok (.iload_n 3, 1) := by decide +kernel
theorem d_RF_endLines_3 : decode prog_14_method_43_code 3 = .ok (.ifCond .le 63, 3) := by decide +kernel
theorem d_RF_endLines_6 : decode prog_14_method_43_code 6 = .ok (.iload_n 2, 1) := by decide +kernel
theorem d_RF_endLines_7 : decode prog_14_method_43_code 7 = .ok (.aload_n 0, 1) := by decide +kernel
theorem d_RF_endLines_8 : decode prog_14_method_43_code 8 = .ok (.getfield 185, 3) := by decide +kernel
theorem d_RF_endLines_11 : decode prog_14_method_43_code 11 = .ok (.if_icmp .ge 12, 3) := by decide +kernel
theorem d_RF_endLines_14 : decode prog_14_method_43_code 14 = .ok (.aload_n 0, 1) := by decide +kernel
theorem d_RF_endLines_15 : decode prog_14_method_43_code 15 = .ok (.iload_n 2, 1) := by decide +kernel
theorem d_RF_endLines_16 : decode prog_14_method_43_code 16 = .ok (.iload_n 3, 1) := by decide +kernel
theorem d_RF_endLines_17 : decode prog_14_method_43_code 17 = .ok (.invokevirtual 243, 3) := by decide +kernel
theorem d_RF_endLines_20 : decode prog_14_method_43_code 20 = .ok (.ifCond .ne 46, 3) := by decide +kernel
theorem d_RF_endLines_23 : decode prog_14_method_43_code 23 = .ok (.aload_n 0, 1) := by decide +kernel
theorem d_RF_endLines_24 : decode prog_14_method_43_code 24 = .ok (.iload_n 3, 1) := by decide +kernel
theorem d_RF_endLines_25 : decode prog_14_method_43_code 25 = .ok (.invokevirtual 240, 3) := by decide +kernel
theorem d_RF_endLines_28 : decode prog_14_method_43_code 28 = .ok (.ifCond .eq 28, 3) := by decide +kernel
theorem d_RF_endLines_31 : decode prog_14_method_43_code 31 = .ok (.aload_n 0, 1) := by decide +kernel
theorem d_RF_endLines_32 : decode prog_14_method_43_code 32 = .ok (.aload_n 0, 1) := by decide +kernel
theorem d_RF_endLines_33 : decode prog_14_method_43_code 33 = .ok (.iload_n 3, 1) := by decide +kernel
theorem d_RF_endLines_34 : decode prog_14_method_43_code 34 = .ok (.invokevirtual 246, 3) := by decide +kernel
theorem d_RF_endLines_37 : decode prog_14_method_43_code 37 = .ok (.invokevirtual 249, 3) := by decide +kernel
theorem d_RF_endLines_40 : decode prog_14_method_43_code 40 = .ok (.aload_n 0, 1) := by decide +kernel
theorem d_RF_endLines_41 : decode prog_14_method_43_code 41 = .ok (.aload_n 0, 1) := by decide +kernel
theorem d_RF_endLines_42 : decode prog_14_method_43_code 42 = .ok (.getfield 71, 3) := by decide +kernel
theorem d_RF_endLines_45 : decode prog_14_method_43_code 45 = .ok (.iload_n 3, 1) := by decide +kernel
theorem d_RF_endLines_46 : decode prog_14_method_43_code 46 = .ok (.iaload, 1) := by decide +kernel
theorem d_RF_endLines_47 : decode prog_14_method_43_code 47 = .ok (.aload_n 0, 1) := by decide +kernel
theorem d_RF_endLines_48 : decode prog_14_method_43_code 48 = .ok (.getfield 62, 3) := by decide +kernel
theorem d_RF_endLines_51 : decode prog_14_method_43_code 51 = .ok (.iload_n 3, 1) := by decide +kernel
theorem d_RF_endLines_52 : decode prog_14_method_43_code 52 = .ok (.iaload, 1) := by decide +kernel
theorem d_RF_endLines_53 : decode prog_14_method_43_code 53 = .ok (.invokevirtual 252, 3) := by decide +kernel
theorem d_RF_endLines_56 : decode prog_14_method_43_code 56 = .ok (.aload_n 0, 1) := by decide +kernel
theorem d_RF_endLines_57 : decode prog_14_method_43_code 57 = .ok (.getfield 56, 3) := by decide +kernel
theorem d_RF_endLines_60 : decode prog_14_method_43_code 60 = .ok (.iload_n 3, 1) := by decide +kernel
theorem d_RF_endLines_61 : decode prog_14_method_43_code 61 = .ok (.iaload, 1) := by decide +kernel
theorem d_RF_endLines_62 : decode prog_14_method_43_code 62 = .ok (.istore_n 3, 1) := by decide +kernel
theorem d_RF_endLines_63 : decode prog_14_method_43_code 63 = .ok (.goto (-61), 3) := by decide +kernel
theorem d_RF_endLines_66 : decode prog_14_method_43_code 66 = .ok (.return_, 1) := by decide +kernel
theorem d_RF_within_0 : decode prog_14_method_42_code 0 = .ok (.iload_n 1, 1) := by decide +kernel
theorem d_RF_within_1 : decode prog_14_method_42_code 1 = .ok (.istore_n 3, 1) := by decide +kernel
theorem d_RF_within_2 : decode prog_14_method_42_code 2 = .ok (.iload_n 3, 1) := by decide +kernel
theorem d_RF_within_3 : decode prog_14_method_42_code 3 = .ok (.iload_n 2, 1) := by decide +kernel
theorem d_RF_within_4 : decode prog_14_method_42_code 4 = .ok (.if_icmp .le 13, 3) := by decide +kernel
theorem d_RF_within_7 : decode prog_14_method_42_code 7 = .ok (.aload_n 0, 1) := by decide +kernel
theorem d_RF_within_8 : decode prog_14_method_42_code 8 = .ok (.getfield 56, 3) := by decide +kernel
theorem d_RF_within_11 : decode prog_14_method_42_code 11 = .ok (.iload_n 3, 1) := by decide +kernel
theorem d_RF_within_12 : decode prog_14_method_42_code 12 = .ok (.iaload, 1) := by decide +kernel
theorem d_RF_within_13 : decode prog_14_method_42_code 13 = .ok (.istore_n 3, 1) := by decide +kernel
theorem d_RF_within_14 : decode prog_14_method_42_code 14 = .ok (.goto (-12), 3) := by decide +kernel
theorem d_RF_within_17 : decode prog_14_method_42_code 17 = .ok (.iload_n 3, 1) := by decide +kernel
theorem d_RF_within_18 : decode prog_14_method_42_code 18 = .ok (.iload_n 2, 1) := by decide +kernel
theorem d_RF_within_19 : decode prog_14_method_42_code 19 = .ok (.if_icmp .ne 7, 3) := by decide +kernel
theorem d_RF_within_22 : decode prog_14_method_42_code 22 = .ok (.iconst 1, 1) := by decide +kernel
theorem d_RF_within_23 : decode prog_14_method_42_code 23 = .ok (.goto 4, 3) := by decide +kernel
theorem d_RF_within_26 : decode prog_14_method_42_code 26 = .ok (.iconst 0, 1) := by decide +kernel
theorem d_RF_within_27 : decode prog_14_method_42_code 27 = .ok (.ireturn, 1) := by decide +kernel
theorem d_RF_depthOf_0 : decode prog_14_method_37_code 0 = .ok (.iconst 0, 1) := by decide +kernel
theorem d_RF_depthOf_1 : decode prog_14_method_37_code 1 = .ok (.istore_n 2, 1) := by decide +kernel
theorem d_RF_depthOf_2 : decode prog_14_method_37_code 2 = .ok (.aload_n 0, 1) := by decide +kernel
theorem d_RF_depthOf_3 : decode prog_14_method_37_code 3 = .ok (.getfield 56, 3) := by decide +kernel
theorem d_RF_depthOf_6 : decode prog_14_method_37_code 6 = .ok (.iload_n 1, 1) := by decide +kernel
theorem d_RF_depthOf_7 : decode prog_14_method_37_code 7 = .ok (.iaload, 1) := by decide +kernel
theorem d_RF_depthOf_8 : decode prog_14_method_37_code 8 = .ok (.istore_n 3, 1) := by decide +kernel
theorem d_RF_depthOf_9 : decode prog_14_method_37_code 9 = .ok (.iload_n 3, 1) := by decide +kernel
theorem d_RF_depthOf_10 : decode prog_14_method_37_code 10 = .ok (.ifCond .le 16, 3) := by decide +kernel
theorem d_RF_depthOf_13 : decode prog_14_method_37_code 13 = .ok (.iinc 2 1, 3) := by decide +kernel
theorem d_RF_depthOf_16 : decode prog_14_method_37_code 16 = .ok (.aload_n 0, 1) := by decide +kernel
theorem d_RF_depthOf_17 : decode prog_14_method_37_code 17 = .ok (.getfield 56, 3) := by decide +kernel
theorem d_RF_depthOf_20 : decode prog_14_method_37_code 20 = .ok (.iload_n 3, 1) := by decide +kernel
theorem d_RF_depthOf_21 : decode prog_14_method_37_code 21 = .ok (.iaload, 1) := by decide +kernel
theorem d_RF_depthOf_22 : decode prog_14_method_37_code 22 = .ok (.istore_n 3, 1) := by decide +kernel
theorem d_RF_depthOf_23 : decode prog_14_method_37_code 23 = .ok (.goto (-14), 3) := by decide +kernel
theorem d_RF_depthOf_26 : decode prog_14_method_37_code 26 = .ok (.iload_n 2, 1) := by decide +kernel
theorem d_RF_depthOf_27 : decode prog_14_method_37_code 27 = .ok (.ireturn, 1) := by decide +kernel
theorem d_RF_putLine_0 : decode prog_14_method_40_code 0 = .ok (.aload_n 0, 1) := by decide +kernel
theorem d_RF_putLine_1 : decode prog_14_method_40_code 1 = .ok (.bipush 10, 2) := by decide +kernel
theorem d_RF_putLine_3 : decode prog_14_method_40_code 3 = .ok (.invokevirtual 237, 3) := by decide +kernel
theorem d_RF_putLine_6 : decode prog_14_method_40_code 6 = .ok (.iconst 0, 1) := by decide +kernel
theorem d_RF_putLine_7 : decode prog_14_method_40_code 7 = .ok (.istore_n 2, 1) := by decide +kernel
theorem d_RF_putLine_8 : decode prog_14_method_40_code 8 = .ok (.iload_n 2, 1) := by decide +kernel
theorem d_RF_putLine_9 : decode prog_14_method_40_code 9 = .ok (.iload_n 1, 1) := by decide +kernel
theorem d_RF_putLine_10 : decode prog_14_method_40_code 10 = .ok (.if_icmp .ge 15, 3) := by decide +kernel
theorem d_RF_putLine_13 : decode prog_14_method_40_code 13 = .ok (.aload_n 0, 1) := by decide +kernel
theorem d_RF_putLine_14 : decode prog_14_method_40_code 14 = .ok (.bipush 32, 2) := by decide +kernel
theorem d_RF_putLine_16 : decode prog_14_method_40_code 16 = .ok (.invokevirtual 237, 3) := by decide +kernel
theorem d_RF_putLine_19 : decode prog_14_method_40_code 19 = .ok (.iinc 2 1, 3) := by decide +kernel
theorem d_RF_putLine_22 : decode prog_14_method_40_code 22 = .ok (.goto (-14), 3) := by decide +kernel
theorem d_RF_putLine_25 : decode prog_14_method_40_code 25 = .ok (.return_, 1) := by decide +kernel
theorem d_RF_answer_0 : decode prog_14_method_56_code 0 = .ok (.aload_n 0, 1) := by decide +kernel
theorem d_RF_answer_1 : decode prog_14_method_56_code 1 = .ok (.iload_n 1, 1) := by decide +kernel
theorem d_RF_answer_2 : decode prog_14_method_56_code 2 = .ok (.invokevirtual 271, 3) := by decide +kernel
theorem d_RF_answer_5 : decode prog_14_method_56_code 5 = .ok (.ifCond .lt 6, 3) := by decide +kernel
theorem d_RF_answer_8 : decode prog_14_method_56_code 8 = .ok (.bipush (-3), 2) := by decide +kernel
theorem d_RF_answer_10 : decode prog_14_method_56_code 10 = .ok (.ireturn, 1) := by decide +kernel
theorem d_RF_answer_11 : decode prog_14_method_56_code 11 = .ok (.iconst 0, 1) := by decide +kernel
theorem d_RF_answer_12 : decode prog_14_method_56_code 12 = .ok (.istore_n 2, 1) := by decide +kernel
theorem d_RF_answer_13 : decode prog_14_method_56_code 13 = .ok (.iload_n 2, 1) := by decide +kernel
theorem d_RF_answer_14 : decode prog_14_method_56_code 14 = .ok (.bipush 8, 2) := by decide +kernel
theorem d_RF_answer_16 : decode prog_14_method_56_code 16 = .ok (.if_icmp .ge 34, 3) := by decide +kernel
theorem d_RF_answer_19 : decode prog_14_method_56_code 19 = .ok (.iload_n 2, 1) := by decide +kernel
theorem d_RF_answer_20 : decode prog_14_method_56_code 20 = .ok (.aload_n 0, 1) := by decide +kernel
theorem d_RF_answer_21 : decode prog_14_method_56_code 21 = .ok (.getfield 295, 3) := by decide +kernel
theorem d_RF_answer_24 : decode prog_14_method_56_code 24 = .ok (.if_icmp .ge 26, 3) := by decide +kernel
theorem d_RF_answer_27 : decode prog_14_method_56_code 27 = .ok (.aload_n 0, 1) := by decide +kernel
theorem d_RF_answer_28 : decode prog_14_method_56_code 28 = .ok (.getfield 110, 3) := by decide +kernel
theorem d_RF_answer_31 : decode prog_14_method_56_code 31 = .ok (.iload_n 2, 1) := by decide +kernel
theorem d_RF_answer_32 : decode prog_14_method_56_code 32 = .ok (.iaload, 1) := by decide +kernel
theorem d_RF_answer_33 : decode prog_14_method_56_code 33 = .ok (.iload_n 1, 1) := by decide +kernel
theorem d_RF_answer_34 : decode prog_14_method_56_code 34 = .ok (.if_icmp .ne 10, 3) := by decide +kernel
theorem d_RF_answer_37 : decode prog_14_method_56_code 37 = .ok (.aload_n 0, 1) := by decide +kernel
theorem d_RF_answer_38 : decode prog_14_method_56_code 38 = .ok (.getfield 113, 3) := by decide +kernel
theorem d_RF_answer_41 : decode prog_14_method_56_code 41 = .ok (.iload_n 2, 1) := by decide +kernel
theorem d_RF_answer_42 : decode prog_14_method_56_code 42 = .ok (.iaload, 1) := by decide +kernel
theorem d_RF_answer_43 : decode prog_14_method_56_code 43 = .ok (.ireturn, 1) := by decide +kernel
theorem d_RF_answer_44 : decode prog_14_method_56_code 44 = .ok (.iinc 2 1, 3) := by decide +kernel
theorem d_RF_answer_47 : decode prog_14_method_56_code 47 = .ok (.goto (-34), 3) := by decide +kernel
theorem d_RF_answer_50 : decode prog_14_method_56_code 50 = .ok (.iconst (-1), 1) := by decide +kernel
theorem d_RF_answer_51 : decode prog_14_method_56_code 51 = .ok (.ireturn, 1) := by decide +kernel
theorem d_RF_inbox_0 : decode prog_14_method_57_code 0 = .ok (.aload_n 0, 1) := by decide +kernel
theorem d_RF_inbox_1 : decode prog_14_method_57_code 1 = .ok (.getfield 261, 3) := by decide +kernel
theorem d_RF_inbox_4 : decode prog_14_method_57_code 4 = .ok (.ireturn, 1) := by decide +kernel
theorem d_RF_length_0 : decode prog_14_method_58_code 0 = .ok (.aload_n 0, 1) := by decide +kernel
theorem d_RF_length_1 : decode prog_14_method_58_code 1 = .ok (.getfield 179, 3) := by decide +kernel
theorem d_RF_length_4 : decode prog_14_method_58_code 4 = .ok (.ireturn, 1) := by decide +kernel
theorem d_RF_character_0 : decode prog_14_method_59_code 0 = .ok (.iload_n 1, 1) := by decide +kernel
theorem d_RF_character_1 : decode prog_14_method_59_code 1 = .ok (.ifCond .lt 11, 3) := by decide +kernel
theorem d_RF_character_4 : decode prog_14_method_59_code 4 = .ok (.iload_n 1, 1) := by decide +kernel
theorem d_RF_character_5 : decode prog_14_method_59_code 5 = .ok (.aload_n 0, 1) := by decide +kernel
theorem d_RF_character_6 : decode prog_14_method_59_code 6 = .ok (.getfield 179, 3) := by decide +kernel
theorem d_RF_character_9 : decode prog_14_method_59_code 9 = .ok (.if_icmp .lt 7, 3) := by decide +kernel
theorem d_RF_character_12 : decode prog_14_method_59_code 12 = .ok (.iconst (-1), 1) := by decide +kernel
theorem d_RF_character_13 : decode prog_14_method_59_code 13 = .ok (.goto 9, 3) := by decide +kernel
theorem d_RF_character_16 : decode prog_14_method_59_code 16 = .ok (.aload_n 0, 1) := by decide +kernel
theorem d_RF_character_17 : decode prog_14_method_59_code 17 = .ok (.getfield 50, 3) := by decide +kernel
theorem d_RF_character_20 : decode prog_14_method_59_code 20 = .ok (.iload_n 1, 1) := by decide +kernel
theorem d_RF_character_21 : decode prog_14_method_59_code 21 = .ok (.iaload, 1) := by decide +kernel
theorem d_RF_character_22 : decode prog_14_method_59_code 22 = .ok (.ireturn, 1) := by decide +kernel
theorem d_RF_element_0 : decode prog_14_method_60_code 0 = .ok (.aload_n 0, 1) := by decide +kernel
theorem d_RF_element_1 : decode prog_14_method_60_code 1 = .ok (.invokevirtual 277, 3) := by decide +kernel
theorem d_RF_element_4 : decode prog_14_method_60_code 4 = .ok (.iload_n 1, 1) := by decide +kernel
theorem d_RF_element_5 : decode prog_14_method_60_code 5 = .ok (.ifCond .lt 11, 3) := by decide +kernel
theorem d_RF_element_8 : decode prog_14_method_60_code 8 = .ok (.iload_n 1, 1) := by decide +kernel
theorem d_RF_element_9 : decode prog_14_method_60_code 9 = .ok (.aload_n 0, 1) := by decide +kernel
theorem d_RF_element_10 : decode prog_14_method_60_code 10 = .ok (.getfield 185, 3) := by decide +kernel
theorem d_RF_element_13 : decode prog_14_method_60_code 13 = .ok (.if_icmp .lt 5, 3) := by decide +kernel
theorem d_RF_element_16 : decode prog_14_method_60_code 16 = .ok (.iconst (-1), 1) := by decide +kernel
theorem d_RF_element_17 : decode prog_14_method_60_code 17 = .ok (.ireturn, 1) := by decide +kernel
theorem d_RF_element_18 : decode prog_14_method_60_code 18 = .ok (.iconst 0, 1) := by decide +kernel
theorem d_RF_element_19 : decode prog_14_method_60_code 19 = .ok (.istore_n 3, 1) := by decide +kernel
theorem d_RF_element_20 : decode prog_14_method_60_code 20 = .ok (.iconst 1, 1) := by decide +kernel
theorem d_RF_element_21 : decode prog_14_method_60_code 21 = .ok (.istore 4, 2) := by decide +kernel
theorem d_RF_element_23 : decode prog_14_method_60_code 23 = .ok (.iload 4, 2) := by decide +kernel
theorem d_RF_element_25 : decode prog_14_method_60_code 25 = .ok (.aload_n 0, 1) := by decide +kernel
theorem d_RF_element_26 : decode prog_14_method_60_code 26 = .ok (.getfield 185, 3) := by decide +kernel
theorem d_RF_element_29 : decode prog_14_method_60_code 29 = .ok (.if_icmp .ge 23, 3) := by decide +kernel
theorem d_RF_element_32 : decode prog_14_method_60_code 32 = .ok (.aload_n 0, 1) := by decide +kernel
theorem d_RF_element_33 : decode prog_14_method_60_code 33 = .ok (.getfield 56, 3) := by decide +kernel
theorem d_RF_element_36 : decode prog_14_method_60_code 36 = .ok (.iload 4, 2) := by decide +kernel
theorem d_RF_element_38 : decode prog_14_method_60_code 38 = .ok (.iaload, 1) := by decide +kernel
theorem d_RF_element_39 : decode prog_14_method_60_code 39 = .ok (.iload_n 1, 1) := by decide +kernel
theorem d_RF_element_40 : decode prog_14_method_60_code 40 = .ok (.if_icmp .ne 6, 3) := by decide +kernel
theorem d_RF_element_43 : decode prog_14_method_60_code 43 = .ok (.iinc 3 1, 3) := by decide +kernel
theorem d_RF_element_46 : decode prog_14_method_60_code 46 = .ok (.iinc 4 1, 3) := by decide +kernel
theorem d_RF_element_49 : decode prog_14_method_60_code 49 = .ok (.goto (-26), 3) := by decide +kernel
theorem d_RF_element_52 : decode prog_14_method_60_code 52 = .ok (.iload_n 2, 1) := by decide +kernel
theorem d_RF_element_53 : decode prog_14_method_60_code 53 = .ok (.tableswitch 84 0 5 #[39, 46, 53, 60, 67, 69], 39) := by decide +kernel
theorem d_RF_element_92 : decode prog_14_method_60_code 92 = .ok (.aload_n 0, 1) := by decide +kernel
theorem d_RF_element_93 : decode prog_14_method_60_code 93 = .ok (.getfield 53, 3) := by decide +kernel
theorem d_RF_element_96 : decode prog_14_method_60_code 96 = .ok (.iload_n 1, 1) := by decide +kernel
theorem d_RF_element_97 : decode prog_14_method_60_code 97 = .ok (.iaload, 1) := by decide +kernel
theorem d_RF_element_98 : decode prog_14_method_60_code 98 = .ok (.ireturn, 1) := by decide +kernel
theorem d_RF_element_99 : decode prog_14_method_60_code 99 = .ok (.aload_n 0, 1) := by decide +kernel
theorem d_RF_element_100 : decode prog_14_method_60_code 100 = .ok (.getfield 56, 3) := by decide +kernel
theorem d_RF_element_103 : decode prog_14_method_60_code 103 = .ok (.iload_n 1, 1) := by decide +kernel
theorem d_RF_element_104 : decode prog_14_method_60_code 104 = .ok (.iaload, 1) := by decide +kernel
theorem d_RF_element_105 : decode prog_14_method_60_code 105 = .ok (.ireturn, 1) := by decide +kernel
theorem d_RF_element_106 : decode prog_14_method_60_code 106 = .ok (.aload_n 0, 1) := by decide +kernel
theorem d_RF_element_107 : decode prog_14_method_60_code 107 = .ok (.getfield 59, 3) := by decide +kernel
theorem d_RF_element_110 : decode prog_14_method_60_code 110 = .ok (.iload_n 1, 1) := by decide +kernel
theorem d_RF_element_111 : decode prog_14_method_60_code 111 = .ok (.iaload, 1) := by decide +kernel
theorem d_RF_element_112 : decode prog_14_method_60_code 112 = .ok (.ireturn, 1) := by decide +kernel
theorem d_RF_element_113 : decode prog_14_method_60_code 113 = .ok (.aload_n 0, 1) := by decide +kernel
theorem d_RF_element_114 : decode prog_14_method_60_code 114 = .ok (.getfield 62, 3) := by decide +kernel
theorem d_RF_element_117 : decode prog_14_method_60_code 117 = .ok (.iload_n 1, 1) := by decide +kernel
theorem d_RF_element_118 : decode prog_14_method_60_code 118 = .ok (.iaload, 1) := by decide +kernel
theorem d_RF_element_119 : decode prog_14_method_60_code 119 = .ok (.ireturn, 1) := by decide +kernel
theorem d_RF_element_120 : decode prog_14_method_60_code 120 = .ok (.iload_n 3, 1) := by decide +kernel
theorem d_RF_element_121 : decode prog_14_method_60_code 121 = .ok (.ireturn, 1) := by decide +kernel
theorem d_RF_element_122 : decode prog_14_method_60_code 122 = .ok (.aload_n 0, 1) := by decide +kernel
theorem d_RF_element_123 : decode prog_14_method_60_code 123 = .ok (.getfield 71, 3) := by decide +kernel
theorem d_RF_element_126 : decode prog_14_method_60_code 126 = .ok (.iload_n 1, 1) := by decide +kernel
theorem d_RF_element_127 : decode prog_14_method_60_code 127 = .ok (.iaload, 1) := by decide +kernel
theorem d_RF_element_128 : decode prog_14_method_60_code 128 = .ok (.ifCond .lt 7, 3) := by decide +kernel
theorem d_RF_element_131 : decode prog_14_method_60_code 131 = .ok (.iconst 1, 1) := by decide +kernel
theorem d_RF_element_132 : decode prog_14_method_60_code 132 = .ok (.goto 4, 3) := by decide +kernel
theorem d_RF_element_135 : decode prog_14_method_60_code 135 = .ok (.iconst 0, 1) := by decide +kernel
theorem d_RF_element_136 : decode prog_14_method_60_code 136 = .ok (.ireturn, 1) := by decide +kernel
theorem d_RF_element_137 : decode prog_14_method_60_code 137 = .ok (.iconst (-1), 1) := by decide +kernel
theorem d_RF_element_138 : decode prog_14_method_60_code 138 = .ok (.ireturn, 1) := by decide +kernel
theorem d_RF_fault_0 : decode prog_14_method_61_code 0 = .ok (.aload_n 0, 1) := by decide +kernel
theorem d_RF_fault_1 : decode prog_14_method_61_code 1 = .ok (.invokevirtual 277, 3) := by decide +kernel
theorem d_RF_fault_4 : decode prog_14_method_61_code 4 = .ok (.iload_n 1, 1) := by decide +kernel
theorem d_RF_fault_5 : decode prog_14_method_61_code 5 = .ok (.ifCond .lt 20, 3) := by decide +kernel
theorem d_RF_fault_8 : decode prog_14_method_61_code 8 = .ok (.iload_n 1, 1) := by decide +kernel
theorem d_RF_fault_9 : decode prog_14_method_61_code 9 = .ok (.aload_n 0, 1) := by decide +kernel
theorem d_RF_fault_10 : decode prog_14_method_61_code 10 = .ok (.getfield 182, 3) := by decide +kernel
theorem d_RF_fault_13 : decode prog_14_method_61_code 13 = .ok (.if_icmp .ge 12, 3) := by decide +kernel
theorem d_RF_fault_16 : decode prog_14_method_61_code 16 = .ok (.iload_n 2, 1) := by decide +kernel
theorem d_RF_fault_17 : decode prog_14_method_61_code 17 = .ok (.ifCond .lt 8, 3) := by decide +kernel
theorem d_RF_fault_20 : decode prog_14_method_61_code 20 = .ok (.iload_n 2, 1) := by decide +kernel
theorem d_RF_fault_21 : decode prog_14_method_61_code 21 = .ok (.iconst 1, 1) := by decide +kernel
theorem d_RF_fault_22 : decode prog_14_method_61_code 22 = .ok (.if_icmp .le 5, 3) := by decide +kernel
theorem d_RF_fault_25 : decode prog_14_method_61_code 25 = .ok (.iconst (-1), 1) := by decide +kernel
theorem d_RF_fault_26 : decode prog_14_method_61_code 26 = .ok (.ireturn, 1) := by decide +kernel
theorem d_RF_fault_27 : decode prog_14_method_61_code 27 = .ok (.iload_n 2, 1) := by decide +kernel
theorem d_RF_fault_28 : decode prog_14_method_61_code 28 = .ok (.ifCond .ne 12, 3) := by decide +kernel
theorem d_RF_fault_31 : decode prog_14_method_61_code 31 = .ok (.aload_n 0, 1) := by decide +kernel
theorem d_RF_fault_32 : decode prog_14_method_61_code 32 = .ok (.getfield 89, 3) := by decide +kernel
theorem d_RF_fault_35 : decode prog_14_method_61_code 35 = .ok (.iload_n 1, 1) := by decide +kernel
theorem d_RF_fault_36 : decode prog_14_method_61_code 36 = .ok (.iaload, 1) := by decide +kernel
theorem d_RF_fault_37 : decode prog_14_method_61_code 37 = .ok (.goto 9, 3) := by decide +kernel
theorem d_RF_fault_40 : decode prog_14_method_61_code 40 = .ok (.aload_n 0, 1) := by decide +kernel
theorem d_RF_fault_41 : decode prog_14_method_61_code 41 = .ok (.getfield 92, 3) := by decide +kernel
theorem d_RF_fault_44 : decode prog_14_method_61_code 44 = .ok (.iload_n 1, 1) := by decide +kernel
theorem d_RF_fault_45 : decode prog_14_method_61_code 45 = .ok (.iaload, 1) := by decide +kernel
theorem d_RF_fault_46 : decode prog_14_method_61_code 46 = .ok (.ireturn, 1) := by decide +kernel
theorem d_RF_formed_0 : decode prog_14_method_62_code 0 = .ok (.iload_n 1, 1) := by decide +kernel
theorem d_RF_formed_1 : decode prog_14_method_62_code 1 = .ok (.ifCond .lt 11, 3) := by decide +kernel
theorem d_RF_formed_4 : decode prog_14_method_62_code 4 = .ok (.iload_n 1, 1) := by decide +kernel
theorem d_RF_formed_5 : decode prog_14_method_62_code 5 = .ok (.aload_n 0, 1) := by decide +kernel
theorem d_RF_formed_6 : decode prog_14_method_62_code 6 = .ok (.getfield 234, 3) := by decide +kernel
theorem d_RF_formed_9 : decode prog_14_method_62_code 9 = .ok (.if_icmp .lt 7, 3) := by decide +kernel
theorem d_RF_formed_12 : decode prog_14_method_62_code 12 = .ok (.iconst (-1), 1) := by decide +kernel
theorem d_RF_formed_13 : decode prog_14_method_62_code 13 = .ok (.goto 9, 3) := by decide +kernel
theorem d_RF_formed_16 : decode prog_14_method_62_code 16 = .ok (.aload_n 0, 1) := by decide +kernel
theorem d_RF_formed_17 : decode prog_14_method_62_code 17 = .ok (.getfield 116, 3) := by decide +kernel
theorem d_RF_formed_20 : decode prog_14_method_62_code 20 = .ok (.iload_n 1, 1) := by decide +kernel
theorem d_RF_formed_21 : decode prog_14_method_62_code 21 = .ok (.iaload, 1) := by decide +kernel
theorem d_RF_formed_22 : decode prog_14_method_62_code 22 = .ok (.ireturn, 1) := by decide +kernel
