/-! the law: its name, decode rows, links -/
abbrev M_LW_law : MethodName × ByteArray × Nat × Option FieldType := (⟨"TagGuideLaw", "law", "([I)Z"⟩, code, 4, some .boolean)
theorem d_LW_law_0 : decode code 0 = .ok (.new 7, 3) := by decide +kernel
theorem d_LW_law_3 : decode code 3 = .ok (.dup, 1) := by decide +kernel
theorem d_LW_law_4 : decode code 4 = .ok (.invokespecial 9, 3) := by decide +kernel
theorem d_LW_law_7 : decode code 7 = .ok (.astore_n 1, 1) := by decide +kernel
theorem d_LW_law_8 : decode code 8 = .ok (.new 10, 3) := by decide +kernel
theorem d_LW_law_11 : decode code 11 = .ok (.dup, 1) := by decide +kernel
theorem d_LW_law_12 : decode code 12 = .ok (.invokespecial 12, 3) := by decide +kernel
theorem d_LW_law_15 : decode code 15 = .ok (.astore_n 2, 1) := by decide +kernel
theorem d_LW_law_16 : decode code 16 = .ok (.iconst 0, 1) := by decide +kernel
theorem d_LW_law_17 : decode code 17 = .ok (.istore_n 3, 1) := by decide +kernel
theorem d_LW_law_18 : decode code 18 = .ok (.iload_n 3, 1) := by decide +kernel
theorem d_LW_law_19 : decode code 19 = .ok (.aload_n 0, 1) := by decide +kernel
theorem d_LW_law_20 : decode code 20 = .ok (.arraylength, 1) := by decide +kernel
theorem d_LW_law_21 : decode code 21 = .ok (.iconst 4, 1) := by decide +kernel
theorem d_LW_law_22 : decode code 22 = .ok (.isub, 1) := by decide +kernel
theorem d_LW_law_23 : decode code 23 = .ok (.if_icmp .gt 464, 3) := by decide +kernel
theorem d_LW_law_26 : decode code 26 = .ok (.aload_n 0, 1) := by decide +kernel
theorem d_LW_law_27 : decode code 27 = .ok (.iload_n 3, 1) := by decide +kernel
theorem d_LW_law_28 : decode code 28 = .ok (.iaload, 1) := by decide +kernel
theorem d_LW_law_29 : decode code 29 = .ok (.bipush 15, 2) := by decide +kernel
theorem d_LW_law_31 : decode code 31 = .ok (.iand, 1) := by decide +kernel
theorem d_LW_law_32 : decode code 32 = .ok (.tableswitch 449 0 14 #[76, 101, 126, 161, 194, 239, 262, 275, 298, 311, 324, 347, 380, 413, 426], 76) := by decide +kernel
theorem d_LW_law_108 : decode code 108 = .ok (.aload_n 1, 1) := by decide +kernel
theorem d_LW_law_109 : decode code 109 = .ok (.aload_n 0, 1) := by decide +kernel
theorem d_LW_law_110 : decode code 110 = .ok (.iload_n 3, 1) := by decide +kernel
theorem d_LW_law_111 : decode code 111 = .ok (.iconst 1, 1) := by decide +kernel
theorem d_LW_law_112 : decode code 112 = .ok (.iadd, 1) := by decide +kernel
theorem d_LW_law_113 : decode code 113 = .ok (.iaload, 1) := by decide +kernel
theorem d_LW_law_114 : decode code 114 = .ok (.i2c, 1) := by decide +kernel
theorem d_LW_law_115 : decode code 115 = .ok (.invokevirtual 13, 3) := by decide +kernel
theorem d_LW_law_118 : decode code 118 = .ok (.aload_n 2, 1) := by decide +kernel
theorem d_LW_law_119 : decode code 119 = .ok (.aload_n 0, 1) := by decide +kernel
theorem d_LW_law_120 : decode code 120 = .ok (.iload_n 3, 1) := by decide +kernel
theorem d_LW_law_121 : decode code 121 = .ok (.iconst 1, 1) := by decide +kernel
theorem d_LW_law_122 : decode code 122 = .ok (.iadd, 1) := by decide +kernel
theorem d_LW_law_123 : decode code 123 = .ok (.iaload, 1) := by decide +kernel
theorem d_LW_law_124 : decode code 124 = .ok (.i2c, 1) := by decide +kernel
theorem d_LW_law_125 : decode code 125 = .ok (.invokevirtual 17, 3) := by decide +kernel
theorem d_LW_law_128 : decode code 128 = .ok (.if_icmp .eq 353, 3) := by decide +kernel
theorem d_LW_law_131 : decode code 131 = .ok (.iconst 0, 1) := by decide +kernel
theorem d_LW_law_132 : decode code 132 = .ok (.ireturn, 1) := by decide +kernel
theorem d_LW_law_133 : decode code 133 = .ok (.aload_n 1, 1) := by decide +kernel
theorem d_LW_law_134 : decode code 134 = .ok (.aload_n 0, 1) := by decide +kernel
theorem d_LW_law_135 : decode code 135 = .ok (.iload_n 3, 1) := by decide +kernel
theorem d_LW_law_136 : decode code 136 = .ok (.iconst 1, 1) := by decide +kernel
theorem d_LW_law_137 : decode code 137 = .ok (.iadd, 1) := by decide +kernel
theorem d_LW_law_138 : decode code 138 = .ok (.iaload, 1) := by decide +kernel
theorem d_LW_law_139 : decode code 139 = .ok (.i2c, 1) := by decide +kernel
theorem d_LW_law_140 : decode code 140 = .ok (.invokevirtual 18, 3) := by decide +kernel
theorem d_LW_law_143 : decode code 143 = .ok (.aload_n 2, 1) := by decide +kernel
theorem d_LW_law_144 : decode code 144 = .ok (.aload_n 0, 1) := by decide +kernel
theorem d_LW_law_145 : decode code 145 = .ok (.iload_n 3, 1) := by decide +kernel
theorem d_LW_law_146 : decode code 146 = .ok (.iconst 1, 1) := by decide +kernel
theorem d_LW_law_147 : decode code 147 = .ok (.iadd, 1) := by decide +kernel
theorem d_LW_law_148 : decode code 148 = .ok (.iaload, 1) := by decide +kernel
theorem d_LW_law_149 : decode code 149 = .ok (.i2c, 1) := by decide +kernel
theorem d_LW_law_150 : decode code 150 = .ok (.invokevirtual 22, 3) := by decide +kernel
theorem d_LW_law_153 : decode code 153 = .ok (.if_icmp .eq 328, 3) := by decide +kernel
theorem d_LW_law_156 : decode code 156 = .ok (.iconst 0, 1) := by decide +kernel
theorem d_LW_law_157 : decode code 157 = .ok (.ireturn, 1) := by decide +kernel
theorem d_LW_law_158 : decode code 158 = .ok (.aload_n 1, 1) := by decide +kernel
theorem d_LW_law_159 : decode code 159 = .ok (.aload_n 0, 1) := by decide +kernel
theorem d_LW_law_160 : decode code 160 = .ok (.iload_n 3, 1) := by decide +kernel
theorem d_LW_law_161 : decode code 161 = .ok (.iconst 1, 1) := by decide +kernel
theorem d_LW_law_162 : decode code 162 = .ok (.iadd, 1) := by decide +kernel
theorem d_LW_law_163 : decode code 163 = .ok (.iaload, 1) := by decide +kernel
theorem d_LW_law_164 : decode code 164 = .ok (.aload_n 0, 1) := by decide +kernel
theorem d_LW_law_165 : decode code 165 = .ok (.iload_n 3, 1) := by decide +kernel
theorem d_LW_law_166 : decode code 166 = .ok (.iconst 2, 1) := by decide +kernel
theorem d_LW_law_167 : decode code 167 = .ok (.iadd, 1) := by decide +kernel
theorem d_LW_law_168 : decode code 168 = .ok (.iaload, 1) := by decide +kernel
theorem d_LW_law_169 : decode code 169 = .ok (.i2c, 1) := by decide +kernel
theorem d_LW_law_170 : decode code 170 = .ok (.invokevirtual 23, 3) := by decide +kernel
theorem d_LW_law_173 : decode code 173 = .ok (.aload_n 2, 1) := by decide +kernel
theorem d_LW_law_174 : decode code 174 = .ok (.aload_n 0, 1) := by decide +kernel
theorem d_LW_law_175 : decode code 175 = .ok (.iload_n 3, 1) := by decide +kernel
theorem d_LW_law_176 : decode code 176 = .ok (.iconst 1, 1) := by decide +kernel
theorem d_LW_law_177 : decode code 177 = .ok (.iadd, 1) := by decide +kernel
theorem d_LW_law_178 : decode code 178 = .ok (.iaload, 1) := by decide +kernel
theorem d_LW_law_179 : decode code 179 = .ok (.aload_n 0, 1) := by decide +kernel
theorem d_LW_law_180 : decode code 180 = .ok (.iload_n 3, 1) := by decide +kernel
theorem d_LW_law_181 : decode code 181 = .ok (.iconst 2, 1) := by decide +kernel
theorem d_LW_law_182 : decode code 182 = .ok (.iadd, 1) := by decide +kernel
theorem d_LW_law_183 : decode code 183 = .ok (.iaload, 1) := by decide +kernel
theorem d_LW_law_184 : decode code 184 = .ok (.i2c, 1) := by decide +kernel
theorem d_LW_law_185 : decode code 185 = .ok (.invokevirtual 27, 3) := by decide +kernel
theorem d_LW_law_188 : decode code 188 = .ok (.if_icmp .eq 293, 3) := by decide +kernel
theorem d_LW_law_191 : decode code 191 = .ok (.iconst 0, 1) := by decide +kernel
theorem d_LW_law_192 : decode code 192 = .ok (.ireturn, 1) := by decide +kernel
theorem d_LW_law_193 : decode code 193 = .ok (.aload_n 1, 1) := by decide +kernel
theorem d_LW_law_194 : decode code 194 = .ok (.aload_n 0, 1) := by decide +kernel
theorem d_LW_law_195 : decode code 195 = .ok (.iload_n 3, 1) := by decide +kernel
theorem d_LW_law_196 : decode code 196 = .ok (.iconst 1, 1) := by decide +kernel
theorem d_LW_law_197 : decode code 197 = .ok (.iadd, 1) := by decide +kernel
theorem d_LW_law_198 : decode code 198 = .ok (.iaload, 1) := by decide +kernel
theorem d_LW_law_199 : decode code 199 = .ok (.aload_n 0, 1) := by decide +kernel
theorem d_LW_law_200 : decode code 200 = .ok (.iload_n 3, 1) := by decide +kernel
theorem d_LW_law_201 : decode code 201 = .ok (.iconst 2, 1) := by decide +kernel
theorem d_LW_law_202 : decode code 202 = .ok (.iadd, 1) := by decide +kernel
theorem d_LW_law_203 : decode code 203 = .ok (.iaload, 1) := by decide +kernel
theorem d_LW_law_204 : decode code 204 = .ok (.invokevirtual 28, 3) := by decide +kernel
theorem d_LW_law_207 : decode code 207 = .ok (.aload_n 2, 1) := by decide +kernel
theorem d_LW_law_208 : decode code 208 = .ok (.aload_n 0, 1) := by decide +kernel
theorem d_LW_law_209 : decode code 209 = .ok (.iload_n 3, 1) := by decide +kernel
theorem d_LW_law_210 : decode code 210 = .ok (.iconst 1, 1) := by decide +kernel
theorem d_LW_law_211 : decode code 211 = .ok (.iadd, 1) := by decide +kernel
theorem d_LW_law_212 : decode code 212 = .ok (.iaload, 1) := by decide +kernel
theorem d_LW_law_213 : decode code 213 = .ok (.aload_n 0, 1) := by decide +kernel
theorem d_LW_law_214 : decode code 214 = .ok (.iload_n 3, 1) := by decide +kernel
theorem d_LW_law_215 : decode code 215 = .ok (.iconst 2, 1) := by decide +kernel
theorem d_LW_law_216 : decode code 216 = .ok (.iadd, 1) := by decide +kernel
theorem d_LW_law_217 : decode code 217 = .ok (.iaload, 1) := by decide +kernel
theorem d_LW_law_218 : decode code 218 = .ok (.invokevirtual 32, 3) := by decide +kernel
theorem d_LW_law_221 : decode code 221 = .ok (.if_icmp .eq 260, 3) := by decide +kernel
theorem d_LW_law_224 : decode code 224 = .ok (.iconst 0, 1) := by decide +kernel
theorem d_LW_law_225 : decode code 225 = .ok (.ireturn, 1) := by decide +kernel
theorem d_LW_law_226 : decode code 226 = .ok (.aload_n 1, 1) := by decide +kernel
theorem d_LW_law_227 : decode code 227 = .ok (.aload_n 0, 1) := by decide +kernel
theorem d_LW_law_228 : decode code 228 = .ok (.iload_n 3, 1) := by decide +kernel
theorem d_LW_law_229 : decode code 229 = .ok (.iconst 1, 1) := by decide +kernel
theorem d_LW_law_230 : decode code 230 = .ok (.iadd, 1) := by decide +kernel
theorem d_LW_law_231 : decode code 231 = .ok (.iaload, 1) := by decide +kernel
theorem d_LW_law_232 : decode code 232 = .ok (.aload_n 0, 1) := by decide +kernel
theorem d_LW_law_233 : decode code 233 = .ok (.iload_n 3, 1) := by decide +kernel
theorem d_LW_law_234 : decode code 234 = .ok (.iconst 2, 1) := by decide +kernel
theorem d_LW_law_235 : decode code 235 = .ok (.iadd, 1) := by decide +kernel
theorem d_LW_law_236 : decode code 236 = .ok (.iaload, 1) := by decide +kernel
theorem d_LW_law_237 : decode code 237 = .ok (.aload_n 0, 1) := by decide +kernel
theorem d_LW_law_238 : decode code 238 = .ok (.iload_n 3, 1) := by decide +kernel
theorem d_LW_law_239 : decode code 239 = .ok (.iconst 3, 1) := by decide +kernel
theorem d_LW_law_240 : decode code 240 = .ok (.iadd, 1) := by decide +kernel
theorem d_LW_law_241 : decode code 241 = .ok (.iaload, 1) := by decide +kernel
theorem d_LW_law_242 : decode code 242 = .ok (.i2c, 1) := by decide +kernel
theorem d_LW_law_243 : decode code 243 = .ok (.invokevirtual 33, 3) := by decide +kernel
theorem d_LW_law_246 : decode code 246 = .ok (.aload_n 2, 1) := by decide +kernel
theorem d_LW_law_247 : decode code 247 = .ok (.aload_n 0, 1) := by decide +kernel
theorem d_LW_law_248 : decode code 248 = .ok (.iload_n 3, 1) := by decide +kernel
theorem d_LW_law_249 : decode code 249 = .ok (.iconst 1, 1) := by decide +kernel
theorem d_LW_law_250 : decode code 250 = .ok (.iadd, 1) := by decide +kernel
theorem d_LW_law_251 : decode code 251 = .ok (.iaload, 1) := by decide +kernel
theorem d_LW_law_252 : decode code 252 = .ok (.aload_n 0, 1) := by decide +kernel
theorem d_LW_law_253 : decode code 253 = .ok (.iload_n 3, 1) := by decide +kernel
theorem d_LW_law_254 : decode code 254 = .ok (.iconst 2, 1) := by decide +kernel
theorem d_LW_law_255 : decode code 255 = .ok (.iadd, 1) := by decide +kernel
theorem d_LW_law_256 : decode code 256 = .ok (.iaload, 1) := by decide +kernel
theorem d_LW_law_257 : decode code 257 = .ok (.aload_n 0, 1) := by decide +kernel
theorem d_LW_law_258 : decode code 258 = .ok (.iload_n 3, 1) := by decide +kernel
theorem d_LW_law_259 : decode code 259 = .ok (.iconst 3, 1) := by decide +kernel
theorem d_LW_law_260 : decode code 260 = .ok (.iadd, 1) := by decide +kernel
theorem d_LW_law_261 : decode code 261 = .ok (.iaload, 1) := by decide +kernel
theorem d_LW_law_262 : decode code 262 = .ok (.i2c, 1) := by decide +kernel
theorem d_LW_law_263 : decode code 263 = .ok (.invokevirtual 37, 3) := by decide +kernel
theorem d_LW_law_266 : decode code 266 = .ok (.if_icmp .eq 215, 3) := by decide +kernel
theorem d_LW_law_269 : decode code 269 = .ok (.iconst 0, 1) := by decide +kernel
theorem d_LW_law_270 : decode code 270 = .ok (.ireturn, 1) := by decide +kernel
theorem d_LW_law_271 : decode code 271 = .ok (.aload_n 1, 1) := by decide +kernel
theorem d_LW_law_272 : decode code 272 = .ok (.aload_n 0, 1) := by decide +kernel
theorem d_LW_law_273 : decode code 273 = .ok (.iload_n 3, 1) := by decide +kernel
theorem d_LW_law_274 : decode code 274 = .ok (.iconst 1, 1) := by decide +kernel
theorem d_LW_law_275 : decode code 275 = .ok (.iadd, 1) := by decide +kernel
theorem d_LW_law_276 : decode code 276 = .ok (.iaload, 1) := by decide +kernel
theorem d_LW_law_277 : decode code 277 = .ok (.invokevirtual 38, 3) := by decide +kernel
theorem d_LW_law_280 : decode code 280 = .ok (.aload_n 2, 1) := by decide +kernel
theorem d_LW_law_281 : decode code 281 = .ok (.aload_n 0, 1) := by decide +kernel
theorem d_LW_law_282 : decode code 282 = .ok (.iload_n 3, 1) := by decide +kernel
theorem d_LW_law_283 : decode code 283 = .ok (.iconst 1, 1) := by decide +kernel
theorem d_LW_law_284 : decode code 284 = .ok (.iadd, 1) := by decide +kernel
theorem d_LW_law_285 : decode code 285 = .ok (.iaload, 1) := by decide +kernel
theorem d_LW_law_286 : decode code 286 = .ok (.invokevirtual 42, 3) := by decide +kernel
theorem d_LW_law_289 : decode code 289 = .ok (.if_icmp .eq 192, 3) := by decide +kernel
theorem d_LW_law_292 : decode code 292 = .ok (.iconst 0, 1) := by decide +kernel
theorem d_LW_law_293 : decode code 293 = .ok (.ireturn, 1) := by decide +kernel
theorem d_LW_law_294 : decode code 294 = .ok (.aload_n 1, 1) := by decide +kernel
theorem d_LW_law_295 : decode code 295 = .ok (.invokevirtual 43, 3) := by decide +kernel
theorem d_LW_law_298 : decode code 298 = .ok (.aload_n 2, 1) := by decide +kernel
theorem d_LW_law_299 : decode code 299 = .ok (.invokevirtual 47, 3) := by decide +kernel
theorem d_LW_law_302 : decode code 302 = .ok (.if_icmp .eq 179, 3) := by decide +kernel
theorem d_LW_law_305 : decode code 305 = .ok (.iconst 0, 1) := by decide +kernel
theorem d_LW_law_306 : decode code 306 = .ok (.ireturn, 1) := by decide +kernel
theorem d_LW_law_307 : decode code 307 = .ok (.aload_n 1, 1) := by decide +kernel
theorem d_LW_law_308 : decode code 308 = .ok (.aload_n 0, 1) := by decide +kernel
theorem d_LW_law_309 : decode code 309 = .ok (.iload_n 3, 1) := by decide +kernel
theorem d_LW_law_310 : decode code 310 = .ok (.iconst 1, 1) := by decide +kernel
theorem d_LW_law_311 : decode code 311 = .ok (.iadd, 1) := by decide +kernel
theorem d_LW_law_312 : decode code 312 = .ok (.iaload, 1) := by decide +kernel
theorem d_LW_law_313 : decode code 313 = .ok (.invokevirtual 48, 3) := by decide +kernel
theorem d_LW_law_316 : decode code 316 = .ok (.aload_n 2, 1) := by decide +kernel
theorem d_LW_law_317 : decode code 317 = .ok (.aload_n 0, 1) := by decide +kernel
theorem d_LW_law_318 : decode code 318 = .ok (.iload_n 3, 1) := by decide +kernel
theorem d_LW_law_319 : decode code 319 = .ok (.iconst 1, 1) := by decide +kernel
theorem d_LW_law_320 : decode code 320 = .ok (.iadd, 1) := by decide +kernel
theorem d_LW_law_321 : decode code 321 = .ok (.iaload, 1) := by decide +kernel
theorem d_LW_law_322 : decode code 322 = .ok (.invokevirtual 52, 3) := by decide +kernel
theorem d_LW_law_325 : decode code 325 = .ok (.if_icmp .eq 156, 3) := by decide +kernel
theorem d_LW_law_328 : decode code 328 = .ok (.iconst 0, 1) := by decide +kernel
theorem d_LW_law_329 : decode code 329 = .ok (.ireturn, 1) := by decide +kernel
theorem d_LW_law_330 : decode code 330 = .ok (.aload_n 1, 1) := by decide +kernel
theorem d_LW_law_331 : decode code 331 = .ok (.invokevirtual 53, 3) := by decide +kernel
theorem d_LW_law_334 : decode code 334 = .ok (.aload_n 2, 1) := by decide +kernel
theorem d_LW_law_335 : decode code 335 = .ok (.invokevirtual 56, 3) := by decide +kernel
theorem d_LW_law_338 : decode code 338 = .ok (.if_icmp .eq 143, 3) := by decide +kernel
theorem d_LW_law_341 : decode code 341 = .ok (.iconst 0, 1) := by decide +kernel
theorem d_LW_law_342 : decode code 342 = .ok (.ireturn, 1) := by decide +kernel
theorem d_LW_law_343 : decode code 343 = .ok (.aload_n 1, 1) := by decide +kernel
theorem d_LW_law_344 : decode code 344 = .ok (.invokevirtual 57, 3) := by decide +kernel
theorem d_LW_law_347 : decode code 347 = .ok (.aload_n 2, 1) := by decide +kernel
theorem d_LW_law_348 : decode code 348 = .ok (.invokevirtual 60, 3) := by decide +kernel
theorem d_LW_law_351 : decode code 351 = .ok (.if_icmp .eq 130, 3) := by decide +kernel
theorem d_LW_law_354 : decode code 354 = .ok (.iconst 0, 1) := by decide +kernel
theorem d_LW_law_355 : decode code 355 = .ok (.ireturn, 1) := by decide +kernel
theorem d_LW_law_356 : decode code 356 = .ok (.aload_n 1, 1) := by decide +kernel
theorem d_LW_law_357 : decode code 357 = .ok (.aload_n 0, 1) := by decide +kernel
theorem d_LW_law_358 : decode code 358 = .ok (.iload_n 3, 1) := by decide +kernel
theorem d_LW_law_359 : decode code 359 = .ok (.iconst 1, 1) := by decide +kernel
theorem d_LW_law_360 : decode code 360 = .ok (.iadd, 1) := by decide +kernel
theorem d_LW_law_361 : decode code 361 = .ok (.iaload, 1) := by decide +kernel
theorem d_LW_law_362 : decode code 362 = .ok (.invokevirtual 61, 3) := by decide +kernel
theorem d_LW_law_365 : decode code 365 = .ok (.aload_n 2, 1) := by decide +kernel
theorem d_LW_law_366 : decode code 366 = .ok (.aload_n 0, 1) := by decide +kernel
theorem d_LW_law_367 : decode code 367 = .ok (.iload_n 3, 1) := by decide +kernel
theorem d_LW_law_368 : decode code 368 = .ok (.iconst 1, 1) := by decide +kernel
theorem d_LW_law_369 : decode code 369 = .ok (.iadd, 1) := by decide +kernel
theorem d_LW_law_370 : decode code 370 = .ok (.iaload, 1) := by decide +kernel
theorem d_LW_law_371 : decode code 371 = .ok (.invokevirtual 64, 3) := by decide +kernel
theorem d_LW_law_374 : decode code 374 = .ok (.if_icmp .eq 107, 3) := by decide +kernel
theorem d_LW_law_377 : decode code 377 = .ok (.iconst 0, 1) := by decide +kernel
theorem d_LW_law_378 : decode code 378 = .ok (.ireturn, 1) := by decide +kernel
theorem d_LW_law_379 : decode code 379 = .ok (.aload_n 1, 1) := by decide +kernel
theorem d_LW_law_380 : decode code 380 = .ok (.aload_n 0, 1) := by decide +kernel
theorem d_LW_law_381 : decode code 381 = .ok (.iload_n 3, 1) := by decide +kernel
theorem d_LW_law_382 : decode code 382 = .ok (.iconst 1, 1) := by decide +kernel
theorem d_LW_law_383 : decode code 383 = .ok (.iadd, 1) := by decide +kernel
theorem d_LW_law_384 : decode code 384 = .ok (.iaload, 1) := by decide +kernel
theorem d_LW_law_385 : decode code 385 = .ok (.aload_n 0, 1) := by decide +kernel
theorem d_LW_law_386 : decode code 386 = .ok (.iload_n 3, 1) := by decide +kernel
theorem d_LW_law_387 : decode code 387 = .ok (.iconst 2, 1) := by decide +kernel
theorem d_LW_law_388 : decode code 388 = .ok (.iadd, 1) := by decide +kernel
theorem d_LW_law_389 : decode code 389 = .ok (.iaload, 1) := by decide +kernel
theorem d_LW_law_390 : decode code 390 = .ok (.invokevirtual 65, 3) := by decide +kernel
theorem d_LW_law_393 : decode code 393 = .ok (.aload_n 2, 1) := by decide +kernel
theorem d_LW_law_394 : decode code 394 = .ok (.aload_n 0, 1) := by decide +kernel
theorem d_LW_law_395 : decode code 395 = .ok (.iload_n 3, 1) := by decide +kernel
theorem d_LW_law_396 : decode code 396 = .ok (.iconst 1, 1) := by decide +kernel
theorem d_LW_law_397 : decode code 397 = .ok (.iadd, 1) := by decide +kernel
theorem d_LW_law_398 : decode code 398 = .ok (.iaload, 1) := by decide +kernel
theorem d_LW_law_399 : decode code 399 = .ok (.aload_n 0, 1) := by decide +kernel
theorem d_LW_law_400 : decode code 400 = .ok (.iload_n 3, 1) := by decide +kernel
theorem d_LW_law_401 : decode code 401 = .ok (.iconst 2, 1) := by decide +kernel
theorem d_LW_law_402 : decode code 402 = .ok (.iadd, 1) := by decide +kernel
theorem d_LW_law_403 : decode code 403 = .ok (.iaload, 1) := by decide +kernel
theorem d_LW_law_404 : decode code 404 = .ok (.invokevirtual 69, 3) := by decide +kernel
theorem d_LW_law_407 : decode code 407 = .ok (.if_icmp .eq 74, 3) := by decide +kernel
theorem d_LW_law_410 : decode code 410 = .ok (.iconst 0, 1) := by decide +kernel
theorem d_LW_law_411 : decode code 411 = .ok (.ireturn, 1) := by decide +kernel
theorem d_LW_law_412 : decode code 412 = .ok (.aload_n 1, 1) := by decide +kernel
theorem d_LW_law_413 : decode code 413 = .ok (.aload_n 0, 1) := by decide +kernel
theorem d_LW_law_414 : decode code 414 = .ok (.iload_n 3, 1) := by decide +kernel
theorem d_LW_law_415 : decode code 415 = .ok (.iconst 1, 1) := by decide +kernel
theorem d_LW_law_416 : decode code 416 = .ok (.iadd, 1) := by decide +kernel
theorem d_LW_law_417 : decode code 417 = .ok (.iaload, 1) := by decide +kernel
theorem d_LW_law_418 : decode code 418 = .ok (.aload_n 0, 1) := by decide +kernel
theorem d_LW_law_419 : decode code 419 = .ok (.iload_n 3, 1) := by decide +kernel
theorem d_LW_law_420 : decode code 420 = .ok (.iconst 2, 1) := by decide +kernel
theorem d_LW_law_421 : decode code 421 = .ok (.iadd, 1) := by decide +kernel
theorem d_LW_law_422 : decode code 422 = .ok (.iaload, 1) := by decide +kernel
theorem d_LW_law_423 : decode code 423 = .ok (.invokevirtual 70, 3) := by decide +kernel
theorem d_LW_law_426 : decode code 426 = .ok (.aload_n 2, 1) := by decide +kernel
theorem d_LW_law_427 : decode code 427 = .ok (.aload_n 0, 1) := by decide +kernel
theorem d_LW_law_428 : decode code 428 = .ok (.iload_n 3, 1) := by decide +kernel
theorem d_LW_law_429 : decode code 429 = .ok (.iconst 1, 1) := by decide +kernel
theorem d_LW_law_430 : decode code 430 = .ok (.iadd, 1) := by decide +kernel
theorem d_LW_law_431 : decode code 431 = .ok (.iaload, 1) := by decide +kernel
theorem d_LW_law_432 : decode code 432 = .ok (.aload_n 0, 1) := by decide +kernel
theorem d_LW_law_433 : decode code 433 = .ok (.iload_n 3, 1) := by decide +kernel
theorem d_LW_law_434 : decode code 434 = .ok (.iconst 2, 1) := by decide +kernel
theorem d_LW_law_435 : decode code 435 = .ok (.iadd, 1) := by decide +kernel
theorem d_LW_law_436 : decode code 436 = .ok (.iaload, 1) := by decide +kernel
theorem d_LW_law_437 : decode code 437 = .ok (.invokevirtual 73, 3) := by decide +kernel
theorem d_LW_law_440 : decode code 440 = .ok (.if_icmp .eq 41, 3) := by decide +kernel
theorem d_LW_law_443 : decode code 443 = .ok (.iconst 0, 1) := by decide +kernel
theorem d_LW_law_444 : decode code 444 = .ok (.ireturn, 1) := by decide +kernel
theorem d_LW_law_445 : decode code 445 = .ok (.aload_n 1, 1) := by decide +kernel
theorem d_LW_law_446 : decode code 446 = .ok (.invokevirtual 74, 3) := by decide +kernel
theorem d_LW_law_449 : decode code 449 = .ok (.aload_n 2, 1) := by decide +kernel
theorem d_LW_law_450 : decode code 450 = .ok (.invokevirtual 77, 3) := by decide +kernel
theorem d_LW_law_453 : decode code 453 = .ok (.if_icmp .eq 28, 3) := by decide +kernel
theorem d_LW_law_456 : decode code 456 = .ok (.iconst 0, 1) := by decide +kernel
theorem d_LW_law_457 : decode code 457 = .ok (.ireturn, 1) := by decide +kernel
theorem d_LW_law_458 : decode code 458 = .ok (.aload_n 1, 1) := by decide +kernel
theorem d_LW_law_459 : decode code 459 = .ok (.aload_n 0, 1) := by decide +kernel
theorem d_LW_law_460 : decode code 460 = .ok (.iload_n 3, 1) := by decide +kernel
theorem d_LW_law_461 : decode code 461 = .ok (.iconst 1, 1) := by decide +kernel
theorem d_LW_law_462 : decode code 462 = .ok (.iadd, 1) := by decide +kernel
theorem d_LW_law_463 : decode code 463 = .ok (.iaload, 1) := by decide +kernel
theorem d_LW_law_464 : decode code 464 = .ok (.invokevirtual 78, 3) := by decide +kernel
theorem d_LW_law_467 : decode code 467 = .ok (.aload_n 2, 1) := by decide +kernel
theorem d_LW_law_468 : decode code 468 = .ok (.aload_n 0, 1) := by decide +kernel
theorem d_LW_law_469 : decode code 469 = .ok (.iload_n 3, 1) := by decide +kernel
theorem d_LW_law_470 : decode code 470 = .ok (.iconst 1, 1) := by decide +kernel
theorem d_LW_law_471 : decode code 471 = .ok (.iadd, 1) := by decide +kernel
theorem d_LW_law_472 : decode code 472 = .ok (.iaload, 1) := by decide +kernel
theorem d_LW_law_473 : decode code 473 = .ok (.invokevirtual 81, 3) := by decide +kernel
theorem d_LW_law_476 : decode code 476 = .ok (.if_icmp .eq 5, 3) := by decide +kernel
theorem d_LW_law_479 : decode code 479 = .ok (.iconst 0, 1) := by decide +kernel
theorem d_LW_law_480 : decode code 480 = .ok (.ireturn, 1) := by decide +kernel
theorem d_LW_law_481 : decode code 481 = .ok (.iinc 3 4, 3) := by decide +kernel
theorem d_LW_law_484 : decode code 484 = .ok (.goto (-466), 3) := by decide +kernel
theorem d_LW_law_487 : decode code 487 = .ok (.iconst 1, 1) := by decide +kernel
theorem d_LW_law_488 : decode code 488 = .ok (.ireturn, 1) := by decide +kernel
theorem NL_LW_7 : Cond.classLink "TagGuideLaw" 7 "TagGuide" ∈ exTW := ex_tw 15 (by decide +kernel) rfl
theorem LK_LW_9 : ex_LK "TagGuideLaw" 9 ⟨"TagGuide", "<init>", "()V"⟩ := Or.inl (ex_tw 17 (by decide +kernel) rfl)
theorem NL_LW_10 : Cond.classLink "TagGuideLaw" 10 "TagGuideModel" ∈ exTW := ex_tw 720 (by decide +kernel) rfl
theorem LK_LW_12 : ex_LK "TagGuideLaw" 12 ⟨"TagGuideModel", "<init>", "()V"⟩ := Or.inl (ex_tw 722 (by decide +kernel) rfl)
theorem LK_LW_13 : ex_LK "TagGuideLaw" 13 ⟨"TagGuide", "write", "(C)Z"⟩ := Or.inl (ex_tw 334 (by decide +kernel) rfl)
theorem LK_LW_17 : ex_LK "TagGuideLaw" 17 ⟨"TagGuideModel", "write", "(C)Z"⟩ := Or.inl (ex_tw 860 (by decide +kernel) rfl)
theorem LK_LW_18 : ex_LK "TagGuideLaw" 18 ⟨"TagGuide", "define", "(C)I"⟩ := Or.inl (ex_tw 345 (by decide +kernel) rfl)
theorem LK_LW_22 : ex_LK "TagGuideLaw" 22 ⟨"TagGuideModel", "define", "(C)I"⟩ := Or.inl (ex_tw 864 (by decide +kernel) rfl)
theorem LK_LW_23 : ex_LK "TagGuideLaw" 23 ⟨"TagGuide", "insert", "(IC)Z"⟩ := Or.inl (ex_tw 438 (by decide +kernel) rfl)
theorem LK_LW_27 : ex_LK "TagGuideLaw" 27 ⟨"TagGuideModel", "insert", "(IC)Z"⟩ := Or.inl (ex_tw 931 (by decide +kernel) rfl)
theorem LK_LW_28 : ex_LK "TagGuideLaw" 28 ⟨"TagGuide", "erase", "(II)Z"⟩ := Or.inl (ex_tw 450 (by decide +kernel) rfl)
theorem LK_LW_32 : ex_LK "TagGuideLaw" 32 ⟨"TagGuideModel", "erase", "(II)Z"⟩ := Or.inl (ex_tw 939 (by decide +kernel) rfl)
theorem LK_LW_33 : ex_LK "TagGuideLaw" 33 ⟨"TagGuide", "ask", "(IIC)I"⟩ := Or.inl (ex_tw 454 (by decide +kernel) rfl)
theorem LK_LW_37 : ex_LK "TagGuideLaw" 37 ⟨"TagGuideModel", "ask", "(IIC)I"⟩ := Or.inl (ex_tw 943 (by decide +kernel) rfl)
theorem LK_LW_38 : ex_LK "TagGuideLaw" 38 ⟨"TagGuide", "cancel", "(I)Z"⟩ := Or.inl (ex_tw 464 (by decide +kernel) rfl)
theorem LK_LW_42 : ex_LK "TagGuideLaw" 42 ⟨"TagGuideModel", "cancel", "(I)Z"⟩ := Or.inl (ex_tw 947 (by decide +kernel) rfl)
theorem LK_LW_43 : ex_LK "TagGuideLaw" 43 ⟨"TagGuide", "work", "()I"⟩ := Or.inl (ex_tw 476 (by decide +kernel) rfl)
theorem LK_LW_47 : ex_LK "TagGuideLaw" 47 ⟨"TagGuideModel", "work", "()I"⟩ := Or.inl (ex_tw 959 (by decide +kernel) rfl)
theorem LK_LW_48 : ex_LK "TagGuideLaw" 48 ⟨"TagGuide", "answer", "(I)I"⟩ := Or.inl (ex_tw 671 (by decide +kernel) rfl)
theorem LK_LW_52 : ex_LK "TagGuideLaw" 52 ⟨"TagGuideModel", "answer", "(I)I"⟩ := Or.inl (ex_tw 1076 (by decide +kernel) rfl)
theorem LK_LW_53 : ex_LK "TagGuideLaw" 53 ⟨"TagGuide", "inbox", "()I"⟩ := Or.inl (ex_tw 679 (by decide +kernel) rfl)
theorem LK_LW_56 : ex_LK "TagGuideLaw" 56 ⟨"TagGuideModel", "inbox", "()I"⟩ := Or.inl (ex_tw 1080 (by decide +kernel) rfl)
theorem LK_LW_57 : ex_LK "TagGuideLaw" 57 ⟨"TagGuide", "length", "()I"⟩ := Or.inl (ex_tw 683 (by decide +kernel) rfl)
theorem LK_LW_60 : ex_LK "TagGuideLaw" 60 ⟨"TagGuideModel", "length", "()I"⟩ := Or.inl (ex_tw 1084 (by decide +kernel) rfl)
theorem LK_LW_61 : ex_LK "TagGuideLaw" 61 ⟨"TagGuide", "character", "(I)I"⟩ := Or.inl (ex_tw 687 (by decide +kernel) rfl)
theorem LK_LW_64 : ex_LK "TagGuideLaw" 64 ⟨"TagGuideModel", "character", "(I)I"⟩ := Or.inl (ex_tw 1088 (by decide +kernel) rfl)
theorem LK_LW_65 : ex_LK "TagGuideLaw" 65 ⟨"TagGuide", "element", "(II)I"⟩ := Or.inl (ex_tw 692 (by decide +kernel) rfl)
theorem LK_LW_69 : ex_LK "TagGuideLaw" 69 ⟨"TagGuideModel", "element", "(II)I"⟩ := Or.inl (ex_tw 1092 (by decide +kernel) rfl)
theorem LK_LW_70 : ex_LK "TagGuideLaw" 70 ⟨"TagGuide", "fault", "(II)I"⟩ := Or.inl (ex_tw 700 (by decide +kernel) rfl)
theorem LK_LW_73 : ex_LK "TagGuideLaw" 73 ⟨"TagGuideModel", "fault", "(II)I"⟩ := Or.inl (ex_tw 1096 (by decide +kernel) rfl)
theorem LK_LW_74 : ex_LK "TagGuideLaw" 74 ⟨"TagGuide", "fertile", "()I"⟩ := Or.inl (ex_tw 708 (by decide +kernel) rfl)
theorem LK_LW_77 : ex_LK "TagGuideLaw" 77 ⟨"TagGuideModel", "fertile", "()I"⟩ := Or.inl (ex_tw 911 (by decide +kernel) rfl)
theorem LK_LW_78 : ex_LK "TagGuideLaw" 78 ⟨"TagGuide", "formed", "(I)I"⟩ := Or.inl (ex_tw 712 (by decide +kernel) rfl)
theorem LK_LW_81 : ex_LK "TagGuideLaw" 81 ⟨"TagGuideModel", "formed", "(I)I"⟩ := Or.inl (ex_tw 1100 (by decide +kernel) rfl)
theorem AO_Mo : Cond.arrayOver (.object "TagGuide$Model") ∈ lw_tbl := List.mem_append_right _ (List.mem_of_getElem? (i := 98) (by decide +kernel))
theorem AO_El : Cond.arrayOver (.object "TagGuide$Element") ∈ lw_tbl := List.mem_append_right _ (List.mem_of_getElem? (i := 135) (by decide +kernel))
