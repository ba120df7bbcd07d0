theorem dL_law_104 : decode bL_law 104 = .ok (.aload_n 1, 1) := by decide +kernel
theorem dL_law_105 : decode bL_law 105 = .ok (.aload_n 3, 1) := by decide +kernel
theorem dL_law_106 : decode bL_law 106 = .ok (.invokestatic 57, 3) := by decide +kernel
theorem dL_law_109 : decode bL_law 109 = .ok (.istore 5, 2) := by decide +kernel
theorem dL_law_111 : decode bL_law 111 = .ok (.aload_n 2, 1) := by decide +kernel
theorem dL_law_112 : decode bL_law 112 = .ok (.invokevirtual 62, 3) := by decide +kernel
theorem dL_law_115 : decode bL_law 115 = .ok (.istore 6, 2) := by decide +kernel
theorem dL_law_117 : decode bL_law 117 = .ok (.aload_n 2, 1) := by decide +kernel
theorem dL_law_118 : decode bL_law 118 = .ok (.invokevirtual 63, 3) := by decide +kernel
theorem dL_law_121 : decode bL_law 121 = .ok (.iload 5, 2) := by decide +kernel
theorem dL_law_123 : decode bL_law 123 = .ok (.if_icmp .eq 5, 3) := by decide +kernel
theorem dL_law_128 : decode bL_law 128 = .ok (.iload 5, 2) := by decide +kernel
theorem dL_law_130 : decode bL_law 130 = .ok (.ifCond .ne 15, 3) := by decide +kernel
theorem dL_law_145 : decode bL_law 145 = .ok (.goto 728, 3) := by decide +kernel
theorem dL_law_133 : decode bL_law 133 = .ok (.aload_n 3, 1) := by decide +kernel
theorem dL_law_134 : decode bL_law 134 = .ok (.iconst 0, 1) := by decide +kernel
theorem dL_law_135 : decode bL_law 135 = .ok (.laload, 1) := by decide +kernel
theorem dL_law_136 : decode bL_law 136 = .ok (.iload 6, 2) := by decide +kernel
theorem dL_law_138 : decode bL_law 138 = .ok (.i2l, 1) := by decide +kernel
theorem dL_law_139 : decode bL_law 139 = .ok (.lcmp, 1) := by decide +kernel
theorem dL_law_140 : decode bL_law 140 = .ok (.ifCond .eq 5, 3) := by decide +kernel
theorem dL_law_143 : decode bL_law 143 = .ok (.iconst 0, 1) := by decide +kernel
theorem dL_law_144 : decode bL_law 144 = .ok (.ireturn, 1) := by decide +kernel
theorem dL_law_126 : decode bL_law 126 = .ok (.iconst 0, 1) := by decide +kernel
theorem dL_law_127 : decode bL_law 127 = .ok (.ireturn, 1) := by decide +kernel
theorem dL_law_148 : decode bL_law 148 = .ok (.aload_n 1, 1) := by decide +kernel
theorem dL_law_149 : decode bL_law 149 = .ok (.aload_n 0, 1) := by decide +kernel
theorem dL_law_150 : decode bL_law 150 = .ok (.iload 4, 2) := by decide +kernel
theorem dL_law_152 : decode bL_law 152 = .ok (.iconst 1, 1) := by decide +kernel
theorem dL_law_153 : decode bL_law 153 = .ok (.iadd, 1) := by decide +kernel
theorem dL_law_154 : decode bL_law 154 = .ok (.iaload, 1) := by decide +kernel
theorem dL_law_155 : decode bL_law 155 = .ok (.aload_n 0, 1) := by decide +kernel
theorem dL_law_156 : decode bL_law 156 = .ok (.iload 4, 2) := by decide +kernel
theorem dL_law_158 : decode bL_law 158 = .ok (.iconst 2, 1) := by decide +kernel
theorem dL_law_159 : decode bL_law 159 = .ok (.iadd, 1) := by decide +kernel
theorem dL_law_160 : decode bL_law 160 = .ok (.iaload, 1) := by decide +kernel
theorem dL_law_161 : decode bL_law 161 = .ok (.aload_n 0, 1) := by decide +kernel
theorem dL_law_162 : decode bL_law 162 = .ok (.iload 4, 2) := by decide +kernel
theorem dL_law_164 : decode bL_law 164 = .ok (.iconst 3, 1) := by decide +kernel
theorem dL_law_165 : decode bL_law 165 = .ok (.iadd, 1) := by decide +kernel
theorem dL_law_166 : decode bL_law 166 = .ok (.iaload, 1) := by decide +kernel
theorem dL_law_167 : decode bL_law 167 = .ok (.aload_n 0, 1) := by decide +kernel
theorem dL_law_168 : decode bL_law 168 = .ok (.iload 4, 2) := by decide +kernel
theorem dL_law_170 : decode bL_law 170 = .ok (.iconst 4, 1) := by decide +kernel
theorem dL_law_171 : decode bL_law 171 = .ok (.iadd, 1) := by decide +kernel
theorem dL_law_172 : decode bL_law 172 = .ok (.iaload, 1) := by decide +kernel
theorem dL_law_173 : decode bL_law 173 = .ok (.aload_n 0, 1) := by decide +kernel
theorem dL_law_174 : decode bL_law 174 = .ok (.iload 4, 2) := by decide +kernel
theorem dL_law_176 : decode bL_law 176 = .ok (.iconst 5, 1) := by decide +kernel
theorem dL_law_177 : decode bL_law 177 = .ok (.iadd, 1) := by decide +kernel
theorem dL_law_178 : decode bL_law 178 = .ok (.iaload, 1) := by decide +kernel
theorem dL_law_179 : decode bL_law 179 = .ok (.i2l, 1) := by decide +kernel
theorem dL_law_180 : decode bL_law 180 = .ok (.bipush 32, 2) := by decide +kernel
theorem dL_law_182 : decode bL_law 182 = .ok (.lshl, 1) := by decide +kernel
theorem dL_law_183 : decode bL_law 183 = .ok (.aload_n 0, 1) := by decide +kernel
theorem dL_law_184 : decode bL_law 184 = .ok (.iload 4, 2) := by decide +kernel
theorem dL_law_186 : decode bL_law 186 = .ok (.bipush 6, 2) := by decide +kernel
theorem dL_law_188 : decode bL_law 188 = .ok (.iadd, 1) := by decide +kernel
theorem dL_law_189 : decode bL_law 189 = .ok (.iaload, 1) := by decide +kernel
theorem dL_law_190 : decode bL_law 190 = .ok (.i2l, 1) := by decide +kernel
theorem dL_law_191 : decode bL_law 191 = .ok (.ldc2_w 66, 3) := by decide +kernel
theorem dL_law_194 : decode bL_law 194 = .ok (.land, 1) := by decide +kernel
theorem dL_law_195 : decode bL_law 195 = .ok (.lor, 1) := by decide +kernel
theorem dL_law_196 : decode bL_law 196 = .ok (.aload_n 3, 1) := by decide +kernel
theorem dL_law_197 : decode bL_law 197 = .ok (.invokestatic 68, 3) := by decide +kernel
theorem dL_law_200 : decode bL_law 200 = .ok (.istore 5, 2) := by decide +kernel
theorem dL_law_202 : decode bL_law 202 = .ok (.aload_n 2, 1) := by decide +kernel
theorem dL_law_203 : decode bL_law 203 = .ok (.aload_n 0, 1) := by decide +kernel
theorem dL_law_204 : decode bL_law 204 = .ok (.iload 4, 2) := by decide +kernel
theorem dL_law_206 : decode bL_law 206 = .ok (.iconst 1, 1) := by decide +kernel
theorem dL_law_207 : decode bL_law 207 = .ok (.iadd, 1) := by decide +kernel
theorem dL_law_208 : decode bL_law 208 = .ok (.iaload, 1) := by decide +kernel
theorem dL_law_209 : decode bL_law 209 = .ok (.aload_n 0, 1) := by decide +kernel
theorem dL_law_210 : decode bL_law 210 = .ok (.iload 4, 2) := by decide +kernel
theorem dL_law_212 : decode bL_law 212 = .ok (.iconst 2, 1) := by decide +kernel
theorem dL_law_213 : decode bL_law 213 = .ok (.iadd, 1) := by decide +kernel
theorem dL_law_214 : decode bL_law 214 = .ok (.iaload, 1) := by decide +kernel
theorem dL_law_215 : decode bL_law 215 = .ok (.aload_n 0, 1) := by decide +kernel
theorem dL_law_216 : decode bL_law 216 = .ok (.iload 4, 2) := by decide +kernel
theorem dL_law_218 : decode bL_law 218 = .ok (.iconst 3, 1) := by decide +kernel
theorem dL_law_219 : decode bL_law 219 = .ok (.iadd, 1) := by decide +kernel
theorem dL_law_220 : decode bL_law 220 = .ok (.iaload, 1) := by decide +kernel
theorem dL_law_221 : decode bL_law 221 = .ok (.aload_n 0, 1) := by decide +kernel
theorem dL_law_222 : decode bL_law 222 = .ok (.iload 4, 2) := by decide +kernel
theorem dL_law_224 : decode bL_law 224 = .ok (.iconst 4, 1) := by decide +kernel
theorem dL_law_225 : decode bL_law 225 = .ok (.iadd, 1) := by decide +kernel
theorem dL_law_226 : decode bL_law 226 = .ok (.iaload, 1) := by decide +kernel
theorem dL_law_227 : decode bL_law 227 = .ok (.aload_n 0, 1) := by decide +kernel
theorem dL_law_228 : decode bL_law 228 = .ok (.iload 4, 2) := by decide +kernel
theorem dL_law_230 : decode bL_law 230 = .ok (.iconst 5, 1) := by decide +kernel
theorem dL_law_231 : decode bL_law 231 = .ok (.iadd, 1) := by decide +kernel
theorem dL_law_232 : decode bL_law 232 = .ok (.iaload, 1) := by decide +kernel
theorem dL_law_233 : decode bL_law 233 = .ok (.i2l, 1) := by decide +kernel
theorem dL_law_234 : decode bL_law 234 = .ok (.bipush 32, 2) := by decide +kernel
theorem dL_law_236 : decode bL_law 236 = .ok (.lshl, 1) := by decide +kernel
theorem dL_law_237 : decode bL_law 237 = .ok (.aload_n 0, 1) := by decide +kernel
theorem dL_law_238 : decode bL_law 238 = .ok (.iload 4, 2) := by decide +kernel
theorem dL_law_240 : decode bL_law 240 = .ok (.bipush 6, 2) := by decide +kernel
theorem dL_law_242 : decode bL_law 242 = .ok (.iadd, 1) := by decide +kernel
theorem dL_law_243 : decode bL_law 243 = .ok (.iaload, 1) := by decide +kernel
theorem dL_law_244 : decode bL_law 244 = .ok (.i2l, 1) := by decide +kernel
theorem dL_law_245 : decode bL_law 245 = .ok (.ldc2_w 66, 3) := by decide +kernel
theorem dL_law_248 : decode bL_law 248 = .ok (.land, 1) := by decide +kernel
theorem dL_law_249 : decode bL_law 249 = .ok (.lor, 1) := by decide +kernel
theorem dL_law_250 : decode bL_law 250 = .ok (.invokevirtual 71, 3) := by decide +kernel
theorem dL_law_253 : decode bL_law 253 = .ok (.istore 6, 2) := by decide +kernel
theorem dL_law_255 : decode bL_law 255 = .ok (.aload_n 2, 1) := by decide +kernel
theorem dL_law_256 : decode bL_law 256 = .ok (.invokevirtual 63, 3) := by decide +kernel
theorem dL_law_259 : decode bL_law 259 = .ok (.iload 5, 2) := by decide +kernel
theorem dL_law_261 : decode bL_law 261 = .ok (.if_icmp .eq 5, 3) := by decide +kernel
theorem dL_law_266 : decode bL_law 266 = .ok (.iload 5, 2) := by decide +kernel
theorem dL_law_268 : decode bL_law 268 = .ok (.ifCond .ne 15, 3) := by decide +kernel
theorem dL_law_283 : decode bL_law 283 = .ok (.goto 590, 3) := by decide +kernel
theorem dL_law_271 : decode bL_law 271 = .ok (.aload_n 3, 1) := by decide +kernel
theorem dL_law_272 : decode bL_law 272 = .ok (.iconst 0, 1) := by decide +kernel
theorem dL_law_273 : decode bL_law 273 = .ok (.laload, 1) := by decide +kernel
theorem dL_law_274 : decode bL_law 274 = .ok (.iload 6, 2) := by decide +kernel
theorem dL_law_276 : decode bL_law 276 = .ok (.i2l, 1) := by decide +kernel
theorem dL_law_277 : decode bL_law 277 = .ok (.lcmp, 1) := by decide +kernel
theorem dL_law_278 : decode bL_law 278 = .ok (.ifCond .eq 5, 3) := by decide +kernel
theorem dL_law_281 : decode bL_law 281 = .ok (.iconst 0, 1) := by decide +kernel
theorem dL_law_282 : decode bL_law 282 = .ok (.ireturn, 1) := by decide +kernel
theorem dL_law_264 : decode bL_law 264 = .ok (.iconst 0, 1) := by decide +kernel
theorem dL_law_265 : decode bL_law 265 = .ok (.ireturn, 1) := by decide +kernel
theorem dL_law_286 : decode bL_law 286 = .ok (.aload_n 1, 1) := by decide +kernel
theorem dL_law_287 : decode bL_law 287 = .ok (.aload_n 0, 1) := by decide +kernel
theorem dL_law_288 : decode bL_law 288 = .ok (.iload 4, 2) := by decide +kernel
theorem dL_law_290 : decode bL_law 290 = .ok (.iconst 1, 1) := by decide +kernel
theorem dL_law_291 : decode bL_law 291 = .ok (.iadd, 1) := by decide +kernel
theorem dL_law_292 : decode bL_law 292 = .ok (.iaload, 1) := by decide +kernel
theorem dL_law_293 : decode bL_law 293 = .ok (.aload_n 0, 1) := by decide +kernel
theorem dL_law_294 : decode bL_law 294 = .ok (.iload 4, 2) := by decide +kernel
theorem dL_law_296 : decode bL_law 296 = .ok (.iconst 2, 1) := by decide +kernel
theorem dL_law_297 : decode bL_law 297 = .ok (.iadd, 1) := by decide +kernel
theorem dL_law_298 : decode bL_law 298 = .ok (.iaload, 1) := by decide +kernel
theorem dL_law_299 : decode bL_law 299 = .ok (.aload_n 3, 1) := by decide +kernel
theorem dL_law_300 : decode bL_law 300 = .ok (.invokestatic 72, 3) := by decide +kernel
theorem dL_law_303 : decode bL_law 303 = .ok (.istore 5, 2) := by decide +kernel
theorem dL_law_305 : decode bL_law 305 = .ok (.aload_n 2, 1) := by decide +kernel
theorem dL_law_306 : decode bL_law 306 = .ok (.aload_n 0, 1) := by decide +kernel
theorem dL_law_307 : decode bL_law 307 = .ok (.iload 4, 2) := by decide +kernel
theorem dL_law_309 : decode bL_law 309 = .ok (.iconst 1, 1) := by decide +kernel
theorem dL_law_310 : decode bL_law 310 = .ok (.iadd, 1) := by decide +kernel
theorem dL_law_311 : decode bL_law 311 = .ok (.iaload, 1) := by decide +kernel
theorem dL_law_312 : decode bL_law 312 = .ok (.aload_n 0, 1) := by decide +kernel
theorem dL_law_313 : decode bL_law 313 = .ok (.iload 4, 2) := by decide +kernel
theorem dL_law_315 : decode bL_law 315 = .ok (.iconst 2, 1) := by decide +kernel
theorem dL_law_316 : decode bL_law 316 = .ok (.iadd, 1) := by decide +kernel
theorem dL_law_317 : decode bL_law 317 = .ok (.iaload, 1) := by decide +kernel
theorem dL_law_318 : decode bL_law 318 = .ok (.invokevirtual 75, 3) := by decide +kernel
theorem dL_law_321 : decode bL_law 321 = .ok (.istore 6, 2) := by decide +kernel
theorem dL_law_323 : decode bL_law 323 = .ok (.aload_n 2, 1) := by decide +kernel
theorem dL_law_324 : decode bL_law 324 = .ok (.invokevirtual 63, 3) := by decide +kernel
theorem dL_law_327 : decode bL_law 327 = .ok (.iload 5, 2) := by decide +kernel
theorem dL_law_329 : decode bL_law 329 = .ok (.if_icmp .eq 5, 3) := by decide +kernel
theorem dL_law_334 : decode bL_law 334 = .ok (.iload 5, 2) := by decide +kernel
theorem dL_law_336 : decode bL_law 336 = .ok (.ifCond .ne 15, 3) := by decide +kernel
theorem dL_law_351 : decode bL_law 351 = .ok (.goto 522, 3) := by decide +kernel
theorem dL_law_339 : decode bL_law 339 = .ok (.aload_n 3, 1) := by decide +kernel
theorem dL_law_340 : decode bL_law 340 = .ok (.iconst 0, 1) := by decide +kernel
theorem dL_law_341 : decode bL_law 341 = .ok (.laload, 1) := by decide +kernel
theorem dL_law_342 : decode bL_law 342 = .ok (.iload 6, 2) := by decide +kernel
theorem dL_law_344 : decode bL_law 344 = .ok (.i2l, 1) := by decide +kernel
theorem dL_law_345 : decode bL_law 345 = .ok (.lcmp, 1) := by decide +kernel
theorem dL_law_346 : decode bL_law 346 = .ok (.ifCond .eq 5, 3) := by decide +kernel
theorem dL_law_349 : decode bL_law 349 = .ok (.iconst 0, 1) := by decide +kernel
theorem dL_law_350 : decode bL_law 350 = .ok (.ireturn, 1) := by decide +kernel
theorem dL_law_332 : decode bL_law 332 = .ok (.iconst 0, 1) := by decide +kernel
theorem dL_law_333 : decode bL_law 333 = .ok (.ireturn, 1) := by decide +kernel
theorem dL_law_354 : decode bL_law 354 = .ok (.aload_n 1, 1) := by decide +kernel
theorem dL_law_355 : decode bL_law 355 = .ok (.invokevirtual 76, 3) := by decide +kernel
theorem dL_law_358 : decode bL_law 358 = .ok (.aload_n 2, 1) := by decide +kernel
theorem dL_law_359 : decode bL_law 359 = .ok (.invokevirtual 79, 3) := by decide +kernel
theorem dL_law_362 : decode bL_law 362 = .ok (.if_icmp .eq 511, 3) := by decide +kernel
theorem dL_law_365 : decode bL_law 365 = .ok (.iconst 0, 1) := by decide +kernel
theorem dL_law_366 : decode bL_law 366 = .ok (.ireturn, 1) := by decide +kernel
theorem dL_law_367 : decode bL_law 367 = .ok (.aload_n 1, 1) := by decide +kernel
theorem dL_law_368 : decode bL_law 368 = .ok (.aload_n 0, 1) := by decide +kernel
theorem dL_law_369 : decode bL_law 369 = .ok (.iload 4, 2) := by decide +kernel
theorem dL_law_371 : decode bL_law 371 = .ok (.iconst 1, 1) := by decide +kernel
theorem dL_law_372 : decode bL_law 372 = .ok (.iadd, 1) := by decide +kernel
theorem dL_law_373 : decode bL_law 373 = .ok (.iaload, 1) := by decide +kernel
theorem dL_law_374 : decode bL_law 374 = .ok (.invokevirtual 80, 3) := by decide +kernel
theorem dL_law_377 : decode bL_law 377 = .ok (.aload_n 2, 1) := by decide +kernel
theorem dL_law_378 : decode bL_law 378 = .ok (.aload_n 0, 1) := by decide +kernel
theorem dL_law_379 : decode bL_law 379 = .ok (.iload 4, 2) := by decide +kernel
theorem dL_law_381 : decode bL_law 381 = .ok (.iconst 1, 1) := by decide +kernel
theorem dL_law_382 : decode bL_law 382 = .ok (.iadd, 1) := by decide +kernel
theorem dL_law_383 : decode bL_law 383 = .ok (.iaload, 1) := by decide +kernel
theorem dL_law_384 : decode bL_law 384 = .ok (.invokevirtual 84, 3) := by decide +kernel
theorem dL_law_387 : decode bL_law 387 = .ok (.if_icmp .eq 486, 3) := by decide +kernel
theorem dL_law_390 : decode bL_law 390 = .ok (.iconst 0, 1) := by decide +kernel
theorem dL_law_391 : decode bL_law 391 = .ok (.ireturn, 1) := by decide +kernel
theorem dL_law_392 : decode bL_law 392 = .ok (.aload_n 1, 1) := by decide +kernel
theorem dL_law_393 : decode bL_law 393 = .ok (.aload_n 0, 1) := by decide +kernel
theorem dL_law_394 : decode bL_law 394 = .ok (.iload 4, 2) := by decide +kernel
theorem dL_law_396 : decode bL_law 396 = .ok (.iconst 1, 1) := by decide +kernel
theorem dL_law_397 : decode bL_law 397 = .ok (.iadd, 1) := by decide +kernel
theorem dL_law_398 : decode bL_law 398 = .ok (.iaload, 1) := by decide +kernel
theorem dL_law_399 : decode bL_law 399 = .ok (.aload_n 3, 1) := by decide +kernel
theorem dL_law_400 : decode bL_law 400 = .ok (.invokestatic 85, 3) := by decide +kernel
theorem dL_law_403 : decode bL_law 403 = .ok (.istore 5, 2) := by decide +kernel
theorem dL_law_405 : decode bL_law 405 = .ok (.aload_n 2, 1) := by decide +kernel
theorem dL_law_406 : decode bL_law 406 = .ok (.aload_n 0, 1) := by decide +kernel
theorem dL_law_407 : decode bL_law 407 = .ok (.iload 4, 2) := by decide +kernel
theorem dL_law_409 : decode bL_law 409 = .ok (.iconst 1, 1) := by decide +kernel
theorem dL_law_410 : decode bL_law 410 = .ok (.iadd, 1) := by decide +kernel
theorem dL_law_411 : decode bL_law 411 = .ok (.iaload, 1) := by decide +kernel
theorem dL_law_412 : decode bL_law 412 = .ok (.invokevirtual 88, 3) := by decide +kernel
theorem dL_law_415 : decode bL_law 415 = .ok (.lstore 6, 2) := by decide +kernel
theorem dL_law_417 : decode bL_law 417 = .ok (.aload_n 2, 1) := by decide +kernel
theorem dL_law_418 : decode bL_law 418 = .ok (.invokevirtual 63, 3) := by decide +kernel
theorem dL_law_421 : decode bL_law 421 = .ok (.iload 5, 2) := by decide +kernel
theorem dL_law_423 : decode bL_law 423 = .ok (.if_icmp .eq 5, 3) := by decide +kernel
theorem dL_law_428 : decode bL_law 428 = .ok (.iload 5, 2) := by decide +kernel
theorem dL_law_430 : decode bL_law 430 = .ok (.ifCond .ne 14, 3) := by decide +kernel
theorem dL_law_444 : decode bL_law 444 = .ok (.goto 429, 3) := by decide +kernel
theorem dL_law_433 : decode bL_law 433 = .ok (.aload_n 3, 1) := by decide +kernel
theorem dL_law_434 : decode bL_law 434 = .ok (.iconst 0, 1) := by decide +kernel
theorem dL_law_435 : decode bL_law 435 = .ok (.laload, 1) := by decide +kernel
theorem dL_law_436 : decode bL_law 436 = .ok (.lload 6, 2) := by decide +kernel
theorem dL_law_438 : decode bL_law 438 = .ok (.lcmp, 1) := by decide +kernel
theorem dL_law_439 : decode bL_law 439 = .ok (.ifCond .eq 5, 3) := by decide +kernel
theorem dL_law_442 : decode bL_law 442 = .ok (.iconst 0, 1) := by decide +kernel
theorem dL_law_443 : decode bL_law 443 = .ok (.ireturn, 1) := by decide +kernel
theorem dL_law_426 : decode bL_law 426 = .ok (.iconst 0, 1) := by decide +kernel
theorem dL_law_427 : decode bL_law 427 = .ok (.ireturn, 1) := by decide +kernel
theorem dL_law_447 : decode bL_law 447 = .ok (.aload_n 1, 1) := by decide +kernel
theorem dL_law_448 : decode bL_law 448 = .ok (.aload_n 0, 1) := by decide +kernel
theorem dL_law_449 : decode bL_law 449 = .ok (.iload 4, 2) := by decide +kernel
theorem dL_law_451 : decode bL_law 451 = .ok (.iconst 1, 1) := by decide +kernel
theorem dL_law_452 : decode bL_law 452 = .ok (.iadd, 1) := by decide +kernel
theorem dL_law_453 : decode bL_law 453 = .ok (.iaload, 1) := by decide +kernel
theorem dL_law_454 : decode bL_law 454 = .ok (.aload_n 0, 1) := by decide +kernel
theorem dL_law_455 : decode bL_law 455 = .ok (.iload 4, 2) := by decide +kernel
theorem dL_law_457 : decode bL_law 457 = .ok (.iconst 2, 1) := by decide +kernel
theorem dL_law_458 : decode bL_law 458 = .ok (.iadd, 1) := by decide +kernel
theorem dL_law_459 : decode bL_law 459 = .ok (.iaload, 1) := by decide +kernel
theorem dL_law_460 : decode bL_law 460 = .ok (.aload_n 3, 1) := by decide +kernel
theorem dL_law_461 : decode bL_law 461 = .ok (.invokestatic 89, 3) := by decide +kernel
theorem dL_law_464 : decode bL_law 464 = .ok (.istore 5, 2) := by decide +kernel
theorem dL_law_466 : decode bL_law 466 = .ok (.aload_n 2, 1) := by decide +kernel
theorem dL_law_467 : decode bL_law 467 = .ok (.aload_n 0, 1) := by decide +kernel
theorem dL_law_468 : decode bL_law 468 = .ok (.iload 4, 2) := by decide +kernel
theorem dL_law_470 : decode bL_law 470 = .ok (.iconst 1, 1) := by decide +kernel
theorem dL_law_471 : decode bL_law 471 = .ok (.iadd, 1) := by decide +kernel
theorem dL_law_472 : decode bL_law 472 = .ok (.iaload, 1) := by decide +kernel
theorem dL_law_473 : decode bL_law 473 = .ok (.aload_n 0, 1) := by decide +kernel
theorem dL_law_474 : decode bL_law 474 = .ok (.iload 4, 2) := by decide +kernel
theorem dL_law_476 : decode bL_law 476 = .ok (.iconst 2, 1) := by decide +kernel
theorem dL_law_477 : decode bL_law 477 = .ok (.iadd, 1) := by decide +kernel
theorem dL_law_478 : decode bL_law 478 = .ok (.iaload, 1) := by decide +kernel
theorem dL_law_479 : decode bL_law 479 = .ok (.invokevirtual 91, 3) := by decide +kernel
theorem dL_law_482 : decode bL_law 482 = .ok (.lstore 6, 2) := by decide +kernel
theorem dL_law_484 : decode bL_law 484 = .ok (.aload_n 2, 1) := by decide +kernel
theorem dL_law_485 : decode bL_law 485 = .ok (.invokevirtual 63, 3) := by decide +kernel
theorem dL_law_488 : decode bL_law 488 = .ok (.iload 5, 2) := by decide +kernel
theorem dL_law_490 : decode bL_law 490 = .ok (.if_icmp .eq 5, 3) := by decide +kernel
theorem dL_law_495 : decode bL_law 495 = .ok (.iload 5, 2) := by decide +kernel
theorem dL_law_497 : decode bL_law 497 = .ok (.ifCond .ne 14, 3) := by decide +kernel
theorem dL_law_511 : decode bL_law 511 = .ok (.goto 362, 3) := by decide +kernel
theorem dL_law_500 : decode bL_law 500 = .ok (.aload_n 3, 1) := by decide +kernel
theorem dL_law_501 : decode bL_law 501 = .ok (.iconst 0, 1) := by decide +kernel
theorem dL_law_502 : decode bL_law 502 = .ok (.laload, 1) := by decide +kernel
theorem dL_law_503 : decode bL_law 503 = .ok (.lload 6, 2) := by decide +kernel
theorem dL_law_505 : decode bL_law 505 = .ok (.lcmp, 1) := by decide +kernel
theorem dL_law_506 : decode bL_law 506 = .ok (.ifCond .eq 5, 3) := by decide +kernel
theorem dL_law_509 : decode bL_law 509 = .ok (.iconst 0, 1) := by decide +kernel
theorem dL_law_510 : decode bL_law 510 = .ok (.ireturn, 1) := by decide +kernel
theorem dL_law_493 : decode bL_law 493 = .ok (.iconst 0, 1) := by decide +kernel
theorem dL_law_494 : decode bL_law 494 = .ok (.ireturn, 1) := by decide +kernel
theorem dL_law_514 : decode bL_law 514 = .ok (.aload_n 1, 1) := by decide +kernel
theorem dL_law_515 : decode bL_law 515 = .ok (.aload_n 0, 1) := by decide +kernel
theorem dL_law_516 : decode bL_law 516 = .ok (.iload 4, 2) := by decide +kernel
theorem dL_law_518 : decode bL_law 518 = .ok (.iconst 1, 1) := by decide +kernel
theorem dL_law_519 : decode bL_law 519 = .ok (.iadd, 1) := by decide +kernel
theorem dL_law_520 : decode bL_law 520 = .ok (.iaload, 1) := by decide +kernel
theorem dL_law_521 : decode bL_law 521 = .ok (.aload_n 3, 1) := by decide +kernel
theorem dL_law_522 : decode bL_law 522 = .ok (.invokestatic 92, 3) := by decide +kernel
theorem dL_law_525 : decode bL_law 525 = .ok (.istore 5, 2) := by decide +kernel
theorem dL_law_527 : decode bL_law 527 = .ok (.aload_n 2, 1) := by decide +kernel
theorem dL_law_528 : decode bL_law 528 = .ok (.aload_n 0, 1) := by decide +kernel
theorem dL_law_529 : decode bL_law 529 = .ok (.iload 4, 2) := by decide +kernel
theorem dL_law_531 : decode bL_law 531 = .ok (.iconst 1, 1) := by decide +kernel
theorem dL_law_532 : decode bL_law 532 = .ok (.iadd, 1) := by decide +kernel
theorem dL_law_533 : decode bL_law 533 = .ok (.iaload, 1) := by decide +kernel
theorem dL_law_534 : decode bL_law 534 = .ok (.invokevirtual 94, 3) := by decide +kernel
theorem dL_law_537 : decode bL_law 537 = .ok (.lstore 6, 2) := by decide +kernel
theorem dL_law_539 : decode bL_law 539 = .ok (.aload_n 2, 1) := by decide +kernel
theorem dL_law_540 : decode bL_law 540 = .ok (.invokevirtual 63, 3) := by decide +kernel
theorem dL_law_543 : decode bL_law 543 = .ok (.iload 5, 2) := by decide +kernel
theorem dL_law_545 : decode bL_law 545 = .ok (.if_icmp .eq 5, 3) := by decide +kernel
theorem dL_law_550 : decode bL_law 550 = .ok (.iload 5, 2) := by decide +kernel
theorem dL_law_552 : decode bL_law 552 = .ok (.ifCond .ne 14, 3) := by decide +kernel
theorem dL_law_566 : decode bL_law 566 = .ok (.goto 307, 3) := by decide +kernel
theorem dL_law_555 : decode bL_law 555 = .ok (.aload_n 3, 1) := by decide +kernel
theorem dL_law_556 : decode bL_law 556 = .ok (.iconst 0, 1) := by decide +kernel
theorem dL_law_557 : decode bL_law 557 = .ok (.laload, 1) := by decide +kernel
theorem dL_law_558 : decode bL_law 558 = .ok (.lload 6, 2) := by decide +kernel
theorem dL_law_560 : decode bL_law 560 = .ok (.lcmp, 1) := by decide +kernel
theorem dL_law_561 : decode bL_law 561 = .ok (.ifCond .eq 5, 3) := by decide +kernel
theorem dL_law_564 : decode bL_law 564 = .ok (.iconst 0, 1) := by decide +kernel
theorem dL_law_565 : decode bL_law 565 = .ok (.ireturn, 1) := by decide +kernel
theorem dL_law_548 : decode bL_law 548 = .ok (.iconst 0, 1) := by decide +kernel
theorem dL_law_549 : decode bL_law 549 = .ok (.ireturn, 1) := by decide +kernel
theorem dL_law_569 : decode bL_law 569 = .ok (.aload_n 1, 1) := by decide +kernel
theorem dL_law_570 : decode bL_law 570 = .ok (.aload_n 0, 1) := by decide +kernel
theorem dL_law_571 : decode bL_law 571 = .ok (.iload 4, 2) := by decide +kernel
theorem dL_law_573 : decode bL_law 573 = .ok (.iconst 1, 1) := by decide +kernel
theorem dL_law_574 : decode bL_law 574 = .ok (.iadd, 1) := by decide +kernel
theorem dL_law_575 : decode bL_law 575 = .ok (.iaload, 1) := by decide +kernel
theorem dL_law_576 : decode bL_law 576 = .ok (.aload_n 0, 1) := by decide +kernel
theorem dL_law_577 : decode bL_law 577 = .ok (.iload 4, 2) := by decide +kernel
theorem dL_law_579 : decode bL_law 579 = .ok (.iconst 2, 1) := by decide +kernel
theorem dL_law_580 : decode bL_law 580 = .ok (.iadd, 1) := by decide +kernel
theorem dL_law_581 : decode bL_law 581 = .ok (.iaload, 1) := by decide +kernel
theorem dL_law_582 : decode bL_law 582 = .ok (.aload_n 3, 1) := by decide +kernel
theorem dL_law_583 : decode bL_law 583 = .ok (.invokestatic 95, 3) := by decide +kernel
theorem dL_law_586 : decode bL_law 586 = .ok (.istore 5, 2) := by decide +kernel
theorem dL_law_588 : decode bL_law 588 = .ok (.aload_n 2, 1) := by decide +kernel
theorem dL_law_589 : decode bL_law 589 = .ok (.aload_n 0, 1) := by decide +kernel
theorem dL_law_590 : decode bL_law 590 = .ok (.iload 4, 2) := by decide +kernel
theorem dL_law_592 : decode bL_law 592 = .ok (.iconst 1, 1) := by decide +kernel
theorem dL_law_593 : decode bL_law 593 = .ok (.iadd, 1) := by decide +kernel
theorem dL_law_594 : decode bL_law 594 = .ok (.iaload, 1) := by decide +kernel
theorem dL_law_595 : decode bL_law 595 = .ok (.aload_n 0, 1) := by decide +kernel
theorem dL_law_596 : decode bL_law 596 = .ok (.iload 4, 2) := by decide +kernel
theorem dL_law_598 : decode bL_law 598 = .ok (.iconst 2, 1) := by decide +kernel
theorem dL_law_599 : decode bL_law 599 = .ok (.iadd, 1) := by decide +kernel
theorem dL_law_600 : decode bL_law 600 = .ok (.iaload, 1) := by decide +kernel
theorem dL_law_601 : decode bL_law 601 = .ok (.invokevirtual 97, 3) := by decide +kernel
theorem dL_law_604 : decode bL_law 604 = .ok (.istore 6, 2) := by decide +kernel
theorem dL_law_606 : decode bL_law 606 = .ok (.aload_n 2, 1) := by decide +kernel
theorem dL_law_607 : decode bL_law 607 = .ok (.invokevirtual 63, 3) := by decide +kernel
theorem dL_law_610 : decode bL_law 610 = .ok (.iload 5, 2) := by decide +kernel
theorem dL_law_612 : decode bL_law 612 = .ok (.if_icmp .eq 5, 3) := by decide +kernel
theorem dL_law_617 : decode bL_law 617 = .ok (.iload 5, 2) := by decide +kernel
theorem dL_law_619 : decode bL_law 619 = .ok (.ifCond .ne 15, 3) := by decide +kernel
theorem dL_law_634 : decode bL_law 634 = .ok (.goto 239, 3) := by decide +kernel
theorem dL_law_622 : decode bL_law 622 = .ok (.aload_n 3, 1) := by decide +kernel
theorem dL_law_623 : decode bL_law 623 = .ok (.iconst 0, 1) := by decide +kernel
theorem dL_law_624 : decode bL_law 624 = .ok (.laload, 1) := by decide +kernel
theorem dL_law_625 : decode bL_law 625 = .ok (.iload 6, 2) := by decide +kernel
theorem dL_law_627 : decode bL_law 627 = .ok (.i2l, 1) := by decide +kernel
theorem dL_law_628 : decode bL_law 628 = .ok (.lcmp, 1) := by decide +kernel
theorem dL_law_629 : decode bL_law 629 = .ok (.ifCond .eq 5, 3) := by decide +kernel
theorem dL_law_632 : decode bL_law 632 = .ok (.iconst 0, 1) := by decide +kernel
theorem dL_law_633 : decode bL_law 633 = .ok (.ireturn, 1) := by decide +kernel
theorem dL_law_615 : decode bL_law 615 = .ok (.iconst 0, 1) := by decide +kernel
theorem dL_law_616 : decode bL_law 616 = .ok (.ireturn, 1) := by decide +kernel
theorem dL_law_637 : decode bL_law 637 = .ok (.aload_n 1, 1) := by decide +kernel
theorem dL_law_638 : decode bL_law 638 = .ok (.aload_n 0, 1) := by decide +kernel
theorem dL_law_639 : decode bL_law 639 = .ok (.iload 4, 2) := by decide +kernel
theorem dL_law_641 : decode bL_law 641 = .ok (.iconst 1, 1) := by decide +kernel
theorem dL_law_642 : decode bL_law 642 = .ok (.iadd, 1) := by decide +kernel
theorem dL_law_643 : decode bL_law 643 = .ok (.iaload, 1) := by decide +kernel
theorem dL_law_644 : decode bL_law 644 = .ok (.aload_n 0, 1) := by decide +kernel
theorem dL_law_645 : decode bL_law 645 = .ok (.iload 4, 2) := by decide +kernel
theorem dL_law_647 : decode bL_law 647 = .ok (.iconst 2, 1) := by decide +kernel
theorem dL_law_648 : decode bL_law 648 = .ok (.iadd, 1) := by decide +kernel
theorem dL_law_649 : decode bL_law 649 = .ok (.iaload, 1) := by decide +kernel
theorem dL_law_650 : decode bL_law 650 = .ok (.aload_n 3, 1) := by decide +kernel
theorem dL_law_651 : decode bL_law 651 = .ok (.invokestatic 98, 3) := by decide +kernel
theorem dL_law_654 : decode bL_law 654 = .ok (.istore 5, 2) := by decide +kernel
theorem dL_law_656 : decode bL_law 656 = .ok (.aload_n 2, 1) := by decide +kernel
theorem dL_law_657 : decode bL_law 657 = .ok (.aload_n 0, 1) := by decide +kernel
theorem dL_law_658 : decode bL_law 658 = .ok (.iload 4, 2) := by decide +kernel
theorem dL_law_660 : decode bL_law 660 = .ok (.iconst 1, 1) := by decide +kernel
theorem dL_law_661 : decode bL_law 661 = .ok (.iadd, 1) := by decide +kernel
theorem dL_law_662 : decode bL_law 662 = .ok (.iaload, 1) := by decide +kernel
theorem dL_law_663 : decode bL_law 663 = .ok (.aload_n 0, 1) := by decide +kernel
theorem dL_law_664 : decode bL_law 664 = .ok (.iload 4, 2) := by decide +kernel
theorem dL_law_666 : decode bL_law 666 = .ok (.iconst 2, 1) := by decide +kernel
theorem dL_law_667 : decode bL_law 667 = .ok (.iadd, 1) := by decide +kernel
theorem dL_law_668 : decode bL_law 668 = .ok (.iaload, 1) := by decide +kernel
theorem dL_law_669 : decode bL_law 669 = .ok (.invokevirtual 100, 3) := by decide +kernel
theorem dL_law_672 : decode bL_law 672 = .ok (.istore 6, 2) := by decide +kernel
theorem dL_law_674 : decode bL_law 674 = .ok (.aload_n 2, 1) := by decide +kernel
theorem dL_law_675 : decode bL_law 675 = .ok (.invokevirtual 63, 3) := by decide +kernel
theorem dL_law_678 : decode bL_law 678 = .ok (.iload 5, 2) := by decide +kernel
theorem dL_law_680 : decode bL_law 680 = .ok (.if_icmp .eq 5, 3) := by decide +kernel
theorem dL_law_685 : decode bL_law 685 = .ok (.iload 5, 2) := by decide +kernel
theorem dL_law_687 : decode bL_law 687 = .ok (.ifCond .ne 15, 3) := by decide +kernel
theorem dL_law_702 : decode bL_law 702 = .ok (.goto 171, 3) := by decide +kernel
theorem dL_law_690 : decode bL_law 690 = .ok (.aload_n 3, 1) := by decide +kernel
theorem dL_law_691 : decode bL_law 691 = .ok (.iconst 0, 1) := by decide +kernel
theorem dL_law_692 : decode bL_law 692 = .ok (.laload, 1) := by decide +kernel
theorem dL_law_693 : decode bL_law 693 = .ok (.iload 6, 2) := by decide +kernel
theorem dL_law_695 : decode bL_law 695 = .ok (.i2l, 1) := by decide +kernel
theorem dL_law_696 : decode bL_law 696 = .ok (.lcmp, 1) := by decide +kernel
theorem dL_law_697 : decode bL_law 697 = .ok (.ifCond .eq 5, 3) := by decide +kernel
theorem dL_law_700 : decode bL_law 700 = .ok (.iconst 0, 1) := by decide +kernel
theorem dL_law_701 : decode bL_law 701 = .ok (.ireturn, 1) := by decide +kernel
theorem dL_law_683 : decode bL_law 683 = .ok (.iconst 0, 1) := by decide +kernel
theorem dL_law_684 : decode bL_law 684 = .ok (.ireturn, 1) := by decide +kernel
theorem dL_law_705 : decode bL_law 705 = .ok (.aload_n 1, 1) := by decide +kernel
theorem dL_law_706 : decode bL_law 706 = .ok (.aload_n 0, 1) := by decide +kernel
theorem dL_law_707 : decode bL_law 707 = .ok (.iload 4, 2) := by decide +kernel
theorem dL_law_709 : decode bL_law 709 = .ok (.iconst 1, 1) := by decide +kernel
theorem dL_law_710 : decode bL_law 710 = .ok (.iadd, 1) := by decide +kernel
theorem dL_law_711 : decode bL_law 711 = .ok (.iaload, 1) := by decide +kernel
theorem dL_law_712 : decode bL_law 712 = .ok (.aload_n 0, 1) := by decide +kernel
theorem dL_law_713 : decode bL_law 713 = .ok (.iload 4, 2) := by decide +kernel
theorem dL_law_715 : decode bL_law 715 = .ok (.iconst 2, 1) := by decide +kernel
theorem dL_law_716 : decode bL_law 716 = .ok (.iadd, 1) := by decide +kernel
theorem dL_law_717 : decode bL_law 717 = .ok (.iaload, 1) := by decide +kernel
theorem dL_law_718 : decode bL_law 718 = .ok (.i2l, 1) := by decide +kernel
theorem dL_law_719 : decode bL_law 719 = .ok (.bipush 32, 2) := by decide +kernel
theorem dL_law_721 : decode bL_law 721 = .ok (.lshl, 1) := by decide +kernel
theorem dL_law_722 : decode bL_law 722 = .ok (.aload_n 0, 1) := by decide +kernel
theorem dL_law_723 : decode bL_law 723 = .ok (.iload 4, 2) := by decide +kernel
theorem dL_law_725 : decode bL_law 725 = .ok (.iconst 3, 1) := by decide +kernel
theorem dL_law_726 : decode bL_law 726 = .ok (.iadd, 1) := by decide +kernel
theorem dL_law_727 : decode bL_law 727 = .ok (.iaload, 1) := by decide +kernel
theorem dL_law_728 : decode bL_law 728 = .ok (.i2l, 1) := by decide +kernel
theorem dL_law_729 : decode bL_law 729 = .ok (.ldc2_w 66, 3) := by decide +kernel
theorem dL_law_732 : decode bL_law 732 = .ok (.land, 1) := by decide +kernel
theorem dL_law_733 : decode bL_law 733 = .ok (.lor, 1) := by decide +kernel
theorem dL_law_734 : decode bL_law 734 = .ok (.aload_n 3, 1) := by decide +kernel
theorem dL_law_735 : decode bL_law 735 = .ok (.invokestatic 101, 3) := by decide +kernel
theorem dL_law_738 : decode bL_law 738 = .ok (.istore 5, 2) := by decide +kernel
theorem dL_law_740 : decode bL_law 740 = .ok (.aload_n 2, 1) := by decide +kernel
theorem dL_law_741 : decode bL_law 741 = .ok (.aload_n 0, 1) := by decide +kernel
theorem dL_law_742 : decode bL_law 742 = .ok (.iload 4, 2) := by decide +kernel
theorem dL_law_744 : decode bL_law 744 = .ok (.iconst 1, 1) := by decide +kernel
theorem dL_law_745 : decode bL_law 745 = .ok (.iadd, 1) := by decide +kernel
theorem dL_law_746 : decode bL_law 746 = .ok (.iaload, 1) := by decide +kernel
theorem dL_law_747 : decode bL_law 747 = .ok (.aload_n 0, 1) := by decide +kernel
theorem dL_law_748 : decode bL_law 748 = .ok (.iload 4, 2) := by decide +kernel
theorem dL_law_750 : decode bL_law 750 = .ok (.iconst 2, 1) := by decide +kernel
theorem dL_law_751 : decode bL_law 751 = .ok (.iadd, 1) := by decide +kernel
theorem dL_law_752 : decode bL_law 752 = .ok (.iaload, 1) := by decide +kernel
theorem dL_law_753 : decode bL_law 753 = .ok (.i2l, 1) := by decide +kernel
theorem dL_law_754 : decode bL_law 754 = .ok (.bipush 32, 2) := by decide +kernel
theorem dL_law_756 : decode bL_law 756 = .ok (.lshl, 1) := by decide +kernel
theorem dL_law_757 : decode bL_law 757 = .ok (.aload_n 0, 1) := by decide +kernel
theorem dL_law_758 : decode bL_law 758 = .ok (.iload 4, 2) := by decide +kernel
theorem dL_law_760 : decode bL_law 760 = .ok (.iconst 3, 1) := by decide +kernel
theorem dL_law_761 : decode bL_law 761 = .ok (.iadd, 1) := by decide +kernel
theorem dL_law_762 : decode bL_law 762 = .ok (.iaload, 1) := by decide +kernel
theorem dL_law_763 : decode bL_law 763 = .ok (.i2l, 1) := by decide +kernel
theorem dL_law_764 : decode bL_law 764 = .ok (.ldc2_w 66, 3) := by decide +kernel
theorem dL_law_767 : decode bL_law 767 = .ok (.land, 1) := by decide +kernel
theorem dL_law_768 : decode bL_law 768 = .ok (.lor, 1) := by decide +kernel
theorem dL_law_769 : decode bL_law 769 = .ok (.invokevirtual 104, 3) := by decide +kernel
theorem dL_law_772 : decode bL_law 772 = .ok (.istore 6, 2) := by decide +kernel
theorem dL_law_774 : decode bL_law 774 = .ok (.aload_n 2, 1) := by decide +kernel
theorem dL_law_775 : decode bL_law 775 = .ok (.invokevirtual 63, 3) := by decide +kernel
theorem dL_law_778 : decode bL_law 778 = .ok (.iload 5, 2) := by decide +kernel
theorem dL_law_780 : decode bL_law 780 = .ok (.if_icmp .eq 5, 3) := by decide +kernel
theorem dL_law_785 : decode bL_law 785 = .ok (.iload 5, 2) := by decide +kernel
theorem dL_law_787 : decode bL_law 787 = .ok (.ifCond .ne 15, 3) := by decide +kernel
theorem dL_law_802 : decode bL_law 802 = .ok (.goto 71, 3) := by decide +kernel
theorem dL_law_790 : decode bL_law 790 = .ok (.aload_n 3, 1) := by decide +kernel
theorem dL_law_791 : decode bL_law 791 = .ok (.iconst 0, 1) := by decide +kernel
theorem dL_law_792 : decode bL_law 792 = .ok (.laload, 1) := by decide +kernel
theorem dL_law_793 : decode bL_law 793 = .ok (.iload 6, 2) := by decide +kernel
theorem dL_law_795 : decode bL_law 795 = .ok (.i2l, 1) := by decide +kernel
theorem dL_law_796 : decode bL_law 796 = .ok (.lcmp, 1) := by decide +kernel
theorem dL_law_797 : decode bL_law 797 = .ok (.ifCond .eq 5, 3) := by decide +kernel
theorem dL_law_800 : decode bL_law 800 = .ok (.iconst 0, 1) := by decide +kernel
theorem dL_law_801 : decode bL_law 801 = .ok (.ireturn, 1) := by decide +kernel
theorem dL_law_783 : decode bL_law 783 = .ok (.iconst 0, 1) := by decide +kernel
theorem dL_law_784 : decode bL_law 784 = .ok (.ireturn, 1) := by decide +kernel
theorem dL_law_805 : decode bL_law 805 = .ok (.aload_n 1, 1) := by decide +kernel
theorem dL_law_806 : decode bL_law 806 = .ok (.aload_n 0, 1) := by decide +kernel
theorem dL_law_807 : decode bL_law 807 = .ok (.iload 4, 2) := by decide +kernel
theorem dL_law_809 : decode bL_law 809 = .ok (.iconst 1, 1) := by decide +kernel
theorem dL_law_810 : decode bL_law 810 = .ok (.iadd, 1) := by decide +kernel
theorem dL_law_811 : decode bL_law 811 = .ok (.iaload, 1) := by decide +kernel
theorem dL_law_812 : decode bL_law 812 = .ok (.aload_n 0, 1) := by decide +kernel
theorem dL_law_813 : decode bL_law 813 = .ok (.iload 4, 2) := by decide +kernel
theorem dL_law_815 : decode bL_law 815 = .ok (.iconst 2, 1) := by decide +kernel
theorem dL_law_816 : decode bL_law 816 = .ok (.iadd, 1) := by decide +kernel
theorem dL_law_817 : decode bL_law 817 = .ok (.iaload, 1) := by decide +kernel
theorem dL_law_818 : decode bL_law 818 = .ok (.aload_n 3, 1) := by decide +kernel
theorem dL_law_819 : decode bL_law 819 = .ok (.invokestatic 105, 3) := by decide +kernel
theorem dL_law_822 : decode bL_law 822 = .ok (.istore 5, 2) := by decide +kernel
theorem dL_law_824 : decode bL_law 824 = .ok (.aload_n 2, 1) := by decide +kernel
theorem dL_law_825 : decode bL_law 825 = .ok (.aload_n 0, 1) := by decide +kernel
theorem dL_law_826 : decode bL_law 826 = .ok (.iload 4, 2) := by decide +kernel
theorem dL_law_828 : decode bL_law 828 = .ok (.iconst 1, 1) := by decide +kernel
theorem dL_law_829 : decode bL_law 829 = .ok (.iadd, 1) := by decide +kernel
theorem dL_law_830 : decode bL_law 830 = .ok (.iaload, 1) := by decide +kernel
theorem dL_law_831 : decode bL_law 831 = .ok (.aload_n 0, 1) := by decide +kernel
theorem dL_law_832 : decode bL_law 832 = .ok (.iload 4, 2) := by decide +kernel
theorem dL_law_834 : decode bL_law 834 = .ok (.iconst 2, 1) := by decide +kernel
theorem dL_law_835 : decode bL_law 835 = .ok (.iadd, 1) := by decide +kernel
theorem dL_law_836 : decode bL_law 836 = .ok (.iaload, 1) := by decide +kernel
theorem dL_law_837 : decode bL_law 837 = .ok (.invokevirtual 107, 3) := by decide +kernel
theorem dL_law_840 : decode bL_law 840 = .ok (.istore 6, 2) := by decide +kernel
theorem dL_law_842 : decode bL_law 842 = .ok (.aload_n 2, 1) := by decide +kernel
theorem dL_law_843 : decode bL_law 843 = .ok (.invokevirtual 63, 3) := by decide +kernel
theorem dL_law_846 : decode bL_law 846 = .ok (.iload 5, 2) := by decide +kernel
theorem dL_law_848 : decode bL_law 848 = .ok (.if_icmp .eq 5, 3) := by decide +kernel
theorem dL_law_853 : decode bL_law 853 = .ok (.iload 5, 2) := by decide +kernel
theorem dL_law_855 : decode bL_law 855 = .ok (.ifCond .ne 15, 3) := by decide +kernel
theorem dL_law_870 : decode bL_law 870 = .ok (.goto 3, 3) := by decide +kernel
theorem dL_law_858 : decode bL_law 858 = .ok (.aload_n 3, 1) := by decide +kernel
theorem dL_law_859 : decode bL_law 859 = .ok (.iconst 0, 1) := by decide +kernel
theorem dL_law_860 : decode bL_law 860 = .ok (.laload, 1) := by decide +kernel
theorem dL_law_861 : decode bL_law 861 = .ok (.iload 6, 2) := by decide +kernel
theorem dL_law_863 : decode bL_law 863 = .ok (.i2l, 1) := by decide +kernel
theorem dL_law_864 : decode bL_law 864 = .ok (.lcmp, 1) := by decide +kernel
theorem dL_law_865 : decode bL_law 865 = .ok (.ifCond .eq 5, 3) := by decide +kernel
theorem dL_law_868 : decode bL_law 868 = .ok (.iconst 0, 1) := by decide +kernel
theorem dL_law_869 : decode bL_law 869 = .ok (.ireturn, 1) := by decide +kernel
theorem dL_law_851 : decode bL_law 851 = .ok (.iconst 0, 1) := by decide +kernel
theorem dL_law_852 : decode bL_law 852 = .ok (.ireturn, 1) := by decide +kernel
theorem k_l58 : (.codeWith yL_source bL_source 3 (some .int) hh_L_source : Cond) ∈ TBL := TBL_in (by decide +kernel) (by decide +kernel)
theorem k_l59 : (.initialized yL_source.cls : Cond) ∈ TBL := TBL_in (by decide +kernel) (by decide +kernel)
theorem k_l60 : (.methodLink RL 57 yL_source : Cond) ∈ TBL := TBL_in (by decide +kernel) (by decide +kernel)
theorem k_l61 : (.static yL_source : Cond) ∈ TBL := TBL_in (by decide +kernel) (by decide +kernel)
theorem k_l62 : (.code yM_source bM_source 1 (some .int) : Cond) ∈ TBL := TBL_in (by decide +kernel) (by decide +kernel)
theorem k_l63 : (.initialized yM_source.cls : Cond) ∈ TBL := TBL_in (by decide +kernel) (by decide +kernel)
theorem k_l64 : (.methodLink RL 62 yM_source : Cond) ∈ TBL := TBL_in (by decide +kernel) (by decide +kernel)
theorem k_l65 : (.instanceMethod yM_source : Cond) ∈ TBL := TBL_in (by decide +kernel) (by decide +kernel)
theorem k_l66 : (.selects RM yM_source yM_source : Cond) ∈ TBL := TBL_in (by decide +kernel) (by decide +kernel)
theorem k_l67 : (.code yM_thrown bM_thrown 1 (some .int) : Cond) ∈ TBL := TBL_in (by decide +kernel) (by decide +kernel)
theorem k_l68 : (.initialized yM_thrown.cls : Cond) ∈ TBL := TBL_in (by decide +kernel) (by decide +kernel)
theorem k_l69 : (.methodLink RL 63 yM_thrown : Cond) ∈ TBL := TBL_in (by decide +kernel) (by decide +kernel)
theorem k_l70 : (.instanceMethod yM_thrown : Cond) ∈ TBL := TBL_in (by decide +kernel) (by decide +kernel)
theorem k_l71 : (.selects RM yM_thrown yM_thrown : Cond) ∈ TBL := TBL_in (by decide +kernel) (by decide +kernel)
theorem k_l72 : (.constantLong RL 66 4294967295 : Cond) ∈ TBL := TBL_in (by decide +kernel) (by decide +kernel)
theorem k_l73 : (.codeWith yL_event bL_event 9 (some .int) hh_L_event : Cond) ∈ TBL := TBL_in (by decide +kernel) (by decide +kernel)
theorem k_l74 : (.initialized yL_event.cls : Cond) ∈ TBL := TBL_in (by decide +kernel) (by decide +kernel)
theorem k_l75 : (.methodLink RL 68 yL_event : Cond) ∈ TBL := TBL_in (by decide +kernel) (by decide +kernel)
theorem k_l76 : (.static yL_event : Cond) ∈ TBL := TBL_in (by decide +kernel) (by decide +kernel)
theorem k_l77 : (.code yM_event bM_event 10 (some .int) : Cond) ∈ TBL := TBL_in (by decide +kernel) (by decide +kernel)
theorem k_l78 : (.initialized yM_event.cls : Cond) ∈ TBL := TBL_in (by decide +kernel) (by decide +kernel)
theorem k_l79 : (.methodLink RL 71 yM_event : Cond) ∈ TBL := TBL_in (by decide +kernel) (by decide +kernel)
theorem k_l80 : (.instanceMethod yM_event : Cond) ∈ TBL := TBL_in (by decide +kernel) (by decide +kernel)
theorem k_l81 : (.selects RM yM_event yM_event : Cond) ∈ TBL := TBL_in (by decide +kernel) (by decide +kernel)
theorem k_l82 : (.codeWith yL_need bL_need 5 (some .int) hh_L_need : Cond) ∈ TBL := TBL_in (by decide +kernel) (by decide +kernel)
theorem k_l83 : (.initialized yL_need.cls : Cond) ∈ TBL := TBL_in (by decide +kernel) (by decide +kernel)
theorem k_l84 : (.methodLink RL 72 yL_need : Cond) ∈ TBL := TBL_in (by decide +kernel) (by decide +kernel)
theorem k_l85 : (.static yL_need : Cond) ∈ TBL := TBL_in (by decide +kernel) (by decide +kernel)
theorem k_l86 : (.code yM_need bM_need 3 (some .int) : Cond) ∈ TBL := TBL_in (by decide +kernel) (by decide +kernel)
theorem k_l87 : (.initialized yM_need.cls : Cond) ∈ TBL := TBL_in (by decide +kernel) (by decide +kernel)
theorem k_l88 : (.methodLink RL 75 yM_need : Cond) ∈ TBL := TBL_in (by decide +kernel) (by decide +kernel)
theorem k_l89 : (.instanceMethod yM_need : Cond) ∈ TBL := TBL_in (by decide +kernel) (by decide +kernel)
theorem k_l90 : (.selects RM yM_need yM_need : Cond) ∈ TBL := TBL_in (by decide +kernel) (by decide +kernel)
theorem k_l91 : (.code yX_settle bX_settle 1 (some .int) : Cond) ∈ TBL := TBL_in (by decide +kernel) (by decide +kernel)
theorem k_l92 : (.initialized yX_settle.cls : Cond) ∈ TBL := TBL_in (by decide +kernel) (by decide +kernel)
theorem k_l93 : (.methodLink RL 76 yX_settle : Cond) ∈ TBL := TBL_in (by decide +kernel) (by decide +kernel)
theorem k_l94 : (.instanceMethod yX_settle : Cond) ∈ TBL := TBL_in (by decide +kernel) (by decide +kernel)
theorem k_l95 : (.selects RX yX_settle yX_settle : Cond) ∈ TBL := TBL_in (by decide +kernel) (by decide +kernel)
theorem k_l96 : (.code yM_settle bM_settle 3 (some .int) : Cond) ∈ TBL := TBL_in (by decide +kernel) (by decide +kernel)
theorem k_l97 : (.initialized yM_settle.cls : Cond) ∈ TBL := TBL_in (by decide +kernel) (by decide +kernel)
theorem k_l98 : (.methodLink RL 79 yM_settle : Cond) ∈ TBL := TBL_in (by decide +kernel) (by decide +kernel)
theorem k_l99 : (.instanceMethod yM_settle : Cond) ∈ TBL := TBL_in (by decide +kernel) (by decide +kernel)
theorem k_l100 : (.selects RM yM_settle yM_settle : Cond) ∈ TBL := TBL_in (by decide +kernel) (by decide +kernel)
theorem k_l101 : (.code yX_ring bX_ring 2 (some .int) : Cond) ∈ TBL := TBL_in (by decide +kernel) (by decide +kernel)
theorem k_l102 : (.initialized yX_ring.cls : Cond) ∈ TBL := TBL_in (by decide +kernel) (by decide +kernel)
theorem k_l103 : (.methodLink RL 80 yX_ring : Cond) ∈ TBL := TBL_in (by decide +kernel) (by decide +kernel)
theorem k_l104 : (.instanceMethod yX_ring : Cond) ∈ TBL := TBL_in (by decide +kernel) (by decide +kernel)
theorem k_l105 : (.selects RX yX_ring yX_ring : Cond) ∈ TBL := TBL_in (by decide +kernel) (by decide +kernel)
theorem k_l106 : (.code yM_ring bM_ring 2 (some .int) : Cond) ∈ TBL := TBL_in (by decide +kernel) (by decide +kernel)
theorem k_l107 : (.initialized yM_ring.cls : Cond) ∈ TBL := TBL_in (by decide +kernel) (by decide +kernel)
theorem k_l108 : (.methodLink RL 84 yM_ring : Cond) ∈ TBL := TBL_in (by decide +kernel) (by decide +kernel)
theorem k_l109 : (.instanceMethod yM_ring : Cond) ∈ TBL := TBL_in (by decide +kernel) (by decide +kernel)
theorem k_l110 : (.selects RM yM_ring yM_ring : Cond) ∈ TBL := TBL_in (by decide +kernel) (by decide +kernel)
theorem k_l111 : (.codeWith yL_offset bL_offset 4 (some .int) hh_L_offset : Cond) ∈ TBL := TBL_in (by decide +kernel) (by decide +kernel)
theorem k_l112 : (.initialized yL_offset.cls : Cond) ∈ TBL := TBL_in (by decide +kernel) (by decide +kernel)
theorem k_l113 : (.methodLink RL 85 yL_offset : Cond) ∈ TBL := TBL_in (by decide +kernel) (by decide +kernel)
theorem k_l114 : (.static yL_offset : Cond) ∈ TBL := TBL_in (by decide +kernel) (by decide +kernel)
theorem k_l115 : (.code yM_offset bM_offset 2 (some .long) : Cond) ∈ TBL := TBL_in (by decide +kernel) (by decide +kernel)
theorem k_l116 : (.initialized yM_offset.cls : Cond) ∈ TBL := TBL_in (by decide +kernel) (by decide +kernel)
theorem k_l117 : (.methodLink RL 88 yM_offset : Cond) ∈ TBL := TBL_in (by decide +kernel) (by decide +kernel)
theorem k_l118 : (.instanceMethod yM_offset : Cond) ∈ TBL := TBL_in (by decide +kernel) (by decide +kernel)
theorem k_l119 : (.selects RM yM_offset yM_offset : Cond) ∈ TBL := TBL_in (by decide +kernel) (by decide +kernel)
theorem k_l120 : (.codeWith yL_bound bL_bound 5 (some .int) hh_L_bound : Cond) ∈ TBL := TBL_in (by decide +kernel) (by decide +kernel)
theorem k_l121 : (.initialized yL_bound.cls : Cond) ∈ TBL := TBL_in (by decide +kernel) (by decide +kernel)
theorem k_l122 : (.methodLink RL 89 yL_bound : Cond) ∈ TBL := TBL_in (by decide +kernel) (by decide +kernel)
theorem k_l123 : (.static yL_bound : Cond) ∈ TBL := TBL_in (by decide +kernel) (by decide +kernel)
theorem k_l124 : (.code yM_bound bM_bound 3 (some .long) : Cond) ∈ TBL := TBL_in (by decide +kernel) (by decide +kernel)
theorem k_l125 : (.initialized yM_bound.cls : Cond) ∈ TBL := TBL_in (by decide +kernel) (by decide +kernel)
theorem k_l126 : (.methodLink RL 91 yM_bound : Cond) ∈ TBL := TBL_in (by decide +kernel) (by decide +kernel)
theorem k_l127 : (.instanceMethod yM_bound : Cond) ∈ TBL := TBL_in (by decide +kernel) (by decide +kernel)
theorem k_l128 : (.selects RM yM_bound yM_bound : Cond) ∈ TBL := TBL_in (by decide +kernel) (by decide +kernel)
theorem k_l129 : (.codeWith yL_corrected bL_corrected 4 (some .int) hh_L_corrected : Cond) ∈ TBL := TBL_in (by decide +kernel) (by decide +kernel)
theorem k_l130 : (.initialized yL_corrected.cls : Cond) ∈ TBL := TBL_in (by decide +kernel) (by decide +kernel)
theorem k_l131 : (.methodLink RL 92 yL_corrected : Cond) ∈ TBL := TBL_in (by decide +kernel) (by decide +kernel)
theorem k_l132 : (.static yL_corrected : Cond) ∈ TBL := TBL_in (by decide +kernel) (by decide +kernel)
theorem k_l133 : (.code yM_corrected bM_corrected 2 (some .long) : Cond) ∈ TBL := TBL_in (by decide +kernel) (by decide +kernel)
theorem k_l134 : (.initialized yM_corrected.cls : Cond) ∈ TBL := TBL_in (by decide +kernel) (by decide +kernel)
theorem k_l135 : (.methodLink RL 94 yM_corrected : Cond) ∈ TBL := TBL_in (by decide +kernel) (by decide +kernel)
theorem k_l136 : (.instanceMethod yM_corrected : Cond) ∈ TBL := TBL_in (by decide +kernel) (by decide +kernel)
theorem k_l137 : (.selects RM yM_corrected yM_corrected : Cond) ∈ TBL := TBL_in (by decide +kernel) (by decide +kernel)
theorem k_l138 : (.codeWith yL_ordered bL_ordered 5 (some .int) hh_L_ordered : Cond) ∈ TBL := TBL_in (by decide +kernel) (by decide +kernel)
theorem k_l139 : (.initialized yL_ordered.cls : Cond) ∈ TBL := TBL_in (by decide +kernel) (by decide +kernel)
theorem k_l140 : (.methodLink RL 95 yL_ordered : Cond) ∈ TBL := TBL_in (by decide +kernel) (by decide +kernel)
theorem k_l141 : (.static yL_ordered : Cond) ∈ TBL := TBL_in (by decide +kernel) (by decide +kernel)
theorem k_l142 : (.code yM_ordered bM_ordered 6 (some .int) : Cond) ∈ TBL := TBL_in (by decide +kernel) (by decide +kernel)
theorem k_l143 : (.initialized yM_ordered.cls : Cond) ∈ TBL := TBL_in (by decide +kernel) (by decide +kernel)
theorem k_l144 : (.methodLink RL 97 yM_ordered : Cond) ∈ TBL := TBL_in (by decide +kernel) (by decide +kernel)
theorem k_l145 : (.instanceMethod yM_ordered : Cond) ∈ TBL := TBL_in (by decide +kernel) (by decide +kernel)
theorem k_l146 : (.selects RM yM_ordered yM_ordered : Cond) ∈ TBL := TBL_in (by decide +kernel) (by decide +kernel)
theorem k_l147 : (.codeWith yL_implied bL_implied 5 (some .int) hh_L_implied : Cond) ∈ TBL := TBL_in (by decide +kernel) (by decide +kernel)
theorem k_l148 : (.initialized yL_implied.cls : Cond) ∈ TBL := TBL_in (by decide +kernel) (by decide +kernel)
theorem k_l149 : (.methodLink RL 98 yL_implied : Cond) ∈ TBL := TBL_in (by decide +kernel) (by decide +kernel)
theorem k_l150 : (.static yL_implied : Cond) ∈ TBL := TBL_in (by decide +kernel) (by decide +kernel)
theorem k_l151 : (.code yM_implied bM_implied 5 (some .int) : Cond) ∈ TBL := TBL_in (by decide +kernel) (by decide +kernel)
theorem k_l152 : (.initialized yM_implied.cls : Cond) ∈ TBL := TBL_in (by decide +kernel) (by decide +kernel)
theorem k_l153 : (.methodLink RL 100 yM_implied : Cond) ∈ TBL := TBL_in (by decide +kernel) (by decide +kernel)
theorem k_l154 : (.instanceMethod yM_implied : Cond) ∈ TBL := TBL_in (by decide +kernel) (by decide +kernel)
theorem k_l155 : (.selects RM yM_implied yM_implied : Cond) ∈ TBL := TBL_in (by decide +kernel) (by decide +kernel)
theorem k_l156 : (.codeWith yL_correct bL_correct 6 (some .int) hh_L_correct : Cond) ∈ TBL := TBL_in (by decide +kernel) (by decide +kernel)
theorem k_l157 : (.initialized yL_correct.cls : Cond) ∈ TBL := TBL_in (by decide +kernel) (by decide +kernel)
theorem k_l158 : (.methodLink RL 101 yL_correct : Cond) ∈ TBL := TBL_in (by decide +kernel) (by decide +kernel)
theorem k_l159 : (.static yL_correct : Cond) ∈ TBL := TBL_in (by decide +kernel) (by decide +kernel)
theorem k_l160 : (.code yM_correct bM_correct 4 (some .int) : Cond) ∈ TBL := TBL_in (by decide +kernel) (by decide +kernel)
theorem k_l161 : (.initialized yM_correct.cls : Cond) ∈ TBL := TBL_in (by decide +kernel) (by decide +kernel)
theorem k_l162 : (.methodLink RL 104 yM_correct : Cond) ∈ TBL := TBL_in (by decide +kernel) (by decide +kernel)
theorem k_l163 : (.instanceMethod yM_correct : Cond) ∈ TBL := TBL_in (by decide +kernel) (by decide +kernel)
theorem k_l164 : (.selects RM yM_correct yM_correct : Cond) ∈ TBL := TBL_in (by decide +kernel) (by decide +kernel)
theorem k_l165 : (.codeWith yL_ask bL_ask 5 (some .int) hh_L_ask : Cond) ∈ TBL := TBL_in (by decide +kernel) (by decide +kernel)
theorem k_l166 : (.initialized yL_ask.cls : Cond) ∈ TBL := TBL_in (by decide +kernel) (by decide +kernel)
theorem k_l167 : (.methodLink RL 105 yL_ask : Cond) ∈ TBL := TBL_in (by decide +kernel) (by decide +kernel)
theorem k_l168 : (.static yL_ask : Cond) ∈ TBL := TBL_in (by decide +kernel) (by decide +kernel)
theorem k_l169 : (.code yM_ask bM_ask 6 (some .int) : Cond) ∈ TBL := TBL_in (by decide +kernel) (by decide +kernel)
theorem k_l170 : (.initialized yM_ask.cls : Cond) ∈ TBL := TBL_in (by decide +kernel) (by decide +kernel)
theorem k_l171 : (.methodLink RL 107 yM_ask : Cond) ∈ TBL := TBL_in (by decide +kernel) (by decide +kernel)
theorem k_l172 : (.instanceMethod yM_ask : Cond) ∈ TBL := TBL_in (by decide +kernel) (by decide +kernel)
theorem k_l173 : (.selects RM yM_ask yM_ask : Cond) ∈ TBL := TBL_in (by decide +kernel) (by decide +kernel)
