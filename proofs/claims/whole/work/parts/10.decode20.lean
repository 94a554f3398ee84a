theorem d_La_law_3 : decode c_La_law 3 = .ok (.dup, 1) := by decide +kernel
theorem d_La_law_4 : decode c_La_law 4 = .ok (.invokespecial 68, 3) := by decide +kernel
theorem d_La_law_7 : decode c_La_law 7 = .ok (.astore_n 1, 1) := by decide +kernel
theorem d_La_law_8 : decode c_La_law 8 = .ok (.new 69, 3) := by decide +kernel
theorem d_La_law_11 : decode c_La_law 11 = .ok (.dup, 1) := by decide +kernel
theorem d_La_law_12 : decode c_La_law 12 = .ok (.invokespecial 71, 3) := by decide +kernel
theorem d_La_law_15 : decode c_La_law 15 = .ok (.astore_n 2, 1) := by decide +kernel
theorem d_La_law_16 : decode c_La_law 16 = .ok (.iconst 1, 1) := by decide +kernel
theorem d_La_law_17 : decode c_La_law 17 = .ok (.newarray .long, 2) := by decide +kernel
theorem d_La_law_19 : decode c_La_law 19 = .ok (.astore_n 3, 1) := by decide +kernel
theorem d_La_law_20 : decode c_La_law 20 = .ok (.iconst 0, 1) := by decide +kernel
theorem d_La_law_21 : decode c_La_law 21 = .ok (.istore 4, 2) := by decide +kernel
theorem d_La_law_23 : decode c_La_law 23 = .ok (.iload 4, 2) := by decide +kernel
theorem d_La_law_25 : decode c_La_law 25 = .ok (.aload_n 0, 1) := by decide +kernel
theorem d_La_law_26 : decode c_La_law 26 = .ok (.arraylength, 1) := by decide +kernel
theorem d_La_law_27 : decode c_La_law 27 = .ok (.bipush 6, 2) := by decide +kernel
theorem d_La_law_29 : decode c_La_law 29 = .ok (.isub, 1) := by decide +kernel
theorem d_La_law_30 : decode c_La_law 30 = .ok (.if_icmp .gt 1213, 3) := by decide +kernel
theorem d_La_law_33 : decode c_La_law 33 = .ok (.aload_n 0, 1) := by decide +kernel
theorem d_La_law_34 : decode c_La_law 34 = .ok (.iload 4, 2) := by decide +kernel
theorem d_La_law_36 : decode c_La_law 36 = .ok (.iaload, 1) := by decide +kernel
theorem d_La_law_37 : decode c_La_law 37 = .ok (.bipush 15, 2) := by decide +kernel
theorem d_La_law_39 : decode c_La_law 39 = .ok (.iand, 1) := by decide +kernel
theorem d_La_law_40 : decode c_La_law 40 = .ok (.tableswitch 1197 0 14 #[76, 132, 244, 300, 392, 496, 560, 684, 756, 824, 892, 960, 1060, 1116, 1184], 76) := by decide +kernel
theorem d_La_law_116 : decode c_La_law 116 = .ok (.aload_n 1, 1) := by decide +kernel
theorem d_La_law_117 : decode c_La_law 117 = .ok (.aload_n 0, 1) := by decide +kernel
theorem d_La_law_118 : decode c_La_law 118 = .ok (.iload 4, 2) := by decide +kernel
theorem d_La_law_120 : decode c_La_law 120 = .ok (.iconst 1, 1) := by decide +kernel
theorem d_La_law_121 : decode c_La_law 121 = .ok (.iadd, 1) := by decide +kernel
theorem d_La_law_122 : decode c_La_law 122 = .ok (.iaload, 1) := by decide +kernel
theorem d_La_law_123 : decode c_La_law 123 = .ok (.aload_n 3, 1) := by decide +kernel
theorem d_La_law_124 : decode c_La_law 124 = .ok (.invokestatic 72, 3) := by decide +kernel
theorem d_La_law_127 : decode c_La_law 127 = .ok (.istore 5, 2) := by decide +kernel
theorem d_La_law_129 : decode c_La_law 129 = .ok (.aload_n 2, 1) := by decide +kernel
theorem d_La_law_130 : decode c_La_law 130 = .ok (.aload_n 0, 1) := by decide +kernel
theorem d_La_law_131 : decode c_La_law 131 = .ok (.iload 4, 2) := by decide +kernel
theorem d_La_law_133 : decode c_La_law 133 = .ok (.iconst 1, 1) := by decide +kernel
theorem d_La_law_134 : decode c_La_law 134 = .ok (.iadd, 1) := by decide +kernel
theorem d_La_law_135 : decode c_La_law 135 = .ok (.iaload, 1) := by decide +kernel
theorem d_La_law_136 : decode c_La_law 136 = .ok (.invokevirtual 77, 3) := by decide +kernel
theorem d_La_law_139 : decode c_La_law 139 = .ok (.istore 6, 2) := by decide +kernel
theorem d_La_law_141 : decode c_La_law 141 = .ok (.aload_n 2, 1) := by decide +kernel
theorem d_La_law_142 : decode c_La_law 142 = .ok (.invokevirtual 78, 3) := by decide +kernel
theorem d_La_law_145 : decode c_La_law 145 = .ok (.iload 5, 2) := by decide +kernel
theorem d_La_law_147 : decode c_La_law 147 = .ok (.if_icmp .eq 5, 3) := by decide +kernel
theorem d_La_law_150 : decode c_La_law 150 = .ok (.iconst 0, 1) := by decide +kernel
theorem d_La_law_151 : decode c_La_law 151 = .ok (.ireturn, 1) := by decide +kernel
theorem d_La_law_152 : decode c_La_law 152 = .ok (.iload 5, 2) := by decide +kernel
theorem d_La_law_154 : decode c_La_law 154 = .ok (.ifCond .ne 15, 3) := by decide +kernel
theorem d_La_law_157 : decode c_La_law 157 = .ok (.aload_n 3, 1) := by decide +kernel
theorem d_La_law_158 : decode c_La_law 158 = .ok (.iconst 0, 1) := by decide +kernel
theorem d_La_law_159 : decode c_La_law 159 = .ok (.laload, 1) := by decide +kernel
theorem d_La_law_160 : decode c_La_law 160 = .ok (.iload 6, 2) := by decide +kernel
theorem d_La_law_162 : decode c_La_law 162 = .ok (.i2l, 1) := by decide +kernel
theorem d_La_law_163 : decode c_La_law 163 = .ok (.lcmp, 1) := by decide +kernel
theorem d_La_law_164 : decode c_La_law 164 = .ok (.ifCond .eq 5, 3) := by decide +kernel
theorem d_La_law_167 : decode c_La_law 167 = .ok (.iconst 0, 1) := by decide +kernel
theorem d_La_law_168 : decode c_La_law 168 = .ok (.ireturn, 1) := by decide +kernel
theorem d_La_law_169 : decode c_La_law 169 = .ok (.goto 1068, 3) := by decide +kernel
theorem d_La_law_172 : decode c_La_law 172 = .ok (.aload_n 1, 1) := by decide +kernel
theorem d_La_law_173 : decode c_La_law 173 = .ok (.aload_n 0, 1) := by decide +kernel
theorem d_La_law_174 : decode c_La_law 174 = .ok (.iload 4, 2) := by decide +kernel
theorem d_La_law_176 : decode c_La_law 176 = .ok (.iconst 1, 1) := by decide +kernel
theorem d_La_law_177 : decode c_La_law 177 = .ok (.iadd, 1) := by decide +kernel
theorem d_La_law_178 : decode c_La_law 178 = .ok (.iaload, 1) := by decide +kernel
theorem d_La_law_179 : decode c_La_law 179 = .ok (.aload_n 0, 1) := by decide +kernel
theorem d_La_law_180 : decode c_La_law 180 = .ok (.iload 4, 2) := by decide +kernel
theorem d_La_law_182 : decode c_La_law 182 = .ok (.iconst 2, 1) := by decide +kernel
theorem d_La_law_183 : decode c_La_law 183 = .ok (.iadd, 1) := by decide +kernel
theorem d_La_law_184 : decode c_La_law 184 = .ok (.iaload, 1) := by decide +kernel
theorem d_La_law_185 : decode c_La_law 185 = .ok (.i2l, 1) := by decide +kernel
theorem d_La_law_186 : decode c_La_law 186 = .ok (.bipush 32, 2) := by decide +kernel
theorem d_La_law_188 : decode c_La_law 188 = .ok (.lshl, 1) := by decide +kernel
theorem d_La_law_189 : decode c_La_law 189 = .ok (.aload_n 0, 1) := by decide +kernel
theorem d_La_law_190 : decode c_La_law 190 = .ok (.iload 4, 2) := by decide +kernel
theorem d_La_law_192 : decode c_La_law 192 = .ok (.iconst 3, 1) := by decide +kernel
theorem d_La_law_193 : decode c_La_law 193 = .ok (.iadd, 1) := by decide +kernel
theorem d_La_law_194 : decode c_La_law 194 = .ok (.iaload, 1) := by decide +kernel
theorem d_La_law_195 : decode c_La_law 195 = .ok (.i2l, 1) := by decide +kernel
theorem d_La_law_196 : decode c_La_law 196 = .ok (.ldc2_w 82, 3) := by decide +kernel
theorem d_La_law_199 : decode c_La_law 199 = .ok (.land, 1) := by decide +kernel
theorem d_La_law_200 : decode c_La_law 200 = .ok (.lor, 1) := by decide +kernel
theorem d_La_law_201 : decode c_La_law 201 = .ok (.aload_n 0, 1) := by decide +kernel
theorem d_La_law_202 : decode c_La_law 202 = .ok (.iload 4, 2) := by decide +kernel
theorem d_La_law_204 : decode c_La_law 204 = .ok (.iconst 4, 1) := by decide +kernel
theorem d_La_law_205 : decode c_La_law 205 = .ok (.iadd, 1) := by decide +kernel
theorem d_La_law_206 : decode c_La_law 206 = .ok (.iaload, 1) := by decide +kernel
theorem d_La_law_207 : decode c_La_law 207 = .ok (.aload_n 3, 1) := by decide +kernel
theorem d_La_law_208 : decode c_La_law 208 = .ok (.invokestatic 84, 3) := by decide +kernel
theorem d_La_law_211 : decode c_La_law 211 = .ok (.istore 5, 2) := by decide +kernel
theorem d_La_law_213 : decode c_La_law 213 = .ok (.aload_n 2, 1) := by decide +kernel
theorem d_La_law_214 : decode c_La_law 214 = .ok (.aload_n 0, 1) := by decide +kernel
theorem d_La_law_215 : decode c_La_law 215 = .ok (.iload 4, 2) := by decide +kernel
theorem d_La_law_217 : decode c_La_law 217 = .ok (.iconst 1, 1) := by decide +kernel
theorem d_La_law_218 : decode c_La_law 218 = .ok (.iadd, 1) := by decide +kernel
theorem d_La_law_219 : decode c_La_law 219 = .ok (.iaload, 1) := by decide +kernel
theorem d_La_law_220 : decode c_La_law 220 = .ok (.aload_n 0, 1) := by decide +kernel
theorem d_La_law_221 : decode c_La_law 221 = .ok (.iload 4, 2) := by decide +kernel
theorem d_La_law_223 : decode c_La_law 223 = .ok (.iconst 2, 1) := by decide +kernel
theorem d_La_law_224 : decode c_La_law 224 = .ok (.iadd, 1) := by decide +kernel
theorem d_La_law_225 : decode c_La_law 225 = .ok (.iaload, 1) := by decide +kernel
theorem d_La_law_226 : decode c_La_law 226 = .ok (.i2l, 1) := by decide +kernel
theorem d_La_law_227 : decode c_La_law 227 = .ok (.bipush 32, 2) := by decide +kernel
theorem d_La_law_229 : decode c_La_law 229 = .ok (.lshl, 1) := by decide +kernel
theorem d_La_law_230 : decode c_La_law 230 = .ok (.aload_n 0, 1) := by decide +kernel
theorem d_La_law_231 : decode c_La_law 231 = .ok (.iload 4, 2) := by decide +kernel
theorem d_La_law_233 : decode c_La_law 233 = .ok (.iconst 3, 1) := by decide +kernel
theorem d_La_law_234 : decode c_La_law 234 = .ok (.iadd, 1) := by decide +kernel
theorem d_La_law_235 : decode c_La_law 235 = .ok (.iaload, 1) := by decide +kernel
theorem d_La_law_236 : decode c_La_law 236 = .ok (.i2l, 1) := by decide +kernel
theorem d_La_law_237 : decode c_La_law 237 = .ok (.ldc2_w 82, 3) := by decide +kernel
theorem d_La_law_240 : decode c_La_law 240 = .ok (.land, 1) := by decide +kernel
theorem d_La_law_241 : decode c_La_law 241 = .ok (.lor, 1) := by decide +kernel
theorem d_La_law_242 : decode c_La_law 242 = .ok (.aload_n 0, 1) := by decide +kernel
theorem d_La_law_243 : decode c_La_law 243 = .ok (.iload 4, 2) := by decide +kernel
theorem d_La_law_245 : decode c_La_law 245 = .ok (.iconst 4, 1) := by decide +kernel
theorem d_La_law_246 : decode c_La_law 246 = .ok (.iadd, 1) := by decide +kernel
theorem d_La_law_247 : decode c_La_law 247 = .ok (.iaload, 1) := by decide +kernel
theorem d_La_law_248 : decode c_La_law 248 = .ok (.invokevirtual 87, 3) := by decide +kernel
theorem d_La_law_251 : decode c_La_law 251 = .ok (.istore 6, 2) := by decide +kernel
theorem d_La_law_253 : decode c_La_law 253 = .ok (.aload_n 2, 1) := by decide +kernel
theorem d_La_law_254 : decode c_La_law 254 = .ok (.invokevirtual 78, 3) := by decide +kernel
theorem d_La_law_257 : decode c_La_law 257 = .ok (.iload 5, 2) := by decide +kernel
theorem d_La_law_259 : decode c_La_law 259 = .ok (.if_icmp .eq 5, 3) := by decide +kernel
theorem d_La_law_262 : decode c_La_law 262 = .ok (.iconst 0, 1) := by decide +kernel
theorem d_La_law_263 : decode c_La_law 263 = .ok (.ireturn, 1) := by decide +kernel
theorem d_La_law_264 : decode c_La_law 264 = .ok (.iload 5, 2) := by decide +kernel
theorem d_La_law_266 : decode c_La_law 266 = .ok (.ifCond .ne 15, 3) := by decide +kernel
theorem d_La_law_269 : decode c_La_law 269 = .ok (.aload_n 3, 1) := by decide +kernel
theorem d_La_law_270 : decode c_La_law 270 = .ok (.iconst 0, 1) := by decide +kernel
theorem d_La_law_271 : decode c_La_law 271 = .ok (.laload, 1) := by decide +kernel
theorem d_La_law_272 : decode c_La_law 272 = .ok (.iload 6, 2) := by decide +kernel
theorem d_La_law_274 : decode c_La_law 274 = .ok (.i2l, 1) := by decide +kernel
theorem d_La_law_275 : decode c_La_law 275 = .ok (.lcmp, 1) := by decide +kernel
theorem d_La_law_276 : decode c_La_law 276 = .ok (.ifCond .eq 5, 3) := by decide +kernel
theorem d_La_law_279 : decode c_La_law 279 = .ok (.iconst 0, 1) := by decide +kernel
theorem d_La_law_280 : decode c_La_law 280 = .ok (.ireturn, 1) := by decide +kernel
theorem d_La_law_281 : decode c_La_law 281 = .ok (.goto 956, 3) := by decide +kernel
theorem d_La_law_284 : decode c_La_law 284 = .ok (.aload_n 1, 1) := by decide +kernel
theorem d_La_law_285 : decode c_La_law 285 = .ok (.aload_n 0, 1) := by decide +kernel
theorem d_La_law_286 : decode c_La_law 286 = .ok (.iload 4, 2) := by decide +kernel
theorem d_La_law_288 : decode c_La_law 288 = .ok (.iconst 1, 1) := by decide +kernel
theorem d_La_law_289 : decode c_La_law 289 = .ok (.iadd, 1) := by decide +kernel
theorem d_La_law_290 : decode c_La_law 290 = .ok (.iaload, 1) := by decide +kernel
theorem d_La_law_291 : decode c_La_law 291 = .ok (.aload_n 3, 1) := by decide +kernel
theorem d_La_law_292 : decode c_La_law 292 = .ok (.invokestatic 88, 3) := by decide +kernel
theorem d_La_law_295 : decode c_La_law 295 = .ok (.istore 5, 2) := by decide +kernel
theorem d_La_law_297 : decode c_La_law 297 = .ok (.aload_n 2, 1) := by decide +kernel
theorem d_La_law_298 : decode c_La_law 298 = .ok (.aload_n 0, 1) := by decide +kernel
theorem d_La_law_299 : decode c_La_law 299 = .ok (.iload 4, 2) := by decide +kernel
theorem d_La_law_301 : decode c_La_law 301 = .ok (.iconst 1, 1) := by decide +kernel
theorem d_La_law_302 : decode c_La_law 302 = .ok (.iadd, 1) := by decide +kernel
theorem d_La_law_303 : decode c_La_law 303 = .ok (.iaload, 1) := by decide +kernel
theorem d_La_law_304 : decode c_La_law 304 = .ok (.invokevirtual 90, 3) := by decide +kernel
theorem d_La_law_307 : decode c_La_law 307 = .ok (.istore 6, 2) := by decide +kernel
theorem d_La_law_309 : decode c_La_law 309 = .ok (.aload_n 2, 1) := by decide +kernel
theorem d_La_law_310 : decode c_La_law 310 = .ok (.invokevirtual 78, 3) := by decide +kernel
theorem d_La_law_313 : decode c_La_law 313 = .ok (.iload 5, 2) := by decide +kernel
theorem d_La_law_315 : decode c_La_law 315 = .ok (.if_icmp .eq 5, 3) := by decide +kernel
theorem d_La_law_318 : decode c_La_law 318 = .ok (.iconst 0, 1) := by decide +kernel
theorem d_La_law_319 : decode c_La_law 319 = .ok (.ireturn, 1) := by decide +kernel
theorem d_La_law_320 : decode c_La_law 320 = .ok (.iload 5, 2) := by decide +kernel
theorem d_La_law_322 : decode c_La_law 322 = .ok (.ifCond .ne 15, 3) := by decide +kernel
theorem d_La_law_325 : decode c_La_law 325 = .ok (.aload_n 3, 1) := by decide +kernel
theorem d_La_law_326 : decode c_La_law 326 = .ok (.iconst 0, 1) := by decide +kernel
theorem d_La_law_327 : decode c_La_law 327 = .ok (.laload, 1) := by decide +kernel
theorem d_La_law_328 : decode c_La_law 328 = .ok (.iload 6, 2) := by decide +kernel
theorem d_La_law_330 : decode c_La_law 330 = .ok (.i2l, 1) := by decide +kernel
theorem d_La_law_331 : decode c_La_law 331 = .ok (.lcmp, 1) := by decide +kernel
theorem d_La_law_332 : decode c_La_law 332 = .ok (.ifCond .eq 5, 3) := by decide +kernel
theorem d_La_law_335 : decode c_La_law 335 = .ok (.iconst 0, 1) := by decide +kernel
theorem d_La_law_336 : decode c_La_law 336 = .ok (.ireturn, 1) := by decide +kernel
theorem d_La_law_337 : decode c_La_law 337 = .ok (.goto 900, 3) := by decide +kernel
theorem d_La_law_340 : decode c_La_law 340 = .ok (.aload_n 1, 1) := by decide +kernel
theorem d_La_law_341 : decode c_La_law 341 = .ok (.aload_n 0, 1) := by decide +kernel
theorem d_La_law_342 : decode c_La_law 342 = .ok (.iload 4, 2) := by decide +kernel
theorem d_La_law_344 : decode c_La_law 344 = .ok (.iconst 1, 1) := by decide +kernel
theorem d_La_law_345 : decode c_La_law 345 = .ok (.iadd, 1) := by decide +kernel
theorem d_La_law_346 : decode c_La_law 346 = .ok (.iaload, 1) := by decide +kernel
theorem d_La_law_347 : decode c_La_law 347 = .ok (.aload_n 0, 1) := by decide +kernel
theorem d_La_law_348 : decode c_La_law 348 = .ok (.iload 4, 2) := by decide +kernel
theorem d_La_law_350 : decode c_La_law 350 = .ok (.iconst 2, 1) := by decide +kernel
theorem d_La_law_351 : decode c_La_law 351 = .ok (.iadd, 1) := by decide +kernel
theorem d_La_law_352 : decode c_La_law 352 = .ok (.iaload, 1) := by decide +kernel
theorem d_La_law_353 : decode c_La_law 353 = .ok (.aload_n 0, 1) := by decide +kernel
theorem d_La_law_354 : decode c_La_law 354 = .ok (.iload 4, 2) := by decide +kernel
theorem d_La_law_356 : decode c_La_law 356 = .ok (.iconst 3, 1) := by decide +kernel
theorem d_La_law_357 : decode c_La_law 357 = .ok (.iadd, 1) := by decide +kernel
theorem d_La_law_358 : decode c_La_law 358 = .ok (.iaload, 1) := by decide +kernel
theorem d_La_law_359 : decode c_La_law 359 = .ok (.aload_n 0, 1) := by decide +kernel
theorem d_La_law_360 : decode c_La_law 360 = .ok (.iload 4, 2) := by decide +kernel
theorem d_La_law_362 : decode c_La_law 362 = .ok (.iconst 4, 1) := by decide +kernel
theorem d_La_law_363 : decode c_La_law 363 = .ok (.iadd, 1) := by decide +kernel
theorem d_La_law_364 : decode c_La_law 364 = .ok (.iaload, 1) := by decide +kernel
theorem d_La_law_365 : decode c_La_law 365 = .ok (.aload_n 3, 1) := by decide +kernel
theorem d_La_law_366 : decode c_La_law 366 = .ok (.invokestatic 91, 3) := by decide +kernel
theorem d_La_law_369 : decode c_La_law 369 = .ok (.istore 5, 2) := by decide +kernel
theorem d_La_law_371 : decode c_La_law 371 = .ok (.aload_n 2, 1) := by decide +kernel
theorem d_La_law_372 : decode c_La_law 372 = .ok (.aload_n 0, 1) := by decide +kernel
theorem d_La_law_373 : decode c_La_law 373 = .ok (.iload 4, 2) := by decide +kernel
theorem d_La_law_375 : decode c_La_law 375 = .ok (.iconst 1, 1) := by decide +kernel
theorem d_La_law_376 : decode c_La_law 376 = .ok (.iadd, 1) := by decide +kernel
theorem d_La_law_377 : decode c_La_law 377 = .ok (.iaload, 1) := by decide +kernel
theorem d_La_law_378 : decode c_La_law 378 = .ok (.aload_n 0, 1) := by decide +kernel
theorem d_La_law_379 : decode c_La_law 379 = .ok (.iload 4, 2) := by decide +kernel
theorem d_La_law_381 : decode c_La_law 381 = .ok (.iconst 2, 1) := by decide +kernel
theorem d_La_law_382 : decode c_La_law 382 = .ok (.iadd, 1) := by decide +kernel
theorem d_La_law_383 : decode c_La_law 383 = .ok (.iaload, 1) := by decide +kernel
theorem d_La_law_384 : decode c_La_law 384 = .ok (.aload_n 0, 1) := by decide +kernel
theorem d_La_law_385 : decode c_La_law 385 = .ok (.iload 4, 2) := by decide +kernel
theorem d_La_law_387 : decode c_La_law 387 = .ok (.iconst 3, 1) := by decide +kernel
theorem d_La_law_388 : decode c_La_law 388 = .ok (.iadd, 1) := by decide +kernel
theorem d_La_law_389 : decode c_La_law 389 = .ok (.iaload, 1) := by decide +kernel
theorem d_La_law_390 : decode c_La_law 390 = .ok (.aload_n 0, 1) := by decide +kernel
theorem d_La_law_391 : decode c_La_law 391 = .ok (.iload 4, 2) := by decide +kernel
theorem d_La_law_393 : decode c_La_law 393 = .ok (.iconst 4, 1) := by decide +kernel
theorem d_La_law_394 : decode c_La_law 394 = .ok (.iadd, 1) := by decide +kernel
theorem d_La_law_395 : decode c_La_law 395 = .ok (.iaload, 1) := by decide +kernel
theorem d_La_law_396 : decode c_La_law 396 = .ok (.invokevirtual 94, 3) := by decide +kernel
theorem d_La_law_399 : decode c_La_law 399 = .ok (.istore 6, 2) := by decide +kernel
theorem d_La_law_401 : decode c_La_law 401 = .ok (.aload_n 2, 1) := by decide +kernel
theorem d_La_law_402 : decode c_La_law 402 = .ok (.invokevirtual 78, 3) := by decide +kernel
theorem d_La_law_405 : decode c_La_law 405 = .ok (.iload 5, 2) := by decide +kernel
theorem d_La_law_407 : decode c_La_law 407 = .ok (.if_icmp .eq 5, 3) := by decide +kernel
theorem d_La_law_410 : decode c_La_law 410 = .ok (.iconst 0, 1) := by decide +kernel
theorem d_La_law_411 : decode c_La_law 411 = .ok (.ireturn, 1) := by decide +kernel
theorem d_La_law_412 : decode c_La_law 412 = .ok (.iload 5, 2) := by decide +kernel
theorem d_La_law_414 : decode c_La_law 414 = .ok (.ifCond .ne 15, 3) := by decide +kernel
theorem d_La_law_417 : decode c_La_law 417 = .ok (.aload_n 3, 1) := by decide +kernel
theorem d_La_law_418 : decode c_La_law 418 = .ok (.iconst 0, 1) := by decide +kernel
theorem d_La_law_419 : decode c_La_law 419 = .ok (.laload, 1) := by decide +kernel
theorem d_La_law_420 : decode c_La_law 420 = .ok (.iload 6, 2) := by decide +kernel
theorem d_La_law_422 : decode c_La_law 422 = .ok (.i2l, 1) := by decide +kernel
theorem d_La_law_423 : decode c_La_law 423 = .ok (.lcmp, 1) := by decide +kernel
theorem d_La_law_424 : decode c_La_law 424 = .ok (.ifCond .eq 5, 3) := by decide +kernel
theorem d_La_law_427 : decode c_La_law 427 = .ok (.iconst 0, 1) := by decide +kernel
theorem d_La_law_428 : decode c_La_law 428 = .ok (.ireturn, 1) := by decide +kernel
theorem d_La_law_429 : decode c_La_law 429 = .ok (.goto 808, 3) := by decide +kernel
theorem d_La_law_432 : decode c_La_law 432 = .ok (.aload_n 1, 1) := by decide +kernel
theorem d_La_law_433 : decode c_La_law 433 = .ok (.aload_n 0, 1) := by decide +kernel
theorem d_La_law_434 : decode c_La_law 434 = .ok (.iload 4, 2) := by decide +kernel
theorem d_La_law_436 : decode c_La_law 436 = .ok (.iconst 1, 1) := by decide +kernel
theorem d_La_law_437 : decode c_La_law 437 = .ok (.iadd, 1) := by decide +kernel
theorem d_La_law_438 : decode c_La_law 438 = .ok (.iaload, 1) := by decide +kernel
theorem d_La_law_439 : decode c_La_law 439 = .ok (.aload_n 0, 1) := by decide +kernel
theorem d_La_law_440 : decode c_La_law 440 = .ok (.iload 4, 2) := by decide +kernel
theorem d_La_law_442 : decode c_La_law 442 = .ok (.iconst 2, 1) := by decide +kernel
theorem d_La_law_443 : decode c_La_law 443 = .ok (.iadd, 1) := by decide +kernel
theorem d_La_law_444 : decode c_La_law 444 = .ok (.iaload, 1) := by decide +kernel
theorem d_La_law_445 : decode c_La_law 445 = .ok (.aload_n 0, 1) := by decide +kernel
theorem d_La_law_446 : decode c_La_law 446 = .ok (.iload 4, 2) := by decide +kernel
theorem d_La_law_448 : decode c_La_law 448 = .ok (.iconst 3, 1) := by decide +kernel
theorem d_La_law_449 : decode c_La_law 449 = .ok (.iadd, 1) := by decide +kernel
theorem d_La_law_450 : decode c_La_law 450 = .ok (.iaload, 1) := by decide +kernel
theorem d_La_law_451 : decode c_La_law 451 = .ok (.aload_n 0, 1) := by decide +kernel
theorem d_La_law_452 : decode c_La_law 452 = .ok (.iload 4, 2) := by decide +kernel
theorem d_La_law_454 : decode c_La_law 454 = .ok (.iconst 4, 1) := by decide +kernel
theorem d_La_law_455 : decode c_La_law 455 = .ok (.iadd, 1) := by decide +kernel
theorem d_La_law_456 : decode c_La_law 456 = .ok (.iaload, 1) := by decide +kernel
theorem d_La_law_457 : decode c_La_law 457 = .ok (.aload_n 0, 1) := by decide +kernel
theorem d_La_law_458 : decode c_La_law 458 = .ok (.iload 4, 2) := by decide +kernel
theorem d_La_law_460 : decode c_La_law 460 = .ok (.iconst 5, 1) := by decide +kernel
theorem d_La_law_461 : decode c_La_law 461 = .ok (.iadd, 1) := by decide +kernel
theorem d_La_law_462 : decode c_La_law 462 = .ok (.iaload, 1) := by decide +kernel
theorem d_La_law_463 : decode c_La_law 463 = .ok (.aload_n 3, 1) := by decide +kernel
theorem d_La_law_464 : decode c_La_law 464 = .ok (.invokestatic 95, 3) := by decide +kernel
theorem d_La_law_467 : decode c_La_law 467 = .ok (.istore 5, 2) := by decide +kernel
theorem d_La_law_469 : decode c_La_law 469 = .ok (.aload_n 2, 1) := by decide +kernel
theorem d_La_law_470 : decode c_La_law 470 = .ok (.aload_n 0, 1) := by decide +kernel
theorem d_La_law_471 : decode c_La_law 471 = .ok (.iload 4, 2) := by decide +kernel
theorem d_La_law_473 : decode c_La_law 473 = .ok (.iconst 1, 1) := by decide +kernel
theorem d_La_law_474 : decode c_La_law 474 = .ok (.iadd, 1) := by decide +kernel
theorem d_La_law_475 : decode c_La_law 475 = .ok (.iaload, 1) := by decide +kernel
theorem d_La_law_476 : decode c_La_law 476 = .ok (.aload_n 0, 1) := by decide +kernel
theorem d_La_law_477 : decode c_La_law 477 = .ok (.iload 4, 2) := by decide +kernel
theorem d_La_law_479 : decode c_La_law 479 = .ok (.iconst 2, 1) := by decide +kernel
theorem d_La_law_480 : decode c_La_law 480 = .ok (.iadd, 1) := by decide +kernel
theorem d_La_law_481 : decode c_La_law 481 = .ok (.iaload, 1) := by decide +kernel
theorem d_La_law_482 : decode c_La_law 482 = .ok (.aload_n 0, 1) := by decide +kernel
theorem d_La_law_483 : decode c_La_law 483 = .ok (.iload 4, 2) := by decide +kernel
theorem d_La_law_485 : decode c_La_law 485 = .ok (.iconst 3, 1) := by decide +kernel
theorem d_La_law_486 : decode c_La_law 486 = .ok (.iadd, 1) := by decide +kernel
theorem d_La_law_487 : decode c_La_law 487 = .ok (.iaload, 1) := by decide +kernel
theorem d_La_law_488 : decode c_La_law 488 = .ok (.aload_n 0, 1) := by decide +kernel
theorem d_La_law_489 : decode c_La_law 489 = .ok (.iload 4, 2) := by decide +kernel
theorem d_La_law_491 : decode c_La_law 491 = .ok (.iconst 4, 1) := by decide +kernel
theorem d_La_law_492 : decode c_La_law 492 = .ok (.iadd, 1) := by decide +kernel
theorem d_La_law_493 : decode c_La_law 493 = .ok (.iaload, 1) := by decide +kernel
theorem d_La_law_494 : decode c_La_law 494 = .ok (.aload_n 0, 1) := by decide +kernel
theorem d_La_law_495 : decode c_La_law 495 = .ok (.iload 4, 2) := by decide +kernel
theorem d_La_law_497 : decode c_La_law 497 = .ok (.iconst 5, 1) := by decide +kernel
theorem d_La_law_498 : decode c_La_law 498 = .ok (.iadd, 1) := by decide +kernel
theorem d_La_law_499 : decode c_La_law 499 = .ok (.iaload, 1) := by decide +kernel
theorem d_La_law_500 : decode c_La_law 500 = .ok (.invokevirtual 98, 3) := by decide +kernel
theorem d_La_law_503 : decode c_La_law 503 = .ok (.istore 6, 2) := by decide +kernel
theorem d_La_law_505 : decode c_La_law 505 = .ok (.aload_n 2, 1) := by decide +kernel
theorem d_La_law_506 : decode c_La_law 506 = .ok (.invokevirtual 78, 3) := by decide +kernel
theorem d_La_law_509 : decode c_La_law 509 = .ok (.iload 5, 2) := by decide +kernel
theorem d_La_law_511 : decode c_La_law 511 = .ok (.if_icmp .eq 5, 3) := by decide +kernel
theorem d_La_law_514 : decode c_La_law 514 = .ok (.iconst 0, 1) := by decide +kernel
theorem d_La_law_515 : decode c_La_law 515 = .ok (.ireturn, 1) := by decide +kernel
theorem d_La_law_516 : decode c_La_law 516 = .ok (.iload 5, 2) := by decide +kernel
theorem d_La_law_518 : decode c_La_law 518 = .ok (.ifCond .ne 15, 3) := by decide +kernel
theorem d_La_law_521 : decode c_La_law 521 = .ok (.aload_n 3, 1) := by decide +kernel
theorem d_La_law_522 : decode c_La_law 522 = .ok (.iconst 0, 1) := by decide +kernel
theorem d_La_law_523 : decode c_La_law 523 = .ok (.laload, 1) := by decide +kernel
theorem d_La_law_524 : decode c_La_law 524 = .ok (.iload 6, 2) := by decide +kernel
theorem d_La_law_526 : decode c_La_law 526 = .ok (.i2l, 1) := by decide +kernel
theorem d_La_law_527 : decode c_La_law 527 = .ok (.lcmp, 1) := by decide +kernel
theorem d_La_law_528 : decode c_La_law 528 = .ok (.ifCond .eq 5, 3) := by decide +kernel
theorem d_La_law_531 : decode c_La_law 531 = .ok (.iconst 0, 1) := by decide +kernel
theorem d_La_law_532 : decode c_La_law 532 = .ok (.ireturn, 1) := by decide +kernel
theorem d_La_law_533 : decode c_La_law 533 = .ok (.goto 704, 3) := by decide +kernel
theorem d_La_law_536 : decode c_La_law 536 = .ok (.aload_n 1, 1) := by decide +kernel
theorem d_La_law_537 : decode c_La_law 537 = .ok (.aload_n 0, 1) := by decide +kernel
theorem d_La_law_538 : decode c_La_law 538 = .ok (.iload 4, 2) := by decide +kernel
theorem d_La_law_540 : decode c_La_law 540 = .ok (.iconst 1, 1) := by decide +kernel
theorem d_La_law_541 : decode c_La_law 541 = .ok (.iadd, 1) := by decide +kernel
theorem d_La_law_542 : decode c_La_law 542 = .ok (.iaload, 1) := by decide +kernel
theorem d_La_law_543 : decode c_La_law 543 = .ok (.aload_n 0, 1) := by decide +kernel
theorem d_La_law_544 : decode c_La_law 544 = .ok (.iload 4, 2) := by decide +kernel
theorem d_La_law_546 : decode c_La_law 546 = .ok (.iconst 2, 1) := by decide +kernel
theorem d_La_law_547 : decode c_La_law 547 = .ok (.iadd, 1) := by decide +kernel
theorem d_La_law_548 : decode c_La_law 548 = .ok (.iaload, 1) := by decide +kernel
theorem d_La_law_549 : decode c_La_law 549 = .ok (.ifCond .eq 7, 3) := by decide +kernel
theorem d_La_law_552 : decode c_La_law 552 = .ok (.iconst 1, 1) := by decide +kernel
theorem d_La_law_553 : decode c_La_law 553 = .ok (.goto 4, 3) := by decide +kernel
theorem d_La_law_556 : decode c_La_law 556 = .ok (.iconst 0, 1) := by decide +kernel
theorem d_La_law_557 : decode c_La_law 557 = .ok (.invokestatic 99, 3) := by decide +kernel
theorem d_La_law_560 : decode c_La_law 560 = .ok (.istore 5, 2) := by decide +kernel
theorem d_La_law_562 : decode c_La_law 562 = .ok (.aload_n 2, 1) := by decide +kernel
theorem d_La_law_563 : decode c_La_law 563 = .ok (.aload_n 0, 1) := by decide +kernel
theorem d_La_law_564 : decode c_La_law 564 = .ok (.iload 4, 2) := by decide +kernel
theorem d_La_law_566 : decode c_La_law 566 = .ok (.iconst 1, 1) := by decide +kernel
theorem d_La_law_567 : decode c_La_law 567 = .ok (.iadd, 1) := by decide +kernel
theorem d_La_law_568 : decode c_La_law 568 = .ok (.iaload, 1) := by decide +kernel
theorem d_La_law_569 : decode c_La_law 569 = .ok (.aload_n 0, 1) := by decide +kernel
theorem d_La_law_570 : decode c_La_law 570 = .ok (.iload 4, 2) := by decide +kernel
theorem d_La_law_572 : decode c_La_law 572 = .ok (.iconst 2, 1) := by decide +kernel
theorem d_La_law_573 : decode c_La_law 573 = .ok (.iadd, 1) := by decide +kernel
theorem d_La_law_574 : decode c_La_law 574 = .ok (.iaload, 1) := by decide +kernel
theorem d_La_law_575 : decode c_La_law 575 = .ok (.ifCond .eq 7, 3) := by decide +kernel
theorem d_La_law_578 : decode c_La_law 578 = .ok (.iconst 1, 1) := by decide +kernel
theorem d_La_law_579 : decode c_La_law 579 = .ok (.goto 4, 3) := by decide +kernel
theorem d_La_law_582 : decode c_La_law 582 = .ok (.iconst 0, 1) := by decide +kernel
theorem d_La_law_583 : decode c_La_law 583 = .ok (.invokevirtual 102, 3) := by decide +kernel
theorem d_La_law_586 : decode c_La_law 586 = .ok (.aload_n 2, 1) := by decide +kernel
theorem d_La_law_587 : decode c_La_law 587 = .ok (.invokevirtual 78, 3) := by decide +kernel
theorem d_La_law_590 : decode c_La_law 590 = .ok (.iload 5, 2) := by decide +kernel
theorem d_La_law_592 : decode c_La_law 592 = .ok (.if_icmp .eq 5, 3) := by decide +kernel
theorem d_La_law_595 : decode c_La_law 595 = .ok (.iconst 0, 1) := by decide +kernel
theorem d_La_law_596 : decode c_La_law 596 = .ok (.ireturn, 1) := by decide +kernel
theorem d_La_law_597 : decode c_La_law 597 = .ok (.goto 640, 3) := by decide +kernel
theorem d_La_law_600 : decode c_La_law 600 = .ok (.aload_n 1, 1) := by decide +kernel
theorem d_La_law_601 : decode c_La_law 601 = .ok (.aload_n 0, 1) := by decide +kernel
theorem d_La_law_602 : decode c_La_law 602 = .ok (.iload 4, 2) := by decide +kernel
theorem d_La_law_604 : decode c_La_law 604 = .ok (.iconst 1, 1) := by decide +kernel
theorem d_La_law_605 : decode c_La_law 605 = .ok (.iadd, 1) := by decide +kernel
theorem d_La_law_606 : decode c_La_law 606 = .ok (.iaload, 1) := by decide +kernel
theorem d_La_law_607 : decode c_La_law 607 = .ok (.aload_n 0, 1) := by decide +kernel
theorem d_La_law_608 : decode c_La_law 608 = .ok (.iload 4, 2) := by decide +kernel
theorem d_La_law_610 : decode c_La_law 610 = .ok (.iconst 2, 1) := by decide +kernel
theorem d_La_law_611 : decode c_La_law 611 = .ok (.iadd, 1) := by decide +kernel
theorem d_La_law_612 : decode c_La_law 612 = .ok (.iaload, 1) := by decide +kernel
theorem d_La_law_613 : decode c_La_law 613 = .ok (.aload_n 0, 1) := by decide +kernel
theorem d_La_law_614 : decode c_La_law 614 = .ok (.iload 4, 2) := by decide +kernel
theorem d_La_law_616 : decode c_La_law 616 = .ok (.iconst 3, 1) := by decide +kernel
theorem d_La_law_617 : decode c_La_law 617 = .ok (.iadd, 1) := by decide +kernel
theorem d_La_law_618 : decode c_La_law 618 = .ok (.iaload, 1) := by decide +kernel
theorem d_La_law_619 : decode c_La_law 619 = .ok (.i2l, 1) := by decide +kernel
theorem d_La_law_620 : decode c_La_law 620 = .ok (.bipush 32, 2) := by decide +kernel
theorem d_La_law_622 : decode c_La_law 622 = .ok (.lshl, 1) := by decide +kernel
theorem d_La_law_623 : decode c_La_law 623 = .ok (.aload_n 0, 1) := by decide +kernel
theorem d_La_law_624 : decode c_La_law 624 = .ok (.iload 4, 2) := by decide +kernel
theorem d_La_law_626 : decode c_La_law 626 = .ok (.iconst 4, 1) := by decide +kernel
theorem d_La_law_627 : decode c_La_law 627 = .ok (.iadd, 1) := by decide +kernel
theorem d_La_law_628 : decode c_La_law 628 = .ok (.iaload, 1) := by decide +kernel
theorem d_La_law_629 : decode c_La_law 629 = .ok (.i2l, 1) := by decide +kernel
theorem d_La_law_630 : decode c_La_law 630 = .ok (.ldc2_w 82, 3) := by decide +kernel
theorem d_La_law_633 : decode c_La_law 633 = .ok (.land, 1) := by decide +kernel
theorem d_La_law_634 : decode c_La_law 634 = .ok (.lor, 1) := by decide +kernel
theorem d_La_law_635 : decode c_La_law 635 = .ok (.aload_n 0, 1) := by decide +kernel
theorem d_La_law_636 : decode c_La_law 636 = .ok (.iload 4, 2) := by decide +kernel
theorem d_La_law_638 : decode c_La_law 638 = .ok (.iconst 5, 1) := by decide +kernel
theorem d_La_law_639 : decode c_La_law 639 = .ok (.iadd, 1) := by decide +kernel
theorem d_La_law_640 : decode c_La_law 640 = .ok (.iaload, 1) := by decide +kernel
theorem d_La_law_641 : decode c_La_law 641 = .ok (.aload_n 3, 1) := by decide +kernel
theorem d_La_law_642 : decode c_La_law 642 = .ok (.invokestatic 103, 3) := by decide +kernel
theorem d_La_law_645 : decode c_La_law 645 = .ok (.istore 5, 2) := by decide +kernel
theorem d_La_law_647 : decode c_La_law 647 = .ok (.aload_n 2, 1) := by decide +kernel
theorem d_La_law_648 : decode c_La_law 648 = .ok (.aload_n 0, 1) := by decide +kernel
theorem d_La_law_649 : decode c_La_law 649 = .ok (.iload 4, 2) := by decide +kernel
theorem d_La_law_651 : decode c_La_law 651 = .ok (.iconst 1, 1) := by decide +kernel
theorem d_La_law_652 : decode c_La_law 652 = .ok (.iadd, 1) := by decide +kernel
theorem d_La_law_653 : decode c_La_law 653 = .ok (.iaload, 1) := by decide +kernel
theorem d_La_law_654 : decode c_La_law 654 = .ok (.aload_n 0, 1) := by decide +kernel
theorem d_La_law_655 : decode c_La_law 655 = .ok (.iload 4, 2) := by decide +kernel
theorem d_La_law_657 : decode c_La_law 657 = .ok (.iconst 2, 1) := by decide +kernel
theorem d_La_law_658 : decode c_La_law 658 = .ok (.iadd, 1) := by decide +kernel
theorem d_La_law_659 : decode c_La_law 659 = .ok (.iaload, 1) := by decide +kernel
