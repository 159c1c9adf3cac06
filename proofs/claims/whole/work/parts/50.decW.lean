/-! decode rows of the law (printed by my own program) -/
theorem d_W_0 : decode code 0 = .ok (.new 8, 3) := by decide +kernel
theorem d_W_3 : decode code 3 = .ok (.dup, 1) := by decide +kernel
theorem d_W_4 : decode code 4 = .ok (.invokespecial 30, 3) := by decide +kernel
theorem d_W_7 : decode code 7 = .ok (.astore_n 1, 1) := by decide +kernel
theorem d_W_8 : decode code 8 = .ok (.new 31, 3) := by decide +kernel
theorem d_W_11 : decode code 11 = .ok (.dup, 1) := by decide +kernel
theorem d_W_12 : decode code 12 = .ok (.invokespecial 33, 3) := by decide +kernel
theorem d_W_15 : decode code 15 = .ok (.astore_n 2, 1) := by decide +kernel
theorem d_W_16 : decode code 16 = .ok (.iconst 1, 1) := by decide +kernel
theorem d_W_17 : decode code 17 = .ok (.newarray .long, 2) := by decide +kernel
theorem d_W_19 : decode code 19 = .ok (.astore_n 3, 1) := by decide +kernel
theorem d_W_20 : decode code 20 = .ok (.iconst 0, 1) := by decide +kernel
theorem d_W_21 : decode code 21 = .ok (.istore 4, 2) := by decide +kernel
theorem d_W_23 : decode code 23 = .ok (.iload 4, 2) := by decide +kernel
theorem d_W_25 : decode code 25 = .ok (.aload_n 0, 1) := by decide +kernel
theorem d_W_26 : decode code 26 = .ok (.arraylength, 1) := by decide +kernel
theorem d_W_27 : decode code 27 = .ok (.iconst 3, 1) := by decide +kernel
theorem d_W_28 : decode code 28 = .ok (.isub, 1) := by decide +kernel
theorem d_W_29 : decode code 29 = .ok (.if_icmp .gt 398, 3) := by decide +kernel
theorem d_W_32 : decode code 32 = .ok (.aload_n 0, 1) := by decide +kernel
theorem d_W_33 : decode code 33 = .ok (.iload 4, 2) := by decide +kernel
theorem d_W_35 : decode code 35 = .ok (.iaload, 1) := by decide +kernel
theorem d_W_36 : decode code 36 = .ok (.bipush 7, 2) := by decide +kernel
theorem d_W_38 : decode code 38 = .ok (.iand, 1) := by decide +kernel
theorem d_W_39 : decode code 39 = .ok (.tableswitch 382 0 7 #[45, 82, 107, 120, 176, 267, 278, 334], 45) := by decide +kernel
theorem d_W_84 : decode code 84 = .ok (.aload_n 1, 1) := by decide +kernel
theorem d_W_85 : decode code 85 = .ok (.aload_n 0, 1) := by decide +kernel
theorem d_W_86 : decode code 86 = .ok (.iload 4, 2) := by decide +kernel
theorem d_W_88 : decode code 88 = .ok (.iconst 1, 1) := by decide +kernel
theorem d_W_89 : decode code 89 = .ok (.iadd, 1) := by decide +kernel
theorem d_W_90 : decode code 90 = .ok (.iaload, 1) := by decide +kernel
theorem d_W_91 : decode code 91 = .ok (.aload_n 0, 1) := by decide +kernel
theorem d_W_92 : decode code 92 = .ok (.iload 4, 2) := by decide +kernel
theorem d_W_94 : decode code 94 = .ok (.iconst 2, 1) := by decide +kernel
theorem d_W_95 : decode code 95 = .ok (.iadd, 1) := by decide +kernel
theorem d_W_96 : decode code 96 = .ok (.iaload, 1) := by decide +kernel
theorem d_W_97 : decode code 97 = .ok (.invokevirtual 34, 3) := by decide +kernel
theorem d_W_100 : decode code 100 = .ok (.aload_n 2, 1) := by decide +kernel
theorem d_W_101 : decode code 101 = .ok (.aload_n 0, 1) := by decide +kernel
theorem d_W_102 : decode code 102 = .ok (.iload 4, 2) := by decide +kernel
theorem d_W_104 : decode code 104 = .ok (.iconst 1, 1) := by decide +kernel
theorem d_W_105 : decode code 105 = .ok (.iadd, 1) := by decide +kernel
theorem d_W_106 : decode code 106 = .ok (.iaload, 1) := by decide +kernel
theorem d_W_107 : decode code 107 = .ok (.aload_n 0, 1) := by decide +kernel
theorem d_W_108 : decode code 108 = .ok (.iload 4, 2) := by decide +kernel
theorem d_W_110 : decode code 110 = .ok (.iconst 2, 1) := by decide +kernel
theorem d_W_111 : decode code 111 = .ok (.iadd, 1) := by decide +kernel
theorem d_W_112 : decode code 112 = .ok (.iaload, 1) := by decide +kernel
theorem d_W_113 : decode code 113 = .ok (.invokevirtual 38, 3) := by decide +kernel
theorem d_W_116 : decode code 116 = .ok (.if_icmp .eq 305, 3) := by decide +kernel
theorem d_W_119 : decode code 119 = .ok (.iconst 0, 1) := by decide +kernel
theorem d_W_120 : decode code 120 = .ok (.ireturn, 1) := by decide +kernel
theorem d_W_121 : decode code 121 = .ok (.aload_n 1, 1) := by decide +kernel
theorem d_W_122 : decode code 122 = .ok (.aload_n 0, 1) := by decide +kernel
theorem d_W_123 : decode code 123 = .ok (.iload 4, 2) := by decide +kernel
theorem d_W_125 : decode code 125 = .ok (.iconst 1, 1) := by decide +kernel
theorem d_W_126 : decode code 126 = .ok (.iadd, 1) := by decide +kernel
theorem d_W_127 : decode code 127 = .ok (.iaload, 1) := by decide +kernel
theorem d_W_128 : decode code 128 = .ok (.invokevirtual 39, 3) := by decide +kernel
theorem d_W_131 : decode code 131 = .ok (.aload_n 2, 1) := by decide +kernel
theorem d_W_132 : decode code 132 = .ok (.aload_n 0, 1) := by decide +kernel
theorem d_W_133 : decode code 133 = .ok (.iload 4, 2) := by decide +kernel
theorem d_W_135 : decode code 135 = .ok (.iconst 1, 1) := by decide +kernel
theorem d_W_136 : decode code 136 = .ok (.iadd, 1) := by decide +kernel
theorem d_W_137 : decode code 137 = .ok (.iaload, 1) := by decide +kernel
theorem d_W_138 : decode code 138 = .ok (.invokevirtual 42, 3) := by decide +kernel
theorem d_W_141 : decode code 141 = .ok (.if_icmp .eq 280, 3) := by decide +kernel
theorem d_W_144 : decode code 144 = .ok (.iconst 0, 1) := by decide +kernel
theorem d_W_145 : decode code 145 = .ok (.ireturn, 1) := by decide +kernel
theorem d_W_146 : decode code 146 = .ok (.aload_n 1, 1) := by decide +kernel
theorem d_W_147 : decode code 147 = .ok (.invokevirtual 43, 3) := by decide +kernel
theorem d_W_150 : decode code 150 = .ok (.aload_n 2, 1) := by decide +kernel
theorem d_W_151 : decode code 151 = .ok (.invokevirtual 47, 3) := by decide +kernel
theorem d_W_154 : decode code 154 = .ok (.if_icmp .eq 267, 3) := by decide +kernel
theorem d_W_157 : decode code 157 = .ok (.iconst 0, 1) := by decide +kernel
theorem d_W_158 : decode code 158 = .ok (.ireturn, 1) := by decide +kernel
theorem d_W_159 : decode code 159 = .ok (.aload_n 1, 1) := by decide +kernel
theorem d_W_160 : decode code 160 = .ok (.aload_n 0, 1) := by decide +kernel
theorem d_W_161 : decode code 161 = .ok (.iload 4, 2) := by decide +kernel
theorem d_W_163 : decode code 163 = .ok (.iconst 1, 1) := by decide +kernel
theorem d_W_164 : decode code 164 = .ok (.iadd, 1) := by decide +kernel
theorem d_W_165 : decode code 165 = .ok (.iaload, 1) := by decide +kernel
theorem d_W_166 : decode code 166 = .ok (.aload_n 3, 1) := by decide +kernel
theorem d_W_167 : decode code 167 = .ok (.invokestatic 48, 3) := by decide +kernel
theorem d_W_170 : decode code 170 = .ok (.istore 5, 2) := by decide +kernel
theorem d_W_172 : decode code 172 = .ok (.aload_n 2, 1) := by decide +kernel
theorem d_W_173 : decode code 173 = .ok (.aload_n 0, 1) := by decide +kernel
theorem d_W_174 : decode code 174 = .ok (.iload 4, 2) := by decide +kernel
theorem d_W_176 : decode code 176 = .ok (.iconst 1, 1) := by decide +kernel
theorem d_W_177 : decode code 177 = .ok (.iadd, 1) := by decide +kernel
theorem d_W_178 : decode code 178 = .ok (.iaload, 1) := by decide +kernel
theorem d_W_179 : decode code 179 = .ok (.invokevirtual 53, 3) := by decide +kernel
theorem d_W_182 : decode code 182 = .ok (.istore 6, 2) := by decide +kernel
theorem d_W_184 : decode code 184 = .ok (.aload_n 2, 1) := by decide +kernel
theorem d_W_185 : decode code 185 = .ok (.invokevirtual 54, 3) := by decide +kernel
theorem d_W_188 : decode code 188 = .ok (.iload 5, 2) := by decide +kernel
theorem d_W_190 : decode code 190 = .ok (.if_icmp .eq 5, 3) := by decide +kernel
theorem d_W_193 : decode code 193 = .ok (.iconst 0, 1) := by decide +kernel
theorem d_W_194 : decode code 194 = .ok (.ireturn, 1) := by decide +kernel
theorem d_W_195 : decode code 195 = .ok (.iload 5, 2) := by decide +kernel
theorem d_W_197 : decode code 197 = .ok (.ifCond .ne 15, 3) := by decide +kernel
theorem d_W_200 : decode code 200 = .ok (.aload_n 3, 1) := by decide +kernel
theorem d_W_201 : decode code 201 = .ok (.iconst 0, 1) := by decide +kernel
theorem d_W_202 : decode code 202 = .ok (.laload, 1) := by decide +kernel
theorem d_W_203 : decode code 203 = .ok (.iload 6, 2) := by decide +kernel
theorem d_W_205 : decode code 205 = .ok (.i2l, 1) := by decide +kernel
theorem d_W_206 : decode code 206 = .ok (.lcmp, 1) := by decide +kernel
theorem d_W_207 : decode code 207 = .ok (.ifCond .eq 5, 3) := by decide +kernel
theorem d_W_210 : decode code 210 = .ok (.iconst 0, 1) := by decide +kernel
theorem d_W_211 : decode code 211 = .ok (.ireturn, 1) := by decide +kernel
theorem d_W_212 : decode code 212 = .ok (.goto 209, 3) := by decide +kernel
theorem d_W_215 : decode code 215 = .ok (.aload_n 1, 1) := by decide +kernel
theorem d_W_216 : decode code 216 = .ok (.aload_n 0, 1) := by decide +kernel
theorem d_W_217 : decode code 217 = .ok (.iload 4, 2) := by decide +kernel
theorem d_W_219 : decode code 219 = .ok (.iconst 1, 1) := by decide +kernel
theorem d_W_220 : decode code 220 = .ok (.iadd, 1) := by decide +kernel
theorem d_W_221 : decode code 221 = .ok (.iaload, 1) := by decide +kernel
theorem d_W_222 : decode code 222 = .ok (.aload_n 0, 1) := by decide +kernel
theorem d_W_223 : decode code 223 = .ok (.iload 4, 2) := by decide +kernel
theorem d_W_225 : decode code 225 = .ok (.iconst 2, 1) := by decide +kernel
theorem d_W_226 : decode code 226 = .ok (.iadd, 1) := by decide +kernel
theorem d_W_227 : decode code 227 = .ok (.iaload, 1) := by decide +kernel
theorem d_W_228 : decode code 228 = .ok (.ifCond .eq 7, 3) := by decide +kernel
theorem d_W_231 : decode code 231 = .ok (.iconst 1, 1) := by decide +kernel
theorem d_W_232 : decode code 232 = .ok (.goto 4, 3) := by decide +kernel
theorem d_W_235 : decode code 235 = .ok (.iconst 0, 1) := by decide +kernel
theorem d_W_236 : decode code 236 = .ok (.aload_n 3, 1) := by decide +kernel
theorem d_W_237 : decode code 237 = .ok (.invokestatic 57, 3) := by decide +kernel
theorem d_W_240 : decode code 240 = .ok (.istore 5, 2) := by decide +kernel
theorem d_W_242 : decode code 242 = .ok (.aload_n 2, 1) := by decide +kernel
theorem d_W_243 : decode code 243 = .ok (.aload_n 0, 1) := by decide +kernel
theorem d_W_244 : decode code 244 = .ok (.iload 4, 2) := by decide +kernel
theorem d_W_246 : decode code 246 = .ok (.iconst 1, 1) := by decide +kernel
theorem d_W_247 : decode code 247 = .ok (.iadd, 1) := by decide +kernel
theorem d_W_248 : decode code 248 = .ok (.iaload, 1) := by decide +kernel
theorem d_W_249 : decode code 249 = .ok (.aload_n 0, 1) := by decide +kernel
theorem d_W_250 : decode code 250 = .ok (.iload 4, 2) := by decide +kernel
theorem d_W_252 : decode code 252 = .ok (.iconst 2, 1) := by decide +kernel
theorem d_W_253 : decode code 253 = .ok (.iadd, 1) := by decide +kernel
theorem d_W_254 : decode code 254 = .ok (.iaload, 1) := by decide +kernel
theorem d_W_255 : decode code 255 = .ok (.ifCond .eq 7, 3) := by decide +kernel
theorem d_W_258 : decode code 258 = .ok (.iconst 1, 1) := by decide +kernel
theorem d_W_259 : decode code 259 = .ok (.goto 4, 3) := by decide +kernel
theorem d_W_262 : decode code 262 = .ok (.iconst 0, 1) := by decide +kernel
theorem d_W_263 : decode code 263 = .ok (.invokevirtual 60, 3) := by decide +kernel
theorem d_W_266 : decode code 266 = .ok (.istore 6, 2) := by decide +kernel
theorem d_W_268 : decode code 268 = .ok (.aload_n 2, 1) := by decide +kernel
theorem d_W_269 : decode code 269 = .ok (.invokevirtual 54, 3) := by decide +kernel
theorem d_W_272 : decode code 272 = .ok (.iload 5, 2) := by decide +kernel
theorem d_W_274 : decode code 274 = .ok (.if_icmp .eq 5, 3) := by decide +kernel
theorem d_W_277 : decode code 277 = .ok (.iconst 0, 1) := by decide +kernel
theorem d_W_278 : decode code 278 = .ok (.ireturn, 1) := by decide +kernel
theorem d_W_279 : decode code 279 = .ok (.iload 5, 2) := by decide +kernel
theorem d_W_281 : decode code 281 = .ok (.ifCond .ne 22, 3) := by decide +kernel
theorem d_W_284 : decode code 284 = .ok (.aload_n 3, 1) := by decide +kernel
theorem d_W_285 : decode code 285 = .ok (.iconst 0, 1) := by decide +kernel
theorem d_W_286 : decode code 286 = .ok (.laload, 1) := by decide +kernel
theorem d_W_287 : decode code 287 = .ok (.iload 6, 2) := by decide +kernel
theorem d_W_289 : decode code 289 = .ok (.ifCond .eq 7, 3) := by decide +kernel
theorem d_W_292 : decode code 292 = .ok (.lconst 1, 1) := by decide +kernel
theorem d_W_293 : decode code 293 = .ok (.goto 4, 3) := by decide +kernel
theorem d_W_296 : decode code 296 = .ok (.lconst 0, 1) := by decide +kernel
theorem d_W_297 : decode code 297 = .ok (.lcmp, 1) := by decide +kernel
theorem d_W_298 : decode code 298 = .ok (.ifCond .eq 5, 3) := by decide +kernel
theorem d_W_301 : decode code 301 = .ok (.iconst 0, 1) := by decide +kernel
theorem d_W_302 : decode code 302 = .ok (.ireturn, 1) := by decide +kernel
theorem d_W_303 : decode code 303 = .ok (.goto 118, 3) := by decide +kernel
theorem d_W_306 : decode code 306 = .ok (.aload_n 1, 1) := by decide +kernel
theorem d_W_307 : decode code 307 = .ok (.invokevirtual 61, 3) := by decide +kernel
theorem d_W_310 : decode code 310 = .ok (.aload_n 2, 1) := by decide +kernel
theorem d_W_311 : decode code 311 = .ok (.invokevirtual 64, 3) := by decide +kernel
theorem d_W_314 : decode code 314 = .ok (.goto 107, 3) := by decide +kernel
theorem d_W_317 : decode code 317 = .ok (.aload_n 1, 1) := by decide +kernel
theorem d_W_318 : decode code 318 = .ok (.aload_n 0, 1) := by decide +kernel
theorem d_W_319 : decode code 319 = .ok (.iload 4, 2) := by decide +kernel
theorem d_W_321 : decode code 321 = .ok (.iconst 1, 1) := by decide +kernel
theorem d_W_322 : decode code 322 = .ok (.iadd, 1) := by decide +kernel
theorem d_W_323 : decode code 323 = .ok (.iaload, 1) := by decide +kernel
theorem d_W_324 : decode code 324 = .ok (.aload_n 3, 1) := by decide +kernel
theorem d_W_325 : decode code 325 = .ok (.invokestatic 65, 3) := by decide +kernel
theorem d_W_328 : decode code 328 = .ok (.istore 5, 2) := by decide +kernel
theorem d_W_330 : decode code 330 = .ok (.aload_n 2, 1) := by decide +kernel
theorem d_W_331 : decode code 331 = .ok (.aload_n 0, 1) := by decide +kernel
theorem d_W_332 : decode code 332 = .ok (.iload 4, 2) := by decide +kernel
theorem d_W_334 : decode code 334 = .ok (.iconst 1, 1) := by decide +kernel
theorem d_W_335 : decode code 335 = .ok (.iadd, 1) := by decide +kernel
theorem d_W_336 : decode code 336 = .ok (.iaload, 1) := by decide +kernel
theorem d_W_337 : decode code 337 = .ok (.invokevirtual 67, 3) := by decide +kernel
theorem d_W_340 : decode code 340 = .ok (.istore 6, 2) := by decide +kernel
theorem d_W_342 : decode code 342 = .ok (.aload_n 2, 1) := by decide +kernel
theorem d_W_343 : decode code 343 = .ok (.invokevirtual 54, 3) := by decide +kernel
theorem d_W_346 : decode code 346 = .ok (.iload 5, 2) := by decide +kernel
theorem d_W_348 : decode code 348 = .ok (.if_icmp .eq 5, 3) := by decide +kernel
theorem d_W_351 : decode code 351 = .ok (.iconst 0, 1) := by decide +kernel
theorem d_W_352 : decode code 352 = .ok (.ireturn, 1) := by decide +kernel
theorem d_W_353 : decode code 353 = .ok (.iload 5, 2) := by decide +kernel
theorem d_W_355 : decode code 355 = .ok (.ifCond .ne 15, 3) := by decide +kernel
theorem d_W_358 : decode code 358 = .ok (.aload_n 3, 1) := by decide +kernel
theorem d_W_359 : decode code 359 = .ok (.iconst 0, 1) := by decide +kernel
theorem d_W_360 : decode code 360 = .ok (.laload, 1) := by decide +kernel
theorem d_W_361 : decode code 361 = .ok (.iload 6, 2) := by decide +kernel
theorem d_W_363 : decode code 363 = .ok (.i2l, 1) := by decide +kernel
theorem d_W_364 : decode code 364 = .ok (.lcmp, 1) := by decide +kernel
theorem d_W_365 : decode code 365 = .ok (.ifCond .eq 5, 3) := by decide +kernel
theorem d_W_368 : decode code 368 = .ok (.iconst 0, 1) := by decide +kernel
theorem d_W_369 : decode code 369 = .ok (.ireturn, 1) := by decide +kernel
theorem d_W_370 : decode code 370 = .ok (.goto 51, 3) := by decide +kernel
theorem d_W_373 : decode code 373 = .ok (.aload_n 1, 1) := by decide +kernel
theorem d_W_374 : decode code 374 = .ok (.aload_n 0, 1) := by decide +kernel
theorem d_W_375 : decode code 375 = .ok (.iload 4, 2) := by decide +kernel
theorem d_W_377 : decode code 377 = .ok (.iconst 1, 1) := by decide +kernel
theorem d_W_378 : decode code 378 = .ok (.iadd, 1) := by decide +kernel
theorem d_W_379 : decode code 379 = .ok (.iaload, 1) := by decide +kernel
theorem d_W_380 : decode code 380 = .ok (.aload_n 0, 1) := by decide +kernel
theorem d_W_381 : decode code 381 = .ok (.iload 4, 2) := by decide +kernel
theorem d_W_383 : decode code 383 = .ok (.iconst 2, 1) := by decide +kernel
theorem d_W_384 : decode code 384 = .ok (.iadd, 1) := by decide +kernel
theorem d_W_385 : decode code 385 = .ok (.iaload, 1) := by decide +kernel
theorem d_W_386 : decode code 386 = .ok (.invokestatic 68, 3) := by decide +kernel
theorem d_W_389 : decode code 389 = .ok (.istore 5, 2) := by decide +kernel
theorem d_W_391 : decode code 391 = .ok (.aload_n 2, 1) := by decide +kernel
theorem d_W_392 : decode code 392 = .ok (.aload_n 0, 1) := by decide +kernel
theorem d_W_393 : decode code 393 = .ok (.iload 4, 2) := by decide +kernel
theorem d_W_395 : decode code 395 = .ok (.iconst 1, 1) := by decide +kernel
theorem d_W_396 : decode code 396 = .ok (.iadd, 1) := by decide +kernel
theorem d_W_397 : decode code 397 = .ok (.iaload, 1) := by decide +kernel
theorem d_W_398 : decode code 398 = .ok (.aload_n 0, 1) := by decide +kernel
theorem d_W_399 : decode code 399 = .ok (.iload 4, 2) := by decide +kernel
theorem d_W_401 : decode code 401 = .ok (.iconst 2, 1) := by decide +kernel
theorem d_W_402 : decode code 402 = .ok (.iadd, 1) := by decide +kernel
theorem d_W_403 : decode code 403 = .ok (.iaload, 1) := by decide +kernel
theorem d_W_404 : decode code 404 = .ok (.invokevirtual 71, 3) := by decide +kernel
theorem d_W_407 : decode code 407 = .ok (.aload_n 2, 1) := by decide +kernel
theorem d_W_408 : decode code 408 = .ok (.invokevirtual 54, 3) := by decide +kernel
theorem d_W_411 : decode code 411 = .ok (.iload 5, 2) := by decide +kernel
theorem d_W_413 : decode code 413 = .ok (.if_icmp .eq 5, 3) := by decide +kernel
theorem d_W_416 : decode code 416 = .ok (.iconst 0, 1) := by decide +kernel
theorem d_W_417 : decode code 417 = .ok (.ireturn, 1) := by decide +kernel
theorem d_W_418 : decode code 418 = .ok (.goto 3, 3) := by decide +kernel
theorem d_W_421 : decode code 421 = .ok (.iinc 4 3, 3) := by decide +kernel
theorem d_W_424 : decode code 424 = .ok (.goto (-401), 3) := by decide +kernel
theorem d_W_427 : decode code 427 = .ok (.iconst 1, 1) := by decide +kernel
theorem d_W_428 : decode code 428 = .ok (.ireturn, 1) := by decide +kernel
