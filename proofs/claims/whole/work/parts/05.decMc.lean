/-! decode rows (printed by my own program) -/
theorem d_M_subtract_21 : decode c_M_subtract 21 = .ok (.iload_n 2, 1) := by decide +kernel
theorem d_M_subtract_22 : decode c_M_subtract 22 = .ok (.isub, 1) := by decide +kernel
theorem d_M_subtract_23 : decode c_M_subtract 23 = .ok (.istore_n 3, 1) := by decide +kernel
theorem d_M_subtract_24 : decode c_M_subtract 24 = .ok (.aload_n 0, 1) := by decide +kernel
theorem d_M_subtract_25 : decode c_M_subtract 25 = .ok (.getfield 186, 3) := by decide +kernel
theorem d_M_subtract_28 : decode c_M_subtract 28 = .ok (.iconst 4, 1) := by decide +kernel
theorem d_M_subtract_29 : decode c_M_subtract 29 = .ok (.ishr, 1) := by decide +kernel
theorem d_M_subtract_30 : decode c_M_subtract 30 = .ok (.iload_n 1, 1) := by decide +kernel
theorem d_M_subtract_31 : decode c_M_subtract 31 = .ok (.iconst 4, 1) := by decide +kernel
theorem d_M_subtract_32 : decode c_M_subtract 32 = .ok (.ishr, 1) := by decide +kernel
theorem d_M_subtract_33 : decode c_M_subtract 33 = .ok (.isub, 1) := by decide +kernel
theorem d_M_subtract_34 : decode c_M_subtract 34 = .ok (.iload_n 3, 1) := by decide +kernel
theorem d_M_subtract_35 : decode c_M_subtract 35 = .ok (.ifCond .ge 7, 3) := by decide +kernel
theorem d_M_subtract_38 : decode c_M_subtract 38 = .ok (.iconst 1, 1) := by decide +kernel
theorem d_M_subtract_39 : decode c_M_subtract 39 = .ok (.goto 4, 3) := by decide +kernel
theorem d_M_subtract_42 : decode c_M_subtract 42 = .ok (.iconst 0, 1) := by decide +kernel
theorem d_M_subtract_43 : decode c_M_subtract 43 = .ok (.isub, 1) := by decide +kernel
theorem d_M_subtract_44 : decode c_M_subtract 44 = .ok (.istore 4, 2) := by decide +kernel
theorem d_M_subtract_46 : decode c_M_subtract 46 = .ok (.iload_n 3, 1) := by decide +kernel
theorem d_M_subtract_47 : decode c_M_subtract 47 = .ok (.ifCond .ge 10, 3) := by decide +kernel
theorem d_M_subtract_50 : decode c_M_subtract 50 = .ok (.iload_n 3, 1) := by decide +kernel
theorem d_M_subtract_51 : decode c_M_subtract 51 = .ok (.bipush 6, 2) := by decide +kernel
theorem d_M_subtract_53 : decode c_M_subtract 53 = .ok (.isub, 1) := by decide +kernel
theorem d_M_subtract_54 : decode c_M_subtract 54 = .ok (.goto 4, 3) := by decide +kernel
theorem d_M_subtract_57 : decode c_M_subtract 57 = .ok (.iload_n 3, 1) := by decide +kernel
theorem d_M_subtract_58 : decode c_M_subtract 58 = .ok (.istore_n 3, 1) := by decide +kernel
theorem d_M_subtract_59 : decode c_M_subtract 59 = .ok (.iload 4, 2) := by decide +kernel
theorem d_M_subtract_61 : decode c_M_subtract 61 = .ok (.ifCond .ge 11, 3) := by decide +kernel
theorem d_M_subtract_64 : decode c_M_subtract 64 = .ok (.iload 4, 2) := by decide +kernel
theorem d_M_subtract_66 : decode c_M_subtract 66 = .ok (.bipush 6, 2) := by decide +kernel
theorem d_M_subtract_68 : decode c_M_subtract 68 = .ok (.isub, 1) := by decide +kernel
theorem d_M_subtract_69 : decode c_M_subtract 69 = .ok (.goto 5, 3) := by decide +kernel
theorem d_M_subtract_72 : decode c_M_subtract 72 = .ok (.iload 4, 2) := by decide +kernel
theorem d_M_subtract_74 : decode c_M_subtract 74 = .ok (.istore 4, 2) := by decide +kernel
theorem d_M_subtract_76 : decode c_M_subtract 76 = .ok (.aload_n 0, 1) := by decide +kernel
theorem d_M_subtract_77 : decode c_M_subtract 77 = .ok (.sipush 255, 3) := by decide +kernel
theorem d_M_subtract_80 : decode c_M_subtract 80 = .ok (.iload_n 1, 1) := by decide +kernel
theorem d_M_subtract_81 : decode c_M_subtract 81 = .ok (.isub, 1) := by decide +kernel
theorem d_M_subtract_82 : decode c_M_subtract 82 = .ok (.invokevirtual 226, 3) := by decide +kernel
theorem d_M_subtract_85 : decode c_M_subtract 85 = .ok (.istore 5, 2) := by decide +kernel
theorem d_M_subtract_87 : decode c_M_subtract 87 = .ok (.aload_n 0, 1) := by decide +kernel
theorem d_M_subtract_88 : decode c_M_subtract 88 = .ok (.bipush 8, 2) := by decide +kernel
theorem d_M_subtract_90 : decode c_M_subtract 90 = .ok (.invokevirtual 82, 3) := by decide +kernel
theorem d_M_subtract_93 : decode c_M_subtract 93 = .ok (.ifCond .eq 18, 3) := by decide +kernel
theorem d_M_subtract_96 : decode c_M_subtract 96 = .ok (.iload 4, 2) := by decide +kernel
theorem d_M_subtract_98 : decode c_M_subtract 98 = .ok (.bipush 15, 2) := by decide +kernel
theorem d_M_subtract_100 : decode c_M_subtract 100 = .ok (.iand, 1) := by decide +kernel
theorem d_M_subtract_101 : decode c_M_subtract 101 = .ok (.iconst 4, 1) := by decide +kernel
theorem d_M_subtract_102 : decode c_M_subtract 102 = .ok (.ishl, 1) := by decide +kernel
theorem d_M_subtract_103 : decode c_M_subtract 103 = .ok (.iload_n 3, 1) := by decide +kernel
theorem d_M_subtract_104 : decode c_M_subtract 104 = .ok (.bipush 15, 2) := by decide +kernel
theorem d_M_subtract_106 : decode c_M_subtract 106 = .ok (.iand, 1) := by decide +kernel
theorem d_M_subtract_107 : decode c_M_subtract 107 = .ok (.ior, 1) := by decide +kernel
theorem d_M_subtract_108 : decode c_M_subtract 108 = .ok (.goto 5, 3) := by decide +kernel
theorem d_M_subtract_111 : decode c_M_subtract 111 = .ok (.iload 5, 2) := by decide +kernel
theorem d_M_subtract_113 : decode c_M_subtract 113 = .ok (.ireturn, 1) := by decide +kernel
theorem d_M_changed_0 : decode c_M_changed 0 = .ok (.aload_n 0, 1) := by decide +kernel
theorem d_M_changed_1 : decode c_M_changed 1 = .ok (.getfield 49, 3) := by decide +kernel
theorem d_M_changed_4 : decode c_M_changed 4 = .ok (.bipush 10, 2) := by decide +kernel
theorem d_M_changed_6 : decode c_M_changed 6 = .ok (.if_icmp .ne 13, 3) := by decide +kernel
theorem d_M_changed_9 : decode c_M_changed 9 = .ok (.iload_n 1, 1) := by decide +kernel
theorem d_M_changed_10 : decode c_M_changed 10 = .ok (.iconst 1, 1) := by decide +kernel
theorem d_M_changed_11 : decode c_M_changed 11 = .ok (.iadd, 1) := by decide +kernel
theorem d_M_changed_12 : decode c_M_changed 12 = .ok (.sipush 255, 3) := by decide +kernel
theorem d_M_changed_15 : decode c_M_changed 15 = .ok (.iand, 1) := by decide +kernel
theorem d_M_changed_16 : decode c_M_changed 16 = .ok (.goto 44, 3) := by decide +kernel
theorem d_M_changed_19 : decode c_M_changed 19 = .ok (.aload_n 0, 1) := by decide +kernel
theorem d_M_changed_20 : decode c_M_changed 20 = .ok (.getfield 49, 3) := by decide +kernel
theorem d_M_changed_23 : decode c_M_changed 23 = .ok (.bipush 11, 2) := by decide +kernel
theorem d_M_changed_25 : decode c_M_changed 25 = .ok (.if_icmp .ne 13, 3) := by decide +kernel
theorem d_M_changed_28 : decode c_M_changed 28 = .ok (.iload_n 1, 1) := by decide +kernel
theorem d_M_changed_29 : decode c_M_changed 29 = .ok (.iconst 1, 1) := by decide +kernel
theorem d_M_changed_30 : decode c_M_changed 30 = .ok (.isub, 1) := by decide +kernel
theorem d_M_changed_31 : decode c_M_changed 31 = .ok (.sipush 255, 3) := by decide +kernel
theorem d_M_changed_34 : decode c_M_changed 34 = .ok (.iand, 1) := by decide +kernel
theorem d_M_changed_35 : decode c_M_changed 35 = .ok (.goto 25, 3) := by decide +kernel
theorem d_M_changed_38 : decode c_M_changed 38 = .ok (.aload_n 0, 1) := by decide +kernel
theorem d_M_changed_39 : decode c_M_changed 39 = .ok (.getfield 49, 3) := by decide +kernel
theorem d_M_changed_42 : decode c_M_changed 42 = .ok (.bipush 12, 2) := by decide +kernel
theorem d_M_changed_44 : decode c_M_changed 44 = .ok (.if_icmp .ne 13, 3) := by decide +kernel
theorem d_M_changed_47 : decode c_M_changed 47 = .ok (.iconst 2, 1) := by decide +kernel
theorem d_M_changed_48 : decode c_M_changed 48 = .ok (.iload_n 1, 1) := by decide +kernel
theorem d_M_changed_49 : decode c_M_changed 49 = .ok (.imul, 1) := by decide +kernel
theorem d_M_changed_50 : decode c_M_changed 50 = .ok (.sipush 255, 3) := by decide +kernel
theorem d_M_changed_53 : decode c_M_changed 53 = .ok (.iand, 1) := by decide +kernel
theorem d_M_changed_54 : decode c_M_changed 54 = .ok (.goto 6, 3) := by decide +kernel
theorem d_M_changed_57 : decode c_M_changed 57 = .ok (.iload_n 1, 1) := by decide +kernel
theorem d_M_changed_58 : decode c_M_changed 58 = .ok (.iconst 1, 1) := by decide +kernel
theorem d_M_changed_59 : decode c_M_changed 59 = .ok (.ishr, 1) := by decide +kernel
theorem d_M_changed_60 : decode c_M_changed 60 = .ok (.ireturn, 1) := by decide +kernel
theorem d_M_happenStack_0 : decode c_M_happenStack 0 = .ok (.iload_n 1, 1) := by decide +kernel
theorem d_M_happenStack_1 : decode c_M_happenStack 1 = .ok (.bipush 16, 2) := by decide +kernel
theorem d_M_happenStack_3 : decode c_M_happenStack 3 = .ok (.if_icmp .lt 13, 3) := by decide +kernel
theorem d_M_happenStack_6 : decode c_M_happenStack 6 = .ok (.iload_n 1, 1) := by decide +kernel
theorem d_M_happenStack_7 : decode c_M_happenStack 7 = .ok (.bipush 20, 2) := by decide +kernel
theorem d_M_happenStack_9 : decode c_M_happenStack 9 = .ok (.if_icmp .gt 7, 3) := by decide +kernel
theorem d_M_happenStack_12 : decode c_M_happenStack 12 = .ok (.iconst 1, 1) := by decide +kernel
theorem d_M_happenStack_13 : decode c_M_happenStack 13 = .ok (.goto 4, 3) := by decide +kernel
theorem d_M_happenStack_16 : decode c_M_happenStack 16 = .ok (.iconst 0, 1) := by decide +kernel
theorem d_M_happenStack_17 : decode c_M_happenStack 17 = .ok (.istore_n 3, 1) := by decide +kernel
theorem d_M_happenStack_18 : decode c_M_happenStack 18 = .ok (.iload_n 1, 1) := by decide +kernel
theorem d_M_happenStack_19 : decode c_M_happenStack 19 = .ok (.bipush 21, 2) := by decide +kernel
theorem d_M_happenStack_21 : decode c_M_happenStack 21 = .ok (.if_icmp .lt 13, 3) := by decide +kernel
theorem d_M_happenStack_24 : decode c_M_happenStack 24 = .ok (.iload_n 1, 1) := by decide +kernel
theorem d_M_happenStack_25 : decode c_M_happenStack 25 = .ok (.bipush 24, 2) := by decide +kernel
theorem d_M_happenStack_27 : decode c_M_happenStack 27 = .ok (.if_icmp .gt 7, 3) := by decide +kernel
theorem d_M_happenStack_30 : decode c_M_happenStack 30 = .ok (.iconst 1, 1) := by decide +kernel
theorem d_M_happenStack_31 : decode c_M_happenStack 31 = .ok (.goto 4, 3) := by decide +kernel
theorem d_M_happenStack_34 : decode c_M_happenStack 34 = .ok (.iconst 0, 1) := by decide +kernel
theorem d_M_happenStack_35 : decode c_M_happenStack 35 = .ok (.istore 4, 2) := by decide +kernel
theorem d_M_happenStack_37 : decode c_M_happenStack 37 = .ok (.aload_n 0, 1) := by decide +kernel
theorem d_M_happenStack_38 : decode c_M_happenStack 38 = .ok (.iload_n 3, 1) := by decide +kernel
theorem d_M_happenStack_39 : decode c_M_happenStack 39 = .ok (.ifCond .ne 9, 3) := by decide +kernel
theorem d_M_happenStack_42 : decode c_M_happenStack 42 = .ok (.iload_n 1, 1) := by decide +kernel
theorem d_M_happenStack_43 : decode c_M_happenStack 43 = .ok (.bipush 30, 2) := by decide +kernel
theorem d_M_happenStack_45 : decode c_M_happenStack 45 = .ok (.if_icmp .ne 16, 3) := by decide +kernel
theorem d_M_happenStack_48 : decode c_M_happenStack 48 = .ok (.aload_n 0, 1) := by decide +kernel
theorem d_M_happenStack_49 : decode c_M_happenStack 49 = .ok (.getfield 160, 3) := by decide +kernel
theorem d_M_happenStack_52 : decode c_M_happenStack 52 = .ok (.iconst 1, 1) := by decide +kernel
theorem d_M_happenStack_53 : decode c_M_happenStack 53 = .ok (.isub, 1) := by decide +kernel
theorem d_M_happenStack_54 : decode c_M_happenStack 54 = .ok (.sipush 255, 3) := by decide +kernel
theorem d_M_happenStack_57 : decode c_M_happenStack 57 = .ok (.iand, 1) := by decide +kernel
theorem d_M_happenStack_58 : decode c_M_happenStack 58 = .ok (.goto 25, 3) := by decide +kernel
theorem d_M_happenStack_61 : decode c_M_happenStack 61 = .ok (.iload 4, 2) := by decide +kernel
theorem d_M_happenStack_63 : decode c_M_happenStack 63 = .ok (.ifCond .eq 16, 3) := by decide +kernel
theorem d_M_happenStack_66 : decode c_M_happenStack 66 = .ok (.aload_n 0, 1) := by decide +kernel
theorem d_M_happenStack_67 : decode c_M_happenStack 67 = .ok (.getfield 160, 3) := by decide +kernel
theorem d_M_happenStack_70 : decode c_M_happenStack 70 = .ok (.iconst 1, 1) := by decide +kernel
theorem d_M_happenStack_71 : decode c_M_happenStack 71 = .ok (.iadd, 1) := by decide +kernel
theorem d_M_happenStack_72 : decode c_M_happenStack 72 = .ok (.sipush 255, 3) := by decide +kernel
theorem d_M_happenStack_75 : decode c_M_happenStack 75 = .ok (.iand, 1) := by decide +kernel
theorem d_M_happenStack_76 : decode c_M_happenStack 76 = .ok (.goto 7, 3) := by decide +kernel
theorem d_M_happenStack_79 : decode c_M_happenStack 79 = .ok (.aload_n 0, 1) := by decide +kernel
theorem d_M_happenStack_80 : decode c_M_happenStack 80 = .ok (.getfield 160, 3) := by decide +kernel
theorem d_M_happenStack_83 : decode c_M_happenStack 83 = .ok (.putfield 160, 3) := by decide +kernel
theorem d_M_happenStack_86 : decode c_M_happenStack 86 = .ok (.iload_n 1, 1) := by decide +kernel
theorem d_M_happenStack_87 : decode c_M_happenStack 87 = .ok (.tableswitch 263 5 29 #[256, 263, 263, 263, 263, 263, 263, 263, 263, 263, 263, 263, 263, 113, 263, 263, 126, 138, 150, 158, 263, 263, 263, 174, 240], 113) := by decide +kernel
theorem d_M_happenStack_200 : decode c_M_happenStack 200 = .ok (.aload_n 0, 1) := by decide +kernel
theorem d_M_happenStack_201 : decode c_M_happenStack 201 = .ok (.dup, 1) := by decide +kernel
theorem d_M_happenStack_202 : decode c_M_happenStack 202 = .ok (.getfield 21, 3) := by decide +kernel
theorem d_M_happenStack_205 : decode c_M_happenStack 205 = .ok (.iconst 4, 1) := by decide +kernel
theorem d_M_happenStack_206 : decode c_M_happenStack 206 = .ok (.ior, 1) := by decide +kernel
theorem d_M_happenStack_207 : decode c_M_happenStack 207 = .ok (.putfield 21, 3) := by decide +kernel
theorem d_M_happenStack_210 : decode c_M_happenStack 210 = .ok (.goto 140, 3) := by decide +kernel
theorem d_M_happenStack_213 : decode c_M_happenStack 213 = .ok (.aload_n 0, 1) := by decide +kernel
theorem d_M_happenStack_214 : decode c_M_happenStack 214 = .ok (.aload_n 0, 1) := by decide +kernel
theorem d_M_happenStack_215 : decode c_M_happenStack 215 = .ok (.iload_n 2, 1) := by decide +kernel
theorem d_M_happenStack_216 : decode c_M_happenStack 216 = .ok (.invokevirtual 210, 3) := by decide +kernel
theorem d_M_happenStack_219 : decode c_M_happenStack 219 = .ok (.putfield 186, 3) := by decide +kernel
theorem d_M_happenStack_222 : decode c_M_happenStack 222 = .ok (.goto 128, 3) := by decide +kernel
theorem d_M_happenStack_225 : decode c_M_happenStack 225 = .ok (.aload_n 0, 1) := by decide +kernel
theorem d_M_happenStack_226 : decode c_M_happenStack 226 = .ok (.iload_n 2, 1) := by decide +kernel
theorem d_M_happenStack_227 : decode c_M_happenStack 227 = .ok (.sipush 207, 3) := by decide +kernel
theorem d_M_happenStack_230 : decode c_M_happenStack 230 = .ok (.iand, 1) := by decide +kernel
theorem d_M_happenStack_231 : decode c_M_happenStack 231 = .ok (.putfield 21, 3) := by decide +kernel
theorem d_M_happenStack_234 : decode c_M_happenStack 234 = .ok (.goto 116, 3) := by decide +kernel
theorem d_M_happenStack_237 : decode c_M_happenStack 237 = .ok (.aload_n 0, 1) := by decide +kernel
theorem d_M_happenStack_238 : decode c_M_happenStack 238 = .ok (.iload_n 2, 1) := by decide +kernel
theorem d_M_happenStack_239 : decode c_M_happenStack 239 = .ok (.putfield 62, 3) := by decide +kernel
theorem d_M_happenStack_242 : decode c_M_happenStack 242 = .ok (.goto 108, 3) := by decide +kernel
theorem d_M_happenStack_245 : decode c_M_happenStack 245 = .ok (.aload_n 0, 1) := by decide +kernel
theorem d_M_happenStack_246 : decode c_M_happenStack 246 = .ok (.aload_n 0, 1) := by decide +kernel
theorem d_M_happenStack_247 : decode c_M_happenStack 247 = .ok (.getfield 62, 3) := by decide +kernel
theorem d_M_happenStack_250 : decode c_M_happenStack 250 = .ok (.iload_n 2, 1) := by decide +kernel
theorem d_M_happenStack_251 : decode c_M_happenStack 251 = .ok (.bipush 8, 2) := by decide +kernel
theorem d_M_happenStack_253 : decode c_M_happenStack 253 = .ok (.ishl, 1) := by decide +kernel
theorem d_M_happenStack_254 : decode c_M_happenStack 254 = .ok (.ior, 1) := by decide +kernel
theorem d_M_happenStack_255 : decode c_M_happenStack 255 = .ok (.putfield 59, 3) := by decide +kernel
theorem d_M_happenStack_258 : decode c_M_happenStack 258 = .ok (.goto 92, 3) := by decide +kernel
theorem d_M_happenStack_261 : decode c_M_happenStack 261 = .ok (.aload_n 0, 1) := by decide +kernel
theorem d_M_happenStack_262 : decode c_M_happenStack 262 = .ok (.aload_n 0, 1) := by decide +kernel
theorem d_M_happenStack_263 : decode c_M_happenStack 263 = .ok (.getfield 154, 3) := by decide +kernel
theorem d_M_happenStack_266 : decode c_M_happenStack 266 = .ok (.putfield 176, 3) := by decide +kernel
theorem d_M_happenStack_269 : decode c_M_happenStack 269 = .ok (.aload_n 0, 1) := by decide +kernel
theorem d_M_happenStack_270 : decode c_M_happenStack 270 = .ok (.aload_n 0, 1) := by decide +kernel
theorem d_M_happenStack_271 : decode c_M_happenStack 271 = .ok (.getfield 37, 3) := by decide +kernel
theorem d_M_happenStack_274 : decode c_M_happenStack 274 = .ok (.ifCond .eq 16, 3) := by decide +kernel
theorem d_M_happenStack_277 : decode c_M_happenStack 277 = .ok (.aload_n 0, 1) := by decide +kernel
theorem d_M_happenStack_278 : decode c_M_happenStack 278 = .ok (.getfield 154, 3) := by decide +kernel
theorem d_M_happenStack_281 : decode c_M_happenStack 281 = .ok (.ldc 174, 2) := by decide +kernel
theorem d_M_happenStack_283 : decode c_M_happenStack 283 = .ok (.if_icmp .eq 7, 3) := by decide +kernel
theorem d_M_happenStack_286 : decode c_M_happenStack 286 = .ok (.iconst 1, 1) := by decide +kernel
theorem d_M_happenStack_287 : decode c_M_happenStack 287 = .ok (.goto 4, 3) := by decide +kernel
theorem d_M_happenStack_290 : decode c_M_happenStack 290 = .ok (.iconst 0, 1) := by decide +kernel
theorem d_M_happenStack_291 : decode c_M_happenStack 291 = .ok (.putfield 37, 3) := by decide +kernel
theorem d_M_happenStack_294 : decode c_M_happenStack 294 = .ok (.aload_n 0, 1) := by decide +kernel
theorem d_M_happenStack_295 : decode c_M_happenStack 295 = .ok (.aload_n 0, 1) := by decide +kernel
theorem d_M_happenStack_296 : decode c_M_happenStack 296 = .ok (.getfield 40, 3) := by decide +kernel
theorem d_M_happenStack_299 : decode c_M_happenStack 299 = .ok (.iconst 2, 1) := by decide +kernel
theorem d_M_happenStack_300 : decode c_M_happenStack 300 = .ok (.if_icmp .ne 12, 3) := by decide +kernel
theorem d_M_happenStack_303 : decode c_M_happenStack 303 = .ok (.aload_n 0, 1) := by decide +kernel
theorem d_M_happenStack_304 : decode c_M_happenStack 304 = .ok (.getfield 21, 3) := by decide +kernel
theorem d_M_happenStack_307 : decode c_M_happenStack 307 = .ok (.iconst 4, 1) := by decide +kernel
theorem d_M_happenStack_308 : decode c_M_happenStack 308 = .ok (.ior, 1) := by decide +kernel
theorem d_M_happenStack_309 : decode c_M_happenStack 309 = .ok (.goto 7, 3) := by decide +kernel
theorem d_M_happenStack_312 : decode c_M_happenStack 312 = .ok (.aload_n 0, 1) := by decide +kernel
theorem d_M_happenStack_313 : decode c_M_happenStack 313 = .ok (.getfield 21, 3) := by decide +kernel
theorem d_M_happenStack_316 : decode c_M_happenStack 316 = .ok (.putfield 21, 3) := by decide +kernel
theorem d_M_happenStack_319 : decode c_M_happenStack 319 = .ok (.aload_n 0, 1) := by decide +kernel
theorem d_M_happenStack_320 : decode c_M_happenStack 320 = .ok (.iload_n 2, 1) := by decide +kernel
theorem d_M_happenStack_321 : decode c_M_happenStack 321 = .ok (.putfield 62, 3) := by decide +kernel
theorem d_M_happenStack_324 : decode c_M_happenStack 324 = .ok (.goto 26, 3) := by decide +kernel
theorem d_M_happenStack_327 : decode c_M_happenStack 327 = .ok (.aload_n 0, 1) := by decide +kernel
theorem d_M_happenStack_328 : decode c_M_happenStack 328 = .ok (.aload_n 0, 1) := by decide +kernel
theorem d_M_happenStack_329 : decode c_M_happenStack 329 = .ok (.getfield 62, 3) := by decide +kernel
theorem d_M_happenStack_332 : decode c_M_happenStack 332 = .ok (.iload_n 2, 1) := by decide +kernel
theorem d_M_happenStack_333 : decode c_M_happenStack 333 = .ok (.bipush 8, 2) := by decide +kernel
theorem d_M_happenStack_335 : decode c_M_happenStack 335 = .ok (.ishl, 1) := by decide +kernel
theorem d_M_happenStack_336 : decode c_M_happenStack 336 = .ok (.ior, 1) := by decide +kernel
theorem d_M_happenStack_337 : decode c_M_happenStack 337 = .ok (.putfield 59, 3) := by decide +kernel
theorem d_M_happenStack_340 : decode c_M_happenStack 340 = .ok (.goto 10, 3) := by decide +kernel
theorem d_M_happenStack_343 : decode c_M_happenStack 343 = .ok (.aload_n 0, 1) := by decide +kernel
theorem d_M_happenStack_344 : decode c_M_happenStack 344 = .ok (.invokevirtual 217, 3) := by decide +kernel
theorem d_M_happenStack_347 : decode c_M_happenStack 347 = .ok (.goto 3, 3) := by decide +kernel
theorem d_M_happenStack_350 : decode c_M_happenStack 350 = .ok (.return_, 1) := by decide +kernel
theorem d_M_idle_0 : decode c_M_idle 0 = .ok (.aload_n 0, 1) := by decide +kernel
theorem d_M_idle_1 : decode c_M_idle 1 = .ok (.getfield 40, 3) := by decide +kernel
theorem d_M_idle_4 : decode c_M_idle 4 = .ok (.ifCond .eq 4, 3) := by decide +kernel
theorem d_M_idle_7 : decode c_M_idle 7 = .ok (.return_, 1) := by decide +kernel
theorem d_M_idle_8 : decode c_M_idle 8 = .ok (.aload_n 0, 1) := by decide +kernel
theorem d_M_idle_9 : decode c_M_idle 9 = .ok (.getfield 52, 3) := by decide +kernel
theorem d_M_idle_12 : decode c_M_idle 12 = .ok (.bipush 7, 2) := by decide +kernel
theorem d_M_idle_14 : decode c_M_idle 14 = .ok (.if_icmp .ne 19, 3) := by decide +kernel
theorem d_M_idle_17 : decode c_M_idle 17 = .ok (.aload_n 0, 1) := by decide +kernel
theorem d_M_idle_18 : decode c_M_idle 18 = .ok (.getfield 49, 3) := by decide +kernel
theorem d_M_idle_21 : decode c_M_idle 21 = .ok (.bipush 16, 2) := by decide +kernel
theorem d_M_idle_23 : decode c_M_idle 23 = .ok (.if_icmp .ge 10, 3) := by decide +kernel
theorem d_M_idle_26 : decode c_M_idle 26 = .ok (.aload_n 0, 1) := by decide +kernel
theorem d_M_idle_27 : decode c_M_idle 27 = .ok (.invokevirtual 220, 3) := by decide +kernel
theorem d_M_idle_30 : decode c_M_idle 30 = .ok (.goto 41, 3) := by decide +kernel
theorem d_M_idle_33 : decode c_M_idle 33 = .ok (.aload_n 0, 1) := by decide +kernel
theorem d_M_idle_34 : decode c_M_idle 34 = .ok (.getfield 52, 3) := by decide +kernel
theorem d_M_idle_37 : decode c_M_idle 37 = .ok (.ifCond .ne 34, 3) := by decide +kernel
theorem d_M_idle_40 : decode c_M_idle 40 = .ok (.aload_n 0, 1) := by decide +kernel
theorem d_M_idle_41 : decode c_M_idle 41 = .ok (.invokevirtual 115, 3) := by decide +kernel
theorem d_M_idle_44 : decode c_M_idle 44 = .ok (.bipush 8, 2) := by decide +kernel
theorem d_M_idle_46 : decode c_M_idle 46 = .ok (.ishr, 1) := by decide +kernel
theorem d_M_idle_47 : decode c_M_idle 47 = .ok (.aload_n 0, 1) := by decide +kernel
theorem d_M_idle_48 : decode c_M_idle 48 = .ok (.getfield 59, 3) := by decide +kernel
theorem d_M_idle_51 : decode c_M_idle 51 = .ok (.bipush 8, 2) := by decide +kernel
theorem d_M_idle_53 : decode c_M_idle 53 = .ok (.ishr, 1) := by decide +kernel
theorem d_M_idle_54 : decode c_M_idle 54 = .ok (.if_icmp .ne 17, 3) := by decide +kernel
theorem d_M_idle_57 : decode c_M_idle 57 = .ok (.aload_n 0, 1) := by decide +kernel
theorem d_M_idle_58 : decode c_M_idle 58 = .ok (.aload_n 0, 1) := by decide +kernel
theorem d_M_idle_59 : decode c_M_idle 59 = .ok (.invokevirtual 115, 3) := by decide +kernel
theorem d_M_idle_62 : decode c_M_idle 62 = .ok (.putfield 59, 3) := by decide +kernel
theorem d_M_idle_65 : decode c_M_idle 65 = .ok (.aload_n 0, 1) := by decide +kernel
theorem d_M_idle_66 : decode c_M_idle 66 = .ok (.bipush 99, 2) := by decide +kernel
theorem d_M_idle_68 : decode c_M_idle 68 = .ok (.putfield 49, 3) := by decide +kernel
theorem d_M_idle_71 : decode c_M_idle 71 = .ok (.return_, 1) := by decide +kernel
theorem d_M_plain_0 : decode c_M_plain 0 = .ok (.aload_n 0, 1) := by decide +kernel
theorem d_M_plain_1 : decode c_M_plain 1 = .ok (.getfield 49, 3) := by decide +kernel
theorem d_M_plain_4 : decode c_M_plain 4 = .ok (.tableswitch 298 1 15 #[76, 97, 118, 139, 160, 175, 190, 205, 220, 220, 242, 242, 264, 264, 287], 76) := by decide +kernel
theorem d_M_plain_80 : decode c_M_plain 80 = .ok (.aload_n 0, 1) := by decide +kernel
theorem d_M_plain_81 : decode c_M_plain 81 = .ok (.aload_n 0, 1) := by decide +kernel
theorem d_M_plain_82 : decode c_M_plain 82 = .ok (.aload_n 0, 1) := by decide +kernel
theorem d_M_plain_83 : decode c_M_plain 83 = .ok (.getfield 65, 3) := by decide +kernel
theorem d_M_plain_86 : decode c_M_plain 86 = .ok (.iconst 1, 1) := by decide +kernel
theorem d_M_plain_87 : decode c_M_plain 87 = .ok (.iadd, 1) := by decide +kernel
theorem d_M_plain_88 : decode c_M_plain 88 = .ok (.sipush 255, 3) := by decide +kernel
theorem d_M_plain_91 : decode c_M_plain 91 = .ok (.iand, 1) := by decide +kernel
theorem d_M_plain_92 : decode c_M_plain 92 = .ok (.invokevirtual 210, 3) := by decide +kernel
theorem d_M_plain_95 : decode c_M_plain 95 = .ok (.putfield 65, 3) := by decide +kernel
theorem d_M_plain_98 : decode c_M_plain 98 = .ok (.goto 204, 3) := by decide +kernel
theorem d_M_plain_101 : decode c_M_plain 101 = .ok (.aload_n 0, 1) := by decide +kernel
theorem d_M_plain_102 : decode c_M_plain 102 = .ok (.aload_n 0, 1) := by decide +kernel
theorem d_M_plain_103 : decode c_M_plain 103 = .ok (.aload_n 0, 1) := by decide +kernel
theorem d_M_plain_104 : decode c_M_plain 104 = .ok (.getfield 65, 3) := by decide +kernel
theorem d_M_plain_107 : decode c_M_plain 107 = .ok (.iconst 1, 1) := by decide +kernel
theorem d_M_plain_108 : decode c_M_plain 108 = .ok (.isub, 1) := by decide +kernel
theorem d_M_plain_109 : decode c_M_plain 109 = .ok (.sipush 255, 3) := by decide +kernel
theorem d_M_plain_112 : decode c_M_plain 112 = .ok (.iand, 1) := by decide +kernel
theorem d_M_plain_113 : decode c_M_plain 113 = .ok (.invokevirtual 210, 3) := by decide +kernel
theorem d_M_plain_116 : decode c_M_plain 116 = .ok (.putfield 65, 3) := by decide +kernel
theorem d_M_plain_119 : decode c_M_plain 119 = .ok (.goto 183, 3) := by decide +kernel
theorem d_M_plain_122 : decode c_M_plain 122 = .ok (.aload_n 0, 1) := by decide +kernel
theorem d_M_plain_123 : decode c_M_plain 123 = .ok (.aload_n 0, 1) := by decide +kernel
theorem d_M_plain_124 : decode c_M_plain 124 = .ok (.aload_n 0, 1) := by decide +kernel
theorem d_M_plain_125 : decode c_M_plain 125 = .ok (.getfield 75, 3) := by decide +kernel
theorem d_M_plain_128 : decode c_M_plain 128 = .ok (.iconst 1, 1) := by decide +kernel
theorem d_M_plain_129 : decode c_M_plain 129 = .ok (.iadd, 1) := by decide +kernel
theorem d_M_plain_130 : decode c_M_plain 130 = .ok (.sipush 255, 3) := by decide +kernel
theorem d_M_plain_133 : decode c_M_plain 133 = .ok (.iand, 1) := by decide +kernel
theorem d_M_plain_134 : decode c_M_plain 134 = .ok (.invokevirtual 210, 3) := by decide +kernel
theorem d_M_plain_137 : decode c_M_plain 137 = .ok (.putfield 75, 3) := by decide +kernel
theorem d_M_plain_140 : decode c_M_plain 140 = .ok (.goto 162, 3) := by decide +kernel
theorem d_M_plain_143 : decode c_M_plain 143 = .ok (.aload_n 0, 1) := by decide +kernel
theorem d_M_plain_144 : decode c_M_plain 144 = .ok (.aload_n 0, 1) := by decide +kernel
theorem d_M_plain_145 : decode c_M_plain 145 = .ok (.aload_n 0, 1) := by decide +kernel
theorem d_M_plain_146 : decode c_M_plain 146 = .ok (.getfield 75, 3) := by decide +kernel
theorem d_M_plain_149 : decode c_M_plain 149 = .ok (.iconst 1, 1) := by decide +kernel
theorem d_M_plain_150 : decode c_M_plain 150 = .ok (.isub, 1) := by decide +kernel
theorem d_M_plain_151 : decode c_M_plain 151 = .ok (.sipush 255, 3) := by decide +kernel
theorem d_M_plain_154 : decode c_M_plain 154 = .ok (.iand, 1) := by decide +kernel
theorem d_M_plain_155 : decode c_M_plain 155 = .ok (.invokevirtual 210, 3) := by decide +kernel
theorem d_M_plain_158 : decode c_M_plain 158 = .ok (.putfield 75, 3) := by decide +kernel
theorem d_M_plain_161 : decode c_M_plain 161 = .ok (.goto 141, 3) := by decide +kernel
theorem d_M_plain_164 : decode c_M_plain 164 = .ok (.aload_n 0, 1) := by decide +kernel
theorem d_M_plain_165 : decode c_M_plain 165 = .ok (.aload_n 0, 1) := by decide +kernel
theorem d_M_plain_166 : decode c_M_plain 166 = .ok (.aload_n 0, 1) := by decide +kernel
theorem d_M_plain_167 : decode c_M_plain 167 = .ok (.getfield 186, 3) := by decide +kernel
theorem d_M_plain_170 : decode c_M_plain 170 = .ok (.invokevirtual 210, 3) := by decide +kernel
theorem d_M_plain_173 : decode c_M_plain 173 = .ok (.putfield 65, 3) := by decide +kernel
theorem d_M_plain_176 : decode c_M_plain 176 = .ok (.goto 126, 3) := by decide +kernel
theorem d_M_plain_179 : decode c_M_plain 179 = .ok (.aload_n 0, 1) := by decide +kernel
theorem d_M_plain_180 : decode c_M_plain 180 = .ok (.aload_n 0, 1) := by decide +kernel
theorem d_M_plain_181 : decode c_M_plain 181 = .ok (.aload_n 0, 1) := by decide +kernel
theorem d_M_plain_182 : decode c_M_plain 182 = .ok (.getfield 65, 3) := by decide +kernel
theorem d_M_plain_185 : decode c_M_plain 185 = .ok (.invokevirtual 210, 3) := by decide +kernel
theorem d_M_plain_188 : decode c_M_plain 188 = .ok (.putfield 186, 3) := by decide +kernel
theorem d_M_plain_191 : decode c_M_plain 191 = .ok (.goto 111, 3) := by decide +kernel
theorem d_M_plain_194 : decode c_M_plain 194 = .ok (.aload_n 0, 1) := by decide +kernel
theorem d_M_plain_195 : decode c_M_plain 195 = .ok (.aload_n 0, 1) := by decide +kernel
theorem d_M_plain_196 : decode c_M_plain 196 = .ok (.aload_n 0, 1) := by decide +kernel
theorem d_M_plain_197 : decode c_M_plain 197 = .ok (.getfield 186, 3) := by decide +kernel
theorem d_M_plain_200 : decode c_M_plain 200 = .ok (.invokevirtual 210, 3) := by decide +kernel
theorem d_M_plain_203 : decode c_M_plain 203 = .ok (.putfield 75, 3) := by decide +kernel
theorem d_M_plain_206 : decode c_M_plain 206 = .ok (.goto 96, 3) := by decide +kernel
theorem d_M_plain_209 : decode c_M_plain 209 = .ok (.aload_n 0, 1) := by decide +kernel
theorem d_M_plain_210 : decode c_M_plain 210 = .ok (.aload_n 0, 1) := by decide +kernel
theorem d_M_plain_211 : decode c_M_plain 211 = .ok (.aload_n 0, 1) := by decide +kernel
theorem d_M_plain_212 : decode c_M_plain 212 = .ok (.getfield 75, 3) := by decide +kernel
theorem d_M_plain_215 : decode c_M_plain 215 = .ok (.invokevirtual 210, 3) := by decide +kernel
theorem d_M_plain_218 : decode c_M_plain 218 = .ok (.putfield 186, 3) := by decide +kernel
theorem d_M_plain_221 : decode c_M_plain 221 = .ok (.goto 81, 3) := by decide +kernel
theorem d_M_plain_224 : decode c_M_plain 224 = .ok (.aload_n 0, 1) := by decide +kernel
theorem d_M_plain_225 : decode c_M_plain 225 = .ok (.iconst 1, 1) := by decide +kernel
theorem d_M_plain_226 : decode c_M_plain 226 = .ok (.aload_n 0, 1) := by decide +kernel
theorem d_M_plain_227 : decode c_M_plain 227 = .ok (.getfield 49, 3) := by decide +kernel
theorem d_M_plain_230 : decode c_M_plain 230 = .ok (.bipush 10, 2) := by decide +kernel
theorem d_M_plain_232 : decode c_M_plain 232 = .ok (.if_icmp .ne 7, 3) := by decide +kernel
theorem d_M_plain_235 : decode c_M_plain 235 = .ok (.iconst 1, 1) := by decide +kernel
theorem d_M_plain_236 : decode c_M_plain 236 = .ok (.goto 4, 3) := by decide +kernel
theorem d_M_plain_239 : decode c_M_plain 239 = .ok (.iconst 0, 1) := by decide +kernel
theorem d_M_plain_240 : decode c_M_plain 240 = .ok (.invokevirtual 24, 3) := by decide +kernel
theorem d_M_plain_243 : decode c_M_plain 243 = .ok (.goto 59, 3) := by decide +kernel
theorem d_M_plain_246 : decode c_M_plain 246 = .ok (.aload_n 0, 1) := by decide +kernel
theorem d_M_plain_247 : decode c_M_plain 247 = .ok (.iconst 4, 1) := by decide +kernel
theorem d_M_plain_248 : decode c_M_plain 248 = .ok (.aload_n 0, 1) := by decide +kernel
theorem d_M_plain_249 : decode c_M_plain 249 = .ok (.getfield 49, 3) := by decide +kernel
theorem d_M_plain_252 : decode c_M_plain 252 = .ok (.bipush 12, 2) := by decide +kernel
theorem d_M_plain_254 : decode c_M_plain 254 = .ok (.if_icmp .ne 7, 3) := by decide +kernel
theorem d_M_plain_257 : decode c_M_plain 257 = .ok (.iconst 1, 1) := by decide +kernel
theorem d_M_plain_258 : decode c_M_plain 258 = .ok (.goto 4, 3) := by decide +kernel
theorem d_M_plain_261 : decode c_M_plain 261 = .ok (.iconst 0, 1) := by decide +kernel
theorem d_M_plain_262 : decode c_M_plain 262 = .ok (.invokevirtual 24, 3) := by decide +kernel
theorem d_M_plain_265 : decode c_M_plain 265 = .ok (.goto 37, 3) := by decide +kernel
theorem d_M_plain_268 : decode c_M_plain 268 = .ok (.aload_n 0, 1) := by decide +kernel
theorem d_M_plain_269 : decode c_M_plain 269 = .ok (.bipush 8, 2) := by decide +kernel
theorem d_M_plain_271 : decode c_M_plain 271 = .ok (.aload_n 0, 1) := by decide +kernel
theorem d_M_plain_272 : decode c_M_plain 272 = .ok (.getfield 49, 3) := by decide +kernel
theorem d_M_plain_275 : decode c_M_plain 275 = .ok (.bipush 14, 2) := by decide +kernel
theorem d_M_plain_277 : decode c_M_plain 277 = .ok (.if_icmp .ne 7, 3) := by decide +kernel
theorem d_M_plain_280 : decode c_M_plain 280 = .ok (.iconst 1, 1) := by decide +kernel
theorem d_M_plain_281 : decode c_M_plain 281 = .ok (.goto 4, 3) := by decide +kernel
theorem d_M_plain_284 : decode c_M_plain 284 = .ok (.iconst 0, 1) := by decide +kernel
theorem d_M_plain_285 : decode c_M_plain 285 = .ok (.invokevirtual 24, 3) := by decide +kernel
theorem d_M_plain_288 : decode c_M_plain 288 = .ok (.goto 14, 3) := by decide +kernel
theorem d_M_plain_291 : decode c_M_plain 291 = .ok (.aload_n 0, 1) := by decide +kernel
theorem d_M_plain_292 : decode c_M_plain 292 = .ok (.aload_n 0, 1) := by decide +kernel
theorem d_M_plain_293 : decode c_M_plain 293 = .ok (.getfield 65, 3) := by decide +kernel
theorem d_M_plain_296 : decode c_M_plain 296 = .ok (.putfield 160, 3) := by decide +kernel
theorem d_M_plain_299 : decode c_M_plain 299 = .ok (.goto 3, 3) := by decide +kernel
theorem d_M_plain_302 : decode c_M_plain 302 = .ok (.return_, 1) := by decide +kernel
theorem d_M_cycles_0 : decode c_M_cycles 0 = .ok (.aload_n 0, 1) := by decide +kernel
theorem d_M_cycles_1 : decode c_M_cycles 1 = .ok (.iload_n 1, 1) := by decide +kernel
theorem d_M_cycles_2 : decode c_M_cycles 2 = .ok (.ifCond .lt 10, 3) := by decide +kernel
theorem d_M_cycles_5 : decode c_M_cycles 5 = .ok (.iload_n 1, 1) := by decide +kernel
theorem d_M_cycles_6 : decode c_M_cycles 6 = .ok (.sipush 200, 3) := by decide +kernel
theorem d_M_cycles_9 : decode c_M_cycles 9 = .ok (.if_icmp .le 7, 3) := by decide +kernel
theorem d_M_cycles_12 : decode c_M_cycles 12 = .ok (.iconst 1, 1) := by decide +kernel
theorem d_M_cycles_13 : decode c_M_cycles 13 = .ok (.goto 4, 3) := by decide +kernel
theorem d_M_cycles_16 : decode c_M_cycles 16 = .ok (.iconst 0, 1) := by decide +kernel
theorem d_M_cycles_17 : decode c_M_cycles 17 = .ok (.putfield 17, 3) := by decide +kernel
theorem d_M_cycles_20 : decode c_M_cycles 20 = .ok (.aload_n 0, 1) := by decide +kernel
theorem d_M_cycles_21 : decode c_M_cycles 21 = .ok (.getfield 17, 3) := by decide +kernel
theorem d_M_cycles_24 : decode c_M_cycles 24 = .ok (.ifCond .eq 5, 3) := by decide +kernel
theorem d_M_cycles_27 : decode c_M_cycles 27 = .ok (.iconst 0, 1) := by decide +kernel
theorem d_M_cycles_28 : decode c_M_cycles 28 = .ok (.ireturn, 1) := by decide +kernel
theorem d_M_cycles_29 : decode c_M_cycles 29 = .ok (.aload_n 0, 1) := by decide +kernel
theorem d_M_cycles_30 : decode c_M_cycles 30 = .ok (.iconst 0, 1) := by decide +kernel
theorem d_M_cycles_31 : decode c_M_cycles 31 = .ok (.putfield 241, 3) := by decide +kernel
theorem d_M_cycles_34 : decode c_M_cycles 34 = .ok (.iconst 0, 1) := by decide +kernel
theorem d_M_cycles_35 : decode c_M_cycles 35 = .ok (.istore_n 2, 1) := by decide +kernel
theorem d_M_cycles_36 : decode c_M_cycles 36 = .ok (.iload_n 2, 1) := by decide +kernel
theorem d_M_cycles_37 : decode c_M_cycles 37 = .ok (.iload_n 1, 1) := by decide +kernel
theorem d_M_cycles_38 : decode c_M_cycles 38 = .ok (.if_icmp .ge 14, 3) := by decide +kernel
theorem d_M_cycles_41 : decode c_M_cycles 41 = .ok (.aload_n 0, 1) := by decide +kernel
theorem d_M_cycles_42 : decode c_M_cycles 42 = .ok (.invokevirtual 244, 3) := by decide +kernel
theorem d_M_cycles_45 : decode c_M_cycles 45 = .ok (.istore_n 3, 1) := by decide +kernel
theorem d_M_cycles_46 : decode c_M_cycles 46 = .ok (.iinc 2 1, 3) := by decide +kernel
theorem d_M_cycles_49 : decode c_M_cycles 49 = .ok (.goto (-13), 3) := by decide +kernel
theorem d_M_cycles_52 : decode c_M_cycles 52 = .ok (.aload_n 0, 1) := by decide +kernel
theorem d_M_cycles_53 : decode c_M_cycles 53 = .ok (.getfield 241, 3) := by decide +kernel
theorem d_M_cycles_56 : decode c_M_cycles 56 = .ok (.ireturn, 1) := by decide +kernel
theorem d_M_register_0 : decode c_M_register 0 = .ok (.aload_n 0, 1) := by decide +kernel
theorem d_M_register_1 : decode c_M_register 1 = .ok (.iload_n 1, 1) := by decide +kernel
theorem d_M_register_2 : decode c_M_register 2 = .ok (.ifCond .lt 9, 3) := by decide +kernel
theorem d_M_register_5 : decode c_M_register 5 = .ok (.iload_n 1, 1) := by decide +kernel
theorem d_M_register_6 : decode c_M_register 6 = .ok (.bipush 7, 2) := by decide +kernel
theorem d_M_register_8 : decode c_M_register 8 = .ok (.if_icmp .le 7, 3) := by decide +kernel
theorem d_M_register_11 : decode c_M_register 11 = .ok (.iconst 1, 1) := by decide +kernel
theorem d_M_register_12 : decode c_M_register 12 = .ok (.goto 4, 3) := by decide +kernel
theorem d_M_register_15 : decode c_M_register 15 = .ok (.iconst 0, 1) := by decide +kernel
theorem d_M_register_16 : decode c_M_register 16 = .ok (.putfield 17, 3) := by decide +kernel
theorem d_M_register_19 : decode c_M_register 19 = .ok (.aload_n 0, 1) := by decide +kernel
theorem d_M_register_20 : decode c_M_register 20 = .ok (.getfield 17, 3) := by decide +kernel
theorem d_M_register_23 : decode c_M_register 23 = .ok (.ifCond .eq 5, 3) := by decide +kernel
theorem d_M_register_26 : decode c_M_register 26 = .ok (.iconst 0, 1) := by decide +kernel
theorem d_M_register_27 : decode c_M_register 27 = .ok (.ireturn, 1) := by decide +kernel
theorem d_M_register_28 : decode c_M_register 28 = .ok (.iload_n 1, 1) := by decide +kernel
theorem d_M_register_29 : decode c_M_register 29 = .ok (.tableswitch 89 0 6 #[43, 48, 53, 58, 63, 68, 76], 43) := by decide +kernel
theorem d_M_register_72 : decode c_M_register 72 = .ok (.aload_n 0, 1) := by decide +kernel
theorem d_M_register_73 : decode c_M_register 73 = .ok (.getfield 186, 3) := by decide +kernel
theorem d_M_register_76 : decode c_M_register 76 = .ok (.ireturn, 1) := by decide +kernel
theorem d_M_register_77 : decode c_M_register 77 = .ok (.aload_n 0, 1) := by decide +kernel
theorem d_M_register_78 : decode c_M_register 78 = .ok (.getfield 65, 3) := by decide +kernel
theorem d_M_register_81 : decode c_M_register 81 = .ok (.ireturn, 1) := by decide +kernel
theorem d_M_register_82 : decode c_M_register 82 = .ok (.aload_n 0, 1) := by decide +kernel
theorem d_M_register_83 : decode c_M_register 83 = .ok (.getfield 75, 3) := by decide +kernel
theorem d_M_register_86 : decode c_M_register 86 = .ok (.ireturn, 1) := by decide +kernel
theorem d_M_register_87 : decode c_M_register 87 = .ok (.aload_n 0, 1) := by decide +kernel
theorem d_M_register_88 : decode c_M_register 88 = .ok (.getfield 160, 3) := by decide +kernel
theorem d_M_register_91 : decode c_M_register 91 = .ok (.ireturn, 1) := by decide +kernel
theorem d_M_register_92 : decode c_M_register 92 = .ok (.aload_n 0, 1) := by decide +kernel
theorem d_M_register_93 : decode c_M_register 93 = .ok (.getfield 59, 3) := by decide +kernel
theorem d_M_register_96 : decode c_M_register 96 = .ok (.ireturn, 1) := by decide +kernel
theorem d_M_register_97 : decode c_M_register 97 = .ok (.aload_n 0, 1) := by decide +kernel
theorem d_M_register_98 : decode c_M_register 98 = .ok (.getfield 21, 3) := by decide +kernel
theorem d_M_register_101 : decode c_M_register 101 = .ok (.bipush 32, 2) := by decide +kernel
theorem d_M_register_103 : decode c_M_register 103 = .ok (.ior, 1) := by decide +kernel
theorem d_M_register_104 : decode c_M_register 104 = .ok (.ireturn, 1) := by decide +kernel
theorem d_M_register_105 : decode c_M_register 105 = .ok (.aload_n 0, 1) := by decide +kernel
theorem d_M_register_106 : decode c_M_register 106 = .ok (.getfield 46, 3) := by decide +kernel
theorem d_M_register_109 : decode c_M_register 109 = .ok (.ifCond .eq 7, 3) := by decide +kernel
theorem d_M_register_112 : decode c_M_register 112 = .ok (.iconst 1, 1) := by decide +kernel
theorem d_M_register_113 : decode c_M_register 113 = .ok (.goto 4, 3) := by decide +kernel
theorem d_M_register_116 : decode c_M_register 116 = .ok (.iconst 0, 1) := by decide +kernel
theorem d_M_register_117 : decode c_M_register 117 = .ok (.ireturn, 1) := by decide +kernel
theorem d_M_register_118 : decode c_M_register 118 = .ok (.aload_n 0, 1) := by decide +kernel
theorem d_M_register_119 : decode c_M_register 119 = .ok (.getfield 43, 3) := by decide +kernel
theorem d_M_register_122 : decode c_M_register 122 = .ok (.ireturn, 1) := by decide +kernel
theorem d_M_set_0 : decode c_M_set 0 = .ok (.aload_n 0, 1) := by decide +kernel
theorem d_M_set_1 : decode c_M_set 1 = .ok (.iload_n 1, 1) := by decide +kernel
theorem d_M_set_2 : decode c_M_set 2 = .ok (.ifCond .lt 8, 3) := by decide +kernel
theorem d_M_set_5 : decode c_M_set 5 = .ok (.iload_n 1, 1) := by decide +kernel
theorem d_M_set_6 : decode c_M_set 6 = .ok (.iconst 5, 1) := by decide +kernel
theorem d_M_set_7 : decode c_M_set 7 = .ok (.if_icmp .le 7, 3) := by decide +kernel
theorem d_M_set_10 : decode c_M_set 10 = .ok (.iconst 1, 1) := by decide +kernel
theorem d_M_set_11 : decode c_M_set 11 = .ok (.goto 22, 3) := by decide +kernel
theorem d_M_set_14 : decode c_M_set 14 = .ok (.aload_n 0, 1) := by decide +kernel
theorem d_M_set_15 : decode c_M_set 15 = .ok (.getfield 40, 3) := by decide +kernel
theorem d_M_set_18 : decode c_M_set 18 = .ok (.ifCond .ne 10, 3) := by decide +kernel
theorem d_M_set_21 : decode c_M_set 21 = .ok (.aload_n 0, 1) := by decide +kernel
theorem d_M_set_22 : decode c_M_set 22 = .ok (.getfield 43, 3) := by decide +kernel
theorem d_M_set_25 : decode c_M_set 25 = .ok (.ifCond .eq 7, 3) := by decide +kernel
theorem d_M_set_28 : decode c_M_set 28 = .ok (.iconst 2, 1) := by decide +kernel
theorem d_M_set_29 : decode c_M_set 29 = .ok (.goto 4, 3) := by decide +kernel
theorem d_M_set_32 : decode c_M_set 32 = .ok (.iconst 0, 1) := by decide +kernel
theorem d_M_set_33 : decode c_M_set 33 = .ok (.putfield 17, 3) := by decide +kernel
theorem d_M_set_36 : decode c_M_set 36 = .ok (.aload_n 0, 1) := by decide +kernel
theorem d_M_set_37 : decode c_M_set 37 = .ok (.getfield 17, 3) := by decide +kernel
theorem d_M_set_40 : decode c_M_set 40 = .ok (.ifCond .eq 4, 3) := by decide +kernel
theorem d_M_set_43 : decode c_M_set 43 = .ok (.return_, 1) := by decide +kernel
theorem d_M_set_44 : decode c_M_set 44 = .ok (.iload_n 1, 1) := by decide +kernel
theorem d_M_set_45 : decode c_M_set 45 = .ok (.tableswitch 94 0 4 #[35, 47, 59, 71, 83], 35) := by decide +kernel
theorem d_M_set_80 : decode c_M_set 80 = .ok (.aload_n 0, 1) := by decide +kernel
theorem d_M_set_81 : decode c_M_set 81 = .ok (.iload_n 2, 1) := by decide +kernel
theorem d_M_set_82 : decode c_M_set 82 = .ok (.sipush 255, 3) := by decide +kernel
theorem d_M_set_85 : decode c_M_set 85 = .ok (.iand, 1) := by decide +kernel
theorem d_M_set_86 : decode c_M_set 86 = .ok (.putfield 186, 3) := by decide +kernel
theorem d_M_set_89 : decode c_M_set 89 = .ok (.goto 59, 3) := by decide +kernel
theorem d_M_set_92 : decode c_M_set 92 = .ok (.aload_n 0, 1) := by decide +kernel
theorem d_M_set_93 : decode c_M_set 93 = .ok (.iload_n 2, 1) := by decide +kernel
theorem d_M_set_94 : decode c_M_set 94 = .ok (.sipush 255, 3) := by decide +kernel
theorem d_M_set_97 : decode c_M_set 97 = .ok (.iand, 1) := by decide +kernel
theorem d_M_set_98 : decode c_M_set 98 = .ok (.putfield 65, 3) := by decide +kernel
theorem d_M_set_101 : decode c_M_set 101 = .ok (.goto 47, 3) := by decide +kernel
theorem d_M_set_104 : decode c_M_set 104 = .ok (.aload_n 0, 1) := by decide +kernel
theorem d_M_set_105 : decode c_M_set 105 = .ok (.iload_n 2, 1) := by decide +kernel
theorem d_M_set_106 : decode c_M_set 106 = .ok (.sipush 255, 3) := by decide +kernel
theorem d_M_set_109 : decode c_M_set 109 = .ok (.iand, 1) := by decide +kernel
theorem d_M_set_110 : decode c_M_set 110 = .ok (.putfield 75, 3) := by decide +kernel
theorem d_M_set_113 : decode c_M_set 113 = .ok (.goto 35, 3) := by decide +kernel
theorem d_M_set_116 : decode c_M_set 116 = .ok (.aload_n 0, 1) := by decide +kernel
theorem d_M_set_117 : decode c_M_set 117 = .ok (.iload_n 2, 1) := by decide +kernel
theorem d_M_set_118 : decode c_M_set 118 = .ok (.sipush 255, 3) := by decide +kernel
theorem d_M_set_121 : decode c_M_set 121 = .ok (.iand, 1) := by decide +kernel
theorem d_M_set_122 : decode c_M_set 122 = .ok (.putfield 160, 3) := by decide +kernel
theorem d_M_set_125 : decode c_M_set 125 = .ok (.goto 23, 3) := by decide +kernel
theorem d_M_set_128 : decode c_M_set 128 = .ok (.aload_n 0, 1) := by decide +kernel
theorem d_M_set_129 : decode c_M_set 129 = .ok (.iload_n 2, 1) := by decide +kernel
theorem d_M_set_130 : decode c_M_set 130 = .ok (.ldc 71, 2) := by decide +kernel
theorem d_M_set_132 : decode c_M_set 132 = .ok (.iand, 1) := by decide +kernel
theorem d_M_set_133 : decode c_M_set 133 = .ok (.putfield 59, 3) := by decide +kernel
theorem d_M_set_136 : decode c_M_set 136 = .ok (.goto 12, 3) := by decide +kernel
theorem d_M_set_139 : decode c_M_set 139 = .ok (.aload_n 0, 1) := by decide +kernel
theorem d_M_set_140 : decode c_M_set 140 = .ok (.iload_n 2, 1) := by decide +kernel
theorem d_M_set_141 : decode c_M_set 141 = .ok (.sipush 207, 3) := by decide +kernel
theorem d_M_set_144 : decode c_M_set 144 = .ok (.iand, 1) := by decide +kernel
theorem d_M_set_145 : decode c_M_set 145 = .ok (.putfield 21, 3) := by decide +kernel
theorem d_M_set_148 : decode c_M_set 148 = .ok (.return_, 1) := by decide +kernel
