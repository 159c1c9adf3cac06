/-! decode rows (printed by my own program) -/
theorem d_M_operand_94 : decode c_M_operand 94 = .ok (.getfield 65, 3) := by decide +kernel
theorem d_M_operand_97 : decode c_M_operand 97 = .ok (.iadd, 1) := by decide +kernel
theorem d_M_operand_98 : decode c_M_operand 98 = .ok (.ldc 71, 2) := by decide +kernel
theorem d_M_operand_100 : decode c_M_operand 100 = .ok (.iand, 1) := by decide +kernel
theorem d_M_operand_101 : decode c_M_operand 101 = .ok (.ireturn, 1) := by decide +kernel
theorem d_M_operand_102 : decode c_M_operand 102 = .ok (.aload_n 0, 1) := by decide +kernel
theorem d_M_operand_103 : decode c_M_operand 103 = .ok (.getfield 72, 3) := by decide +kernel
theorem d_M_operand_106 : decode c_M_operand 106 = .ok (.aload_n 0, 1) := by decide +kernel
theorem d_M_operand_107 : decode c_M_operand 107 = .ok (.getfield 68, 3) := by decide +kernel
theorem d_M_operand_110 : decode c_M_operand 110 = .ok (.bipush 8, 2) := by decide +kernel
theorem d_M_operand_112 : decode c_M_operand 112 = .ok (.ishl, 1) := by decide +kernel
theorem d_M_operand_113 : decode c_M_operand 113 = .ok (.ior, 1) := by decide +kernel
theorem d_M_operand_114 : decode c_M_operand 114 = .ok (.ireturn, 1) := by decide +kernel
theorem d_M_operand_115 : decode c_M_operand 115 = .ok (.aload_n 0, 1) := by decide +kernel
theorem d_M_operand_116 : decode c_M_operand 116 = .ok (.getfield 72, 3) := by decide +kernel
theorem d_M_operand_119 : decode c_M_operand 119 = .ok (.aload_n 0, 1) := by decide +kernel
theorem d_M_operand_120 : decode c_M_operand 120 = .ok (.getfield 68, 3) := by decide +kernel
theorem d_M_operand_123 : decode c_M_operand 123 = .ok (.bipush 8, 2) := by decide +kernel
theorem d_M_operand_125 : decode c_M_operand 125 = .ok (.ishl, 1) := by decide +kernel
theorem d_M_operand_126 : decode c_M_operand 126 = .ok (.ior, 1) := by decide +kernel
theorem d_M_operand_127 : decode c_M_operand 127 = .ok (.aload_n 0, 1) := by decide +kernel
theorem d_M_operand_128 : decode c_M_operand 128 = .ok (.getfield 75, 3) := by decide +kernel
theorem d_M_operand_131 : decode c_M_operand 131 = .ok (.iadd, 1) := by decide +kernel
theorem d_M_operand_132 : decode c_M_operand 132 = .ok (.ldc 71, 2) := by decide +kernel
theorem d_M_operand_134 : decode c_M_operand 134 = .ok (.iand, 1) := by decide +kernel
theorem d_M_operand_135 : decode c_M_operand 135 = .ok (.ireturn, 1) := by decide +kernel
theorem d_M_planWrite_0 : decode c_M_planWrite 0 = .ok (.iload_n 1, 1) := by decide +kernel
theorem d_M_planWrite_1 : decode c_M_planWrite 1 = .ok (.tableswitch 114 16 20 #[35, 49, 60, 89, 100], 35) := by decide +kernel
theorem d_M_planWrite_36 : decode c_M_planWrite 36 = .ok (.aload_n 0, 1) := by decide +kernel
theorem d_M_planWrite_37 : decode c_M_planWrite 37 = .ok (.aload_n 0, 1) := by decide +kernel
theorem d_M_planWrite_38 : decode c_M_planWrite 38 = .ok (.getfield 59, 3) := by decide +kernel
theorem d_M_planWrite_41 : decode c_M_planWrite 41 = .ok (.bipush 8, 2) := by decide +kernel
theorem d_M_planWrite_43 : decode c_M_planWrite 43 = .ok (.ishr, 1) := by decide +kernel
theorem d_M_planWrite_44 : decode c_M_planWrite 44 = .ok (.invokevirtual 183, 3) := by decide +kernel
theorem d_M_planWrite_47 : decode c_M_planWrite 47 = .ok (.goto 115, 3) := by decide +kernel
theorem d_M_planWrite_50 : decode c_M_planWrite 50 = .ok (.aload_n 0, 1) := by decide +kernel
theorem d_M_planWrite_51 : decode c_M_planWrite 51 = .ok (.aload_n 0, 1) := by decide +kernel
theorem d_M_planWrite_52 : decode c_M_planWrite 52 = .ok (.getfield 59, 3) := by decide +kernel
theorem d_M_planWrite_55 : decode c_M_planWrite 55 = .ok (.invokevirtual 183, 3) := by decide +kernel
theorem d_M_planWrite_58 : decode c_M_planWrite 58 = .ok (.goto 104, 3) := by decide +kernel
theorem d_M_planWrite_61 : decode c_M_planWrite 61 = .ok (.aload_n 0, 1) := by decide +kernel
theorem d_M_planWrite_62 : decode c_M_planWrite 62 = .ok (.aload_n 0, 1) := by decide +kernel
theorem d_M_planWrite_63 : decode c_M_planWrite 63 = .ok (.getfield 21, 3) := by decide +kernel
theorem d_M_planWrite_66 : decode c_M_planWrite 66 = .ok (.bipush 32, 2) := by decide +kernel
theorem d_M_planWrite_68 : decode c_M_planWrite 68 = .ok (.ior, 1) := by decide +kernel
theorem d_M_planWrite_69 : decode c_M_planWrite 69 = .ok (.aload_n 0, 1) := by decide +kernel
theorem d_M_planWrite_70 : decode c_M_planWrite 70 = .ok (.getfield 40, 3) := by decide +kernel
theorem d_M_planWrite_73 : decode c_M_planWrite 73 = .ok (.iconst 1, 1) := by decide +kernel
theorem d_M_planWrite_74 : decode c_M_planWrite 74 = .ok (.if_icmp .ne 7, 3) := by decide +kernel
theorem d_M_planWrite_77 : decode c_M_planWrite 77 = .ok (.iconst 0, 1) := by decide +kernel
theorem d_M_planWrite_78 : decode c_M_planWrite 78 = .ok (.goto 5, 3) := by decide +kernel
theorem d_M_planWrite_81 : decode c_M_planWrite 81 = .ok (.bipush 16, 2) := by decide +kernel
theorem d_M_planWrite_83 : decode c_M_planWrite 83 = .ok (.ior, 1) := by decide +kernel
theorem d_M_planWrite_84 : decode c_M_planWrite 84 = .ok (.invokevirtual 183, 3) := by decide +kernel
theorem d_M_planWrite_87 : decode c_M_planWrite 87 = .ok (.goto 75, 3) := by decide +kernel
theorem d_M_planWrite_90 : decode c_M_planWrite 90 = .ok (.aload_n 0, 1) := by decide +kernel
theorem d_M_planWrite_91 : decode c_M_planWrite 91 = .ok (.aload_n 0, 1) := by decide +kernel
theorem d_M_planWrite_92 : decode c_M_planWrite 92 = .ok (.getfield 186, 3) := by decide +kernel
theorem d_M_planWrite_95 : decode c_M_planWrite 95 = .ok (.invokevirtual 183, 3) := by decide +kernel
theorem d_M_planWrite_98 : decode c_M_planWrite 98 = .ok (.goto 64, 3) := by decide +kernel
theorem d_M_planWrite_101 : decode c_M_planWrite 101 = .ok (.aload_n 0, 1) := by decide +kernel
theorem d_M_planWrite_102 : decode c_M_planWrite 102 = .ok (.aload_n 0, 1) := by decide +kernel
theorem d_M_planWrite_103 : decode c_M_planWrite 103 = .ok (.getfield 21, 3) := by decide +kernel
theorem d_M_planWrite_106 : decode c_M_planWrite 106 = .ok (.bipush 32, 2) := by decide +kernel
theorem d_M_planWrite_108 : decode c_M_planWrite 108 = .ok (.ior, 1) := by decide +kernel
theorem d_M_planWrite_109 : decode c_M_planWrite 109 = .ok (.invokevirtual 183, 3) := by decide +kernel
theorem d_M_planWrite_112 : decode c_M_planWrite 112 = .ok (.goto 50, 3) := by decide +kernel
theorem d_M_planWrite_115 : decode c_M_planWrite 115 = .ok (.aload_n 0, 1) := by decide +kernel
theorem d_M_planWrite_116 : decode c_M_planWrite 116 = .ok (.aload_n 0, 1) := by decide +kernel
theorem d_M_planWrite_117 : decode c_M_planWrite 117 = .ok (.invokevirtual 78, 3) := by decide +kernel
theorem d_M_planWrite_120 : decode c_M_planWrite 120 = .ok (.putfield 154, 3) := by decide +kernel
theorem d_M_planWrite_123 : decode c_M_planWrite 123 = .ok (.aload_n 0, 1) := by decide +kernel
theorem d_M_planWrite_124 : decode c_M_planWrite 124 = .ok (.iconst 1, 1) := by decide +kernel
theorem d_M_planWrite_125 : decode c_M_planWrite 125 = .ok (.putfield 157, 3) := by decide +kernel
theorem d_M_planWrite_128 : decode c_M_planWrite 128 = .ok (.aload_n 0, 1) := by decide +kernel
theorem d_M_planWrite_129 : decode c_M_planWrite 129 = .ok (.iload_n 1, 1) := by decide +kernel
theorem d_M_planWrite_130 : decode c_M_planWrite 130 = .ok (.bipush 12, 2) := by decide +kernel
theorem d_M_planWrite_132 : decode c_M_planWrite 132 = .ok (.if_icmp .ne 10, 3) := by decide +kernel
theorem d_M_planWrite_135 : decode c_M_planWrite 135 = .ok (.aload_n 0, 1) := by decide +kernel
theorem d_M_planWrite_136 : decode c_M_planWrite 136 = .ok (.getfield 186, 3) := by decide +kernel
theorem d_M_planWrite_139 : decode c_M_planWrite 139 = .ok (.goto 20, 3) := by decide +kernel
theorem d_M_planWrite_142 : decode c_M_planWrite 142 = .ok (.iload_n 1, 1) := by decide +kernel
theorem d_M_planWrite_143 : decode c_M_planWrite 143 = .ok (.bipush 14, 2) := by decide +kernel
theorem d_M_planWrite_145 : decode c_M_planWrite 145 = .ok (.if_icmp .ne 10, 3) := by decide +kernel
theorem d_M_planWrite_148 : decode c_M_planWrite 148 = .ok (.aload_n 0, 1) := by decide +kernel
theorem d_M_planWrite_149 : decode c_M_planWrite 149 = .ok (.getfield 72, 3) := by decide +kernel
theorem d_M_planWrite_152 : decode c_M_planWrite 152 = .ok (.goto 7, 3) := by decide +kernel
theorem d_M_planWrite_155 : decode c_M_planWrite 155 = .ok (.aload_n 0, 1) := by decide +kernel
theorem d_M_planWrite_156 : decode c_M_planWrite 156 = .ok (.getfield 189, 3) := by decide +kernel
theorem d_M_planWrite_159 : decode c_M_planWrite 159 = .ok (.putfield 163, 3) := by decide +kernel
theorem d_M_planWrite_162 : decode c_M_planWrite 162 = .ok (.return_, 1) := by decide +kernel
theorem d_M_push_0 : decode c_M_push 0 = .ok (.aload_n 0, 1) := by decide +kernel
theorem d_M_push_1 : decode c_M_push 1 = .ok (.sipush 256, 3) := by decide +kernel
theorem d_M_push_4 : decode c_M_push 4 = .ok (.aload_n 0, 1) := by decide +kernel
theorem d_M_push_5 : decode c_M_push 5 = .ok (.getfield 160, 3) := by decide +kernel
theorem d_M_push_8 : decode c_M_push 8 = .ok (.iadd, 1) := by decide +kernel
theorem d_M_push_9 : decode c_M_push 9 = .ok (.putfield 154, 3) := by decide +kernel
theorem d_M_push_12 : decode c_M_push 12 = .ok (.aload_n 0, 1) := by decide +kernel
theorem d_M_push_13 : decode c_M_push 13 = .ok (.iconst 1, 1) := by decide +kernel
theorem d_M_push_14 : decode c_M_push 14 = .ok (.putfield 157, 3) := by decide +kernel
theorem d_M_push_17 : decode c_M_push 17 = .ok (.aload_n 0, 1) := by decide +kernel
theorem d_M_push_18 : decode c_M_push 18 = .ok (.iload_n 1, 1) := by decide +kernel
theorem d_M_push_19 : decode c_M_push 19 = .ok (.sipush 255, 3) := by decide +kernel
theorem d_M_push_22 : decode c_M_push 22 = .ok (.iand, 1) := by decide +kernel
theorem d_M_push_23 : decode c_M_push 23 = .ok (.putfield 163, 3) := by decide +kernel
theorem d_M_push_26 : decode c_M_push 26 = .ok (.return_, 1) := by decide +kernel
theorem d_M_happen_0 : decode c_M_happen 0 = .ok (.iload_n 1, 1) := by decide +kernel
theorem d_M_happen_1 : decode c_M_happen 1 = .ok (.tableswitch 393 1 31 #[139, 174, 194, 214, 393, 393, 393, 393, 221, 229, 245, 393, 264, 272, 284, 393, 393, 393, 393, 393, 393, 393, 393, 393, 386, 370, 370, 393, 393, 393, 359], 139) := by decide +kernel
theorem d_M_happen_140 : decode c_M_happen 140 = .ok (.aload_n 0, 1) := by decide +kernel
theorem d_M_happen_141 : decode c_M_happen 141 = .ok (.iload_n 2, 1) := by decide +kernel
theorem d_M_happen_142 : decode c_M_happen 142 = .ok (.iconst 3, 1) := by decide +kernel
theorem d_M_happen_143 : decode c_M_happen 143 = .ok (.ishr, 1) := by decide +kernel
theorem d_M_happen_144 : decode c_M_happen 144 = .ok (.putfield 49, 3) := by decide +kernel
theorem d_M_happen_147 : decode c_M_happen 147 = .ok (.aload_n 0, 1) := by decide +kernel
theorem d_M_happen_148 : decode c_M_happen 148 = .ok (.iload_n 2, 1) := by decide +kernel
theorem d_M_happen_149 : decode c_M_happen 149 = .ok (.bipush 7, 2) := by decide +kernel
theorem d_M_happen_151 : decode c_M_happen 151 = .ok (.iand, 1) := by decide +kernel
theorem d_M_happen_152 : decode c_M_happen 152 = .ok (.putfield 52, 3) := by decide +kernel
theorem d_M_happen_155 : decode c_M_happen 155 = .ok (.aload_n 0, 1) := by decide +kernel
theorem d_M_happen_156 : decode c_M_happen 156 = .ok (.invokevirtual 192, 3) := by decide +kernel
theorem d_M_happen_159 : decode c_M_happen 159 = .ok (.aload_n 0, 1) := by decide +kernel
theorem d_M_happen_160 : decode c_M_happen 160 = .ok (.iconst 0, 1) := by decide +kernel
theorem d_M_happen_161 : decode c_M_happen 161 = .ok (.putfield 147, 3) := by decide +kernel
theorem d_M_happen_164 : decode c_M_happen 164 = .ok (.aload_n 0, 1) := by decide +kernel
theorem d_M_happen_165 : decode c_M_happen 165 = .ok (.aload_n 0, 1) := by decide +kernel
theorem d_M_happen_166 : decode c_M_happen 166 = .ok (.invokevirtual 195, 3) := by decide +kernel
theorem d_M_happen_169 : decode c_M_happen 169 = .ok (.putfield 46, 3) := by decide +kernel
theorem d_M_happen_172 : decode c_M_happen 172 = .ok (.goto 228, 3) := by decide +kernel
theorem d_M_happen_175 : decode c_M_happen 175 = .ok (.aload_n 0, 1) := by decide +kernel
theorem d_M_happen_176 : decode c_M_happen 176 = .ok (.iload_n 2, 1) := by decide +kernel
theorem d_M_happen_177 : decode c_M_happen 177 = .ok (.putfield 62, 3) := by decide +kernel
theorem d_M_happen_180 : decode c_M_happen 180 = .ok (.aload_n 0, 1) := by decide +kernel
theorem d_M_happen_181 : decode c_M_happen 181 = .ok (.invokevirtual 192, 3) := by decide +kernel
theorem d_M_happen_184 : decode c_M_happen 184 = .ok (.aload_n 0, 1) := by decide +kernel
theorem d_M_happen_185 : decode c_M_happen 185 = .ok (.aload_n 0, 1) := by decide +kernel
theorem d_M_happen_186 : decode c_M_happen 186 = .ok (.invokevirtual 198, 3) := by decide +kernel
theorem d_M_happen_189 : decode c_M_happen 189 = .ok (.putfield 108, 3) := by decide +kernel
theorem d_M_happen_192 : decode c_M_happen 192 = .ok (.goto 208, 3) := by decide +kernel
theorem d_M_happen_195 : decode c_M_happen 195 = .ok (.aload_n 0, 1) := by decide +kernel
theorem d_M_happen_196 : decode c_M_happen 196 = .ok (.iload_n 2, 1) := by decide +kernel
theorem d_M_happen_197 : decode c_M_happen 197 = .ok (.putfield 68, 3) := by decide +kernel
theorem d_M_happen_200 : decode c_M_happen 200 = .ok (.aload_n 0, 1) := by decide +kernel
theorem d_M_happen_201 : decode c_M_happen 201 = .ok (.invokevirtual 192, 3) := by decide +kernel
theorem d_M_happen_204 : decode c_M_happen 204 = .ok (.aload_n 0, 1) := by decide +kernel
theorem d_M_happen_205 : decode c_M_happen 205 = .ok (.aload_n 0, 1) := by decide +kernel
theorem d_M_happen_206 : decode c_M_happen 206 = .ok (.invokevirtual 201, 3) := by decide +kernel
theorem d_M_happen_209 : decode c_M_happen 209 = .ok (.putfield 147, 3) := by decide +kernel
theorem d_M_happen_212 : decode c_M_happen 212 = .ok (.goto 188, 3) := by decide +kernel
theorem d_M_happen_215 : decode c_M_happen 215 = .ok (.aload_n 0, 1) := by decide +kernel
theorem d_M_happen_216 : decode c_M_happen 216 = .ok (.invokevirtual 192, 3) := by decide +kernel
theorem d_M_happen_219 : decode c_M_happen 219 = .ok (.goto 181, 3) := by decide +kernel
theorem d_M_happen_222 : decode c_M_happen 222 = .ok (.aload_n 0, 1) := by decide +kernel
theorem d_M_happen_223 : decode c_M_happen 223 = .ok (.iload_n 2, 1) := by decide +kernel
theorem d_M_happen_224 : decode c_M_happen 224 = .ok (.putfield 72, 3) := by decide +kernel
theorem d_M_happen_227 : decode c_M_happen 227 = .ok (.goto 173, 3) := by decide +kernel
theorem d_M_happen_230 : decode c_M_happen 230 = .ok (.aload_n 0, 1) := by decide +kernel
theorem d_M_happen_231 : decode c_M_happen 231 = .ok (.iload_n 2, 1) := by decide +kernel
theorem d_M_happen_232 : decode c_M_happen 232 = .ok (.putfield 68, 3) := by decide +kernel
theorem d_M_happen_235 : decode c_M_happen 235 = .ok (.aload_n 0, 1) := by decide +kernel
theorem d_M_happen_236 : decode c_M_happen 236 = .ok (.aload_n 0, 1) := by decide +kernel
theorem d_M_happen_237 : decode c_M_happen 237 = .ok (.invokevirtual 201, 3) := by decide +kernel
theorem d_M_happen_240 : decode c_M_happen 240 = .ok (.putfield 147, 3) := by decide +kernel
theorem d_M_happen_243 : decode c_M_happen 243 = .ok (.goto 157, 3) := by decide +kernel
theorem d_M_happen_246 : decode c_M_happen 246 = .ok (.aload_n 0, 1) := by decide +kernel
theorem d_M_happen_247 : decode c_M_happen 247 = .ok (.getfield 52, 3) := by decide +kernel
theorem d_M_happen_250 : decode c_M_happen 250 = .ok (.ifCond .ne 7, 3) := by decide +kernel
theorem d_M_happen_253 : decode c_M_happen 253 = .ok (.aload_n 0, 1) := by decide +kernel
theorem d_M_happen_254 : decode c_M_happen 254 = .ok (.invokevirtual 192, 3) := by decide +kernel
theorem d_M_happen_257 : decode c_M_happen 257 = .ok (.aload_n 0, 1) := by decide +kernel
theorem d_M_happen_258 : decode c_M_happen 258 = .ok (.iload_n 2, 1) := by decide +kernel
theorem d_M_happen_259 : decode c_M_happen 259 = .ok (.invokevirtual 204, 3) := by decide +kernel
theorem d_M_happen_262 : decode c_M_happen 262 = .ok (.goto 138, 3) := by decide +kernel
theorem d_M_happen_265 : decode c_M_happen 265 = .ok (.aload_n 0, 1) := by decide +kernel
theorem d_M_happen_266 : decode c_M_happen 266 = .ok (.iload_n 2, 1) := by decide +kernel
theorem d_M_happen_267 : decode c_M_happen 267 = .ok (.putfield 72, 3) := by decide +kernel
theorem d_M_happen_270 : decode c_M_happen 270 = .ok (.goto 130, 3) := by decide +kernel
theorem d_M_happen_273 : decode c_M_happen 273 = .ok (.aload_n 0, 1) := by decide +kernel
theorem d_M_happen_274 : decode c_M_happen 274 = .ok (.aload_n 0, 1) := by decide +kernel
theorem d_M_happen_275 : decode c_M_happen 275 = .ok (.iload_n 2, 1) := by decide +kernel
theorem d_M_happen_276 : decode c_M_happen 276 = .ok (.invokevirtual 207, 3) := by decide +kernel
theorem d_M_happen_279 : decode c_M_happen 279 = .ok (.putfield 189, 3) := by decide +kernel
theorem d_M_happen_282 : decode c_M_happen 282 = .ok (.goto 118, 3) := by decide +kernel
theorem d_M_happen_285 : decode c_M_happen 285 = .ok (.aload_n 0, 1) := by decide +kernel
theorem d_M_happen_286 : decode c_M_happen 286 = .ok (.iconst 1, 1) := by decide +kernel
theorem d_M_happen_287 : decode c_M_happen 287 = .ok (.aload_n 0, 1) := by decide +kernel
theorem d_M_happen_288 : decode c_M_happen 288 = .ok (.getfield 49, 3) := by decide +kernel
theorem d_M_happen_291 : decode c_M_happen 291 = .ok (.bipush 12, 2) := by decide +kernel
theorem d_M_happen_293 : decode c_M_happen 293 = .ok (.if_icmp .ne 20, 3) := by decide +kernel
theorem d_M_happen_296 : decode c_M_happen 296 = .ok (.aload_n 0, 1) := by decide +kernel
theorem d_M_happen_297 : decode c_M_happen 297 = .ok (.getfield 72, 3) := by decide +kernel
theorem d_M_happen_300 : decode c_M_happen 300 = .ok (.bipush 127, 2) := by decide +kernel
theorem d_M_happen_302 : decode c_M_happen 302 = .ok (.if_icmp .le 7, 3) := by decide +kernel
theorem d_M_happen_305 : decode c_M_happen 305 = .ok (.iconst 1, 1) := by decide +kernel
theorem d_M_happen_306 : decode c_M_happen 306 = .ok (.goto 39, 3) := by decide +kernel
theorem d_M_happen_309 : decode c_M_happen 309 = .ok (.iconst 0, 1) := by decide +kernel
theorem d_M_happen_310 : decode c_M_happen 310 = .ok (.goto 35, 3) := by decide +kernel
theorem d_M_happen_313 : decode c_M_happen 313 = .ok (.aload_n 0, 1) := by decide +kernel
theorem d_M_happen_314 : decode c_M_happen 314 = .ok (.getfield 49, 3) := by decide +kernel
theorem d_M_happen_317 : decode c_M_happen 317 = .ok (.bipush 13, 2) := by decide +kernel
theorem d_M_happen_319 : decode c_M_happen 319 = .ok (.if_icmp .ne 21, 3) := by decide +kernel
theorem d_M_happen_322 : decode c_M_happen 322 = .ok (.aload_n 0, 1) := by decide +kernel
theorem d_M_happen_323 : decode c_M_happen 323 = .ok (.getfield 72, 3) := by decide +kernel
theorem d_M_happen_326 : decode c_M_happen 326 = .ok (.iconst 1, 1) := by decide +kernel
theorem d_M_happen_327 : decode c_M_happen 327 = .ok (.iand, 1) := by decide +kernel
theorem d_M_happen_328 : decode c_M_happen 328 = .ok (.iconst 1, 1) := by decide +kernel
theorem d_M_happen_329 : decode c_M_happen 329 = .ok (.if_icmp .ne 7, 3) := by decide +kernel
theorem d_M_happen_332 : decode c_M_happen 332 = .ok (.iconst 1, 1) := by decide +kernel
theorem d_M_happen_333 : decode c_M_happen 333 = .ok (.goto 12, 3) := by decide +kernel
theorem d_M_happen_336 : decode c_M_happen 336 = .ok (.iconst 0, 1) := by decide +kernel
theorem d_M_happen_337 : decode c_M_happen 337 = .ok (.goto 8, 3) := by decide +kernel
theorem d_M_happen_340 : decode c_M_happen 340 = .ok (.aload_n 0, 1) := by decide +kernel
theorem d_M_happen_341 : decode c_M_happen 341 = .ok (.iconst 1, 1) := by decide +kernel
theorem d_M_happen_342 : decode c_M_happen 342 = .ok (.invokevirtual 82, 3) := by decide +kernel
theorem d_M_happen_345 : decode c_M_happen 345 = .ok (.invokevirtual 24, 3) := by decide +kernel
theorem d_M_happen_348 : decode c_M_happen 348 = .ok (.aload_n 0, 1) := by decide +kernel
theorem d_M_happen_349 : decode c_M_happen 349 = .ok (.aload_n 0, 1) := by decide +kernel
theorem d_M_happen_350 : decode c_M_happen 350 = .ok (.iload_n 2, 1) := by decide +kernel
theorem d_M_happen_351 : decode c_M_happen 351 = .ok (.invokevirtual 210, 3) := by decide +kernel
theorem d_M_happen_354 : decode c_M_happen 354 = .ok (.putfield 189, 3) := by decide +kernel
theorem d_M_happen_357 : decode c_M_happen 357 = .ok (.goto 43, 3) := by decide +kernel
theorem d_M_happen_360 : decode c_M_happen 360 = .ok (.aload_n 0, 1) := by decide +kernel
theorem d_M_happen_361 : decode c_M_happen 361 = .ok (.aload_n 0, 1) := by decide +kernel
theorem d_M_happen_362 : decode c_M_happen 362 = .ok (.invokevirtual 115, 3) := by decide +kernel
theorem d_M_happen_365 : decode c_M_happen 365 = .ok (.putfield 59, 3) := by decide +kernel
theorem d_M_happen_368 : decode c_M_happen 368 = .ok (.goto 32, 3) := by decide +kernel
theorem d_M_happen_371 : decode c_M_happen 371 = .ok (.aload_n 0, 1) := by decide +kernel
theorem d_M_happen_372 : decode c_M_happen 372 = .ok (.aload_n 0, 1) := by decide +kernel
theorem d_M_happen_373 : decode c_M_happen 373 = .ok (.getfield 62, 3) := by decide +kernel
theorem d_M_happen_376 : decode c_M_happen 376 = .ok (.iload_n 2, 1) := by decide +kernel
theorem d_M_happen_377 : decode c_M_happen 377 = .ok (.bipush 8, 2) := by decide +kernel
theorem d_M_happen_379 : decode c_M_happen 379 = .ok (.ishl, 1) := by decide +kernel
theorem d_M_happen_380 : decode c_M_happen 380 = .ok (.ior, 1) := by decide +kernel
theorem d_M_happen_381 : decode c_M_happen 381 = .ok (.putfield 59, 3) := by decide +kernel
theorem d_M_happen_384 : decode c_M_happen 384 = .ok (.goto 16, 3) := by decide +kernel
theorem d_M_happen_387 : decode c_M_happen 387 = .ok (.aload_n 0, 1) := by decide +kernel
theorem d_M_happen_388 : decode c_M_happen 388 = .ok (.invokevirtual 192, 3) := by decide +kernel
theorem d_M_happen_391 : decode c_M_happen 391 = .ok (.goto 9, 3) := by decide +kernel
theorem d_M_happen_394 : decode c_M_happen 394 = .ok (.aload_n 0, 1) := by decide +kernel
theorem d_M_happen_395 : decode c_M_happen 395 = .ok (.iload_n 1, 1) := by decide +kernel
theorem d_M_happen_396 : decode c_M_happen 396 = .ok (.iload_n 2, 1) := by decide +kernel
theorem d_M_happen_397 : decode c_M_happen 397 = .ok (.invokevirtual 213, 3) := by decide +kernel
theorem d_M_happen_400 : decode c_M_happen 400 = .ok (.return_, 1) := by decide +kernel
theorem d_M_next_0 : decode c_M_next 0 = .ok (.aload_n 0, 1) := by decide +kernel
theorem d_M_next_1 : decode c_M_next 1 = .ok (.aload_n 0, 1) := by decide +kernel
theorem d_M_next_2 : decode c_M_next 2 = .ok (.getfield 59, 3) := by decide +kernel
theorem d_M_next_5 : decode c_M_next 5 = .ok (.iconst 1, 1) := by decide +kernel
theorem d_M_next_6 : decode c_M_next 6 = .ok (.iadd, 1) := by decide +kernel
theorem d_M_next_7 : decode c_M_next 7 = .ok (.ldc 71, 2) := by decide +kernel
theorem d_M_next_9 : decode c_M_next 9 = .ok (.iand, 1) := by decide +kernel
theorem d_M_next_10 : decode c_M_next 10 = .ok (.putfield 59, 3) := by decide +kernel
theorem d_M_next_13 : decode c_M_next 13 = .ok (.return_, 1) := by decide +kernel
theorem d_M_isJam_0 : decode c_M_isJam 0 = .ok (.aload_n 0, 1) := by decide +kernel
theorem d_M_isJam_1 : decode c_M_isJam 1 = .ok (.getfield 52, 3) := by decide +kernel
theorem d_M_isJam_4 : decode c_M_isJam 4 = .ok (.bipush 7, 2) := by decide +kernel
theorem d_M_isJam_6 : decode c_M_isJam 6 = .ok (.if_icmp .ne 18, 3) := by decide +kernel
theorem d_M_isJam_9 : decode c_M_isJam 9 = .ok (.aload_n 0, 1) := by decide +kernel
theorem d_M_isJam_10 : decode c_M_isJam 10 = .ok (.getfield 49, 3) := by decide +kernel
theorem d_M_isJam_13 : decode c_M_isJam 13 = .ok (.bipush 22, 2) := by decide +kernel
theorem d_M_isJam_15 : decode c_M_isJam 15 = .ok (.if_icmp .le 7, 3) := by decide +kernel
theorem d_M_isJam_18 : decode c_M_isJam 18 = .ok (.iconst 1, 1) := by decide +kernel
theorem d_M_isJam_19 : decode c_M_isJam 19 = .ok (.goto 4, 3) := by decide +kernel
theorem d_M_isJam_22 : decode c_M_isJam 22 = .ok (.iconst 0, 1) := by decide +kernel
theorem d_M_isJam_23 : decode c_M_isJam 23 = .ok (.ireturn, 1) := by decide +kernel
theorem d_M_isJam_24 : decode c_M_isJam 24 = .ok (.aload_n 0, 1) := by decide +kernel
theorem d_M_isJam_25 : decode c_M_isJam 25 = .ok (.getfield 49, 3) := by decide +kernel
theorem d_M_isJam_28 : decode c_M_isJam 28 = .ok (.bipush 14, 2) := by decide +kernel
theorem d_M_isJam_30 : decode c_M_isJam 30 = .ok (.if_icmp .ge 57, 3) := by decide +kernel
theorem d_M_isJam_33 : decode c_M_isJam 33 = .ok (.aload_n 0, 1) := by decide +kernel
theorem d_M_isJam_34 : decode c_M_isJam 34 = .ok (.getfield 49, 3) := by decide +kernel
theorem d_M_isJam_37 : decode c_M_isJam 37 = .ok (.iconst 1, 1) := by decide +kernel
theorem d_M_isJam_38 : decode c_M_isJam 38 = .ok (.if_icmp .ne 14, 3) := by decide +kernel
theorem d_M_isJam_41 : decode c_M_isJam 41 = .ok (.aload_n 0, 1) := by decide +kernel
theorem d_M_isJam_42 : decode c_M_isJam 42 = .ok (.getfield 52, 3) := by decide +kernel
theorem d_M_isJam_45 : decode c_M_isJam 45 = .ok (.ifCond .ne 7, 3) := by decide +kernel
theorem d_M_isJam_48 : decode c_M_isJam 48 = .ok (.iconst 1, 1) := by decide +kernel
theorem d_M_isJam_49 : decode c_M_isJam 49 = .ok (.goto 4, 3) := by decide +kernel
theorem d_M_isJam_52 : decode c_M_isJam 52 = .ok (.iconst 0, 1) := by decide +kernel
theorem d_M_isJam_53 : decode c_M_isJam 53 = .ok (.istore_n 1, 1) := by decide +kernel
theorem d_M_isJam_54 : decode c_M_isJam 54 = .ok (.iload_n 1, 1) := by decide +kernel
theorem d_M_isJam_55 : decode c_M_isJam 55 = .ok (.ifCond .ne 26, 3) := by decide +kernel
theorem d_M_isJam_58 : decode c_M_isJam 58 = .ok (.aload_n 0, 1) := by decide +kernel
theorem d_M_isJam_59 : decode c_M_isJam 59 = .ok (.invokevirtual 55, 3) := by decide +kernel
theorem d_M_isJam_62 : decode c_M_isJam 62 = .ok (.ifCond .eq 23, 3) := by decide +kernel
theorem d_M_isJam_65 : decode c_M_isJam 65 = .ok (.aload_n 0, 1) := by decide +kernel
theorem d_M_isJam_66 : decode c_M_isJam 66 = .ok (.getfield 52, 3) := by decide +kernel
theorem d_M_isJam_69 : decode c_M_isJam 69 = .ok (.iconst 1, 1) := by decide +kernel
theorem d_M_isJam_70 : decode c_M_isJam 70 = .ok (.if_icmp .lt 11, 3) := by decide +kernel
theorem d_M_isJam_73 : decode c_M_isJam 73 = .ok (.aload_n 0, 1) := by decide +kernel
theorem d_M_isJam_74 : decode c_M_isJam 74 = .ok (.getfield 52, 3) := by decide +kernel
theorem d_M_isJam_77 : decode c_M_isJam 77 = .ok (.iconst 4, 1) := by decide +kernel
theorem d_M_isJam_78 : decode c_M_isJam 78 = .ok (.if_icmp .le 7, 3) := by decide +kernel
theorem d_M_isJam_81 : decode c_M_isJam 81 = .ok (.iconst 1, 1) := by decide +kernel
theorem d_M_isJam_82 : decode c_M_isJam 82 = .ok (.goto 4, 3) := by decide +kernel
theorem d_M_isJam_85 : decode c_M_isJam 85 = .ok (.iconst 0, 1) := by decide +kernel
theorem d_M_isJam_86 : decode c_M_isJam 86 = .ok (.ireturn, 1) := by decide +kernel
theorem d_M_isJam_87 : decode c_M_isJam 87 = .ok (.aload_n 0, 1) := by decide +kernel
theorem d_M_isJam_88 : decode c_M_isJam 88 = .ok (.getfield 49, 3) := by decide +kernel
theorem d_M_isJam_91 : decode c_M_isJam 91 = .ok (.bipush 16, 2) := by decide +kernel
theorem d_M_isJam_93 : decode c_M_isJam 93 = .ok (.if_icmp .lt 19, 3) := by decide +kernel
theorem d_M_isJam_96 : decode c_M_isJam 96 = .ok (.aload_n 0, 1) := by decide +kernel
theorem d_M_isJam_97 : decode c_M_isJam 97 = .ok (.getfield 49, 3) := by decide +kernel
theorem d_M_isJam_100 : decode c_M_isJam 100 = .ok (.bipush 23, 2) := by decide +kernel
theorem d_M_isJam_102 : decode c_M_isJam 102 = .ok (.if_icmp .gt 10, 3) := by decide +kernel
theorem d_M_isJam_105 : decode c_M_isJam 105 = .ok (.aload_n 0, 1) := by decide +kernel
theorem d_M_isJam_106 : decode c_M_isJam 106 = .ok (.getfield 52, 3) := by decide +kernel
theorem d_M_isJam_109 : decode c_M_isJam 109 = .ok (.ifCond .eq 33, 3) := by decide +kernel
theorem d_M_isJam_112 : decode c_M_isJam 112 = .ok (.aload_n 0, 1) := by decide +kernel
theorem d_M_isJam_113 : decode c_M_isJam 113 = .ok (.getfield 49, 3) := by decide +kernel
theorem d_M_isJam_116 : decode c_M_isJam 116 = .ok (.bipush 24, 2) := by decide +kernel
theorem d_M_isJam_118 : decode c_M_isJam 118 = .ok (.if_icmp .eq 12, 3) := by decide +kernel
theorem d_M_isJam_121 : decode c_M_isJam 121 = .ok (.aload_n 0, 1) := by decide +kernel
theorem d_M_isJam_122 : decode c_M_isJam 122 = .ok (.getfield 49, 3) := by decide +kernel
theorem d_M_isJam_125 : decode c_M_isJam 125 = .ok (.bipush 25, 2) := by decide +kernel
theorem d_M_isJam_127 : decode c_M_isJam 127 = .ok (.if_icmp .ne 11, 3) := by decide +kernel
theorem d_M_isJam_130 : decode c_M_isJam 130 = .ok (.aload_n 0, 1) := by decide +kernel
theorem d_M_isJam_131 : decode c_M_isJam 131 = .ok (.getfield 52, 3) := by decide +kernel
theorem d_M_isJam_134 : decode c_M_isJam 134 = .ok (.iconst 3, 1) := by decide +kernel
theorem d_M_isJam_135 : decode c_M_isJam 135 = .ok (.if_icmp .eq 7, 3) := by decide +kernel
theorem d_M_isJam_138 : decode c_M_isJam 138 = .ok (.iconst 1, 1) := by decide +kernel
theorem d_M_isJam_139 : decode c_M_isJam 139 = .ok (.goto 4, 3) := by decide +kernel
theorem d_M_isJam_142 : decode c_M_isJam 142 = .ok (.iconst 0, 1) := by decide +kernel
theorem d_M_isJam_143 : decode c_M_isJam 143 = .ok (.ireturn, 1) := by decide +kernel
theorem d_M_isTaken_0 : decode c_M_isTaken 0 = .ok (.aload_n 0, 1) := by decide +kernel
theorem d_M_isTaken_1 : decode c_M_isTaken 1 = .ok (.getfield 49, 3) := by decide +kernel
theorem d_M_isTaken_4 : decode c_M_isTaken 4 = .ok (.bipush 16, 2) := by decide +kernel
theorem d_M_isTaken_6 : decode c_M_isTaken 6 = .ok (.isub, 1) := by decide +kernel
theorem d_M_isTaken_7 : decode c_M_isTaken 7 = .ok (.istore_n 1, 1) := by decide +kernel
theorem d_M_isTaken_8 : decode c_M_isTaken 8 = .ok (.iload_n 1, 1) := by decide +kernel
theorem d_M_isTaken_9 : decode c_M_isTaken 9 = .ok (.iconst 2, 1) := by decide +kernel
theorem d_M_isTaken_10 : decode c_M_isTaken 10 = .ok (.if_icmp .ge 9, 3) := by decide +kernel
theorem d_M_isTaken_13 : decode c_M_isTaken 13 = .ok (.sipush 128, 3) := by decide +kernel
theorem d_M_isTaken_16 : decode c_M_isTaken 16 = .ok (.goto 24, 3) := by decide +kernel
theorem d_M_isTaken_19 : decode c_M_isTaken 19 = .ok (.iload_n 1, 1) := by decide +kernel
theorem d_M_isTaken_20 : decode c_M_isTaken 20 = .ok (.iconst 4, 1) := by decide +kernel
theorem d_M_isTaken_21 : decode c_M_isTaken 21 = .ok (.if_icmp .ge 8, 3) := by decide +kernel
theorem d_M_isTaken_24 : decode c_M_isTaken 24 = .ok (.bipush 64, 2) := by decide +kernel
theorem d_M_isTaken_26 : decode c_M_isTaken 26 = .ok (.goto 14, 3) := by decide +kernel
theorem d_M_isTaken_29 : decode c_M_isTaken 29 = .ok (.iload_n 1, 1) := by decide +kernel
theorem d_M_isTaken_30 : decode c_M_isTaken 30 = .ok (.bipush 6, 2) := by decide +kernel
theorem d_M_isTaken_32 : decode c_M_isTaken 32 = .ok (.if_icmp .ge 7, 3) := by decide +kernel
theorem d_M_isTaken_35 : decode c_M_isTaken 35 = .ok (.iconst 1, 1) := by decide +kernel
theorem d_M_isTaken_36 : decode c_M_isTaken 36 = .ok (.goto 4, 3) := by decide +kernel
theorem d_M_isTaken_39 : decode c_M_isTaken 39 = .ok (.iconst 2, 1) := by decide +kernel
theorem d_M_isTaken_40 : decode c_M_isTaken 40 = .ok (.istore_n 2, 1) := by decide +kernel
theorem d_M_isTaken_41 : decode c_M_isTaken 41 = .ok (.aload_n 0, 1) := by decide +kernel
theorem d_M_isTaken_42 : decode c_M_isTaken 42 = .ok (.iload_n 2, 1) := by decide +kernel
theorem d_M_isTaken_43 : decode c_M_isTaken 43 = .ok (.invokevirtual 82, 3) := by decide +kernel
theorem d_M_isTaken_46 : decode c_M_isTaken 46 = .ok (.iload_n 1, 1) := by decide +kernel
theorem d_M_isTaken_47 : decode c_M_isTaken 47 = .ok (.iconst 2, 1) := by decide +kernel
theorem d_M_isTaken_48 : decode c_M_isTaken 48 = .ok (.irem, 1) := by decide +kernel
theorem d_M_isTaken_49 : decode c_M_isTaken 49 = .ok (.iconst 1, 1) := by decide +kernel
theorem d_M_isTaken_50 : decode c_M_isTaken 50 = .ok (.if_icmp .ne 7, 3) := by decide +kernel
theorem d_M_isTaken_53 : decode c_M_isTaken 53 = .ok (.iconst 1, 1) := by decide +kernel
theorem d_M_isTaken_54 : decode c_M_isTaken 54 = .ok (.goto 4, 3) := by decide +kernel
theorem d_M_isTaken_57 : decode c_M_isTaken 57 = .ok (.iconst 0, 1) := by decide +kernel
theorem d_M_isTaken_58 : decode c_M_isTaken 58 = .ok (.if_icmp .ne 7, 3) := by decide +kernel
theorem d_M_isTaken_61 : decode c_M_isTaken 61 = .ok (.iconst 1, 1) := by decide +kernel
theorem d_M_isTaken_62 : decode c_M_isTaken 62 = .ok (.goto 4, 3) := by decide +kernel
theorem d_M_isTaken_65 : decode c_M_isTaken 65 = .ok (.iconst 0, 1) := by decide +kernel
theorem d_M_isTaken_66 : decode c_M_isTaken 66 = .ok (.ireturn, 1) := by decide +kernel
theorem d_M_is_0 : decode c_M_is 0 = .ok (.aload_n 0, 1) := by decide +kernel
theorem d_M_is_1 : decode c_M_is 1 = .ok (.getfield 21, 3) := by decide +kernel
theorem d_M_is_4 : decode c_M_is 4 = .ok (.iload_n 1, 1) := by decide +kernel
theorem d_M_is_5 : decode c_M_is 5 = .ok (.iand, 1) := by decide +kernel
theorem d_M_is_6 : decode c_M_is 6 = .ok (.ifCond .eq 7, 3) := by decide +kernel
theorem d_M_is_9 : decode c_M_is 9 = .ok (.iconst 1, 1) := by decide +kernel
theorem d_M_is_10 : decode c_M_is 10 = .ok (.goto 4, 3) := by decide +kernel
theorem d_M_is_13 : decode c_M_is 13 = .ok (.iconst 0, 1) := by decide +kernel
theorem d_M_is_14 : decode c_M_is 14 = .ok (.ireturn, 1) := by decide +kernel
theorem d_M_isHalf_0 : decode c_M_isHalf 0 = .ok (.aload_n 0, 1) := by decide +kernel
theorem d_M_isHalf_1 : decode c_M_isHalf 1 = .ok (.getfield 52, 3) := by decide +kernel
theorem d_M_isHalf_4 : decode c_M_isHalf 4 = .ok (.iconst 4, 1) := by decide +kernel
theorem d_M_isHalf_5 : decode c_M_isHalf 5 = .ok (.if_icmp .eq 16, 3) := by decide +kernel
theorem d_M_isHalf_8 : decode c_M_isHalf 8 = .ok (.aload_n 0, 1) := by decide +kernel
theorem d_M_isHalf_9 : decode c_M_isHalf 9 = .ok (.getfield 52, 3) := by decide +kernel
theorem d_M_isHalf_12 : decode c_M_isHalf 12 = .ok (.bipush 6, 2) := by decide +kernel
theorem d_M_isHalf_14 : decode c_M_isHalf 14 = .ok (.if_icmp .eq 7, 3) := by decide +kernel
theorem d_M_isHalf_17 : decode c_M_isHalf 17 = .ok (.iconst 0, 1) := by decide +kernel
theorem d_M_isHalf_18 : decode c_M_isHalf 18 = .ok (.goto 37, 3) := by decide +kernel
theorem d_M_isHalf_21 : decode c_M_isHalf 21 = .ok (.aload_n 0, 1) := by decide +kernel
theorem d_M_isHalf_22 : decode c_M_isHalf 22 = .ok (.getfield 49, 3) := by decide +kernel
theorem d_M_isHalf_25 : decode c_M_isHalf 25 = .ok (.iconst 1, 1) := by decide +kernel
theorem d_M_isHalf_26 : decode c_M_isHalf 26 = .ok (.if_icmp .eq 24, 3) := by decide +kernel
theorem d_M_isHalf_29 : decode c_M_isHalf 29 = .ok (.aload_n 0, 1) := by decide +kernel
theorem d_M_isHalf_30 : decode c_M_isHalf 30 = .ok (.invokevirtual 55, 3) := by decide +kernel
theorem d_M_isHalf_33 : decode c_M_isHalf 33 = .ok (.ifCond .ne 17, 3) := by decide +kernel
theorem d_M_isHalf_36 : decode c_M_isHalf 36 = .ok (.aload_n 0, 1) := by decide +kernel
theorem d_M_isHalf_37 : decode c_M_isHalf 37 = .ok (.invokevirtual 78, 3) := by decide +kernel
theorem d_M_isHalf_40 : decode c_M_isHalf 40 = .ok (.bipush 8, 2) := by decide +kernel
theorem d_M_isHalf_42 : decode c_M_isHalf 42 = .ok (.ishr, 1) := by decide +kernel
theorem d_M_isHalf_43 : decode c_M_isHalf 43 = .ok (.aload_n 0, 1) := by decide +kernel
theorem d_M_isHalf_44 : decode c_M_isHalf 44 = .ok (.getfield 68, 3) := by decide +kernel
theorem d_M_isHalf_47 : decode c_M_isHalf 47 = .ok (.if_icmp .eq 7, 3) := by decide +kernel
theorem d_M_isHalf_50 : decode c_M_isHalf 50 = .ok (.iconst 1, 1) := by decide +kernel
theorem d_M_isHalf_51 : decode c_M_isHalf 51 = .ok (.goto 4, 3) := by decide +kernel
theorem d_M_isHalf_54 : decode c_M_isHalf 54 = .ok (.iconst 0, 1) := by decide +kernel
theorem d_M_isHalf_55 : decode c_M_isHalf 55 = .ok (.ireturn, 1) := by decide +kernel
theorem d_M_use_0 : decode c_M_use 0 = .ok (.aload_n 0, 1) := by decide +kernel
theorem d_M_use_1 : decode c_M_use 1 = .ok (.getfield 49, 3) := by decide +kernel
theorem d_M_use_4 : decode c_M_use 4 = .ok (.tableswitch 204 0 8 #[52, 204, 64, 93, 105, 122, 139, 156, 192], 52) := by decide +kernel
theorem d_M_use_56 : decode c_M_use 56 = .ok (.aload_n 0, 1) := by decide +kernel
theorem d_M_use_57 : decode c_M_use 57 = .ok (.aload_n 0, 1) := by decide +kernel
theorem d_M_use_58 : decode c_M_use 58 = .ok (.iload_n 1, 1) := by decide +kernel
theorem d_M_use_59 : decode c_M_use 59 = .ok (.invokevirtual 210, 3) := by decide +kernel
theorem d_M_use_62 : decode c_M_use 62 = .ok (.putfield 186, 3) := by decide +kernel
theorem d_M_use_65 : decode c_M_use 65 = .ok (.goto 152, 3) := by decide +kernel
theorem d_M_use_68 : decode c_M_use 68 = .ok (.aload_n 0, 1) := by decide +kernel
theorem d_M_use_69 : decode c_M_use 69 = .ok (.aload_n 0, 1) := by decide +kernel
theorem d_M_use_70 : decode c_M_use 70 = .ok (.bipush 8, 2) := by decide +kernel
theorem d_M_use_72 : decode c_M_use 72 = .ok (.invokevirtual 82, 3) := by decide +kernel
theorem d_M_use_75 : decode c_M_use 75 = .ok (.ifCond .eq 11, 3) := by decide +kernel
theorem d_M_use_78 : decode c_M_use 78 = .ok (.aload_n 0, 1) := by decide +kernel
theorem d_M_use_79 : decode c_M_use 79 = .ok (.iload_n 1, 1) := by decide +kernel
theorem d_M_use_80 : decode c_M_use 80 = .ok (.invokevirtual 223, 3) := by decide +kernel
theorem d_M_use_83 : decode c_M_use 83 = .ok (.goto 8, 3) := by decide +kernel
theorem d_M_use_86 : decode c_M_use 86 = .ok (.aload_n 0, 1) := by decide +kernel
theorem d_M_use_87 : decode c_M_use 87 = .ok (.iload_n 1, 1) := by decide +kernel
theorem d_M_use_88 : decode c_M_use 88 = .ok (.invokevirtual 226, 3) := by decide +kernel
theorem d_M_use_91 : decode c_M_use 91 = .ok (.putfield 186, 3) := by decide +kernel
theorem d_M_use_94 : decode c_M_use 94 = .ok (.goto 123, 3) := by decide +kernel
theorem d_M_use_97 : decode c_M_use 97 = .ok (.aload_n 0, 1) := by decide +kernel
theorem d_M_use_98 : decode c_M_use 98 = .ok (.aload_n 0, 1) := by decide +kernel
theorem d_M_use_99 : decode c_M_use 99 = .ok (.iload_n 1, 1) := by decide +kernel
theorem d_M_use_100 : decode c_M_use 100 = .ok (.invokevirtual 229, 3) := by decide +kernel
theorem d_M_use_103 : decode c_M_use 103 = .ok (.putfield 186, 3) := by decide +kernel
theorem d_M_use_106 : decode c_M_use 106 = .ok (.goto 111, 3) := by decide +kernel
theorem d_M_use_109 : decode c_M_use 109 = .ok (.aload_n 0, 1) := by decide +kernel
theorem d_M_use_110 : decode c_M_use 110 = .ok (.aload_n 0, 1) := by decide +kernel
theorem d_M_use_111 : decode c_M_use 111 = .ok (.aload_n 0, 1) := by decide +kernel
theorem d_M_use_112 : decode c_M_use 112 = .ok (.getfield 186, 3) := by decide +kernel
theorem d_M_use_115 : decode c_M_use 115 = .ok (.iload_n 1, 1) := by decide +kernel
theorem d_M_use_116 : decode c_M_use 116 = .ok (.iand, 1) := by decide +kernel
theorem d_M_use_117 : decode c_M_use 117 = .ok (.invokevirtual 210, 3) := by decide +kernel
theorem d_M_use_120 : decode c_M_use 120 = .ok (.putfield 186, 3) := by decide +kernel
theorem d_M_use_123 : decode c_M_use 123 = .ok (.goto 94, 3) := by decide +kernel
theorem d_M_use_126 : decode c_M_use 126 = .ok (.aload_n 0, 1) := by decide +kernel
theorem d_M_use_127 : decode c_M_use 127 = .ok (.aload_n 0, 1) := by decide +kernel
theorem d_M_use_128 : decode c_M_use 128 = .ok (.aload_n 0, 1) := by decide +kernel
theorem d_M_use_129 : decode c_M_use 129 = .ok (.getfield 186, 3) := by decide +kernel
theorem d_M_use_132 : decode c_M_use 132 = .ok (.iload_n 1, 1) := by decide +kernel
theorem d_M_use_133 : decode c_M_use 133 = .ok (.ior, 1) := by decide +kernel
theorem d_M_use_134 : decode c_M_use 134 = .ok (.invokevirtual 210, 3) := by decide +kernel
theorem d_M_use_137 : decode c_M_use 137 = .ok (.putfield 186, 3) := by decide +kernel
theorem d_M_use_140 : decode c_M_use 140 = .ok (.goto 77, 3) := by decide +kernel
theorem d_M_use_143 : decode c_M_use 143 = .ok (.aload_n 0, 1) := by decide +kernel
theorem d_M_use_144 : decode c_M_use 144 = .ok (.aload_n 0, 1) := by decide +kernel
theorem d_M_use_145 : decode c_M_use 145 = .ok (.aload_n 0, 1) := by decide +kernel
theorem d_M_use_146 : decode c_M_use 146 = .ok (.getfield 186, 3) := by decide +kernel
theorem d_M_use_149 : decode c_M_use 149 = .ok (.iload_n 1, 1) := by decide +kernel
theorem d_M_use_150 : decode c_M_use 150 = .ok (.ixor, 1) := by decide +kernel
theorem d_M_use_151 : decode c_M_use 151 = .ok (.invokevirtual 210, 3) := by decide +kernel
theorem d_M_use_154 : decode c_M_use 154 = .ok (.putfield 186, 3) := by decide +kernel
theorem d_M_use_157 : decode c_M_use 157 = .ok (.goto 60, 3) := by decide +kernel
theorem d_M_use_160 : decode c_M_use 160 = .ok (.aload_n 0, 1) := by decide +kernel
theorem d_M_use_161 : decode c_M_use 161 = .ok (.iconst 1, 1) := by decide +kernel
theorem d_M_use_162 : decode c_M_use 162 = .ok (.aload_n 0, 1) := by decide +kernel
theorem d_M_use_163 : decode c_M_use 163 = .ok (.getfield 186, 3) := by decide +kernel
theorem d_M_use_166 : decode c_M_use 166 = .ok (.iload_n 1, 1) := by decide +kernel
theorem d_M_use_167 : decode c_M_use 167 = .ok (.if_icmp .lt 7, 3) := by decide +kernel
theorem d_M_use_170 : decode c_M_use 170 = .ok (.iconst 1, 1) := by decide +kernel
theorem d_M_use_171 : decode c_M_use 171 = .ok (.goto 4, 3) := by decide +kernel
theorem d_M_use_174 : decode c_M_use 174 = .ok (.iconst 0, 1) := by decide +kernel
theorem d_M_use_175 : decode c_M_use 175 = .ok (.invokevirtual 24, 3) := by decide +kernel
theorem d_M_use_178 : decode c_M_use 178 = .ok (.aload_n 0, 1) := by decide +kernel
theorem d_M_use_179 : decode c_M_use 179 = .ok (.aload_n 0, 1) := by decide +kernel
theorem d_M_use_180 : decode c_M_use 180 = .ok (.getfield 186, 3) := by decide +kernel
theorem d_M_use_183 : decode c_M_use 183 = .ok (.iload_n 1, 1) := by decide +kernel
theorem d_M_use_184 : decode c_M_use 184 = .ok (.isub, 1) := by decide +kernel
theorem d_M_use_185 : decode c_M_use 185 = .ok (.sipush 255, 3) := by decide +kernel
theorem d_M_use_188 : decode c_M_use 188 = .ok (.iand, 1) := by decide +kernel
theorem d_M_use_189 : decode c_M_use 189 = .ok (.invokevirtual 210, 3) := by decide +kernel
theorem d_M_use_192 : decode c_M_use 192 = .ok (.istore_n 2, 1) := by decide +kernel
theorem d_M_use_193 : decode c_M_use 193 = .ok (.goto 24, 3) := by decide +kernel
theorem d_M_use_196 : decode c_M_use 196 = .ok (.aload_n 0, 1) := by decide +kernel
theorem d_M_use_197 : decode c_M_use 197 = .ok (.aload_n 0, 1) := by decide +kernel
theorem d_M_use_198 : decode c_M_use 198 = .ok (.iload_n 1, 1) := by decide +kernel
theorem d_M_use_199 : decode c_M_use 199 = .ok (.invokevirtual 210, 3) := by decide +kernel
theorem d_M_use_202 : decode c_M_use 202 = .ok (.putfield 65, 3) := by decide +kernel
theorem d_M_use_205 : decode c_M_use 205 = .ok (.goto 12, 3) := by decide +kernel
theorem d_M_use_208 : decode c_M_use 208 = .ok (.aload_n 0, 1) := by decide +kernel
theorem d_M_use_209 : decode c_M_use 209 = .ok (.aload_n 0, 1) := by decide +kernel
theorem d_M_use_210 : decode c_M_use 210 = .ok (.iload_n 1, 1) := by decide +kernel
theorem d_M_use_211 : decode c_M_use 211 = .ok (.invokevirtual 210, 3) := by decide +kernel
theorem d_M_use_214 : decode c_M_use 214 = .ok (.putfield 75, 3) := by decide +kernel
theorem d_M_use_217 : decode c_M_use 217 = .ok (.return_, 1) := by decide +kernel
theorem d_M_mark_0 : decode c_M_mark 0 = .ok (.aload_n 0, 1) := by decide +kernel
theorem d_M_mark_1 : decode c_M_mark 1 = .ok (.sipush 128, 3) := by decide +kernel
theorem d_M_mark_4 : decode c_M_mark 4 = .ok (.iload_n 1, 1) := by decide +kernel
theorem d_M_mark_5 : decode c_M_mark 5 = .ok (.bipush 127, 2) := by decide +kernel
theorem d_M_mark_7 : decode c_M_mark 7 = .ok (.if_icmp .le 7, 3) := by decide +kernel
theorem d_M_mark_10 : decode c_M_mark 10 = .ok (.iconst 1, 1) := by decide +kernel
theorem d_M_mark_11 : decode c_M_mark 11 = .ok (.goto 4, 3) := by decide +kernel
theorem d_M_mark_14 : decode c_M_mark 14 = .ok (.iconst 0, 1) := by decide +kernel
theorem d_M_mark_15 : decode c_M_mark 15 = .ok (.invokevirtual 24, 3) := by decide +kernel
theorem d_M_mark_18 : decode c_M_mark 18 = .ok (.aload_n 0, 1) := by decide +kernel
theorem d_M_mark_19 : decode c_M_mark 19 = .ok (.iconst 2, 1) := by decide +kernel
theorem d_M_mark_20 : decode c_M_mark 20 = .ok (.iload_n 1, 1) := by decide +kernel
theorem d_M_mark_21 : decode c_M_mark 21 = .ok (.ifCond .ne 7, 3) := by decide +kernel
theorem d_M_mark_24 : decode c_M_mark 24 = .ok (.iconst 1, 1) := by decide +kernel
theorem d_M_mark_25 : decode c_M_mark 25 = .ok (.goto 4, 3) := by decide +kernel
theorem d_M_mark_28 : decode c_M_mark 28 = .ok (.iconst 0, 1) := by decide +kernel
theorem d_M_mark_29 : decode c_M_mark 29 = .ok (.invokevirtual 24, 3) := by decide +kernel
theorem d_M_mark_32 : decode c_M_mark 32 = .ok (.iload_n 1, 1) := by decide +kernel
theorem d_M_mark_33 : decode c_M_mark 33 = .ok (.ireturn, 1) := by decide +kernel
theorem d_M_put_0 : decode c_M_put 0 = .ok (.aload_n 0, 1) := by decide +kernel
theorem d_M_put_1 : decode c_M_put 1 = .ok (.iload_n 2, 1) := by decide +kernel
theorem d_M_put_2 : decode c_M_put 2 = .ok (.ifCond .eq 12, 3) := by decide +kernel
theorem d_M_put_5 : decode c_M_put 5 = .ok (.aload_n 0, 1) := by decide +kernel
theorem d_M_put_6 : decode c_M_put 6 = .ok (.getfield 21, 3) := by decide +kernel
theorem d_M_put_9 : decode c_M_put 9 = .ok (.iload_n 1, 1) := by decide +kernel
theorem d_M_put_10 : decode c_M_put 10 = .ok (.ior, 1) := by decide +kernel
theorem d_M_put_11 : decode c_M_put 11 = .ok (.goto 11, 3) := by decide +kernel
theorem d_M_put_14 : decode c_M_put 14 = .ok (.aload_n 0, 1) := by decide +kernel
theorem d_M_put_15 : decode c_M_put 15 = .ok (.getfield 21, 3) := by decide +kernel
theorem d_M_put_18 : decode c_M_put 18 = .ok (.iload_n 1, 1) := by decide +kernel
theorem d_M_put_19 : decode c_M_put 19 = .ok (.iconst (-1), 1) := by decide +kernel
theorem d_M_put_20 : decode c_M_put 20 = .ok (.ixor, 1) := by decide +kernel
theorem d_M_put_21 : decode c_M_put 21 = .ok (.iand, 1) := by decide +kernel
theorem d_M_put_22 : decode c_M_put 22 = .ok (.putfield 21, 3) := by decide +kernel
theorem d_M_put_25 : decode c_M_put 25 = .ok (.return_, 1) := by decide +kernel
theorem d_M_addDecimal_0 : decode c_M_addDecimal 0 = .ok (.aload_n 0, 1) := by decide +kernel
theorem d_M_addDecimal_1 : decode c_M_addDecimal 1 = .ok (.getfield 21, 3) := by decide +kernel
theorem d_M_addDecimal_4 : decode c_M_addDecimal 4 = .ok (.iconst 1, 1) := by decide +kernel
theorem d_M_addDecimal_5 : decode c_M_addDecimal 5 = .ok (.iand, 1) := by decide +kernel
theorem d_M_addDecimal_6 : decode c_M_addDecimal 6 = .ok (.istore_n 2, 1) := by decide +kernel
theorem d_M_addDecimal_7 : decode c_M_addDecimal 7 = .ok (.aload_n 0, 1) := by decide +kernel
theorem d_M_addDecimal_8 : decode c_M_addDecimal 8 = .ok (.getfield 186, 3) := by decide +kernel
theorem d_M_addDecimal_11 : decode c_M_addDecimal 11 = .ok (.bipush 15, 2) := by decide +kernel
theorem d_M_addDecimal_13 : decode c_M_addDecimal 13 = .ok (.iand, 1) := by decide +kernel
theorem d_M_addDecimal_14 : decode c_M_addDecimal 14 = .ok (.iload_n 1, 1) := by decide +kernel
theorem d_M_addDecimal_15 : decode c_M_addDecimal 15 = .ok (.bipush 15, 2) := by decide +kernel
theorem d_M_addDecimal_17 : decode c_M_addDecimal 17 = .ok (.iand, 1) := by decide +kernel
theorem d_M_addDecimal_18 : decode c_M_addDecimal 18 = .ok (.iadd, 1) := by decide +kernel
theorem d_M_addDecimal_19 : decode c_M_addDecimal 19 = .ok (.iload_n 2, 1) := by decide +kernel
theorem d_M_addDecimal_20 : decode c_M_addDecimal 20 = .ok (.iadd, 1) := by decide +kernel
theorem d_M_addDecimal_21 : decode c_M_addDecimal 21 = .ok (.istore_n 3, 1) := by decide +kernel
theorem d_M_addDecimal_22 : decode c_M_addDecimal 22 = .ok (.iload_n 3, 1) := by decide +kernel
theorem d_M_addDecimal_23 : decode c_M_addDecimal 23 = .ok (.bipush 9, 2) := by decide +kernel
theorem d_M_addDecimal_25 : decode c_M_addDecimal 25 = .ok (.if_icmp .le 10, 3) := by decide +kernel
theorem d_M_addDecimal_28 : decode c_M_addDecimal 28 = .ok (.iload_n 3, 1) := by decide +kernel
theorem d_M_addDecimal_29 : decode c_M_addDecimal 29 = .ok (.bipush 6, 2) := by decide +kernel
theorem d_M_addDecimal_31 : decode c_M_addDecimal 31 = .ok (.iadd, 1) := by decide +kernel
theorem d_M_addDecimal_32 : decode c_M_addDecimal 32 = .ok (.goto 4, 3) := by decide +kernel
theorem d_M_addDecimal_35 : decode c_M_addDecimal 35 = .ok (.iload_n 3, 1) := by decide +kernel
theorem d_M_addDecimal_36 : decode c_M_addDecimal 36 = .ok (.istore_n 3, 1) := by decide +kernel
theorem d_M_addDecimal_37 : decode c_M_addDecimal 37 = .ok (.aload_n 0, 1) := by decide +kernel
theorem d_M_addDecimal_38 : decode c_M_addDecimal 38 = .ok (.getfield 186, 3) := by decide +kernel
theorem d_M_addDecimal_41 : decode c_M_addDecimal 41 = .ok (.iconst 4, 1) := by decide +kernel
theorem d_M_addDecimal_42 : decode c_M_addDecimal 42 = .ok (.ishr, 1) := by decide +kernel
theorem d_M_addDecimal_43 : decode c_M_addDecimal 43 = .ok (.iload_n 1, 1) := by decide +kernel
theorem d_M_addDecimal_44 : decode c_M_addDecimal 44 = .ok (.iconst 4, 1) := by decide +kernel
theorem d_M_addDecimal_45 : decode c_M_addDecimal 45 = .ok (.ishr, 1) := by decide +kernel
theorem d_M_addDecimal_46 : decode c_M_addDecimal 46 = .ok (.iadd, 1) := by decide +kernel
theorem d_M_addDecimal_47 : decode c_M_addDecimal 47 = .ok (.iload_n 3, 1) := by decide +kernel
theorem d_M_addDecimal_48 : decode c_M_addDecimal 48 = .ok (.bipush 15, 2) := by decide +kernel
theorem d_M_addDecimal_50 : decode c_M_addDecimal 50 = .ok (.if_icmp .le 7, 3) := by decide +kernel
theorem d_M_addDecimal_53 : decode c_M_addDecimal 53 = .ok (.iconst 1, 1) := by decide +kernel
theorem d_M_addDecimal_54 : decode c_M_addDecimal 54 = .ok (.goto 4, 3) := by decide +kernel
theorem d_M_addDecimal_57 : decode c_M_addDecimal 57 = .ok (.iconst 0, 1) := by decide +kernel
theorem d_M_addDecimal_58 : decode c_M_addDecimal 58 = .ok (.iadd, 1) := by decide +kernel
theorem d_M_addDecimal_59 : decode c_M_addDecimal 59 = .ok (.istore 4, 2) := by decide +kernel
theorem d_M_addDecimal_61 : decode c_M_addDecimal 61 = .ok (.aload_n 0, 1) := by decide +kernel
theorem d_M_addDecimal_62 : decode c_M_addDecimal 62 = .ok (.iconst 2, 1) := by decide +kernel
theorem d_M_addDecimal_63 : decode c_M_addDecimal 63 = .ok (.aload_n 0, 1) := by decide +kernel
theorem d_M_addDecimal_64 : decode c_M_addDecimal 64 = .ok (.getfield 186, 3) := by decide +kernel
theorem d_M_addDecimal_67 : decode c_M_addDecimal 67 = .ok (.iload_n 1, 1) := by decide +kernel
theorem d_M_addDecimal_68 : decode c_M_addDecimal 68 = .ok (.iadd, 1) := by decide +kernel
theorem d_M_addDecimal_69 : decode c_M_addDecimal 69 = .ok (.iload_n 2, 1) := by decide +kernel
theorem d_M_addDecimal_70 : decode c_M_addDecimal 70 = .ok (.iadd, 1) := by decide +kernel
theorem d_M_addDecimal_71 : decode c_M_addDecimal 71 = .ok (.sipush 255, 3) := by decide +kernel
theorem d_M_addDecimal_74 : decode c_M_addDecimal 74 = .ok (.iand, 1) := by decide +kernel
theorem d_M_addDecimal_75 : decode c_M_addDecimal 75 = .ok (.ifCond .ne 7, 3) := by decide +kernel
theorem d_M_addDecimal_78 : decode c_M_addDecimal 78 = .ok (.iconst 1, 1) := by decide +kernel
theorem d_M_addDecimal_79 : decode c_M_addDecimal 79 = .ok (.goto 4, 3) := by decide +kernel
theorem d_M_addDecimal_82 : decode c_M_addDecimal 82 = .ok (.iconst 0, 1) := by decide +kernel
theorem d_M_addDecimal_83 : decode c_M_addDecimal 83 = .ok (.invokevirtual 24, 3) := by decide +kernel
theorem d_M_addDecimal_86 : decode c_M_addDecimal 86 = .ok (.aload_n 0, 1) := by decide +kernel
theorem d_M_addDecimal_87 : decode c_M_addDecimal 87 = .ok (.sipush 128, 3) := by decide +kernel
theorem d_M_addDecimal_90 : decode c_M_addDecimal 90 = .ok (.iload 4, 2) := by decide +kernel
theorem d_M_addDecimal_92 : decode c_M_addDecimal 92 = .ok (.bipush 8, 2) := by decide +kernel
theorem d_M_addDecimal_94 : decode c_M_addDecimal 94 = .ok (.iand, 1) := by decide +kernel
theorem d_M_addDecimal_95 : decode c_M_addDecimal 95 = .ok (.ifCond .eq 7, 3) := by decide +kernel
theorem d_M_addDecimal_98 : decode c_M_addDecimal 98 = .ok (.iconst 1, 1) := by decide +kernel
theorem d_M_addDecimal_99 : decode c_M_addDecimal 99 = .ok (.goto 4, 3) := by decide +kernel
theorem d_M_addDecimal_102 : decode c_M_addDecimal 102 = .ok (.iconst 0, 1) := by decide +kernel
theorem d_M_addDecimal_103 : decode c_M_addDecimal 103 = .ok (.invokevirtual 24, 3) := by decide +kernel
theorem d_M_addDecimal_106 : decode c_M_addDecimal 106 = .ok (.aload_n 0, 1) := by decide +kernel
theorem d_M_addDecimal_107 : decode c_M_addDecimal 107 = .ok (.bipush 64, 2) := by decide +kernel
theorem d_M_addDecimal_109 : decode c_M_addDecimal 109 = .ok (.aload_n 0, 1) := by decide +kernel
theorem d_M_addDecimal_110 : decode c_M_addDecimal 110 = .ok (.getfield 186, 3) := by decide +kernel
theorem d_M_addDecimal_113 : decode c_M_addDecimal 113 = .ok (.sipush 128, 3) := by decide +kernel
theorem d_M_addDecimal_116 : decode c_M_addDecimal 116 = .ok (.iand, 1) := by decide +kernel
theorem d_M_addDecimal_117 : decode c_M_addDecimal 117 = .ok (.iload_n 1, 1) := by decide +kernel
theorem d_M_addDecimal_118 : decode c_M_addDecimal 118 = .ok (.sipush 128, 3) := by decide +kernel
theorem d_M_addDecimal_121 : decode c_M_addDecimal 121 = .ok (.iand, 1) := by decide +kernel
theorem d_M_addDecimal_122 : decode c_M_addDecimal 122 = .ok (.if_icmp .ne 25, 3) := by decide +kernel
theorem d_M_addDecimal_125 : decode c_M_addDecimal 125 = .ok (.aload_n 0, 1) := by decide +kernel
theorem d_M_addDecimal_126 : decode c_M_addDecimal 126 = .ok (.getfield 186, 3) := by decide +kernel
theorem d_M_addDecimal_129 : decode c_M_addDecimal 129 = .ok (.sipush 128, 3) := by decide +kernel
theorem d_M_addDecimal_132 : decode c_M_addDecimal 132 = .ok (.iand, 1) := by decide +kernel
theorem d_M_addDecimal_133 : decode c_M_addDecimal 133 = .ok (.iconst 4, 1) := by decide +kernel
theorem d_M_addDecimal_134 : decode c_M_addDecimal 134 = .ok (.ishr, 1) := by decide +kernel
theorem d_M_addDecimal_135 : decode c_M_addDecimal 135 = .ok (.iload 4, 2) := by decide +kernel
theorem d_M_addDecimal_137 : decode c_M_addDecimal 137 = .ok (.bipush 8, 2) := by decide +kernel
theorem d_M_addDecimal_139 : decode c_M_addDecimal 139 = .ok (.iand, 1) := by decide +kernel
theorem d_M_addDecimal_140 : decode c_M_addDecimal 140 = .ok (.if_icmp .eq 7, 3) := by decide +kernel
theorem d_M_addDecimal_143 : decode c_M_addDecimal 143 = .ok (.iconst 1, 1) := by decide +kernel
theorem d_M_addDecimal_144 : decode c_M_addDecimal 144 = .ok (.goto 4, 3) := by decide +kernel
theorem d_M_addDecimal_147 : decode c_M_addDecimal 147 = .ok (.iconst 0, 1) := by decide +kernel
theorem d_M_addDecimal_148 : decode c_M_addDecimal 148 = .ok (.invokevirtual 24, 3) := by decide +kernel
theorem d_M_addDecimal_151 : decode c_M_addDecimal 151 = .ok (.iload 4, 2) := by decide +kernel
theorem d_M_addDecimal_153 : decode c_M_addDecimal 153 = .ok (.bipush 9, 2) := by decide +kernel
theorem d_M_addDecimal_155 : decode c_M_addDecimal 155 = .ok (.if_icmp .le 11, 3) := by decide +kernel
theorem d_M_addDecimal_158 : decode c_M_addDecimal 158 = .ok (.iload 4, 2) := by decide +kernel
theorem d_M_addDecimal_160 : decode c_M_addDecimal 160 = .ok (.bipush 6, 2) := by decide +kernel
theorem d_M_addDecimal_162 : decode c_M_addDecimal 162 = .ok (.iadd, 1) := by decide +kernel
theorem d_M_addDecimal_163 : decode c_M_addDecimal 163 = .ok (.goto 5, 3) := by decide +kernel
theorem d_M_addDecimal_166 : decode c_M_addDecimal 166 = .ok (.iload 4, 2) := by decide +kernel
theorem d_M_addDecimal_168 : decode c_M_addDecimal 168 = .ok (.istore 4, 2) := by decide +kernel
theorem d_M_addDecimal_170 : decode c_M_addDecimal 170 = .ok (.aload_n 0, 1) := by decide +kernel
theorem d_M_addDecimal_171 : decode c_M_addDecimal 171 = .ok (.iconst 1, 1) := by decide +kernel
theorem d_M_addDecimal_172 : decode c_M_addDecimal 172 = .ok (.iload 4, 2) := by decide +kernel
theorem d_M_addDecimal_174 : decode c_M_addDecimal 174 = .ok (.bipush 15, 2) := by decide +kernel
theorem d_M_addDecimal_176 : decode c_M_addDecimal 176 = .ok (.if_icmp .le 7, 3) := by decide +kernel
theorem d_M_addDecimal_179 : decode c_M_addDecimal 179 = .ok (.iconst 1, 1) := by decide +kernel
theorem d_M_addDecimal_180 : decode c_M_addDecimal 180 = .ok (.goto 4, 3) := by decide +kernel
theorem d_M_addDecimal_183 : decode c_M_addDecimal 183 = .ok (.iconst 0, 1) := by decide +kernel
theorem d_M_addDecimal_184 : decode c_M_addDecimal 184 = .ok (.invokevirtual 24, 3) := by decide +kernel
theorem d_M_addDecimal_187 : decode c_M_addDecimal 187 = .ok (.iload 4, 2) := by decide +kernel
theorem d_M_addDecimal_189 : decode c_M_addDecimal 189 = .ok (.bipush 15, 2) := by decide +kernel
theorem d_M_addDecimal_191 : decode c_M_addDecimal 191 = .ok (.iand, 1) := by decide +kernel
theorem d_M_addDecimal_192 : decode c_M_addDecimal 192 = .ok (.iconst 4, 1) := by decide +kernel
theorem d_M_addDecimal_193 : decode c_M_addDecimal 193 = .ok (.ishl, 1) := by decide +kernel
theorem d_M_addDecimal_194 : decode c_M_addDecimal 194 = .ok (.iload_n 3, 1) := by decide +kernel
theorem d_M_addDecimal_195 : decode c_M_addDecimal 195 = .ok (.bipush 15, 2) := by decide +kernel
theorem d_M_addDecimal_197 : decode c_M_addDecimal 197 = .ok (.iand, 1) := by decide +kernel
theorem d_M_addDecimal_198 : decode c_M_addDecimal 198 = .ok (.ior, 1) := by decide +kernel
theorem d_M_addDecimal_199 : decode c_M_addDecimal 199 = .ok (.ireturn, 1) := by decide +kernel
theorem d_M_add_0 : decode c_M_add 0 = .ok (.aload_n 0, 1) := by decide +kernel
theorem d_M_add_1 : decode c_M_add 1 = .ok (.getfield 186, 3) := by decide +kernel
theorem d_M_add_4 : decode c_M_add 4 = .ok (.iload_n 1, 1) := by decide +kernel
theorem d_M_add_5 : decode c_M_add 5 = .ok (.iadd, 1) := by decide +kernel
theorem d_M_add_6 : decode c_M_add 6 = .ok (.aload_n 0, 1) := by decide +kernel
theorem d_M_add_7 : decode c_M_add 7 = .ok (.getfield 21, 3) := by decide +kernel
theorem d_M_add_10 : decode c_M_add 10 = .ok (.iconst 1, 1) := by decide +kernel
theorem d_M_add_11 : decode c_M_add 11 = .ok (.iand, 1) := by decide +kernel
theorem d_M_add_12 : decode c_M_add 12 = .ok (.iadd, 1) := by decide +kernel
theorem d_M_add_13 : decode c_M_add 13 = .ok (.istore_n 2, 1) := by decide +kernel
theorem d_M_add_14 : decode c_M_add 14 = .ok (.aload_n 0, 1) := by decide +kernel
theorem d_M_add_15 : decode c_M_add 15 = .ok (.iconst 1, 1) := by decide +kernel
theorem d_M_add_16 : decode c_M_add 16 = .ok (.iload_n 2, 1) := by decide +kernel
theorem d_M_add_17 : decode c_M_add 17 = .ok (.sipush 255, 3) := by decide +kernel
theorem d_M_add_20 : decode c_M_add 20 = .ok (.if_icmp .le 7, 3) := by decide +kernel
theorem d_M_add_23 : decode c_M_add 23 = .ok (.iconst 1, 1) := by decide +kernel
theorem d_M_add_24 : decode c_M_add 24 = .ok (.goto 4, 3) := by decide +kernel
theorem d_M_add_27 : decode c_M_add 27 = .ok (.iconst 0, 1) := by decide +kernel
theorem d_M_add_28 : decode c_M_add 28 = .ok (.invokevirtual 24, 3) := by decide +kernel
theorem d_M_add_31 : decode c_M_add 31 = .ok (.aload_n 0, 1) := by decide +kernel
theorem d_M_add_32 : decode c_M_add 32 = .ok (.bipush 64, 2) := by decide +kernel
theorem d_M_add_34 : decode c_M_add 34 = .ok (.aload_n 0, 1) := by decide +kernel
theorem d_M_add_35 : decode c_M_add 35 = .ok (.getfield 186, 3) := by decide +kernel
theorem d_M_add_38 : decode c_M_add 38 = .ok (.sipush 128, 3) := by decide +kernel
theorem d_M_add_41 : decode c_M_add 41 = .ok (.iand, 1) := by decide +kernel
theorem d_M_add_42 : decode c_M_add 42 = .ok (.iload_n 1, 1) := by decide +kernel
theorem d_M_add_43 : decode c_M_add 43 = .ok (.sipush 128, 3) := by decide +kernel
theorem d_M_add_46 : decode c_M_add 46 = .ok (.iand, 1) := by decide +kernel
theorem d_M_add_47 : decode c_M_add 47 = .ok (.if_icmp .ne 23, 3) := by decide +kernel
theorem d_M_add_50 : decode c_M_add 50 = .ok (.aload_n 0, 1) := by decide +kernel
theorem d_M_add_51 : decode c_M_add 51 = .ok (.getfield 186, 3) := by decide +kernel
theorem d_M_add_54 : decode c_M_add 54 = .ok (.sipush 128, 3) := by decide +kernel
theorem d_M_add_57 : decode c_M_add 57 = .ok (.iand, 1) := by decide +kernel
theorem d_M_add_58 : decode c_M_add 58 = .ok (.iload_n 2, 1) := by decide +kernel
theorem d_M_add_59 : decode c_M_add 59 = .ok (.sipush 128, 3) := by decide +kernel
theorem d_M_add_62 : decode c_M_add 62 = .ok (.iand, 1) := by decide +kernel
theorem d_M_add_63 : decode c_M_add 63 = .ok (.if_icmp .eq 7, 3) := by decide +kernel
theorem d_M_add_66 : decode c_M_add 66 = .ok (.iconst 1, 1) := by decide +kernel
theorem d_M_add_67 : decode c_M_add 67 = .ok (.goto 4, 3) := by decide +kernel
theorem d_M_add_70 : decode c_M_add 70 = .ok (.iconst 0, 1) := by decide +kernel
theorem d_M_add_71 : decode c_M_add 71 = .ok (.invokevirtual 24, 3) := by decide +kernel
theorem d_M_add_74 : decode c_M_add 74 = .ok (.aload_n 0, 1) := by decide +kernel
theorem d_M_add_75 : decode c_M_add 75 = .ok (.iload_n 2, 1) := by decide +kernel
theorem d_M_add_76 : decode c_M_add 76 = .ok (.sipush 255, 3) := by decide +kernel
theorem d_M_add_79 : decode c_M_add 79 = .ok (.iand, 1) := by decide +kernel
theorem d_M_add_80 : decode c_M_add 80 = .ok (.invokevirtual 210, 3) := by decide +kernel
theorem d_M_add_83 : decode c_M_add 83 = .ok (.ireturn, 1) := by decide +kernel
theorem d_M_subtract_0 : decode c_M_subtract 0 = .ok (.iconst 1, 1) := by decide +kernel
theorem d_M_subtract_1 : decode c_M_subtract 1 = .ok (.aload_n 0, 1) := by decide +kernel
theorem d_M_subtract_2 : decode c_M_subtract 2 = .ok (.getfield 21, 3) := by decide +kernel
theorem d_M_subtract_5 : decode c_M_subtract 5 = .ok (.iconst 1, 1) := by decide +kernel
theorem d_M_subtract_6 : decode c_M_subtract 6 = .ok (.iand, 1) := by decide +kernel
theorem d_M_subtract_7 : decode c_M_subtract 7 = .ok (.isub, 1) := by decide +kernel
theorem d_M_subtract_8 : decode c_M_subtract 8 = .ok (.istore_n 2, 1) := by decide +kernel
theorem d_M_subtract_9 : decode c_M_subtract 9 = .ok (.aload_n 0, 1) := by decide +kernel
theorem d_M_subtract_10 : decode c_M_subtract 10 = .ok (.getfield 186, 3) := by decide +kernel
theorem d_M_subtract_13 : decode c_M_subtract 13 = .ok (.bipush 15, 2) := by decide +kernel
theorem d_M_subtract_15 : decode c_M_subtract 15 = .ok (.iand, 1) := by decide +kernel
theorem d_M_subtract_16 : decode c_M_subtract 16 = .ok (.iload_n 1, 1) := by decide +kernel
theorem d_M_subtract_17 : decode c_M_subtract 17 = .ok (.bipush 15, 2) := by decide +kernel
theorem d_M_subtract_19 : decode c_M_subtract 19 = .ok (.iand, 1) := by decide +kernel
theorem d_M_subtract_20 : decode c_M_subtract 20 = .ok (.isub, 1) := by decide +kernel
