theorem dL_act_283 : decode cL_act 283 = .ok (.bipush 6, 2) := by decide +kernel
theorem dL_act_285 : decode cL_act 285 = .ok (.iload 5, 2) := by decide +kernel
theorem dL_act_287 : decode cL_act 287 = .ok (.iadd, 1) := by decide +kernel
theorem dL_act_288 : decode cL_act 288 = .ok (.iaload, 1) := by decide +kernel
theorem dL_act_289 : decode cL_act 289 = .ok (.istore 7, 2) := by decide +kernel
theorem dL_act_291 : decode cL_act 291 = .ok (.aload_n 2, 1) := by decide +kernel
theorem dL_act_292 : decode cL_act 292 = .ok (.iconst 3, 1) := by decide +kernel
theorem dL_act_293 : decode cL_act 293 = .ok (.iload 5, 2) := by decide +kernel
theorem dL_act_295 : decode cL_act 295 = .ok (.iadd, 1) := by decide +kernel
theorem dL_act_296 : decode cL_act 296 = .ok (.iload_n 1, 1) := by decide +kernel
theorem dL_act_297 : decode cL_act 297 = .ok (.sipush 512, 3) := by decide +kernel
theorem dL_act_300 : decode cL_act 300 = .ok (.idiv, 1) := by decide +kernel
theorem dL_act_301 : decode cL_act 301 = .ok (.bipush 10, 2) := by decide +kernel
theorem dL_act_303 : decode cL_act 303 = .ok (.irem, 1) := by decide +kernel
theorem dL_act_304 : decode cL_act 304 = .ok (.iastore, 1) := by decide +kernel
theorem dL_act_305 : decode cL_act 305 = .ok (.aload_n 2, 1) := by decide +kernel
theorem dL_act_306 : decode cL_act 306 = .ok (.bipush 6, 2) := by decide +kernel
theorem dL_act_308 : decode cL_act 308 = .ok (.iload 5, 2) := by decide +kernel
theorem dL_act_310 : decode cL_act 310 = .ok (.iadd, 1) := by decide +kernel
theorem dL_act_311 : decode cL_act 311 = .ok (.iload_n 1, 1) := by decide +kernel
theorem dL_act_312 : decode cL_act 312 = .ok (.sipush 8192, 3) := by decide +kernel
theorem dL_act_315 : decode cL_act 315 = .ok (.idiv, 1) := by decide +kernel
theorem dL_act_316 : decode cL_act 316 = .ok (.iconst 3, 1) := by decide +kernel
theorem dL_act_317 : decode cL_act 317 = .ok (.irem, 1) := by decide +kernel
theorem dL_act_318 : decode cL_act 318 = .ok (.iastore, 1) := by decide +kernel
theorem dL_act_319 : decode cL_act 319 = .ok (.aload_n 0, 1) := by decide +kernel
theorem dL_act_320 : decode cL_act 320 = .ok (.iload 5, 2) := by decide +kernel
theorem dL_act_322 : decode cL_act 322 = .ok (.aload_n 2, 1) := by decide +kernel
theorem dL_act_323 : decode cL_act 323 = .ok (.iconst 3, 1) := by decide +kernel
theorem dL_act_324 : decode cL_act 324 = .ok (.iload 5, 2) := by decide +kernel
theorem dL_act_326 : decode cL_act 326 = .ok (.iadd, 1) := by decide +kernel
theorem dL_act_327 : decode cL_act 327 = .ok (.iaload, 1) := by decide +kernel
theorem dL_act_328 : decode cL_act 328 = .ok (.aload_n 2, 1) := by decide +kernel
theorem dL_act_329 : decode cL_act 329 = .ok (.bipush 6, 2) := by decide +kernel
theorem dL_act_331 : decode cL_act 331 = .ok (.iload 5, 2) := by decide +kernel
theorem dL_act_333 : decode cL_act 333 = .ok (.iadd, 1) := by decide +kernel
theorem dL_act_334 : decode cL_act 334 = .ok (.iaload, 1) := by decide +kernel
theorem dL_act_335 : decode cL_act 335 = .ok (.invokevirtual 69, 3) := by decide +kernel
theorem dL_act_338 : decode cL_act 338 = .ok (.iload 7, 2) := by decide +kernel
theorem dL_act_340 : decode cL_act 340 = .ok (.if_icmp .ne 7, 3) := by decide +kernel
theorem dL_act_343 : decode cL_act 343 = .ok (.iconst 1, 1) := by decide +kernel
theorem dL_act_344 : decode cL_act 344 = .ok (.goto 4, 3) := by decide +kernel
theorem dL_act_347 : decode cL_act 347 = .ok (.iconst 0, 1) := by decide +kernel
theorem dL_act_348 : decode cL_act 348 = .ok (.ireturn, 1) := by decide +kernel
theorem dL_law_0 : decode cL_law 0 = .ok (.new 9, 3) := by decide +kernel
theorem dL_law_3 : decode cL_law 3 = .ok (.dup, 1) := by decide +kernel
theorem dL_law_4 : decode cL_law 4 = .ok (.invokespecial 72, 3) := by decide +kernel
theorem dL_law_7 : decode cL_law 7 = .ok (.astore_n 1, 1) := by decide +kernel
theorem dL_law_8 : decode cL_law 8 = .ok (.bipush 39, 2) := by decide +kernel
theorem dL_law_10 : decode cL_law 10 = .ok (.newarray .int, 2) := by decide +kernel
theorem dL_law_12 : decode cL_law 12 = .ok (.astore_n 2, 1) := by decide +kernel
theorem dL_law_13 : decode cL_law 13 = .ok (.bipush 39, 2) := by decide +kernel
theorem dL_law_15 : decode cL_law 15 = .ok (.newarray .int, 2) := by decide +kernel
theorem dL_law_17 : decode cL_law 17 = .ok (.astore_n 3, 1) := by decide +kernel
theorem dL_law_18 : decode cL_law 18 = .ok (.iconst 0, 1) := by decide +kernel
theorem dL_law_19 : decode cL_law 19 = .ok (.istore 4, 2) := by decide +kernel
theorem dL_law_21 : decode cL_law 21 = .ok (.iload 4, 2) := by decide +kernel
theorem dL_law_23 : decode cL_law 23 = .ok (.iconst 2, 1) := by decide +kernel
theorem dL_law_24 : decode cL_law 24 = .ok (.if_icmp .ge 773, 3) := by decide +kernel
theorem dL_law_27 : decode cL_law 27 = .ok (.bipush 29, 2) := by decide +kernel
theorem dL_law_29 : decode cL_law 29 = .ok (.iload 4, 2) := by decide +kernel
theorem dL_law_31 : decode cL_law 31 = .ok (.imul, 1) := by decide +kernel
theorem dL_law_32 : decode cL_law 32 = .ok (.istore 5, 2) := by decide +kernel
theorem dL_law_34 : decode cL_law 34 = .ok (.aload_n 1, 1) := by decide +kernel
theorem dL_law_35 : decode cL_law 35 = .ok (.aload_n 0, 1) := by decide +kernel
theorem dL_law_36 : decode cL_law 36 = .ok (.iload 5, 2) := by decide +kernel
theorem dL_law_38 : decode cL_law 38 = .ok (.invokestatic 73, 3) := by decide +kernel
theorem dL_law_41 : decode cL_law 41 = .ok (.aload_n 0, 1) := by decide +kernel
theorem dL_law_42 : decode cL_law 42 = .ok (.iload 5, 2) := by decide +kernel
theorem dL_law_44 : decode cL_law 44 = .ok (.iconst 1, 1) := by decide +kernel
theorem dL_law_45 : decode cL_law 45 = .ok (.iadd, 1) := by decide +kernel
theorem dL_law_46 : decode cL_law 46 = .ok (.invokestatic 73, 3) := by decide +kernel
theorem dL_law_49 : decode cL_law 49 = .ok (.aload_n 2, 1) := by decide +kernel
theorem dL_law_50 : decode cL_law 50 = .ok (.invokestatic 76, 3) := by decide +kernel
theorem dL_law_53 : decode cL_law 53 = .ok (.ifCond .eq 12, 3) := by decide +kernel
theorem dL_law_56 : decode cL_law 56 = .ok (.aload_n 1, 1) := by decide +kernel
theorem dL_law_57 : decode cL_law 57 = .ok (.aload_n 2, 1) := by decide +kernel
theorem dL_law_58 : decode cL_law 58 = .ok (.iconst 3, 1) := by decide +kernel
theorem dL_law_59 : decode cL_law 59 = .ok (.invokestatic 79, 3) := by decide +kernel
theorem dL_law_62 : decode cL_law 62 = .ok (.ifCond .ne 5, 3) := by decide +kernel
theorem dL_law_65 : decode cL_law 65 = .ok (.iconst 0, 1) := by decide +kernel
theorem dL_law_66 : decode cL_law 66 = .ok (.ireturn, 1) := by decide +kernel
theorem dL_law_67 : decode cL_law 67 = .ok (.iconst 0, 1) := by decide +kernel
theorem dL_law_68 : decode cL_law 68 = .ok (.istore 6, 2) := by decide +kernel
theorem dL_law_70 : decode cL_law 70 = .ok (.iload 6, 2) := by decide +kernel
theorem dL_law_72 : decode cL_law 72 = .ok (.bipush 22, 2) := by decide +kernel
theorem dL_law_74 : decode cL_law 74 = .ok (.if_icmp .ge 416, 3) := by decide +kernel
theorem dL_law_77 : decode cL_law 77 = .ok (.aload_n 0, 1) := by decide +kernel
theorem dL_law_78 : decode cL_law 78 = .ok (.iload 5, 2) := by decide +kernel
theorem dL_law_80 : decode cL_law 80 = .ok (.iconst 2, 1) := by decide +kernel
theorem dL_law_81 : decode cL_law 81 = .ok (.iadd, 1) := by decide +kernel
theorem dL_law_82 : decode cL_law 82 = .ok (.iload 6, 2) := by decide +kernel
theorem dL_law_84 : decode cL_law 84 = .ok (.iadd, 1) := by decide +kernel
theorem dL_law_85 : decode cL_law 85 = .ok (.invokestatic 73, 3) := by decide +kernel
theorem dL_law_88 : decode cL_law 88 = .ok (.istore 7, 2) := by decide +kernel
theorem dL_law_90 : decode cL_law 90 = .ok (.aload_n 1, 1) := by decide +kernel
theorem dL_law_91 : decode cL_law 91 = .ok (.iload 7, 2) := by decide +kernel
theorem dL_law_93 : decode cL_law 93 = .ok (.aload_n 2, 1) := by decide +kernel
theorem dL_law_94 : decode cL_law 94 = .ok (.invokestatic 83, 3) := by decide +kernel
theorem dL_law_97 : decode cL_law 97 = .ok (.ifCond .eq 18, 3) := by decide +kernel
theorem dL_law_100 : decode cL_law 100 = .ok (.aload_n 1, 1) := by decide +kernel
theorem dL_law_101 : decode cL_law 101 = .ok (.aload_n 2, 1) := by decide +kernel
theorem dL_law_102 : decode cL_law 102 = .ok (.iload 7, 2) := by decide +kernel
theorem dL_law_104 : decode cL_law 104 = .ok (.iconst 4, 1) := by decide +kernel
theorem dL_law_105 : decode cL_law 105 = .ok (.idiv, 1) := by decide +kernel
theorem dL_law_106 : decode cL_law 106 = .ok (.bipush 41, 2) := by decide +kernel
theorem dL_law_108 : decode cL_law 108 = .ok (.irem, 1) := by decide +kernel
theorem dL_law_109 : decode cL_law 109 = .ok (.invokestatic 79, 3) := by decide +kernel
theorem dL_law_112 : decode cL_law 112 = .ok (.ifCond .ne 5, 3) := by decide +kernel
theorem dL_law_115 : decode cL_law 115 = .ok (.iconst 0, 1) := by decide +kernel
theorem dL_law_116 : decode cL_law 116 = .ok (.ireturn, 1) := by decide +kernel
theorem dL_law_117 : decode cL_law 117 = .ok (.iload 6, 2) := by decide +kernel
theorem dL_law_119 : decode cL_law 119 = .ok (.bipush 6, 2) := by decide +kernel
theorem dL_law_121 : decode cL_law 121 = .ok (.irem, 1) := by decide +kernel
theorem dL_law_122 : decode cL_law 122 = .ok (.iconst 5, 1) := by decide +kernel
theorem dL_law_123 : decode cL_law 123 = .ok (.if_icmp .ne 361, 3) := by decide +kernel
theorem dL_law_126 : decode cL_law 126 = .ok (.iconst 1, 1) := by decide +kernel
theorem dL_law_127 : decode cL_law 127 = .ok (.iload 7, 2) := by decide +kernel
theorem dL_law_129 : decode cL_law 129 = .ok (.sipush 512, 3) := by decide +kernel
theorem dL_law_132 : decode cL_law 132 = .ok (.idiv, 1) := by decide +kernel
theorem dL_law_133 : decode cL_law 133 = .ok (.bipush 60, 2) := by decide +kernel
theorem dL_law_135 : decode cL_law 135 = .ok (.irem, 1) := by decide +kernel
theorem dL_law_136 : decode cL_law 136 = .ok (.iadd, 1) := by decide +kernel
theorem dL_law_137 : decode cL_law 137 = .ok (.istore 8, 2) := by decide +kernel
theorem dL_law_139 : decode cL_law 139 = .ok (.aload_n 0, 1) := by decide +kernel
theorem dL_law_140 : decode cL_law 140 = .ok (.iload 5, 2) := by decide +kernel
theorem dL_law_142 : decode cL_law 142 = .ok (.bipush 24, 2) := by decide +kernel
theorem dL_law_144 : decode cL_law 144 = .ok (.iadd, 1) := by decide +kernel
theorem dL_law_145 : decode cL_law 145 = .ok (.iload 6, 2) := by decide +kernel
theorem dL_law_147 : decode cL_law 147 = .ok (.bipush 6, 2) := by decide +kernel
theorem dL_law_149 : decode cL_law 149 = .ok (.idiv, 1) := by decide +kernel
theorem dL_law_150 : decode cL_law 150 = .ok (.iadd, 1) := by decide +kernel
theorem dL_law_151 : decode cL_law 151 = .ok (.invokestatic 73, 3) := by decide +kernel
theorem dL_law_154 : decode cL_law 154 = .ok (.istore 9, 2) := by decide +kernel
theorem dL_law_156 : decode cL_law 156 = .ok (.iload 9, 2) := by decide +kernel
theorem dL_law_158 : decode cL_law 158 = .ok (.i2l, 1) := by decide +kernel
theorem dL_law_159 : decode cL_law 159 = .ok (.lstore 10, 2) := by decide +kernel
theorem dL_law_161 : decode cL_law 161 = .ok (.iconst 0, 1) := by decide +kernel
theorem dL_law_162 : decode cL_law 162 = .ok (.istore 12, 2) := by decide +kernel
theorem dL_law_164 : decode cL_law 164 = .ok (.iload 12, 2) := by decide +kernel
theorem dL_law_166 : decode cL_law 166 = .ok (.bipush 39, 2) := by decide +kernel
theorem dL_law_168 : decode cL_law 168 = .ok (.if_icmp .ge 17, 3) := by decide +kernel
theorem dL_law_171 : decode cL_law 171 = .ok (.aload_n 3, 1) := by decide +kernel
theorem dL_law_172 : decode cL_law 172 = .ok (.iload 12, 2) := by decide +kernel
theorem dL_law_174 : decode cL_law 174 = .ok (.aload_n 2, 1) := by decide +kernel
theorem dL_law_175 : decode cL_law 175 = .ok (.iload 12, 2) := by decide +kernel
theorem dL_law_177 : decode cL_law 177 = .ok (.iaload, 1) := by decide +kernel
theorem dL_law_178 : decode cL_law 178 = .ok (.iastore, 1) := by decide +kernel
theorem dL_law_179 : decode cL_law 179 = .ok (.iinc 12 1, 3) := by decide +kernel
theorem dL_law_182 : decode cL_law 182 = .ok (.goto (-18), 3) := by decide +kernel
theorem dL_law_185 : decode cL_law 185 = .ok (.iconst 0, 1) := by decide +kernel
theorem dL_law_186 : decode cL_law 186 = .ok (.istore 12, 2) := by decide +kernel
theorem dL_law_188 : decode cL_law 188 = .ok (.iconst 0, 1) := by decide +kernel
theorem dL_law_189 : decode cL_law 189 = .ok (.istore 13, 2) := by decide +kernel
theorem dL_law_191 : decode cL_law 191 = .ok (.iload 13, 2) := by decide +kernel
theorem dL_law_193 : decode cL_law 193 = .ok (.iload 8, 2) := by decide +kernel
theorem dL_law_195 : decode cL_law 195 = .ok (.if_icmp .ge 233, 3) := by decide +kernel
theorem dL_law_198 : decode cL_law 198 = .ok (.ldc2_w 87, 3) := by decide +kernel
theorem dL_law_201 : decode cL_law 201 = .ok (.lload 10, 2) := by decide +kernel
theorem dL_law_203 : decode cL_law 203 = .ok (.lmul, 1) := by decide +kernel
theorem dL_law_204 : decode cL_law 204 = .ok (.ldc2_w 89, 3) := by decide +kernel
theorem dL_law_207 : decode cL_law 207 = .ok (.ladd, 1) := by decide +kernel
theorem dL_law_208 : decode cL_law 208 = .ok (.ldc2_w 91, 3) := by decide +kernel
theorem dL_law_211 : decode cL_law 211 = .ok (.lrem, 1) := by decide +kernel
theorem dL_law_212 : decode cL_law 212 = .ok (.lstore 10, 2) := by decide +kernel
theorem dL_law_214 : decode cL_law 214 = .ok (.bipush 9, 2) := by decide +kernel
theorem dL_law_216 : decode cL_law 216 = .ok (.iconst 5, 1) := by decide +kernel
theorem dL_law_217 : decode cL_law 217 = .ok (.lload 10, 2) := by decide +kernel
theorem dL_law_219 : decode cL_law 219 = .ok (.ldc2_w 93, 3) := by decide +kernel
theorem dL_law_222 : decode cL_law 222 = .ok (.ldiv, 1) := by decide +kernel
theorem dL_law_223 : decode cL_law 223 = .ok (.aload_n 2, 1) := by decide +kernel
theorem dL_law_224 : decode cL_law 224 = .ok (.iconst 0, 1) := by decide +kernel
theorem dL_law_225 : decode cL_law 225 = .ok (.iaload, 1) := by decide +kernel
theorem dL_law_226 : decode cL_law 226 = .ok (.i2l, 1) := by decide +kernel
theorem dL_law_227 : decode cL_law 227 = .ok (.lrem, 1) := by decide +kernel
theorem dL_law_228 : decode cL_law 228 = .ok (.l2i, 1) := by decide +kernel
theorem dL_law_229 : decode cL_law 229 = .ok (.imul, 1) := by decide +kernel
theorem dL_law_230 : decode cL_law 230 = .ok (.iadd, 1) := by decide +kernel
theorem dL_law_231 : decode cL_law 231 = .ok (.istore 14, 2) := by decide +kernel
theorem dL_law_233 : decode cL_law 233 = .ok (.iconst (-1), 1) := by decide +kernel
theorem dL_law_234 : decode cL_law 234 = .ok (.istore 15, 2) := by decide +kernel
theorem dL_law_236 : decode cL_law 236 = .ok (.iconst (-1), 1) := by decide +kernel
theorem dL_law_237 : decode cL_law 237 = .ok (.istore 16, 2) := by decide +kernel
theorem dL_law_239 : decode cL_law 239 = .ok (.aload_n 3, 1) := by decide +kernel
theorem dL_law_240 : decode cL_law 240 = .ok (.iload 14, 2) := by decide +kernel
theorem dL_law_242 : decode cL_law 242 = .ok (.iconst 3, 1) := by decide +kernel
theorem dL_law_243 : decode cL_law 243 = .ok (.iadd, 1) := by decide +kernel
theorem dL_law_244 : decode cL_law 244 = .ok (.iaload, 1) := by decide +kernel
theorem dL_law_245 : decode cL_law 245 = .ok (.ifCond .ge 106, 3) := by decide +kernel
theorem dL_law_248 : decode cL_law 248 = .ok (.ldc2_w 87, 3) := by decide +kernel
theorem dL_law_251 : decode cL_law 251 = .ok (.lload 10, 2) := by decide +kernel
theorem dL_law_253 : decode cL_law 253 = .ok (.lmul, 1) := by decide +kernel
theorem dL_law_254 : decode cL_law 254 = .ok (.ldc2_w 89, 3) := by decide +kernel
theorem dL_law_257 : decode cL_law 257 = .ok (.ladd, 1) := by decide +kernel
theorem dL_law_258 : decode cL_law 258 = .ok (.ldc2_w 91, 3) := by decide +kernel
theorem dL_law_261 : decode cL_law 261 = .ok (.lrem, 1) := by decide +kernel
theorem dL_law_262 : decode cL_law 262 = .ok (.lstore 10, 2) := by decide +kernel
theorem dL_law_264 : decode cL_law 264 = .ok (.lload 10, 2) := by decide +kernel
theorem dL_law_266 : decode cL_law 266 = .ok (.ldc2_w 93, 3) := by decide +kernel
theorem dL_law_269 : decode cL_law 269 = .ok (.ldiv, 1) := by decide +kernel
theorem dL_law_270 : decode cL_law 270 = .ok (.aload_n 2, 1) := by decide +kernel
theorem dL_law_271 : decode cL_law 271 = .ok (.iconst 1, 1) := by decide +kernel
theorem dL_law_272 : decode cL_law 272 = .ok (.iaload, 1) := by decide +kernel
theorem dL_law_273 : decode cL_law 273 = .ok (.i2l, 1) := by decide +kernel
theorem dL_law_274 : decode cL_law 274 = .ok (.lrem, 1) := by decide +kernel
theorem dL_law_275 : decode cL_law 275 = .ok (.l2i, 1) := by decide +kernel
theorem dL_law_276 : decode cL_law 276 = .ok (.istore 15, 2) := by decide +kernel
theorem dL_law_278 : decode cL_law 278 = .ok (.ldc2_w 87, 3) := by decide +kernel
theorem dL_law_281 : decode cL_law 281 = .ok (.lload 10, 2) := by decide +kernel
theorem dL_law_283 : decode cL_law 283 = .ok (.lmul, 1) := by decide +kernel
theorem dL_law_284 : decode cL_law 284 = .ok (.ldc2_w 89, 3) := by decide +kernel
theorem dL_law_287 : decode cL_law 287 = .ok (.ladd, 1) := by decide +kernel
theorem dL_law_288 : decode cL_law 288 = .ok (.ldc2_w 91, 3) := by decide +kernel
theorem dL_law_291 : decode cL_law 291 = .ok (.lrem, 1) := by decide +kernel
theorem dL_law_292 : decode cL_law 292 = .ok (.lstore 10, 2) := by decide +kernel
theorem dL_law_294 : decode cL_law 294 = .ok (.lload 10, 2) := by decide +kernel
theorem dL_law_296 : decode cL_law 296 = .ok (.ldc2_w 93, 3) := by decide +kernel
theorem dL_law_299 : decode cL_law 299 = .ok (.ldiv, 1) := by decide +kernel
theorem dL_law_300 : decode cL_law 300 = .ok (.ldc2_w 95, 3) := by decide +kernel
theorem dL_law_303 : decode cL_law 303 = .ok (.lrem, 1) := by decide +kernel
theorem dL_law_304 : decode cL_law 304 = .ok (.l2i, 1) := by decide +kernel
theorem dL_law_305 : decode cL_law 305 = .ok (.istore 16, 2) := by decide +kernel
theorem dL_law_307 : decode cL_law 307 = .ok (.aload_n 3, 1) := by decide +kernel
theorem dL_law_308 : decode cL_law 308 = .ok (.iload 15, 2) := by decide +kernel
theorem dL_law_310 : decode cL_law 310 = .ok (.iload 16, 2) := by decide +kernel
theorem dL_law_312 : decode cL_law 312 = .ok (.invokestatic 52, 3) := by decide +kernel
theorem dL_law_315 : decode cL_law 315 = .ok (.ifCond .ge 7, 3) := by decide +kernel
theorem dL_law_318 : decode cL_law 318 = .ok (.iconst 1, 1) := by decide +kernel
theorem dL_law_319 : decode cL_law 319 = .ok (.goto 4, 3) := by decide +kernel
theorem dL_law_322 : decode cL_law 322 = .ok (.iconst 0, 1) := by decide +kernel
theorem dL_law_323 : decode cL_law 323 = .ok (.istore 17, 2) := by decide +kernel
theorem dL_law_325 : decode cL_law 325 = .ok (.iload 17, 2) := by decide +kernel
theorem dL_law_327 : decode cL_law 327 = .ok (.ifCond .eq 8, 3) := by decide +kernel
theorem dL_law_330 : decode cL_law 330 = .ok (.iload 15, 2) := by decide +kernel
theorem dL_law_332 : decode cL_law 332 = .ok (.goto 4, 3) := by decide +kernel
theorem dL_law_335 : decode cL_law 335 = .ok (.iconst (-1), 1) := by decide +kernel
theorem dL_law_336 : decode cL_law 336 = .ok (.istore 15, 2) := by decide +kernel
theorem dL_law_338 : decode cL_law 338 = .ok (.iload 17, 2) := by decide +kernel
theorem dL_law_340 : decode cL_law 340 = .ok (.ifCond .eq 8, 3) := by decide +kernel
theorem dL_law_343 : decode cL_law 343 = .ok (.iload 16, 2) := by decide +kernel
theorem dL_law_345 : decode cL_law 345 = .ok (.goto 4, 3) := by decide +kernel
theorem dL_law_348 : decode cL_law 348 = .ok (.iconst (-1), 1) := by decide +kernel
theorem dL_law_349 : decode cL_law 349 = .ok (.istore 16, 2) := by decide +kernel
theorem dL_law_351 : decode cL_law 351 = .ok (.aload_n 3, 1) := by decide +kernel
theorem dL_law_352 : decode cL_law 352 = .ok (.iload 14, 2) := by decide +kernel
theorem dL_law_354 : decode cL_law 354 = .ok (.iconst 3, 1) := by decide +kernel
theorem dL_law_355 : decode cL_law 355 = .ok (.iadd, 1) := by decide +kernel
theorem dL_law_356 : decode cL_law 356 = .ok (.iload 15, 2) := by decide +kernel
theorem dL_law_358 : decode cL_law 358 = .ok (.iastore, 1) := by decide +kernel
theorem dL_law_359 : decode cL_law 359 = .ok (.aload_n 3, 1) := by decide +kernel
theorem dL_law_360 : decode cL_law 360 = .ok (.iload 14, 2) := by decide +kernel
theorem dL_law_362 : decode cL_law 362 = .ok (.iconst 4, 1) := by decide +kernel
theorem dL_law_363 : decode cL_law 363 = .ok (.iadd, 1) := by decide +kernel
theorem dL_law_364 : decode cL_law 364 = .ok (.iload 16, 2) := by decide +kernel
theorem dL_law_366 : decode cL_law 366 = .ok (.iastore, 1) := by decide +kernel
theorem dL_law_367 : decode cL_law 367 = .ok (.aload_n 3, 1) := by decide +kernel
theorem dL_law_368 : decode cL_law 368 = .ok (.invokestatic 46, 3) := by decide +kernel
theorem dL_law_371 : decode cL_law 371 = .ok (.iconst 0, 1) := by decide +kernel
theorem dL_law_372 : decode cL_law 372 = .ok (.istore 17, 2) := by decide +kernel
theorem dL_law_374 : decode cL_law 374 = .ok (.iload 17, 2) := by decide +kernel
theorem dL_law_376 : decode cL_law 376 = .ok (.aload_n 2, 1) := by decide +kernel
theorem dL_law_377 : decode cL_law 377 = .ok (.iconst 1, 1) := by decide +kernel
theorem dL_law_378 : decode cL_law 378 = .ok (.iaload, 1) := by decide +kernel
theorem dL_law_379 : decode cL_law 379 = .ok (.if_icmp .ge 43, 3) := by decide +kernel
theorem dL_law_382 : decode cL_law 382 = .ok (.iload 12, 2) := by decide +kernel
theorem dL_law_384 : decode cL_law 384 = .ok (.aload_n 3, 1) := by decide +kernel
theorem dL_law_385 : decode cL_law 385 = .ok (.aload_n 3, 1) := by decide +kernel
theorem dL_law_386 : decode cL_law 386 = .ok (.iconst 3, 1) := by decide +kernel
theorem dL_law_387 : decode cL_law 387 = .ok (.iload 17, 2) := by decide +kernel
theorem dL_law_389 : decode cL_law 389 = .ok (.iadd, 1) := by decide +kernel
theorem dL_law_390 : decode cL_law 390 = .ok (.iaload, 1) := by decide +kernel
theorem dL_law_391 : decode cL_law 391 = .ok (.aload_n 3, 1) := by decide +kernel
theorem dL_law_392 : decode cL_law 392 = .ok (.iload 17, 2) := by decide +kernel
theorem dL_law_394 : decode cL_law 394 = .ok (.invokestatic 58, 3) := by decide +kernel
theorem dL_law_397 : decode cL_law 397 = .ok (.iconst 0, 1) := by decide +kernel
theorem dL_law_398 : decode cL_law 398 = .ok (.invokestatic 39, 3) := by decide +kernel
theorem dL_law_401 : decode cL_law 401 = .ok (.invokestatic 43, 3) := by decide +kernel
theorem dL_law_404 : decode cL_law 404 = .ok (.iconst 1, 1) := by decide +kernel
theorem dL_law_405 : decode cL_law 405 = .ok (.if_icmp .ne 7, 3) := by decide +kernel
theorem dL_law_408 : decode cL_law 408 = .ok (.iconst 1, 1) := by decide +kernel
theorem dL_law_409 : decode cL_law 409 = .ok (.goto 4, 3) := by decide +kernel
theorem dL_law_412 : decode cL_law 412 = .ok (.iconst 0, 1) := by decide +kernel
theorem dL_law_413 : decode cL_law 413 = .ok (.iadd, 1) := by decide +kernel
theorem dL_law_414 : decode cL_law 414 = .ok (.istore 12, 2) := by decide +kernel
theorem dL_law_416 : decode cL_law 416 = .ok (.iinc 17 1, 3) := by decide +kernel
theorem dL_law_419 : decode cL_law 419 = .ok (.goto (-45), 3) := by decide +kernel
theorem dL_law_422 : decode cL_law 422 = .ok (.iinc 13 1, 3) := by decide +kernel
theorem dL_law_425 : decode cL_law 425 = .ok (.goto (-234), 3) := by decide +kernel
theorem dL_law_428 : decode cL_law 428 = .ok (.aload_n 1, 1) := by decide +kernel
theorem dL_law_429 : decode cL_law 429 = .ok (.iload 8, 2) := by decide +kernel
theorem dL_law_431 : decode cL_law 431 = .ok (.iload 9, 2) := by decide +kernel
theorem dL_law_433 : decode cL_law 433 = .ok (.iconst 0, 1) := by decide +kernel
theorem dL_law_434 : decode cL_law 434 = .ok (.invokevirtual 97, 3) := by decide +kernel
theorem dL_law_437 : decode cL_law 437 = .ok (.iload 12, 2) := by decide +kernel
theorem dL_law_439 : decode cL_law 439 = .ok (.if_icmp .ne 43, 3) := by decide +kernel
theorem dL_law_442 : decode cL_law 442 = .ok (.aload_n 1, 1) := by decide +kernel
theorem dL_law_443 : decode cL_law 443 = .ok (.iload 8, 2) := by decide +kernel
theorem dL_law_445 : decode cL_law 445 = .ok (.iload 9, 2) := by decide +kernel
theorem dL_law_447 : decode cL_law 447 = .ok (.iconst 1, 1) := by decide +kernel
theorem dL_law_448 : decode cL_law 448 = .ok (.invokevirtual 97, 3) := by decide +kernel
theorem dL_law_451 : decode cL_law 451 = .ok (.aload_n 2, 1) := by decide +kernel
theorem dL_law_452 : decode cL_law 452 = .ok (.iconst 0, 1) := by decide +kernel
theorem dL_law_453 : decode cL_law 453 = .ok (.iaload, 1) := by decide +kernel
theorem dL_law_454 : decode cL_law 454 = .ok (.aload_n 3, 1) := by decide +kernel
theorem dL_law_455 : decode cL_law 455 = .ok (.iconst (-1), 1) := by decide +kernel
theorem dL_law_456 : decode cL_law 456 = .ok (.invokestatic 58, 3) := by decide +kernel
theorem dL_law_459 : decode cL_law 459 = .ok (.invokestatic 100, 3) := by decide +kernel
theorem dL_law_462 : decode cL_law 462 = .ok (.isub, 1) := by decide +kernel
theorem dL_law_463 : decode cL_law 463 = .ok (.if_icmp .ne 19, 3) := by decide +kernel
theorem dL_law_466 : decode cL_law 466 = .ok (.aload_n 1, 1) := by decide +kernel
theorem dL_law_467 : decode cL_law 467 = .ok (.iload 8, 2) := by decide +kernel
theorem dL_law_469 : decode cL_law 469 = .ok (.iload 9, 2) := by decide +kernel
theorem dL_law_471 : decode cL_law 471 = .ok (.iconst 2, 1) := by decide +kernel
theorem dL_law_472 : decode cL_law 472 = .ok (.invokevirtual 97, 3) := by decide +kernel
theorem dL_law_475 : decode cL_law 475 = .ok (.i2l, 1) := by decide +kernel
theorem dL_law_476 : decode cL_law 476 = .ok (.lload 10, 2) := by decide +kernel
theorem dL_law_478 : decode cL_law 478 = .ok (.lcmp, 1) := by decide +kernel
theorem dL_law_479 : decode cL_law 479 = .ok (.ifCond .eq 5, 3) := by decide +kernel
theorem dL_law_482 : decode cL_law 482 = .ok (.iconst 0, 1) := by decide +kernel
theorem dL_law_483 : decode cL_law 483 = .ok (.ireturn, 1) := by decide +kernel
theorem dL_law_484 : decode cL_law 484 = .ok (.iinc 6 1, 3) := by decide +kernel
theorem dL_law_487 : decode cL_law 487 = .ok (.goto (-417), 3) := by decide +kernel
theorem dL_law_490 : decode cL_law 490 = .ok (.aload_n 2, 1) := by decide +kernel
theorem dL_law_491 : decode cL_law 491 = .ok (.iconst 0, 1) := by decide +kernel
theorem dL_law_492 : decode cL_law 492 = .ok (.iaload, 1) := by decide +kernel
theorem dL_law_493 : decode cL_law 493 = .ok (.istore 6, 2) := by decide +kernel
theorem dL_law_495 : decode cL_law 495 = .ok (.aload_n 2, 1) := by decide +kernel
theorem dL_law_496 : decode cL_law 496 = .ok (.iconst 1, 1) := by decide +kernel
theorem dL_law_497 : decode cL_law 497 = .ok (.iaload, 1) := by decide +kernel
theorem dL_law_498 : decode cL_law 498 = .ok (.istore 7, 2) := by decide +kernel
theorem dL_law_500 : decode cL_law 500 = .ok (.aload_n 1, 1) := by decide +kernel
theorem dL_law_501 : decode cL_law 501 = .ok (.iload 6, 2) := by decide +kernel
theorem dL_law_503 : decode cL_law 503 = .ok (.iconst 0, 1) := by decide +kernel
theorem dL_law_504 : decode cL_law 504 = .ok (.invokevirtual 103, 3) := by decide +kernel
theorem dL_law_507 : decode cL_law 507 = .ok (.bipush (-101), 2) := by decide +kernel
theorem dL_law_509 : decode cL_law 509 = .ok (.if_icmp .ne 280, 3) := by decide +kernel
theorem dL_law_512 : decode cL_law 512 = .ok (.aload_n 1, 1) := by decide +kernel
theorem dL_law_513 : decode cL_law 513 = .ok (.iconst 0, 1) := by decide +kernel
theorem dL_law_514 : decode cL_law 514 = .ok (.bipush 9, 2) := by decide +kernel
theorem dL_law_516 : decode cL_law 516 = .ok (.invokevirtual 103, 3) := by decide +kernel
theorem dL_law_519 : decode cL_law 519 = .ok (.bipush (-102), 2) := by decide +kernel
theorem dL_law_521 : decode cL_law 521 = .ok (.if_icmp .ne 268, 3) := by decide +kernel
theorem dL_law_524 : decode cL_law 524 = .ok (.aload_n 1, 1) := by decide +kernel
theorem dL_law_525 : decode cL_law 525 = .ok (.iconst (-1), 1) := by decide +kernel
theorem dL_law_526 : decode cL_law 526 = .ok (.iconst 0, 1) := by decide +kernel
theorem dL_law_527 : decode cL_law 527 = .ok (.invokevirtual 103, 3) := by decide +kernel
theorem dL_law_530 : decode cL_law 530 = .ok (.bipush (-101), 2) := by decide +kernel
theorem dL_law_532 : decode cL_law 532 = .ok (.if_icmp .ne 257, 3) := by decide +kernel
theorem dL_law_535 : decode cL_law 535 = .ok (.aload_n 1, 1) := by decide +kernel
theorem dL_law_536 : decode cL_law 536 = .ok (.iload 6, 2) := by decide +kernel
theorem dL_law_538 : decode cL_law 538 = .ok (.iconst 0, 1) := by decide +kernel
theorem dL_law_539 : decode cL_law 539 = .ok (.invokevirtual 106, 3) := by decide +kernel
theorem dL_law_542 : decode cL_law 542 = .ok (.bipush (-101), 2) := by decide +kernel
theorem dL_law_544 : decode cL_law 544 = .ok (.if_icmp .ne 245, 3) := by decide +kernel
theorem dL_law_547 : decode cL_law 547 = .ok (.aload_n 1, 1) := by decide +kernel
theorem dL_law_548 : decode cL_law 548 = .ok (.iconst 0, 1) := by decide +kernel
theorem dL_law_549 : decode cL_law 549 = .ok (.iconst 5, 1) := by decide +kernel
theorem dL_law_550 : decode cL_law 550 = .ok (.invokevirtual 106, 3) := by decide +kernel
theorem dL_law_553 : decode cL_law 553 = .ok (.bipush (-102), 2) := by decide +kernel
theorem dL_law_555 : decode cL_law 555 = .ok (.if_icmp .ne 234, 3) := by decide +kernel
theorem dL_law_558 : decode cL_law 558 = .ok (.aload_n 1, 1) := by decide +kernel
theorem dL_law_559 : decode cL_law 559 = .ok (.iload 7, 2) := by decide +kernel
theorem dL_law_561 : decode cL_law 561 = .ok (.iconst 0, 1) := by decide +kernel
theorem dL_law_562 : decode cL_law 562 = .ok (.invokevirtual 109, 3) := by decide +kernel
theorem dL_law_565 : decode cL_law 565 = .ok (.bipush (-101), 2) := by decide +kernel
theorem dL_law_567 : decode cL_law 567 = .ok (.if_icmp .ne 222, 3) := by decide +kernel
theorem dL_law_570 : decode cL_law 570 = .ok (.aload_n 1, 1) := by decide +kernel
theorem dL_law_571 : decode cL_law 571 = .ok (.iconst 0, 1) := by decide +kernel
theorem dL_law_572 : decode cL_law 572 = .ok (.bipush 9, 2) := by decide +kernel
theorem dL_law_574 : decode cL_law 574 = .ok (.invokevirtual 109, 3) := by decide +kernel
theorem dL_law_577 : decode cL_law 577 = .ok (.bipush (-102), 2) := by decide +kernel
theorem dL_law_579 : decode cL_law 579 = .ok (.if_icmp .ne 210, 3) := by decide +kernel
theorem dL_law_582 : decode cL_law 582 = .ok (.aload_n 1, 1) := by decide +kernel
theorem dL_law_583 : decode cL_law 583 = .ok (.iload 6, 2) := by decide +kernel
theorem dL_law_585 : decode cL_law 585 = .ok (.iconst 0, 1) := by decide +kernel
theorem dL_law_586 : decode cL_law 586 = .ok (.iconst 0, 1) := by decide +kernel
theorem dL_law_587 : decode cL_law 587 = .ok (.invokevirtual 55, 3) := by decide +kernel
theorem dL_law_590 : decode cL_law 590 = .ok (.bipush (-101), 2) := by decide +kernel
theorem dL_law_592 : decode cL_law 592 = .ok (.if_icmp .ne 197, 3) := by decide +kernel
theorem dL_law_595 : decode cL_law 595 = .ok (.aload_n 1, 1) := by decide +kernel
theorem dL_law_596 : decode cL_law 596 = .ok (.iconst 0, 1) := by decide +kernel
theorem dL_law_597 : decode cL_law 597 = .ok (.iload 7, 2) := by decide +kernel
theorem dL_law_599 : decode cL_law 599 = .ok (.iconst 0, 1) := by decide +kernel
theorem dL_law_600 : decode cL_law 600 = .ok (.invokevirtual 55, 3) := by decide +kernel
theorem dL_law_603 : decode cL_law 603 = .ok (.bipush (-101), 2) := by decide +kernel
theorem dL_law_605 : decode cL_law 605 = .ok (.if_icmp .ne 184, 3) := by decide +kernel
theorem dL_law_608 : decode cL_law 608 = .ok (.aload_n 1, 1) := by decide +kernel
theorem dL_law_609 : decode cL_law 609 = .ok (.iconst 0, 1) := by decide +kernel
theorem dL_law_610 : decode cL_law 610 = .ok (.iconst 0, 1) := by decide +kernel
theorem dL_law_611 : decode cL_law 611 = .ok (.iconst 2, 1) := by decide +kernel
theorem dL_law_612 : decode cL_law 612 = .ok (.invokevirtual 55, 3) := by decide +kernel
theorem dL_law_615 : decode cL_law 615 = .ok (.bipush (-102), 2) := by decide +kernel
theorem dL_law_617 : decode cL_law 617 = .ok (.if_icmp .ne 172, 3) := by decide +kernel
theorem dL_law_620 : decode cL_law 620 = .ok (.aload_n 1, 1) := by decide +kernel
theorem dL_law_621 : decode cL_law 621 = .ok (.iconst 0, 1) := by decide +kernel
theorem dL_law_622 : decode cL_law 622 = .ok (.iconst 0, 1) := by decide +kernel
theorem dL_law_623 : decode cL_law 623 = .ok (.iconst (-1), 1) := by decide +kernel
theorem dL_law_624 : decode cL_law 624 = .ok (.invokevirtual 55, 3) := by decide +kernel
theorem dL_law_627 : decode cL_law 627 = .ok (.bipush (-102), 2) := by decide +kernel
theorem dL_law_629 : decode cL_law 629 = .ok (.if_icmp .ne 160, 3) := by decide +kernel
theorem dL_law_632 : decode cL_law 632 = .ok (.aload_n 1, 1) := by decide +kernel
theorem dL_law_633 : decode cL_law 633 = .ok (.iload 6, 2) := by decide +kernel
theorem dL_law_635 : decode cL_law 635 = .ok (.invokevirtual 62, 3) := by decide +kernel
theorem dL_law_638 : decode cL_law 638 = .ok (.bipush (-101), 2) := by decide +kernel
theorem dL_law_640 : decode cL_law 640 = .ok (.if_icmp .ne 149, 3) := by decide +kernel
theorem dL_law_643 : decode cL_law 643 = .ok (.aload_n 1, 1) := by decide +kernel
theorem dL_law_644 : decode cL_law 644 = .ok (.iload 6, 2) := by decide +kernel
theorem dL_law_646 : decode cL_law 646 = .ok (.iconst 0, 1) := by decide +kernel
theorem dL_law_647 : decode cL_law 647 = .ok (.invokevirtual 65, 3) := by decide +kernel
theorem dL_law_650 : decode cL_law 650 = .ok (.bipush (-101), 2) := by decide +kernel
theorem dL_law_652 : decode cL_law 652 = .ok (.if_icmp .ne 137, 3) := by decide +kernel
theorem dL_law_655 : decode cL_law 655 = .ok (.aload_n 1, 1) := by decide +kernel
theorem dL_law_656 : decode cL_law 656 = .ok (.iconst 0, 1) := by decide +kernel
theorem dL_law_657 : decode cL_law 657 = .ok (.bipush 10, 2) := by decide +kernel
theorem dL_law_659 : decode cL_law 659 = .ok (.invokevirtual 65, 3) := by decide +kernel
theorem dL_law_662 : decode cL_law 662 = .ok (.bipush (-102), 2) := by decide +kernel
theorem dL_law_664 : decode cL_law 664 = .ok (.if_icmp .ne 125, 3) := by decide +kernel
theorem dL_law_667 : decode cL_law 667 = .ok (.aload_n 1, 1) := by decide +kernel
theorem dL_law_668 : decode cL_law 668 = .ok (.iload 7, 2) := by decide +kernel
theorem dL_law_670 : decode cL_law 670 = .ok (.iconst 0, 1) := by decide +kernel
theorem dL_law_671 : decode cL_law 671 = .ok (.iconst 0, 1) := by decide +kernel
theorem dL_law_672 : decode cL_law 672 = .ok (.invokevirtual 69, 3) := by decide +kernel
theorem dL_law_675 : decode cL_law 675 = .ok (.bipush (-101), 2) := by decide +kernel
theorem dL_law_677 : decode cL_law 677 = .ok (.if_icmp .ne 112, 3) := by decide +kernel
theorem dL_law_680 : decode cL_law 680 = .ok (.aload_n 1, 1) := by decide +kernel
theorem dL_law_681 : decode cL_law 681 = .ok (.iconst 0, 1) := by decide +kernel
theorem dL_law_682 : decode cL_law 682 = .ok (.bipush 10, 2) := by decide +kernel
theorem dL_law_684 : decode cL_law 684 = .ok (.iconst 0, 1) := by decide +kernel
theorem dL_law_685 : decode cL_law 685 = .ok (.invokevirtual 69, 3) := by decide +kernel
theorem dL_law_688 : decode cL_law 688 = .ok (.bipush (-102), 2) := by decide +kernel
theorem dL_law_690 : decode cL_law 690 = .ok (.if_icmp .ne 99, 3) := by decide +kernel
theorem dL_law_693 : decode cL_law 693 = .ok (.aload_n 1, 1) := by decide +kernel
theorem dL_law_694 : decode cL_law 694 = .ok (.iconst 0, 1) := by decide +kernel
theorem dL_law_695 : decode cL_law 695 = .ok (.iconst 0, 1) := by decide +kernel
theorem dL_law_696 : decode cL_law 696 = .ok (.iconst 3, 1) := by decide +kernel
theorem dL_law_697 : decode cL_law 697 = .ok (.invokevirtual 69, 3) := by decide +kernel
theorem dL_law_700 : decode cL_law 700 = .ok (.bipush (-102), 2) := by decide +kernel
theorem dL_law_702 : decode cL_law 702 = .ok (.if_icmp .ne 87, 3) := by decide +kernel
theorem dL_law_705 : decode cL_law 705 = .ok (.aload_n 1, 1) := by decide +kernel
theorem dL_law_706 : decode cL_law 706 = .ok (.iload 7, 2) := by decide +kernel
theorem dL_law_708 : decode cL_law 708 = .ok (.iconst 0, 1) := by decide +kernel
theorem dL_law_709 : decode cL_law 709 = .ok (.invokevirtual 112, 3) := by decide +kernel
theorem dL_law_712 : decode cL_law 712 = .ok (.bipush (-101), 2) := by decide +kernel
theorem dL_law_714 : decode cL_law 714 = .ok (.if_icmp .ne 75, 3) := by decide +kernel
theorem dL_law_717 : decode cL_law 717 = .ok (.aload_n 1, 1) := by decide +kernel
theorem dL_law_718 : decode cL_law 718 = .ok (.iconst 0, 1) := by decide +kernel
theorem dL_law_719 : decode cL_law 719 = .ok (.bipush 41, 2) := by decide +kernel
theorem dL_law_721 : decode cL_law 721 = .ok (.invokevirtual 112, 3) := by decide +kernel
theorem dL_law_724 : decode cL_law 724 = .ok (.bipush (-102), 2) := by decide +kernel
theorem dL_law_726 : decode cL_law 726 = .ok (.if_icmp .ne 63, 3) := by decide +kernel
theorem dL_law_729 : decode cL_law 729 = .ok (.aload_n 1, 1) := by decide +kernel
theorem dL_law_730 : decode cL_law 730 = .ok (.iconst 0, 1) := by decide +kernel
theorem dL_law_731 : decode cL_law 731 = .ok (.iconst (-1), 1) := by decide +kernel
theorem dL_law_732 : decode cL_law 732 = .ok (.invokevirtual 112, 3) := by decide +kernel
theorem dL_law_735 : decode cL_law 735 = .ok (.bipush (-102), 2) := by decide +kernel
theorem dL_law_737 : decode cL_law 737 = .ok (.if_icmp .ne 52, 3) := by decide +kernel
theorem dL_law_740 : decode cL_law 740 = .ok (.aload_n 1, 1) := by decide +kernel
theorem dL_law_741 : decode cL_law 741 = .ok (.iconst 0, 1) := by decide +kernel
theorem dL_law_742 : decode cL_law 742 = .ok (.iconst 1, 1) := by decide +kernel
theorem dL_law_743 : decode cL_law 743 = .ok (.iconst 0, 1) := by decide +kernel
theorem dL_law_744 : decode cL_law 744 = .ok (.invokevirtual 97, 3) := by decide +kernel
theorem dL_law_747 : decode cL_law 747 = .ok (.bipush (-102), 2) := by decide +kernel
theorem dL_law_749 : decode cL_law 749 = .ok (.if_icmp .ne 40, 3) := by decide +kernel
theorem dL_law_752 : decode cL_law 752 = .ok (.aload_n 1, 1) := by decide +kernel
theorem dL_law_753 : decode cL_law 753 = .ok (.bipush 61, 2) := by decide +kernel
theorem dL_law_755 : decode cL_law 755 = .ok (.iconst 1, 1) := by decide +kernel
theorem dL_law_756 : decode cL_law 756 = .ok (.iconst 0, 1) := by decide +kernel
theorem dL_law_757 : decode cL_law 757 = .ok (.invokevirtual 97, 3) := by decide +kernel
theorem dL_law_760 : decode cL_law 760 = .ok (.bipush (-102), 2) := by decide +kernel
theorem dL_law_762 : decode cL_law 762 = .ok (.if_icmp .ne 27, 3) := by decide +kernel
theorem dL_law_765 : decode cL_law 765 = .ok (.aload_n 1, 1) := by decide +kernel
theorem dL_law_766 : decode cL_law 766 = .ok (.iconst 1, 1) := by decide +kernel
theorem dL_law_767 : decode cL_law 767 = .ok (.iconst (-1), 1) := by decide +kernel
theorem dL_law_768 : decode cL_law 768 = .ok (.iconst 0, 1) := by decide +kernel
theorem dL_law_769 : decode cL_law 769 = .ok (.invokevirtual 97, 3) := by decide +kernel
theorem dL_law_772 : decode cL_law 772 = .ok (.bipush (-102), 2) := by decide +kernel
theorem dL_law_774 : decode cL_law 774 = .ok (.if_icmp .ne 15, 3) := by decide +kernel
theorem dL_law_777 : decode cL_law 777 = .ok (.aload_n 1, 1) := by decide +kernel
theorem dL_law_778 : decode cL_law 778 = .ok (.iconst 1, 1) := by decide +kernel
theorem dL_law_779 : decode cL_law 779 = .ok (.iconst 1, 1) := by decide +kernel
theorem dL_law_780 : decode cL_law 780 = .ok (.iconst 3, 1) := by decide +kernel
theorem dL_law_781 : decode cL_law 781 = .ok (.invokevirtual 97, 3) := by decide +kernel
theorem dL_law_784 : decode cL_law 784 = .ok (.bipush (-102), 2) := by decide +kernel
theorem dL_law_786 : decode cL_law 786 = .ok (.if_icmp .eq 5, 3) := by decide +kernel
theorem dL_law_789 : decode cL_law 789 = .ok (.iconst 0, 1) := by decide +kernel
theorem dL_law_790 : decode cL_law 790 = .ok (.ireturn, 1) := by decide +kernel
theorem dL_law_791 : decode cL_law 791 = .ok (.iinc 4 1, 3) := by decide +kernel
theorem dL_law_794 : decode cL_law 794 = .ok (.goto (-773), 3) := by decide +kernel
theorem dL_law_797 : decode cL_law 797 = .ok (.iconst 1, 1) := by decide +kernel
theorem dL_law_798 : decode cL_law 798 = .ok (.ireturn, 1) := by decide +kernel
theorem dL_told_0 : decode cL_told 0 = .ok (.iconst 0, 1) := by decide +kernel
theorem dL_told_1 : decode cL_told 1 = .ok (.istore_n 3, 1) := by decide +kernel
theorem dL_told_2 : decode cL_told 2 = .ok (.iconst 0, 1) := by decide +kernel
theorem dL_told_3 : decode cL_told 3 = .ok (.istore 4, 2) := by decide +kernel
theorem dL_told_5 : decode cL_told 5 = .ok (.iconst 0, 1) := by decide +kernel
theorem dL_told_6 : decode cL_told 6 = .ok (.istore 5, 2) := by decide +kernel
theorem dL_told_8 : decode cL_told 8 = .ok (.iload 5, 2) := by decide +kernel
theorem dL_told_10 : decode cL_told 10 = .ok (.aload_n 1, 1) := by decide +kernel
theorem dL_told_11 : decode cL_told 11 = .ok (.iconst 0, 1) := by decide +kernel
theorem dL_told_12 : decode cL_told 12 = .ok (.iaload, 1) := by decide +kernel
theorem dL_told_13 : decode cL_told 13 = .ok (.if_icmp .ge 288, 3) := by decide +kernel
theorem dL_told_16 : decode cL_told 16 = .ok (.bipush 9, 2) := by decide +kernel
theorem dL_told_18 : decode cL_told 18 = .ok (.iconst 5, 1) := by decide +kernel
theorem dL_told_19 : decode cL_told 19 = .ok (.iload 5, 2) := by decide +kernel
theorem dL_told_21 : decode cL_told 21 = .ok (.imul, 1) := by decide +kernel
theorem dL_told_22 : decode cL_told 22 = .ok (.iadd, 1) := by decide +kernel
theorem dL_told_23 : decode cL_told 23 = .ok (.istore 6, 2) := by decide +kernel
theorem dL_told_25 : decode cL_told 25 = .ok (.iconst 0, 1) := by decide +kernel
theorem dL_told_26 : decode cL_told 26 = .ok (.istore 7, 2) := by decide +kernel
theorem dL_told_28 : decode cL_told 28 = .ok (.iconst 0, 1) := by decide +kernel
theorem dL_told_29 : decode cL_told 29 = .ok (.istore 8, 2) := by decide +kernel
theorem dL_told_31 : decode cL_told 31 = .ok (.iload 8, 2) := by decide +kernel
theorem dL_told_33 : decode cL_told 33 = .ok (.aload_n 1, 1) := by decide +kernel
theorem dL_told_34 : decode cL_told 34 = .ok (.iconst 0, 1) := by decide +kernel
theorem dL_told_35 : decode cL_told 35 = .ok (.iaload, 1) := by decide +kernel
theorem dL_told_36 : decode cL_told 36 = .ok (.if_icmp .ge 61, 3) := by decide +kernel
theorem dL_told_39 : decode cL_told 39 = .ok (.iload 7, 2) := by decide +kernel
theorem dL_told_41 : decode cL_told 41 = .ok (.aload_n 1, 1) := by decide +kernel
theorem dL_told_42 : decode cL_told 42 = .ok (.iload 5, 2) := by decide +kernel
theorem dL_told_44 : decode cL_told 44 = .ok (.iload 8, 2) := by decide +kernel
theorem dL_told_46 : decode cL_told 46 = .ok (.iconst 0, 1) := by decide +kernel
theorem dL_told_47 : decode cL_told 47 = .ok (.invokestatic 35, 3) := by decide +kernel
theorem dL_told_50 : decode cL_told 50 = .ok (.ifCond .eq 10, 3) := by decide +kernel
theorem dL_told_53 : decode cL_told 53 = .ok (.iconst 1, 1) := by decide +kernel
theorem dL_told_54 : decode cL_told 54 = .ok (.iload 8, 2) := by decide +kernel
theorem dL_told_56 : decode cL_told 56 = .ok (.ishl, 1) := by decide +kernel
theorem dL_told_57 : decode cL_told 57 = .ok (.goto 4, 3) := by decide +kernel
theorem dL_told_60 : decode cL_told 60 = .ok (.iconst 0, 1) := by decide +kernel
theorem dL_told_61 : decode cL_told 61 = .ok (.ior, 1) := by decide +kernel
theorem dL_told_62 : decode cL_told 62 = .ok (.istore 7, 2) := by decide +kernel
theorem dL_told_64 : decode cL_told 64 = .ok (.iload_n 3, 1) := by decide +kernel
theorem dL_told_65 : decode cL_told 65 = .ok (.iload 8, 2) := by decide +kernel
theorem dL_told_67 : decode cL_told 67 = .ok (.iload 5, 2) := by decide +kernel
theorem dL_told_69 : decode cL_told 69 = .ok (.if_icmp .ge 19, 3) := by decide +kernel
theorem dL_told_72 : decode cL_told 72 = .ok (.aload_n 1, 1) := by decide +kernel
theorem dL_told_73 : decode cL_told 73 = .ok (.iload 5, 2) := by decide +kernel
theorem dL_told_75 : decode cL_told 75 = .ok (.iload 8, 2) := by decide +kernel
theorem dL_told_77 : decode cL_told 77 = .ok (.iconst 0, 1) := by decide +kernel
theorem dL_told_78 : decode cL_told 78 = .ok (.invokestatic 35, 3) := by decide +kernel
theorem dL_told_81 : decode cL_told 81 = .ok (.ifCond .eq 7, 3) := by decide +kernel
theorem dL_told_84 : decode cL_told 84 = .ok (.iconst 1, 1) := by decide +kernel
theorem dL_told_85 : decode cL_told 85 = .ok (.goto 4, 3) := by decide +kernel
theorem dL_told_88 : decode cL_told 88 = .ok (.iconst 0, 1) := by decide +kernel
theorem dL_told_89 : decode cL_told 89 = .ok (.iadd, 1) := by decide +kernel
theorem dL_told_90 : decode cL_told 90 = .ok (.istore_n 3, 1) := by decide +kernel
theorem dL_told_91 : decode cL_told 91 = .ok (.iinc 8 1, 3) := by decide +kernel
theorem dL_told_94 : decode cL_told 94 = .ok (.goto (-63), 3) := by decide +kernel
theorem dL_told_97 : decode cL_told 97 = .ok (.iload 4, 2) := by decide +kernel
theorem dL_told_99 : decode cL_told 99 = .ok (.aload_n 1, 1) := by decide +kernel
theorem dL_told_100 : decode cL_told 100 = .ok (.iload 5, 2) := by decide +kernel
theorem dL_told_102 : decode cL_told 102 = .ok (.iconst 0, 1) := by decide +kernel
theorem dL_told_103 : decode cL_told 103 = .ok (.invokestatic 31, 3) := by decide +kernel
theorem dL_told_106 : decode cL_told 106 = .ok (.iadd, 1) := by decide +kernel
theorem dL_told_107 : decode cL_told 107 = .ok (.istore 4, 2) := by decide +kernel
theorem dL_told_109 : decode cL_told 109 = .ok (.aload_n 0, 1) := by decide +kernel
theorem dL_told_110 : decode cL_told 110 = .ok (.iload 5, 2) := by decide +kernel
theorem dL_told_112 : decode cL_told 112 = .ok (.iconst 0, 1) := by decide +kernel
theorem dL_told_113 : decode cL_told 113 = .ok (.invokevirtual 103, 3) := by decide +kernel
theorem dL_told_116 : decode cL_told 116 = .ok (.aload_n 1, 1) := by decide +kernel
theorem dL_told_117 : decode cL_told 117 = .ok (.iload 6, 2) := by decide +kernel
theorem dL_told_119 : decode cL_told 119 = .ok (.iaload, 1) := by decide +kernel
theorem dL_told_120 : decode cL_told 120 = .ok (.if_icmp .ne 111, 3) := by decide +kernel
theorem dL_told_123 : decode cL_told 123 = .ok (.aload_n 0, 1) := by decide +kernel
theorem dL_told_124 : decode cL_told 124 = .ok (.iload 5, 2) := by decide +kernel
theorem dL_told_126 : decode cL_told 126 = .ok (.iconst 1, 1) := by decide +kernel
theorem dL_told_127 : decode cL_told 127 = .ok (.invokevirtual 103, 3) := by decide +kernel
theorem dL_told_130 : decode cL_told 130 = .ok (.aload_n 1, 1) := by decide +kernel
theorem dL_told_131 : decode cL_told 131 = .ok (.iload 6, 2) := by decide +kernel
theorem dL_told_133 : decode cL_told 133 = .ok (.iconst 1, 1) := by decide +kernel
theorem dL_told_134 : decode cL_told 134 = .ok (.iadd, 1) := by decide +kernel
theorem dL_told_135 : decode cL_told 135 = .ok (.iaload, 1) := by decide +kernel
theorem dL_told_136 : decode cL_told 136 = .ok (.if_icmp .ne 95, 3) := by decide +kernel
theorem dL_told_139 : decode cL_told 139 = .ok (.aload_n 0, 1) := by decide +kernel
theorem dL_told_140 : decode cL_told 140 = .ok (.iload 5, 2) := by decide +kernel
theorem dL_told_142 : decode cL_told 142 = .ok (.iconst 2, 1) := by decide +kernel
theorem dL_told_143 : decode cL_told 143 = .ok (.invokevirtual 103, 3) := by decide +kernel
theorem dL_told_146 : decode cL_told 146 = .ok (.aload_n 1, 1) := by decide +kernel
theorem dL_told_147 : decode cL_told 147 = .ok (.iload 6, 2) := by decide +kernel
theorem dL_told_149 : decode cL_told 149 = .ok (.iconst 2, 1) := by decide +kernel
theorem dL_told_150 : decode cL_told 150 = .ok (.iadd, 1) := by decide +kernel
theorem dL_told_151 : decode cL_told 151 = .ok (.iaload, 1) := by decide +kernel
theorem dL_told_152 : decode cL_told 152 = .ok (.if_icmp .ne 79, 3) := by decide +kernel
theorem dL_told_155 : decode cL_told 155 = .ok (.aload_n 0, 1) := by decide +kernel
theorem dL_told_156 : decode cL_told 156 = .ok (.iload 5, 2) := by decide +kernel
theorem dL_told_158 : decode cL_told 158 = .ok (.iconst 3, 1) := by decide +kernel
theorem dL_told_159 : decode cL_told 159 = .ok (.invokevirtual 103, 3) := by decide +kernel
theorem dL_told_162 : decode cL_told 162 = .ok (.aload_n 1, 1) := by decide +kernel
theorem dL_told_163 : decode cL_told 163 = .ok (.iload 5, 2) := by decide +kernel
theorem dL_told_165 : decode cL_told 165 = .ok (.iconst 0, 1) := by decide +kernel
theorem dL_told_166 : decode cL_told 166 = .ok (.invokestatic 31, 3) := by decide +kernel
theorem dL_told_169 : decode cL_told 169 = .ok (.if_icmp .ne 62, 3) := by decide +kernel
theorem dL_told_172 : decode cL_told 172 = .ok (.aload_n 0, 1) := by decide +kernel
theorem dL_told_173 : decode cL_told 173 = .ok (.iload 5, 2) := by decide +kernel
theorem dL_told_175 : decode cL_told 175 = .ok (.iconst 4, 1) := by decide +kernel
theorem dL_told_176 : decode cL_told 176 = .ok (.invokevirtual 103, 3) := by decide +kernel
theorem dL_told_179 : decode cL_told 179 = .ok (.aload_n 1, 1) := by decide +kernel
theorem dL_told_180 : decode cL_told 180 = .ok (.iload 6, 2) := by decide +kernel
theorem dL_told_182 : decode cL_told 182 = .ok (.iconst 3, 1) := by decide +kernel
theorem dL_told_183 : decode cL_told 183 = .ok (.iadd, 1) := by decide +kernel
theorem dL_told_184 : decode cL_told 184 = .ok (.iaload, 1) := by decide +kernel
theorem dL_told_185 : decode cL_told 185 = .ok (.if_icmp .ne 46, 3) := by decide +kernel
theorem dL_told_188 : decode cL_told 188 = .ok (.aload_n 0, 1) := by decide +kernel
theorem dL_told_189 : decode cL_told 189 = .ok (.iload 5, 2) := by decide +kernel
theorem dL_told_191 : decode cL_told 191 = .ok (.iconst 5, 1) := by decide +kernel
theorem dL_told_192 : decode cL_told 192 = .ok (.invokevirtual 103, 3) := by decide +kernel
theorem dL_told_195 : decode cL_told 195 = .ok (.aload_n 1, 1) := by decide +kernel
theorem dL_told_196 : decode cL_told 196 = .ok (.iload 6, 2) := by decide +kernel
theorem dL_told_198 : decode cL_told 198 = .ok (.iconst 4, 1) := by decide +kernel
theorem dL_told_199 : decode cL_told 199 = .ok (.iadd, 1) := by decide +kernel
theorem dL_told_200 : decode cL_told 200 = .ok (.iaload, 1) := by decide +kernel
theorem dL_told_201 : decode cL_told 201 = .ok (.if_icmp .ne 30, 3) := by decide +kernel
theorem dL_told_204 : decode cL_told 204 = .ok (.aload_n 0, 1) := by decide +kernel
theorem dL_told_205 : decode cL_told 205 = .ok (.iload 5, 2) := by decide +kernel
theorem dL_told_207 : decode cL_told 207 = .ok (.bipush 6, 2) := by decide +kernel
theorem dL_told_209 : decode cL_told 209 = .ok (.invokevirtual 103, 3) := by decide +kernel
theorem dL_told_212 : decode cL_told 212 = .ok (.iload 7, 2) := by decide +kernel
theorem dL_told_214 : decode cL_told 214 = .ok (.if_icmp .ne 17, 3) := by decide +kernel
theorem dL_told_217 : decode cL_told 217 = .ok (.aload_n 0, 1) := by decide +kernel
theorem dL_told_218 : decode cL_told 218 = .ok (.iload 5, 2) := by decide +kernel
theorem dL_told_220 : decode cL_told 220 = .ok (.bipush 7, 2) := by decide +kernel
theorem dL_told_222 : decode cL_told 222 = .ok (.invokevirtual 103, 3) := by decide +kernel
theorem dL_told_225 : decode cL_told 225 = .ok (.sipush 1023, 3) := by decide +kernel
theorem dL_told_228 : decode cL_told 228 = .ok (.if_icmp .eq 5, 3) := by decide +kernel
theorem dL_told_231 : decode cL_told 231 = .ok (.iconst 0, 1) := by decide +kernel
theorem dL_told_232 : decode cL_told 232 = .ok (.ireturn, 1) := by decide +kernel
theorem dL_told_233 : decode cL_told 233 = .ok (.iconst 0, 1) := by decide +kernel
theorem dL_told_234 : decode cL_told 234 = .ok (.istore 8, 2) := by decide +kernel
theorem dL_told_236 : decode cL_told 236 = .ok (.iload 8, 2) := by decide +kernel
theorem dL_told_238 : decode cL_told 238 = .ok (.iconst 5, 1) := by decide +kernel
theorem dL_told_239 : decode cL_told 239 = .ok (.if_icmp .ge 56, 3) := by decide +kernel
theorem dL_told_242 : decode cL_told 242 = .ok (.aload_n 0, 1) := by decide +kernel
theorem dL_told_243 : decode cL_told 243 = .ok (.iload 5, 2) := by decide +kernel
theorem dL_told_245 : decode cL_told 245 = .ok (.iload 8, 2) := by decide +kernel
theorem dL_told_247 : decode cL_told 247 = .ok (.invokevirtual 106, 3) := by decide +kernel
theorem dL_told_250 : decode cL_told 250 = .ok (.iload 8, 2) := by decide +kernel
theorem dL_told_252 : decode cL_told 252 = .ok (.ifCond .eq 26, 3) := by decide +kernel
theorem dL_told_255 : decode cL_told 255 = .ok (.iload 8, 2) := by decide +kernel
theorem dL_told_257 : decode cL_told 257 = .ok (.aload_n 1, 1) := by decide +kernel
theorem dL_told_258 : decode cL_told 258 = .ok (.iload 6, 2) := by decide +kernel
theorem dL_told_260 : decode cL_told 260 = .ok (.iaload, 1) := by decide +kernel
theorem dL_told_261 : decode cL_told 261 = .ok (.if_icmp .eq 17, 3) := by decide +kernel
theorem dL_told_264 : decode cL_told 264 = .ok (.iload 8, 2) := by decide +kernel
theorem dL_told_266 : decode cL_told 266 = .ok (.iconst 1, 1) := by decide +kernel
theorem dL_told_267 : decode cL_told 267 = .ok (.if_icmp .ne 16, 3) := by decide +kernel
theorem dL_told_270 : decode cL_told 270 = .ok (.aload_n 1, 1) := by decide +kernel
theorem dL_told_271 : decode cL_told 271 = .ok (.iload 6, 2) := by decide +kernel
theorem dL_told_273 : decode cL_told 273 = .ok (.iaload, 1) := by decide +kernel
theorem dL_told_274 : decode cL_told 274 = .ok (.iconst 4, 1) := by decide +kernel
theorem dL_told_275 : decode cL_told 275 = .ok (.if_icmp .ne 8, 3) := by decide +kernel
theorem dL_told_278 : decode cL_told 278 = .ok (.iload 5, 2) := by decide +kernel
theorem dL_told_280 : decode cL_told 280 = .ok (.goto 4, 3) := by decide +kernel
theorem dL_told_283 : decode cL_told 283 = .ok (.iconst (-1), 1) := by decide +kernel
theorem dL_told_284 : decode cL_told 284 = .ok (.if_icmp .eq 5, 3) := by decide +kernel
theorem dL_told_287 : decode cL_told 287 = .ok (.iconst 0, 1) := by decide +kernel
theorem dL_told_288 : decode cL_told 288 = .ok (.ireturn, 1) := by decide +kernel
theorem dL_told_289 : decode cL_told 289 = .ok (.iinc 8 1, 3) := by decide +kernel
theorem dL_told_292 : decode cL_told 292 = .ok (.goto (-56), 3) := by decide +kernel
theorem dL_told_295 : decode cL_told 295 = .ok (.iinc 5 1, 3) := by decide +kernel
theorem dL_told_298 : decode cL_told 298 = .ok (.goto (-290), 3) := by decide +kernel
theorem dL_told_301 : decode cL_told 301 = .ok (.iconst 0, 1) := by decide +kernel
theorem dL_told_302 : decode cL_told 302 = .ok (.istore 5, 2) := by decide +kernel
theorem dL_told_304 : decode cL_told 304 = .ok (.iconst 0, 1) := by decide +kernel
theorem dL_told_305 : decode cL_told 305 = .ok (.istore 6, 2) := by decide +kernel
theorem dL_told_307 : decode cL_told 307 = .ok (.iconst 0, 1) := by decide +kernel
theorem dL_told_308 : decode cL_told 308 = .ok (.istore 7, 2) := by decide +kernel
theorem dL_told_310 : decode cL_told 310 = .ok (.iconst 0, 1) := by decide +kernel
theorem dL_told_311 : decode cL_told 311 = .ok (.istore 8, 2) := by decide +kernel
theorem dL_told_313 : decode cL_told 313 = .ok (.iload 8, 2) := by decide +kernel
theorem dL_told_315 : decode cL_told 315 = .ok (.aload_n 1, 1) := by decide +kernel
theorem dL_told_316 : decode cL_told 316 = .ok (.iconst 1, 1) := by decide +kernel
theorem dL_told_317 : decode cL_told 317 = .ok (.iaload, 1) := by decide +kernel
theorem dL_told_318 : decode cL_told 318 = .ok (.if_icmp .ge 236, 3) := by decide +kernel
theorem dL_told_321 : decode cL_told 321 = .ok (.aload_n 1, 1) := by decide +kernel
theorem dL_told_322 : decode cL_told 322 = .ok (.iload 8, 2) := by decide +kernel
theorem dL_told_324 : decode cL_told 324 = .ok (.invokestatic 58, 3) := by decide +kernel
theorem dL_told_327 : decode cL_told 327 = .ok (.istore 9, 2) := by decide +kernel
theorem dL_told_329 : decode cL_told 329 = .ok (.aload_n 1, 1) := by decide +kernel
theorem dL_told_330 : decode cL_told 330 = .ok (.aload_n 1, 1) := by decide +kernel
theorem dL_told_331 : decode cL_told 331 = .ok (.iconst 3, 1) := by decide +kernel
theorem dL_told_332 : decode cL_told 332 = .ok (.iload 8, 2) := by decide +kernel
theorem dL_told_334 : decode cL_told 334 = .ok (.iadd, 1) := by decide +kernel
theorem dL_told_335 : decode cL_told 335 = .ok (.iaload, 1) := by decide +kernel
theorem dL_told_336 : decode cL_told 336 = .ok (.iload 9, 2) := by decide +kernel
theorem dL_told_338 : decode cL_told 338 = .ok (.iconst 0, 1) := by decide +kernel
theorem dL_told_339 : decode cL_told 339 = .ok (.invokestatic 39, 3) := by decide +kernel
theorem dL_told_342 : decode cL_told 342 = .ok (.istore 10, 2) := by decide +kernel
theorem dL_told_344 : decode cL_told 344 = .ok (.iload 5, 2) := by decide +kernel
theorem dL_told_346 : decode cL_told 346 = .ok (.iload 10, 2) := by decide +kernel
theorem dL_told_348 : decode cL_told 348 = .ok (.invokestatic 43, 3) := by decide +kernel
theorem dL_told_351 : decode cL_told 351 = .ok (.iconst 1, 1) := by decide +kernel
theorem dL_told_352 : decode cL_told 352 = .ok (.if_icmp .ne 7, 3) := by decide +kernel
theorem dL_told_355 : decode cL_told 355 = .ok (.iconst 1, 1) := by decide +kernel
theorem dL_told_356 : decode cL_told 356 = .ok (.goto 4, 3) := by decide +kernel
theorem dL_told_359 : decode cL_told 359 = .ok (.iconst 0, 1) := by decide +kernel
theorem dL_told_360 : decode cL_told 360 = .ok (.iadd, 1) := by decide +kernel
theorem dL_told_361 : decode cL_told 361 = .ok (.istore 5, 2) := by decide +kernel
theorem dL_told_363 : decode cL_told 363 = .ok (.iload 6, 2) := by decide +kernel
theorem dL_told_365 : decode cL_told 365 = .ok (.iload 10, 2) := by decide +kernel
theorem dL_told_367 : decode cL_told 367 = .ok (.invokestatic 43, 3) := by decide +kernel
theorem dL_told_370 : decode cL_told 370 = .ok (.ifCond .ne 7, 3) := by decide +kernel
theorem dL_told_373 : decode cL_told 373 = .ok (.iconst 1, 1) := by decide +kernel
theorem dL_told_374 : decode cL_told 374 = .ok (.goto 4, 3) := by decide +kernel
theorem dL_told_377 : decode cL_told 377 = .ok (.iconst 0, 1) := by decide +kernel
theorem dL_told_378 : decode cL_told 378 = .ok (.iadd, 1) := by decide +kernel
theorem dL_told_379 : decode cL_told 379 = .ok (.istore 6, 2) := by decide +kernel
theorem dL_told_381 : decode cL_told 381 = .ok (.iload 7, 2) := by decide +kernel
theorem dL_told_383 : decode cL_told 383 = .ok (.aload_n 1, 1) := by decide +kernel
theorem dL_told_384 : decode cL_told 384 = .ok (.iload 8, 2) := by decide +kernel
theorem dL_told_386 : decode cL_told 386 = .ok (.iload 9, 2) := by decide +kernel
theorem dL_told_388 : decode cL_told 388 = .ok (.invokestatic 114, 3) := by decide +kernel
theorem dL_told_391 : decode cL_told 391 = .ok (.ifCond .eq 7, 3) := by decide +kernel
theorem dL_told_394 : decode cL_told 394 = .ok (.iconst 1, 1) := by decide +kernel
theorem dL_told_395 : decode cL_told 395 = .ok (.goto 4, 3) := by decide +kernel
theorem dL_told_398 : decode cL_told 398 = .ok (.iconst 0, 1) := by decide +kernel
theorem dL_told_399 : decode cL_told 399 = .ok (.iadd, 1) := by decide +kernel
theorem dL_told_400 : decode cL_told 400 = .ok (.istore 7, 2) := by decide +kernel
theorem dL_told_402 : decode cL_told 402 = .ok (.aload_n 0, 1) := by decide +kernel
theorem dL_told_403 : decode cL_told 403 = .ok (.iload 8, 2) := by decide +kernel
theorem dL_told_405 : decode cL_told 405 = .ok (.iconst 0, 1) := by decide +kernel
theorem dL_told_406 : decode cL_told 406 = .ok (.invokevirtual 109, 3) := by decide +kernel
theorem dL_told_409 : decode cL_told 409 = .ok (.aload_n 1, 1) := by decide +kernel
theorem dL_told_410 : decode cL_told 410 = .ok (.iconst 3, 1) := by decide +kernel
theorem dL_told_411 : decode cL_told 411 = .ok (.iload 8, 2) := by decide +kernel
theorem dL_told_413 : decode cL_told 413 = .ok (.iadd, 1) := by decide +kernel
theorem dL_told_414 : decode cL_told 414 = .ok (.iaload, 1) := by decide +kernel
theorem dL_told_415 : decode cL_told 415 = .ok (.if_icmp .ne 131, 3) := by decide +kernel
theorem dL_told_418 : decode cL_told 418 = .ok (.aload_n 0, 1) := by decide +kernel
theorem dL_told_419 : decode cL_told 419 = .ok (.iload 8, 2) := by decide +kernel
theorem dL_told_421 : decode cL_told 421 = .ok (.iconst 1, 1) := by decide +kernel
theorem dL_told_422 : decode cL_told 422 = .ok (.invokevirtual 109, 3) := by decide +kernel
theorem dL_told_425 : decode cL_told 425 = .ok (.iload 10, 2) := by decide +kernel
theorem dL_told_427 : decode cL_told 427 = .ok (.if_icmp .ne 119, 3) := by decide +kernel
theorem dL_told_430 : decode cL_told 430 = .ok (.aload_n 0, 1) := by decide +kernel
theorem dL_told_431 : decode cL_told 431 = .ok (.iload 8, 2) := by decide +kernel
theorem dL_told_433 : decode cL_told 433 = .ok (.iconst 2, 1) := by decide +kernel
theorem dL_told_434 : decode cL_told 434 = .ok (.invokevirtual 109, 3) := by decide +kernel
theorem dL_told_437 : decode cL_told 437 = .ok (.aload_n 1, 1) := by decide +kernel
theorem dL_told_438 : decode cL_told 438 = .ok (.iload 8, 2) := by decide +kernel
theorem dL_told_440 : decode cL_told 440 = .ok (.iconst 0, 1) := by decide +kernel
theorem dL_told_441 : decode cL_told 441 = .ok (.invokestatic 52, 3) := by decide +kernel
theorem dL_told_444 : decode cL_told 444 = .ok (.if_icmp .ne 102, 3) := by decide +kernel
theorem dL_told_447 : decode cL_told 447 = .ok (.aload_n 0, 1) := by decide +kernel
theorem dL_told_448 : decode cL_told 448 = .ok (.iload 8, 2) := by decide +kernel
theorem dL_told_450 : decode cL_told 450 = .ok (.iconst 3, 1) := by decide +kernel
theorem dL_told_451 : decode cL_told 451 = .ok (.invokevirtual 109, 3) := by decide +kernel
theorem dL_told_454 : decode cL_told 454 = .ok (.aload_n 1, 1) := by decide +kernel
theorem dL_told_455 : decode cL_told 455 = .ok (.iload 8, 2) := by decide +kernel
theorem dL_told_457 : decode cL_told 457 = .ok (.iconst 1, 1) := by decide +kernel
theorem dL_told_458 : decode cL_told 458 = .ok (.invokestatic 52, 3) := by decide +kernel
theorem dL_told_461 : decode cL_told 461 = .ok (.if_icmp .ne 85, 3) := by decide +kernel
theorem dL_told_464 : decode cL_told 464 = .ok (.aload_n 0, 1) := by decide +kernel
theorem dL_told_465 : decode cL_told 465 = .ok (.iload 8, 2) := by decide +kernel
theorem dL_told_467 : decode cL_told 467 = .ok (.iconst 4, 1) := by decide +kernel
theorem dL_told_468 : decode cL_told 468 = .ok (.invokevirtual 109, 3) := by decide +kernel
theorem dL_told_471 : decode cL_told 471 = .ok (.iload 10, 2) := by decide +kernel
theorem dL_told_473 : decode cL_told 473 = .ok (.invokestatic 43, 3) := by decide +kernel
theorem dL_told_476 : decode cL_told 476 = .ok (.if_icmp .ne 70, 3) := by decide +kernel
theorem dL_told_479 : decode cL_told 479 = .ok (.aload_n 0, 1) := by decide +kernel
theorem dL_told_480 : decode cL_told 480 = .ok (.iload 8, 2) := by decide +kernel
theorem dL_told_482 : decode cL_told 482 = .ok (.iconst 5, 1) := by decide +kernel
theorem dL_told_483 : decode cL_told 483 = .ok (.invokevirtual 109, 3) := by decide +kernel
theorem dL_told_486 : decode cL_told 486 = .ok (.aload_n 1, 1) := by decide +kernel
theorem dL_told_487 : decode cL_told 487 = .ok (.bipush 6, 2) := by decide +kernel
theorem dL_told_489 : decode cL_told 489 = .ok (.iload 8, 2) := by decide +kernel
theorem dL_told_491 : decode cL_told 491 = .ok (.iadd, 1) := by decide +kernel
theorem dL_told_492 : decode cL_told 492 = .ok (.iaload, 1) := by decide +kernel
theorem dL_told_493 : decode cL_told 493 = .ok (.if_icmp .ne 53, 3) := by decide +kernel
theorem dL_told_496 : decode cL_told 496 = .ok (.aload_n 0, 1) := by decide +kernel
theorem dL_told_497 : decode cL_told 497 = .ok (.iload 8, 2) := by decide +kernel
theorem dL_told_499 : decode cL_told 499 = .ok (.bipush 6, 2) := by decide +kernel
theorem dL_told_501 : decode cL_told 501 = .ok (.invokevirtual 109, 3) := by decide +kernel
theorem dL_told_504 : decode cL_told 504 = .ok (.aload_n 1, 1) := by decide +kernel
theorem dL_told_505 : decode cL_told 505 = .ok (.iload 8, 2) := by decide +kernel
theorem dL_told_507 : decode cL_told 507 = .ok (.iload 9, 2) := by decide +kernel
theorem dL_told_509 : decode cL_told 509 = .ok (.invokestatic 114, 3) := by decide +kernel
theorem dL_told_512 : decode cL_told 512 = .ok (.ifCond .eq 7, 3) := by decide +kernel
theorem dL_told_515 : decode cL_told 515 = .ok (.iconst 1, 1) := by decide +kernel
theorem dL_told_516 : decode cL_told 516 = .ok (.goto 4, 3) := by decide +kernel
theorem dL_told_519 : decode cL_told 519 = .ok (.iconst 0, 1) := by decide +kernel
theorem dL_told_520 : decode cL_told 520 = .ok (.if_icmp .ne 26, 3) := by decide +kernel
theorem dL_told_523 : decode cL_told 523 = .ok (.aload_n 0, 1) := by decide +kernel
theorem dL_told_524 : decode cL_told 524 = .ok (.iload 8, 2) := by decide +kernel
theorem dL_told_526 : decode cL_told 526 = .ok (.iload_n 2, 1) := by decide +kernel
theorem dL_told_527 : decode cL_told 527 = .ok (.invokevirtual 112, 3) := by decide +kernel
theorem dL_told_530 : decode cL_told 530 = .ok (.aload_n 1, 1) := by decide +kernel
theorem dL_told_531 : decode cL_told 531 = .ok (.aload_n 1, 1) := by decide +kernel
theorem dL_told_532 : decode cL_told 532 = .ok (.iconst 3, 1) := by decide +kernel
theorem dL_told_533 : decode cL_told 533 = .ok (.iload 8, 2) := by decide +kernel
theorem dL_told_535 : decode cL_told 535 = .ok (.iadd, 1) := by decide +kernel
theorem dL_told_536 : decode cL_told 536 = .ok (.iaload, 1) := by decide +kernel
theorem dL_told_537 : decode cL_told 537 = .ok (.iload 9, 2) := by decide +kernel
theorem dL_told_539 : decode cL_told 539 = .ok (.iload_n 2, 1) := by decide +kernel
theorem dL_told_540 : decode cL_told 540 = .ok (.invokestatic 39, 3) := by decide +kernel
theorem dL_told_543 : decode cL_told 543 = .ok (.if_icmp .eq 5, 3) := by decide +kernel
theorem dL_told_546 : decode cL_told 546 = .ok (.iconst 0, 1) := by decide +kernel
theorem dL_told_547 : decode cL_told 547 = .ok (.ireturn, 1) := by decide +kernel
theorem dL_told_548 : decode cL_told 548 = .ok (.iinc 8 1, 3) := by decide +kernel
theorem dL_told_551 : decode cL_told 551 = .ok (.goto (-238), 3) := by decide +kernel
theorem dL_told_554 : decode cL_told 554 = .ok (.aload_n 0, 1) := by decide +kernel
theorem dL_told_555 : decode cL_told 555 = .ok (.iconst 0, 1) := by decide +kernel
theorem dL_told_556 : decode cL_told 556 = .ok (.invokevirtual 118, 3) := by decide +kernel
theorem dL_told_559 : decode cL_told 559 = .ok (.aload_n 1, 1) := by decide +kernel
theorem dL_told_560 : decode cL_told 560 = .ok (.iconst 0, 1) := by decide +kernel
theorem dL_told_561 : decode cL_told 561 = .ok (.iaload, 1) := by decide +kernel
theorem dL_told_562 : decode cL_told 562 = .ok (.if_icmp .ne 101, 3) := by decide +kernel
theorem dL_told_565 : decode cL_told 565 = .ok (.aload_n 0, 1) := by decide +kernel
theorem dL_told_566 : decode cL_told 566 = .ok (.iconst 1, 1) := by decide +kernel
theorem dL_told_567 : decode cL_told 567 = .ok (.invokevirtual 118, 3) := by decide +kernel
theorem dL_told_570 : decode cL_told 570 = .ok (.aload_n 1, 1) := by decide +kernel
theorem dL_told_571 : decode cL_told 571 = .ok (.iconst 1, 1) := by decide +kernel
theorem dL_told_572 : decode cL_told 572 = .ok (.iaload, 1) := by decide +kernel
theorem dL_told_573 : decode cL_told 573 = .ok (.if_icmp .ne 90, 3) := by decide +kernel
theorem dL_told_576 : decode cL_told 576 = .ok (.aload_n 0, 1) := by decide +kernel
theorem dL_told_577 : decode cL_told 577 = .ok (.iconst 2, 1) := by decide +kernel
theorem dL_told_578 : decode cL_told 578 = .ok (.invokevirtual 118, 3) := by decide +kernel
theorem dL_told_581 : decode cL_told 581 = .ok (.aload_n 1, 1) := by decide +kernel
theorem dL_told_582 : decode cL_told 582 = .ok (.iconst 0, 1) := by decide +kernel
theorem dL_told_583 : decode cL_told 583 = .ok (.iaload, 1) := by decide +kernel
theorem dL_told_584 : decode cL_told 584 = .ok (.aload_n 1, 1) := by decide +kernel
theorem dL_told_585 : decode cL_told 585 = .ok (.iconst (-1), 1) := by decide +kernel
theorem dL_told_586 : decode cL_told 586 = .ok (.invokestatic 58, 3) := by decide +kernel
theorem dL_told_589 : decode cL_told 589 = .ok (.invokestatic 100, 3) := by decide +kernel
theorem dL_told_592 : decode cL_told 592 = .ok (.isub, 1) := by decide +kernel
theorem dL_told_593 : decode cL_told 593 = .ok (.if_icmp .ne 70, 3) := by decide +kernel
theorem dL_told_596 : decode cL_told 596 = .ok (.aload_n 0, 1) := by decide +kernel
theorem dL_told_597 : decode cL_told 597 = .ok (.iconst 3, 1) := by decide +kernel
theorem dL_told_598 : decode cL_told 598 = .ok (.invokevirtual 118, 3) := by decide +kernel
theorem dL_told_601 : decode cL_told 601 = .ok (.aload_n 1, 1) := by decide +kernel
theorem dL_told_602 : decode cL_told 602 = .ok (.iconst 2, 1) := by decide +kernel
theorem dL_told_603 : decode cL_told 603 = .ok (.iaload, 1) := by decide +kernel
theorem dL_told_604 : decode cL_told 604 = .ok (.if_icmp .ne 59, 3) := by decide +kernel
theorem dL_told_607 : decode cL_told 607 = .ok (.aload_n 0, 1) := by decide +kernel
theorem dL_told_608 : decode cL_told 608 = .ok (.iconst 4, 1) := by decide +kernel
theorem dL_told_609 : decode cL_told 609 = .ok (.invokevirtual 118, 3) := by decide +kernel
theorem dL_told_612 : decode cL_told 612 = .ok (.iload 5, 2) := by decide +kernel
theorem dL_told_614 : decode cL_told 614 = .ok (.if_icmp .ne 49, 3) := by decide +kernel
theorem dL_told_617 : decode cL_told 617 = .ok (.aload_n 0, 1) := by decide +kernel
theorem dL_told_618 : decode cL_told 618 = .ok (.iconst 5, 1) := by decide +kernel
theorem dL_told_619 : decode cL_told 619 = .ok (.invokevirtual 118, 3) := by decide +kernel
theorem dL_told_622 : decode cL_told 622 = .ok (.iload 6, 2) := by decide +kernel
theorem dL_told_624 : decode cL_told 624 = .ok (.if_icmp .ne 39, 3) := by decide +kernel
theorem dL_told_627 : decode cL_told 627 = .ok (.aload_n 0, 1) := by decide +kernel
theorem dL_told_628 : decode cL_told 628 = .ok (.bipush 6, 2) := by decide +kernel
theorem dL_told_630 : decode cL_told 630 = .ok (.invokevirtual 118, 3) := by decide +kernel
theorem dL_told_633 : decode cL_told 633 = .ok (.iload 7, 2) := by decide +kernel
theorem dL_told_635 : decode cL_told 635 = .ok (.if_icmp .ne 28, 3) := by decide +kernel
theorem dL_told_638 : decode cL_told 638 = .ok (.aload_n 0, 1) := by decide +kernel
theorem dL_told_639 : decode cL_told 639 = .ok (.bipush 7, 2) := by decide +kernel
theorem dL_told_641 : decode cL_told 641 = .ok (.invokevirtual 118, 3) := by decide +kernel
theorem dL_told_644 : decode cL_told 644 = .ok (.iload_n 3, 1) := by decide +kernel
theorem dL_told_645 : decode cL_told 645 = .ok (.if_icmp .ne 18, 3) := by decide +kernel
theorem dL_told_648 : decode cL_told 648 = .ok (.aload_n 0, 1) := by decide +kernel
theorem dL_told_649 : decode cL_told 649 = .ok (.bipush 8, 2) := by decide +kernel
theorem dL_told_651 : decode cL_told 651 = .ok (.invokevirtual 118, 3) := by decide +kernel
theorem dL_told_654 : decode cL_told 654 = .ok (.iload 4, 2) := by decide +kernel
theorem dL_told_656 : decode cL_told 656 = .ok (.if_icmp .ne 7, 3) := by decide +kernel
theorem dL_told_659 : decode cL_told 659 = .ok (.iconst 1, 1) := by decide +kernel
theorem dL_told_660 : decode cL_told 660 = .ok (.goto 4, 3) := by decide +kernel
theorem dL_told_663 : decode cL_told 663 = .ok (.iconst 0, 1) := by decide +kernel
theorem dL_told_664 : decode cL_told 664 = .ok (.ireturn, 1) := by decide +kernel
