theorem dX10_block_102 : decode cX10_block 102 = .ok (.iastore, 1) := by decide +kernel
theorem dX10_block_103 : decode cX10_block 103 = .ok (.iconst 1, 1) := by decide +kernel
theorem dX10_block_104 : decode cX10_block 104 = .ok (.ireturn, 1) := by decide +kernel
theorem dX10_recipe_0 : decode cX10_recipe 0 = .ok (.aload_n 0, 1) := by decide +kernel
theorem dX10_recipe_1 : decode cX10_recipe 1 = .ok (.iconst 0, 1) := by decide +kernel
theorem dX10_recipe_2 : decode cX10_recipe 2 = .ok (.putfield 105, 3) := by decide +kernel
theorem dX10_recipe_5 : decode cX10_recipe 5 = .ok (.aload_n 0, 1) := by decide +kernel
theorem dX10_recipe_6 : decode cX10_recipe 6 = .ok (.iload_n 1, 1) := by decide +kernel
theorem dX10_recipe_7 : decode cX10_recipe 7 = .ok (.ifCond .lt 25, 3) := by decide +kernel
theorem dX10_recipe_10 : decode cX10_recipe 10 = .ok (.iload_n 1, 1) := by decide +kernel
theorem dX10_recipe_11 : decode cX10_recipe 11 = .ok (.bipush 8, 2) := by decide +kernel
theorem dX10_recipe_13 : decode cX10_recipe 13 = .ok (.if_icmp .ge 19, 3) := by decide +kernel
theorem dX10_recipe_16 : decode cX10_recipe 16 = .ok (.iload_n 2, 1) := by decide +kernel
theorem dX10_recipe_17 : decode cX10_recipe 17 = .ok (.ifCond .lt 15, 3) := by decide +kernel
theorem dX10_recipe_20 : decode cX10_recipe 20 = .ok (.iload_n 2, 1) := by decide +kernel
theorem dX10_recipe_21 : decode cX10_recipe 21 = .ok (.aload_n 0, 1) := by decide +kernel
theorem dX10_recipe_22 : decode cX10_recipe 22 = .ok (.getfield 159, 3) := by decide +kernel
theorem dX10_recipe_25 : decode cX10_recipe 25 = .ok (.if_icmp .gt 7, 3) := by decide +kernel
theorem dX10_recipe_28 : decode cX10_recipe 28 = .ok (.iconst 1, 1) := by decide +kernel
theorem dX10_recipe_29 : decode cX10_recipe 29 = .ok (.goto 4, 3) := by decide +kernel
theorem dX10_recipe_32 : decode cX10_recipe 32 = .ok (.iconst 0, 1) := by decide +kernel
theorem dX10_recipe_33 : decode cX10_recipe 33 = .ok (.iconst 1, 1) := by decide +kernel
theorem dX10_recipe_34 : decode cX10_recipe 34 = .ok (.invokevirtual 108, 3) := by decide +kernel
theorem dX10_recipe_37 : decode cX10_recipe 37 = .ok (.ifCond .ne 5, 3) := by decide +kernel
theorem dX10_recipe_40 : decode cX10_recipe 40 = .ok (.iconst 0, 1) := by decide +kernel
theorem dX10_recipe_41 : decode cX10_recipe 41 = .ok (.ireturn, 1) := by decide +kernel
theorem dX10_recipe_42 : decode cX10_recipe 42 = .ok (.aload_n 0, 1) := by decide +kernel
theorem dX10_recipe_43 : decode cX10_recipe 43 = .ok (.iload_n 2, 1) := by decide +kernel
theorem dX10_recipe_44 : decode cX10_recipe 44 = .ok (.putfield 171, 3) := by decide +kernel
theorem dX10_recipe_47 : decode cX10_recipe 47 = .ok (.aload_n 0, 1) := by decide +kernel
theorem dX10_recipe_48 : decode cX10_recipe 48 = .ok (.iconst 0, 1) := by decide +kernel
theorem dX10_recipe_49 : decode cX10_recipe 49 = .ok (.putfield 168, 3) := by decide +kernel
theorem dX10_recipe_52 : decode cX10_recipe 52 = .ok (.aload_n 0, 1) := by decide +kernel
theorem dX10_recipe_53 : decode cX10_recipe 53 = .ok (.iconst 0, 1) := by decide +kernel
theorem dX10_recipe_54 : decode cX10_recipe 54 = .ok (.putfield 159, 3) := by decide +kernel
theorem dX10_recipe_57 : decode cX10_recipe 57 = .ok (.aload_n 0, 1) := by decide +kernel
theorem dX10_recipe_58 : decode cX10_recipe 58 = .ok (.iconst 0, 1) := by decide +kernel
theorem dX10_recipe_59 : decode cX10_recipe 59 = .ok (.putfield 165, 3) := by decide +kernel
theorem dX10_recipe_62 : decode cX10_recipe 62 = .ok (.aload_n 0, 1) := by decide +kernel
theorem dX10_recipe_63 : decode cX10_recipe 63 = .ok (.iconst (-1), 1) := by decide +kernel
theorem dX10_recipe_64 : decode cX10_recipe 64 = .ok (.putfield 56, 3) := by decide +kernel
theorem dX10_recipe_67 : decode cX10_recipe 67 = .ok (.aload_n 0, 1) := by decide +kernel
theorem dX10_recipe_68 : decode cX10_recipe 68 = .ok (.iconst 0, 1) := by decide +kernel
theorem dX10_recipe_69 : decode cX10_recipe 69 = .ok (.putfield 249, 3) := by decide +kernel
theorem dX10_recipe_72 : decode cX10_recipe 72 = .ok (.aload_n 0, 1) := by decide +kernel
theorem dX10_recipe_73 : decode cX10_recipe 73 = .ok (.iconst 0, 1) := by decide +kernel
theorem dX10_recipe_74 : decode cX10_recipe 74 = .ok (.putfield 277, 3) := by decide +kernel
theorem dX10_recipe_77 : decode cX10_recipe 77 = .ok (.aload_n 0, 1) := by decide +kernel
theorem dX10_recipe_78 : decode cX10_recipe 78 = .ok (.iconst 0, 1) := by decide +kernel
theorem dX10_recipe_79 : decode cX10_recipe 79 = .ok (.invokevirtual 280, 3) := by decide +kernel
theorem dX10_recipe_82 : decode cX10_recipe 82 = .ok (.istore_n 3, 1) := by decide +kernel
theorem dX10_recipe_83 : decode cX10_recipe 83 = .ok (.aload_n 0, 1) := by decide +kernel
theorem dX10_recipe_84 : decode cX10_recipe 84 = .ok (.getfield 165, 3) := by decide +kernel
theorem dX10_recipe_87 : decode cX10_recipe 87 = .ok (.ifCond .le 8, 3) := by decide +kernel
theorem dX10_recipe_90 : decode cX10_recipe 90 = .ok (.aload_n 0, 1) := by decide +kernel
theorem dX10_recipe_91 : decode cX10_recipe 91 = .ok (.getfield 165, 3) := by decide +kernel
theorem dX10_recipe_94 : decode cX10_recipe 94 = .ok (.ireturn, 1) := by decide +kernel
theorem dX10_recipe_95 : decode cX10_recipe 95 = .ok (.sipush 300, 3) := by decide +kernel
theorem dX10_recipe_98 : decode cX10_recipe 98 = .ok (.iload_n 1, 1) := by decide +kernel
theorem dX10_recipe_99 : decode cX10_recipe 99 = .ok (.imul, 1) := by decide +kernel
theorem dX10_recipe_100 : decode cX10_recipe 100 = .ok (.sipush 2400, 3) := by decide +kernel
theorem dX10_recipe_103 : decode cX10_recipe 103 = .ok (.isub, 1) := by decide +kernel
theorem dX10_recipe_104 : decode cX10_recipe 104 = .ok (.istore 4, 2) := by decide +kernel
theorem dX10_recipe_106 : decode cX10_recipe 106 = .ok (.sipush 2400, 3) := by decide +kernel
theorem dX10_recipe_109 : decode cX10_recipe 109 = .ok (.istore 5, 2) := by decide +kernel
theorem dX10_recipe_111 : decode cX10_recipe 111 = .ok (.iload 5, 2) := by decide +kernel
theorem dX10_recipe_113 : decode cX10_recipe 113 = .ok (.sipush 2400, 3) := by decide +kernel
theorem dX10_recipe_116 : decode cX10_recipe 116 = .ok (.aload_n 0, 1) := by decide +kernel
theorem dX10_recipe_117 : decode cX10_recipe 117 = .ok (.getfield 249, 3) := by decide +kernel
theorem dX10_recipe_120 : decode cX10_recipe 120 = .ok (.iadd, 1) := by decide +kernel
theorem dX10_recipe_121 : decode cX10_recipe 121 = .ok (.if_icmp .ge 199, 3) := by decide +kernel
theorem dX10_recipe_124 : decode cX10_recipe 124 = .ok (.aload_n 0, 1) := by decide +kernel
theorem dX10_recipe_125 : decode cX10_recipe 125 = .ok (.getfield 60, 3) := by decide +kernel
theorem dX10_recipe_128 : decode cX10_recipe 128 = .ok (.iload 5, 2) := by decide +kernel
theorem dX10_recipe_130 : decode cX10_recipe 130 = .ok (.iload 4, 2) := by decide +kernel
theorem dX10_recipe_132 : decode cX10_recipe 132 = .ok (.iadd, 1) := by decide +kernel
theorem dX10_recipe_133 : decode cX10_recipe 133 = .ok (.aload_n 0, 1) := by decide +kernel
theorem dX10_recipe_134 : decode cX10_recipe 134 = .ok (.getfield 60, 3) := by decide +kernel
theorem dX10_recipe_137 : decode cX10_recipe 137 = .ok (.iload 5, 2) := by decide +kernel
theorem dX10_recipe_139 : decode cX10_recipe 139 = .ok (.iaload, 1) := by decide +kernel
theorem dX10_recipe_140 : decode cX10_recipe 140 = .ok (.iastore, 1) := by decide +kernel
theorem dX10_recipe_141 : decode cX10_recipe 141 = .ok (.aload_n 0, 1) := by decide +kernel
theorem dX10_recipe_142 : decode cX10_recipe 142 = .ok (.getfield 63, 3) := by decide +kernel
theorem dX10_recipe_145 : decode cX10_recipe 145 = .ok (.iload 5, 2) := by decide +kernel
theorem dX10_recipe_147 : decode cX10_recipe 147 = .ok (.iload 4, 2) := by decide +kernel
theorem dX10_recipe_149 : decode cX10_recipe 149 = .ok (.iadd, 1) := by decide +kernel
theorem dX10_recipe_150 : decode cX10_recipe 150 = .ok (.aload_n 0, 1) := by decide +kernel
theorem dX10_recipe_151 : decode cX10_recipe 151 = .ok (.getfield 63, 3) := by decide +kernel
theorem dX10_recipe_154 : decode cX10_recipe 154 = .ok (.iload 5, 2) := by decide +kernel
theorem dX10_recipe_156 : decode cX10_recipe 156 = .ok (.iaload, 1) := by decide +kernel
theorem dX10_recipe_157 : decode cX10_recipe 157 = .ok (.iastore, 1) := by decide +kernel
theorem dX10_recipe_158 : decode cX10_recipe 158 = .ok (.aload_n 0, 1) := by decide +kernel
theorem dX10_recipe_159 : decode cX10_recipe 159 = .ok (.getfield 66, 3) := by decide +kernel
theorem dX10_recipe_162 : decode cX10_recipe 162 = .ok (.iload 5, 2) := by decide +kernel
theorem dX10_recipe_164 : decode cX10_recipe 164 = .ok (.iload 4, 2) := by decide +kernel
theorem dX10_recipe_166 : decode cX10_recipe 166 = .ok (.iadd, 1) := by decide +kernel
theorem dX10_recipe_167 : decode cX10_recipe 167 = .ok (.aload_n 0, 1) := by decide +kernel
theorem dX10_recipe_168 : decode cX10_recipe 168 = .ok (.getfield 66, 3) := by decide +kernel
theorem dX10_recipe_171 : decode cX10_recipe 171 = .ok (.iload 5, 2) := by decide +kernel
theorem dX10_recipe_173 : decode cX10_recipe 173 = .ok (.iaload, 1) := by decide +kernel
theorem dX10_recipe_174 : decode cX10_recipe 174 = .ok (.iastore, 1) := by decide +kernel
theorem dX10_recipe_175 : decode cX10_recipe 175 = .ok (.aload_n 0, 1) := by decide +kernel
theorem dX10_recipe_176 : decode cX10_recipe 176 = .ok (.getfield 69, 3) := by decide +kernel
theorem dX10_recipe_179 : decode cX10_recipe 179 = .ok (.iload 5, 2) := by decide +kernel
theorem dX10_recipe_181 : decode cX10_recipe 181 = .ok (.iload 4, 2) := by decide +kernel
theorem dX10_recipe_183 : decode cX10_recipe 183 = .ok (.iadd, 1) := by decide +kernel
theorem dX10_recipe_184 : decode cX10_recipe 184 = .ok (.aload_n 0, 1) := by decide +kernel
theorem dX10_recipe_185 : decode cX10_recipe 185 = .ok (.getfield 69, 3) := by decide +kernel
theorem dX10_recipe_188 : decode cX10_recipe 188 = .ok (.iload 5, 2) := by decide +kernel
theorem dX10_recipe_190 : decode cX10_recipe 190 = .ok (.iaload, 1) := by decide +kernel
theorem dX10_recipe_191 : decode cX10_recipe 191 = .ok (.iastore, 1) := by decide +kernel
theorem dX10_recipe_192 : decode cX10_recipe 192 = .ok (.aload_n 0, 1) := by decide +kernel
theorem dX10_recipe_193 : decode cX10_recipe 193 = .ok (.getfield 72, 3) := by decide +kernel
theorem dX10_recipe_196 : decode cX10_recipe 196 = .ok (.iload 5, 2) := by decide +kernel
theorem dX10_recipe_198 : decode cX10_recipe 198 = .ok (.iload 4, 2) := by decide +kernel
theorem dX10_recipe_200 : decode cX10_recipe 200 = .ok (.iadd, 1) := by decide +kernel
theorem dX10_recipe_201 : decode cX10_recipe 201 = .ok (.aload_n 0, 1) := by decide +kernel
theorem dX10_recipe_202 : decode cX10_recipe 202 = .ok (.getfield 72, 3) := by decide +kernel
theorem dX10_recipe_205 : decode cX10_recipe 205 = .ok (.iload 5, 2) := by decide +kernel
theorem dX10_recipe_207 : decode cX10_recipe 207 = .ok (.iaload, 1) := by decide +kernel
theorem dX10_recipe_208 : decode cX10_recipe 208 = .ok (.iastore, 1) := by decide +kernel
theorem dX10_recipe_209 : decode cX10_recipe 209 = .ok (.aload_n 0, 1) := by decide +kernel
theorem dX10_recipe_210 : decode cX10_recipe 210 = .ok (.getfield 75, 3) := by decide +kernel
theorem dX10_recipe_213 : decode cX10_recipe 213 = .ok (.iload 5, 2) := by decide +kernel
theorem dX10_recipe_215 : decode cX10_recipe 215 = .ok (.iload 4, 2) := by decide +kernel
theorem dX10_recipe_217 : decode cX10_recipe 217 = .ok (.iadd, 1) := by decide +kernel
theorem dX10_recipe_218 : decode cX10_recipe 218 = .ok (.aload_n 0, 1) := by decide +kernel
theorem dX10_recipe_219 : decode cX10_recipe 219 = .ok (.getfield 75, 3) := by decide +kernel
theorem dX10_recipe_222 : decode cX10_recipe 222 = .ok (.iload 5, 2) := by decide +kernel
theorem dX10_recipe_224 : decode cX10_recipe 224 = .ok (.iaload, 1) := by decide +kernel
theorem dX10_recipe_225 : decode cX10_recipe 225 = .ok (.iconst (-1), 1) := by decide +kernel
theorem dX10_recipe_226 : decode cX10_recipe 226 = .ok (.if_icmp .ne 7, 3) := by decide +kernel
theorem dX10_recipe_229 : decode cX10_recipe 229 = .ok (.iconst (-1), 1) := by decide +kernel
theorem dX10_recipe_230 : decode cX10_recipe 230 = .ok (.goto 13, 3) := by decide +kernel
theorem dX10_recipe_233 : decode cX10_recipe 233 = .ok (.aload_n 0, 1) := by decide +kernel
theorem dX10_recipe_234 : decode cX10_recipe 234 = .ok (.getfield 75, 3) := by decide +kernel
theorem dX10_recipe_237 : decode cX10_recipe 237 = .ok (.iload 5, 2) := by decide +kernel
theorem dX10_recipe_239 : decode cX10_recipe 239 = .ok (.iaload, 1) := by decide +kernel
theorem dX10_recipe_240 : decode cX10_recipe 240 = .ok (.iload 4, 2) := by decide +kernel
theorem dX10_recipe_242 : decode cX10_recipe 242 = .ok (.iadd, 1) := by decide +kernel
theorem dX10_recipe_243 : decode cX10_recipe 243 = .ok (.iastore, 1) := by decide +kernel
theorem dX10_recipe_244 : decode cX10_recipe 244 = .ok (.aload_n 0, 1) := by decide +kernel
theorem dX10_recipe_245 : decode cX10_recipe 245 = .ok (.getfield 78, 3) := by decide +kernel
theorem dX10_recipe_248 : decode cX10_recipe 248 = .ok (.iload 5, 2) := by decide +kernel
theorem dX10_recipe_250 : decode cX10_recipe 250 = .ok (.iload 4, 2) := by decide +kernel
theorem dX10_recipe_252 : decode cX10_recipe 252 = .ok (.iadd, 1) := by decide +kernel
theorem dX10_recipe_253 : decode cX10_recipe 253 = .ok (.aload_n 0, 1) := by decide +kernel
theorem dX10_recipe_254 : decode cX10_recipe 254 = .ok (.getfield 78, 3) := by decide +kernel
theorem dX10_recipe_257 : decode cX10_recipe 257 = .ok (.iload 5, 2) := by decide +kernel
theorem dX10_recipe_259 : decode cX10_recipe 259 = .ok (.iaload, 1) := by decide +kernel
theorem dX10_recipe_260 : decode cX10_recipe 260 = .ok (.iconst (-1), 1) := by decide +kernel
theorem dX10_recipe_261 : decode cX10_recipe 261 = .ok (.if_icmp .ne 7, 3) := by decide +kernel
theorem dX10_recipe_264 : decode cX10_recipe 264 = .ok (.iconst (-1), 1) := by decide +kernel
theorem dX10_recipe_265 : decode cX10_recipe 265 = .ok (.goto 13, 3) := by decide +kernel
theorem dX10_recipe_268 : decode cX10_recipe 268 = .ok (.aload_n 0, 1) := by decide +kernel
theorem dX10_recipe_269 : decode cX10_recipe 269 = .ok (.getfield 78, 3) := by decide +kernel
theorem dX10_recipe_272 : decode cX10_recipe 272 = .ok (.iload 5, 2) := by decide +kernel
theorem dX10_recipe_274 : decode cX10_recipe 274 = .ok (.iaload, 1) := by decide +kernel
theorem dX10_recipe_275 : decode cX10_recipe 275 = .ok (.iload 4, 2) := by decide +kernel
theorem dX10_recipe_277 : decode cX10_recipe 277 = .ok (.iadd, 1) := by decide +kernel
theorem dX10_recipe_278 : decode cX10_recipe 278 = .ok (.iastore, 1) := by decide +kernel
theorem dX10_recipe_279 : decode cX10_recipe 279 = .ok (.aload_n 0, 1) := by decide +kernel
theorem dX10_recipe_280 : decode cX10_recipe 280 = .ok (.getfield 81, 3) := by decide +kernel
theorem dX10_recipe_283 : decode cX10_recipe 283 = .ok (.iload 5, 2) := by decide +kernel
theorem dX10_recipe_285 : decode cX10_recipe 285 = .ok (.iload 4, 2) := by decide +kernel
theorem dX10_recipe_287 : decode cX10_recipe 287 = .ok (.iadd, 1) := by decide +kernel
theorem dX10_recipe_288 : decode cX10_recipe 288 = .ok (.aload_n 0, 1) := by decide +kernel
theorem dX10_recipe_289 : decode cX10_recipe 289 = .ok (.getfield 81, 3) := by decide +kernel
theorem dX10_recipe_292 : decode cX10_recipe 292 = .ok (.iload 5, 2) := by decide +kernel
theorem dX10_recipe_294 : decode cX10_recipe 294 = .ok (.iaload, 1) := by decide +kernel
theorem dX10_recipe_295 : decode cX10_recipe 295 = .ok (.iconst (-1), 1) := by decide +kernel
theorem dX10_recipe_296 : decode cX10_recipe 296 = .ok (.if_icmp .ne 7, 3) := by decide +kernel
theorem dX10_recipe_299 : decode cX10_recipe 299 = .ok (.iconst (-1), 1) := by decide +kernel
theorem dX10_recipe_300 : decode cX10_recipe 300 = .ok (.goto 13, 3) := by decide +kernel
theorem dX10_recipe_303 : decode cX10_recipe 303 = .ok (.aload_n 0, 1) := by decide +kernel
theorem dX10_recipe_304 : decode cX10_recipe 304 = .ok (.getfield 81, 3) := by decide +kernel
theorem dX10_recipe_307 : decode cX10_recipe 307 = .ok (.iload 5, 2) := by decide +kernel
theorem dX10_recipe_309 : decode cX10_recipe 309 = .ok (.iaload, 1) := by decide +kernel
theorem dX10_recipe_310 : decode cX10_recipe 310 = .ok (.iload 4, 2) := by decide +kernel
theorem dX10_recipe_312 : decode cX10_recipe 312 = .ok (.iadd, 1) := by decide +kernel
theorem dX10_recipe_313 : decode cX10_recipe 313 = .ok (.iastore, 1) := by decide +kernel
theorem dX10_recipe_314 : decode cX10_recipe 314 = .ok (.iinc 5 1, 3) := by decide +kernel
theorem dX10_recipe_317 : decode cX10_recipe 317 = .ok (.goto (-206), 3) := by decide +kernel
theorem dX10_recipe_320 : decode cX10_recipe 320 = .ok (.aload_n 0, 1) := by decide +kernel
theorem dX10_recipe_321 : decode cX10_recipe 321 = .ok (.getfield 84, 3) := by decide +kernel
theorem dX10_recipe_324 : decode cX10_recipe 324 = .ok (.iload_n 1, 1) := by decide +kernel
theorem dX10_recipe_325 : decode cX10_recipe 325 = .ok (.iload_n 3, 1) := by decide +kernel
theorem dX10_recipe_326 : decode cX10_recipe 326 = .ok (.iconst (-1), 1) := by decide +kernel
theorem dX10_recipe_327 : decode cX10_recipe 327 = .ok (.if_icmp .ne 8, 3) := by decide +kernel
theorem dX10_recipe_330 : decode cX10_recipe 330 = .ok (.bipush (-2), 2) := by decide +kernel
theorem dX10_recipe_332 : decode cX10_recipe 332 = .ok (.goto 7, 3) := by decide +kernel
theorem dX10_recipe_335 : decode cX10_recipe 335 = .ok (.iload_n 3, 1) := by decide +kernel
theorem dX10_recipe_336 : decode cX10_recipe 336 = .ok (.iload 4, 2) := by decide +kernel
theorem dX10_recipe_338 : decode cX10_recipe 338 = .ok (.iadd, 1) := by decide +kernel
theorem dX10_recipe_339 : decode cX10_recipe 339 = .ok (.iastore, 1) := by decide +kernel
theorem dX10_recipe_340 : decode cX10_recipe 340 = .ok (.aload_n 0, 1) := by decide +kernel
theorem dX10_recipe_341 : decode cX10_recipe 341 = .ok (.getfield 87, 3) := by decide +kernel
theorem dX10_recipe_344 : decode cX10_recipe 344 = .ok (.iload_n 1, 1) := by decide +kernel
theorem dX10_recipe_345 : decode cX10_recipe 345 = .ok (.aload_n 0, 1) := by decide +kernel
theorem dX10_recipe_346 : decode cX10_recipe 346 = .ok (.getfield 249, 3) := by decide +kernel
theorem dX10_recipe_349 : decode cX10_recipe 349 = .ok (.iastore, 1) := by decide +kernel
theorem dX10_recipe_350 : decode cX10_recipe 350 = .ok (.aload_n 0, 1) := by decide +kernel
theorem dX10_recipe_351 : decode cX10_recipe 351 = .ok (.aload_n 0, 1) := by decide +kernel
theorem dX10_recipe_352 : decode cX10_recipe 352 = .ok (.getfield 249, 3) := by decide +kernel
theorem dX10_recipe_355 : decode cX10_recipe 355 = .ok (.putfield 284, 3) := by decide +kernel
theorem dX10_recipe_358 : decode cX10_recipe 358 = .ok (.iconst 0, 1) := by decide +kernel
theorem dX10_recipe_359 : decode cX10_recipe 359 = .ok (.ireturn, 1) := by decide +kernel
theorem dX10_fault_0 : decode cX10_fault 0 = .ok (.aload_n 0, 1) := by decide +kernel
theorem dX10_fault_1 : decode cX10_fault 1 = .ok (.iconst 0, 1) := by decide +kernel
theorem dX10_fault_2 : decode cX10_fault 2 = .ok (.putfield 105, 3) := by decide +kernel
theorem dX10_fault_5 : decode cX10_fault 5 = .ok (.aload_n 0, 1) := by decide +kernel
theorem dX10_fault_6 : decode cX10_fault 6 = .ok (.iload_n 1, 1) := by decide +kernel
theorem dX10_fault_7 : decode cX10_fault 7 = .ok (.ifCond .eq 8, 3) := by decide +kernel
theorem dX10_fault_10 : decode cX10_fault 10 = .ok (.iload_n 1, 1) := by decide +kernel
theorem dX10_fault_11 : decode cX10_fault 11 = .ok (.iconst 1, 1) := by decide +kernel
theorem dX10_fault_12 : decode cX10_fault 12 = .ok (.if_icmp .ne 7, 3) := by decide +kernel
theorem dX10_fault_15 : decode cX10_fault 15 = .ok (.iconst 1, 1) := by decide +kernel
theorem dX10_fault_16 : decode cX10_fault 16 = .ok (.goto 4, 3) := by decide +kernel
theorem dX10_fault_19 : decode cX10_fault 19 = .ok (.iconst 0, 1) := by decide +kernel
theorem dX10_fault_20 : decode cX10_fault 20 = .ok (.iconst 1, 1) := by decide +kernel
theorem dX10_fault_21 : decode cX10_fault 21 = .ok (.invokevirtual 108, 3) := by decide +kernel
theorem dX10_fault_24 : decode cX10_fault 24 = .ok (.ifCond .ne 5, 3) := by decide +kernel
theorem dX10_fault_27 : decode cX10_fault 27 = .ok (.iconst 0, 1) := by decide +kernel
theorem dX10_fault_28 : decode cX10_fault 28 = .ok (.ireturn, 1) := by decide +kernel
theorem dX10_fault_29 : decode cX10_fault 29 = .ok (.iload_n 1, 1) := by decide +kernel
theorem dX10_fault_30 : decode cX10_fault 30 = .ok (.ifCond .ne 10, 3) := by decide +kernel
theorem dX10_fault_33 : decode cX10_fault 33 = .ok (.aload_n 0, 1) := by decide +kernel
theorem dX10_fault_34 : decode cX10_fault 34 = .ok (.getfield 165, 3) := by decide +kernel
theorem dX10_fault_37 : decode cX10_fault 37 = .ok (.goto 7, 3) := by decide +kernel
theorem dX10_fault_40 : decode cX10_fault 40 = .ok (.aload_n 0, 1) := by decide +kernel
theorem dX10_fault_41 : decode cX10_fault 41 = .ok (.getfield 56, 3) := by decide +kernel
theorem dX10_fault_44 : decode cX10_fault 44 = .ok (.ireturn, 1) := by decide +kernel
theorem dX10_counts_0 : decode cX10_counts 0 = .ok (.aload_n 0, 1) := by decide +kernel
theorem dX10_counts_1 : decode cX10_counts 1 = .ok (.getfield 287, 3) := by decide +kernel
theorem dX10_counts_4 : decode cX10_counts 4 = .ok (.aload_n 0, 1) := by decide +kernel
theorem dX10_counts_5 : decode cX10_counts 5 = .ok (.getfield 290, 3) := by decide +kernel
theorem dX10_counts_8 : decode cX10_counts 8 = .ok (.if_icmp .ne 5, 3) := by decide +kernel
theorem dX10_counts_11 : decode cX10_counts 11 = .ok (.iconst 0, 1) := by decide +kernel
theorem dX10_counts_12 : decode cX10_counts 12 = .ok (.ireturn, 1) := by decide +kernel
theorem dX10_counts_13 : decode cX10_counts 13 = .ok (.aload_n 0, 1) := by decide +kernel
theorem dX10_counts_14 : decode cX10_counts 14 = .ok (.dup, 1) := by decide +kernel
theorem dX10_counts_15 : decode cX10_counts 15 = .ok (.getfield 287, 3) := by decide +kernel
theorem dX10_counts_18 : decode cX10_counts 18 = .ok (.iconst 1, 1) := by decide +kernel
theorem dX10_counts_19 : decode cX10_counts 19 = .ok (.iadd, 1) := by decide +kernel
theorem dX10_counts_20 : decode cX10_counts 20 = .ok (.putfield 287, 3) := by decide +kernel
theorem dX10_counts_23 : decode cX10_counts 23 = .ok (.iconst 1, 1) := by decide +kernel
theorem dX10_counts_24 : decode cX10_counts 24 = .ok (.ireturn, 1) := by decide +kernel
theorem dX10_row_0 : decode cX10_row 0 = .ok (.iload_n 1, 1) := by decide +kernel
theorem dX10_row_1 : decode cX10_row 1 = .ok (.istore_n 3, 1) := by decide +kernel
theorem dX10_row_2 : decode cX10_row 2 = .ok (.iload_n 3, 1) := by decide +kernel
theorem dX10_row_3 : decode cX10_row 3 = .ok (.iconst (-1), 1) := by decide +kernel
theorem dX10_row_4 : decode cX10_row 4 = .ok (.if_icmp .eq 29, 3) := by decide +kernel
theorem dX10_row_7 : decode cX10_row 7 = .ok (.aload_n 0, 1) := by decide +kernel
theorem dX10_row_8 : decode cX10_row 8 = .ok (.iload_n 3, 1) := by decide +kernel
theorem dX10_row_9 : decode cX10_row 9 = .ok (.iload_n 2, 1) := by decide +kernel
theorem dX10_row_10 : decode cX10_row 10 = .ok (.invokevirtual 293, 3) := by decide +kernel
theorem dX10_row_13 : decode cX10_row 13 = .ok (.istore 4, 2) := by decide +kernel
theorem dX10_row_15 : decode cX10_row 15 = .ok (.iload 4, 2) := by decide +kernel
theorem dX10_row_17 : decode cX10_row 17 = .ok (.ifCond .eq 6, 3) := by decide +kernel
theorem dX10_row_20 : decode cX10_row 20 = .ok (.iload 4, 2) := by decide +kernel
theorem dX10_row_22 : decode cX10_row 22 = .ok (.ireturn, 1) := by decide +kernel
theorem dX10_row_23 : decode cX10_row 23 = .ok (.aload_n 0, 1) := by decide +kernel
theorem dX10_row_24 : decode cX10_row 24 = .ok (.getfield 81, 3) := by decide +kernel
theorem dX10_row_27 : decode cX10_row 27 = .ok (.iload_n 3, 1) := by decide +kernel
theorem dX10_row_28 : decode cX10_row 28 = .ok (.iaload, 1) := by decide +kernel
theorem dX10_row_29 : decode cX10_row 29 = .ok (.istore_n 3, 1) := by decide +kernel
theorem dX10_row_30 : decode cX10_row 30 = .ok (.goto (-28), 3) := by decide +kernel
theorem dX10_row_33 : decode cX10_row 33 = .ok (.iconst 0, 1) := by decide +kernel
theorem dX10_row_34 : decode cX10_row 34 = .ok (.ireturn, 1) := by decide +kernel
theorem dX10_does_0 : decode cX10_does 0 = .ok (.aload_n 0, 1) := by decide +kernel
theorem dX10_does_1 : decode cX10_does 1 = .ok (.invokevirtual 297, 3) := by decide +kernel
theorem dX10_does_4 : decode cX10_does 4 = .ok (.ifCond .ne 7, 3) := by decide +kernel
theorem dX10_does_7 : decode cX10_does 7 = .ok (.sipush 1000, 3) := by decide +kernel
theorem dX10_does_10 : decode cX10_does 10 = .ok (.ireturn, 1) := by decide +kernel
theorem dX10_does_11 : decode cX10_does 11 = .ok (.aload_n 0, 1) := by decide +kernel
theorem dX10_does_12 : decode cX10_does 12 = .ok (.getfield 60, 3) := by decide +kernel
theorem dX10_does_15 : decode cX10_does 15 = .ok (.iload_n 1, 1) := by decide +kernel
theorem dX10_does_16 : decode cX10_does 16 = .ok (.iaload, 1) := by decide +kernel
theorem dX10_does_17 : decode cX10_does 17 = .ok (.tableswitch 163 0 6 #[43, 61, 80, 88, 99, 124, 153], 43) := by decide +kernel
theorem dX10_does_60 : decode cX10_does 60 = .ok (.aload_n 0, 1) := by decide +kernel
theorem dX10_does_61 : decode cX10_does 61 = .ok (.iload_n 2, 1) := by decide +kernel
theorem dX10_does_62 : decode cX10_does 62 = .ok (.aload_n 0, 1) := by decide +kernel
theorem dX10_does_63 : decode cX10_does 63 = .ok (.getfield 63, 3) := by decide +kernel
theorem dX10_does_66 : decode cX10_does 66 = .ok (.iload_n 1, 1) := by decide +kernel
theorem dX10_does_67 : decode cX10_does 67 = .ok (.iaload, 1) := by decide +kernel
theorem dX10_does_68 : decode cX10_does 68 = .ok (.aload_n 0, 1) := by decide +kernel
theorem dX10_does_69 : decode cX10_does 69 = .ok (.getfield 66, 3) := by decide +kernel
theorem dX10_does_72 : decode cX10_does 72 = .ok (.iload_n 1, 1) := by decide +kernel
theorem dX10_does_73 : decode cX10_does 73 = .ok (.iaload, 1) := by decide +kernel
theorem dX10_does_74 : decode cX10_does 74 = .ok (.invokevirtual 301, 3) := by decide +kernel
theorem dX10_does_77 : decode cX10_does 77 = .ok (.ireturn, 1) := by decide +kernel
theorem dX10_does_78 : decode cX10_does 78 = .ok (.aload_n 0, 1) := by decide +kernel
theorem dX10_does_79 : decode cX10_does 79 = .ok (.getfield 38, 3) := by decide +kernel
theorem dX10_does_82 : decode cX10_does 82 = .ok (.iload_n 2, 1) := by decide +kernel
theorem dX10_does_83 : decode cX10_does 83 = .ok (.iaload, 1) := by decide +kernel
theorem dX10_does_84 : decode cX10_does 84 = .ok (.ifCond .ne 5, 3) := by decide +kernel
theorem dX10_does_87 : decode cX10_does 87 = .ok (.iconst 3, 1) := by decide +kernel
theorem dX10_does_88 : decode cX10_does 88 = .ok (.ireturn, 1) := by decide +kernel
theorem dX10_does_89 : decode cX10_does 89 = .ok (.aload_n 0, 1) := by decide +kernel
theorem dX10_does_90 : decode cX10_does 90 = .ok (.iload_n 2, 1) := by decide +kernel
theorem dX10_does_91 : decode cX10_does 91 = .ok (.invokevirtual 156, 3) := by decide +kernel
theorem dX10_does_94 : decode cX10_does 94 = .ok (.pop, 1) := by decide +kernel
theorem dX10_does_95 : decode cX10_does 95 = .ok (.iconst 0, 1) := by decide +kernel
theorem dX10_does_96 : decode cX10_does 96 = .ok (.ireturn, 1) := by decide +kernel
theorem dX10_does_97 : decode cX10_does 97 = .ok (.aload_n 0, 1) := by decide +kernel
theorem dX10_does_98 : decode cX10_does 98 = .ok (.iload_n 2, 1) := by decide +kernel
theorem dX10_does_99 : decode cX10_does 99 = .ok (.invokevirtual 152, 3) := by decide +kernel
theorem dX10_does_102 : decode cX10_does 102 = .ok (.pop, 1) := by decide +kernel
theorem dX10_does_103 : decode cX10_does 103 = .ok (.iconst 0, 1) := by decide +kernel
theorem dX10_does_104 : decode cX10_does 104 = .ok (.ireturn, 1) := by decide +kernel
theorem dX10_does_105 : decode cX10_does 105 = .ok (.aload_n 0, 1) := by decide +kernel
theorem dX10_does_106 : decode cX10_does 106 = .ok (.aload_n 0, 1) := by decide +kernel
theorem dX10_does_107 : decode cX10_does 107 = .ok (.getfield 63, 3) := by decide +kernel
theorem dX10_does_110 : decode cX10_does 110 = .ok (.iload_n 1, 1) := by decide +kernel
theorem dX10_does_111 : decode cX10_does 111 = .ok (.iaload, 1) := by decide +kernel
theorem dX10_does_112 : decode cX10_does 112 = .ok (.invokevirtual 304, 3) := by decide +kernel
theorem dX10_does_115 : decode cX10_does 115 = .ok (.ireturn, 1) := by decide +kernel
theorem dX10_does_116 : decode cX10_does 116 = .ok (.aload_n 0, 1) := by decide +kernel
theorem dX10_does_117 : decode cX10_does 117 = .ok (.aload_n 0, 1) := by decide +kernel
theorem dX10_does_118 : decode cX10_does 118 = .ok (.getfield 63, 3) := by decide +kernel
theorem dX10_does_121 : decode cX10_does 121 = .ok (.iload_n 1, 1) := by decide +kernel
theorem dX10_does_122 : decode cX10_does 122 = .ok (.iaload, 1) := by decide +kernel
theorem dX10_does_123 : decode cX10_does 123 = .ok (.aload_n 0, 1) := by decide +kernel
theorem dX10_does_124 : decode cX10_does 124 = .ok (.getfield 66, 3) := by decide +kernel
theorem dX10_does_127 : decode cX10_does 127 = .ok (.iload_n 1, 1) := by decide +kernel
theorem dX10_does_128 : decode cX10_does 128 = .ok (.iaload, 1) := by decide +kernel
theorem dX10_does_129 : decode cX10_does 129 = .ok (.invokevirtual 123, 3) := by decide +kernel
theorem dX10_does_132 : decode cX10_does 132 = .ok (.ifCond .eq 7, 3) := by decide +kernel
theorem dX10_does_135 : decode cX10_does 135 = .ok (.iconst 5, 1) := by decide +kernel
theorem dX10_does_136 : decode cX10_does 136 = .ok (.goto 4, 3) := by decide +kernel
theorem dX10_does_139 : decode cX10_does 139 = .ok (.iconst 0, 1) := by decide +kernel
theorem dX10_does_140 : decode cX10_does 140 = .ok (.ireturn, 1) := by decide +kernel
theorem dX10_does_141 : decode cX10_does 141 = .ok (.aload_n 0, 1) := by decide +kernel
theorem dX10_does_142 : decode cX10_does 142 = .ok (.getfield 19, 3) := by decide +kernel
theorem dX10_does_145 : decode cX10_does 145 = .ok (.aload_n 0, 1) := by decide +kernel
theorem dX10_does_146 : decode cX10_does 146 = .ok (.getfield 63, 3) := by decide +kernel
theorem dX10_does_149 : decode cX10_does 149 = .ok (.iload_n 1, 1) := by decide +kernel
theorem dX10_does_150 : decode cX10_does 150 = .ok (.iaload, 1) := by decide +kernel
theorem dX10_does_151 : decode cX10_does 151 = .ok (.iaload, 1) := by decide +kernel
theorem dX10_does_152 : decode cX10_does 152 = .ok (.iconst 2, 1) := by decide +kernel
theorem dX10_does_153 : decode cX10_does 153 = .ok (.if_icmp .eq 5, 3) := by decide +kernel
theorem dX10_does_156 : decode cX10_does 156 = .ok (.iconst 4, 1) := by decide +kernel
theorem dX10_does_157 : decode cX10_does 157 = .ok (.ireturn, 1) := by decide +kernel
theorem dX10_does_158 : decode cX10_does 158 = .ok (.aload_n 0, 1) := by decide +kernel
theorem dX10_does_159 : decode cX10_does 159 = .ok (.aload_n 0, 1) := by decide +kernel
theorem dX10_does_160 : decode cX10_does 160 = .ok (.getfield 63, 3) := by decide +kernel
theorem dX10_does_163 : decode cX10_does 163 = .ok (.iload_n 1, 1) := by decide +kernel
theorem dX10_does_164 : decode cX10_does 164 = .ok (.iaload, 1) := by decide +kernel
theorem dX10_does_165 : decode cX10_does 165 = .ok (.invokevirtual 127, 3) := by decide +kernel
theorem dX10_does_168 : decode cX10_does 168 = .ok (.iconst 0, 1) := by decide +kernel
theorem dX10_does_169 : decode cX10_does 169 = .ok (.ireturn, 1) := by decide +kernel
theorem dX10_does_170 : decode cX10_does 170 = .ok (.bipush 100, 2) := by decide +kernel
theorem dX10_does_172 : decode cX10_does 172 = .ok (.aload_n 0, 1) := by decide +kernel
theorem dX10_does_173 : decode cX10_does 173 = .ok (.getfield 63, 3) := by decide +kernel
theorem dX10_does_176 : decode cX10_does 176 = .ok (.iload_n 1, 1) := by decide +kernel
theorem dX10_does_177 : decode cX10_does 177 = .ok (.iaload, 1) := by decide +kernel
theorem dX10_does_178 : decode cX10_does 178 = .ok (.iadd, 1) := by decide +kernel
theorem dX10_does_179 : decode cX10_does 179 = .ok (.ireturn, 1) := by decide +kernel
theorem dX10_does_180 : decode cX10_does 180 = .ok (.aload_n 0, 1) := by decide +kernel
theorem dX10_does_181 : decode cX10_does 181 = .ok (.iload_n 1, 1) := by decide +kernel
theorem dX10_does_182 : decode cX10_does 182 = .ok (.iload_n 2, 1) := by decide +kernel
theorem dX10_does_183 : decode cX10_does 183 = .ok (.invokevirtual 307, 3) := by decide +kernel
theorem dX10_does_186 : decode cX10_does 186 = .ok (.ireturn, 1) := by decide +kernel
theorem dX10_dipped_0 : decode cX10_dipped 0 = .ok (.aload_n 0, 1) := by decide +kernel
theorem dX10_dipped_1 : decode cX10_dipped 1 = .ok (.getfield 19, 3) := by decide +kernel
theorem dX10_dipped_4 : decode cX10_dipped 4 = .ok (.iload_n 2, 1) := by decide +kernel
theorem dX10_dipped_5 : decode cX10_dipped 5 = .ok (.iaload, 1) := by decide +kernel
theorem dX10_dipped_6 : decode cX10_dipped 6 = .ok (.iconst 2, 1) := by decide +kernel
theorem dX10_dipped_7 : decode cX10_dipped 7 = .ok (.if_icmp .ne 5, 3) := by decide +kernel
theorem dX10_dipped_10 : decode cX10_dipped 10 = .ok (.iconst 1, 1) := by decide +kernel
theorem dX10_dipped_11 : decode cX10_dipped 11 = .ok (.ireturn, 1) := by decide +kernel
theorem dX10_dipped_12 : decode cX10_dipped 12 = .ok (.aload_n 0, 1) := by decide +kernel
theorem dX10_dipped_13 : decode cX10_dipped 13 = .ok (.iload_n 1, 1) := by decide +kernel
theorem dX10_dipped_14 : decode cX10_dipped 14 = .ok (.iload_n 2, 1) := by decide +kernel
theorem dX10_dipped_15 : decode cX10_dipped 15 = .ok (.iload_n 3, 1) := by decide +kernel
theorem dX10_dipped_16 : decode cX10_dipped 16 = .ok (.invokevirtual 137, 3) := by decide +kernel
theorem dX10_dipped_19 : decode cX10_dipped 19 = .ok (.ifCond .ne 5, 3) := by decide +kernel
theorem dX10_dipped_22 : decode cX10_dipped 22 = .ok (.iconst 2, 1) := by decide +kernel
theorem dX10_dipped_23 : decode cX10_dipped 23 = .ok (.ireturn, 1) := by decide +kernel
theorem dX10_dipped_24 : decode cX10_dipped 24 = .ok (.aload_n 0, 1) := by decide +kernel
theorem dX10_dipped_25 : decode cX10_dipped 25 = .ok (.dup, 1) := by decide +kernel
theorem dX10_dipped_26 : decode cX10_dipped 26 = .ok (.getfield 310, 3) := by decide +kernel
theorem dX10_dipped_29 : decode cX10_dipped 29 = .ok (.aload_n 0, 1) := by decide +kernel
theorem dX10_dipped_30 : decode cX10_dipped 30 = .ok (.iload_n 1, 1) := by decide +kernel
theorem dX10_dipped_31 : decode cX10_dipped 31 = .ok (.iload_n 2, 1) := by decide +kernel
theorem dX10_dipped_32 : decode cX10_dipped 32 = .ok (.iload_n 3, 1) := by decide +kernel
theorem dX10_dipped_33 : decode cX10_dipped 33 = .ok (.invokevirtual 147, 3) := by decide +kernel
theorem dX10_dipped_36 : decode cX10_dipped 36 = .ok (.iadd, 1) := by decide +kernel
theorem dX10_dipped_37 : decode cX10_dipped 37 = .ok (.putfield 310, 3) := by decide +kernel
theorem dX10_dipped_40 : decode cX10_dipped 40 = .ok (.aload_n 0, 1) := by decide +kernel
theorem dX10_dipped_41 : decode cX10_dipped 41 = .ok (.dup, 1) := by decide +kernel
theorem dX10_dipped_42 : decode cX10_dipped 42 = .ok (.getfield 313, 3) := by decide +kernel
theorem dX10_dipped_45 : decode cX10_dipped 45 = .ok (.iconst 1, 1) := by decide +kernel
theorem dX10_dipped_46 : decode cX10_dipped 46 = .ok (.iadd, 1) := by decide +kernel
theorem dX10_dipped_47 : decode cX10_dipped 47 = .ok (.putfield 313, 3) := by decide +kernel
theorem dX10_dipped_50 : decode cX10_dipped 50 = .ok (.iconst 0, 1) := by decide +kernel
theorem dX10_dipped_51 : decode cX10_dipped 51 = .ok (.ireturn, 1) := by decide +kernel
theorem dX10_rested_0 : decode cX10_rested 0 = .ok (.iconst 0, 1) := by decide +kernel
theorem dX10_rested_1 : decode cX10_rested 1 = .ok (.istore_n 2, 1) := by decide +kernel
theorem dX10_rested_2 : decode cX10_rested 2 = .ok (.iload_n 2, 1) := by decide +kernel
theorem dX10_rested_3 : decode cX10_rested 3 = .ok (.iload_n 1, 1) := by decide +kernel
theorem dX10_rested_4 : decode cX10_rested 4 = .ok (.if_icmp .ge 34, 3) := by decide +kernel
theorem dX10_rested_7 : decode cX10_rested 7 = .ok (.aload_n 0, 1) := by decide +kernel
theorem dX10_rested_8 : decode cX10_rested 8 = .ok (.invokevirtual 297, 3) := by decide +kernel
theorem dX10_rested_11 : decode cX10_rested 11 = .ok (.ifCond .ne 7, 3) := by decide +kernel
theorem dX10_rested_14 : decode cX10_rested 14 = .ok (.sipush 1000, 3) := by decide +kernel
theorem dX10_rested_17 : decode cX10_rested 17 = .ok (.ireturn, 1) := by decide +kernel
theorem dX10_rested_18 : decode cX10_rested 18 = .ok (.aload_n 0, 1) := by decide +kernel
theorem dX10_rested_19 : decode cX10_rested 19 = .ok (.invokevirtual 134, 3) := by decide +kernel
theorem dX10_rested_22 : decode cX10_rested 22 = .ok (.aload_n 0, 1) := by decide +kernel
theorem dX10_rested_23 : decode cX10_rested 23 = .ok (.dup, 1) := by decide +kernel
theorem dX10_rested_24 : decode cX10_rested 24 = .ok (.getfield 316, 3) := by decide +kernel
theorem dX10_rested_27 : decode cX10_rested 27 = .ok (.iconst 1, 1) := by decide +kernel
theorem dX10_rested_28 : decode cX10_rested 28 = .ok (.iadd, 1) := by decide +kernel
theorem dX10_rested_29 : decode cX10_rested 29 = .ok (.putfield 316, 3) := by decide +kernel
theorem dX10_rested_32 : decode cX10_rested 32 = .ok (.iinc 2 1, 3) := by decide +kernel
theorem dX10_rested_35 : decode cX10_rested 35 = .ok (.goto (-33), 3) := by decide +kernel
theorem dX10_rested_38 : decode cX10_rested 38 = .ok (.iconst 0, 1) := by decide +kernel
theorem dX10_rested_39 : decode cX10_rested 39 = .ok (.ireturn, 1) := by decide +kernel
theorem dX10_doesBlocks_0 : decode cX10_doesBlocks 0 = .ok (.iconst 0, 1) := by decide +kernel
theorem dX10_doesBlocks_1 : decode cX10_doesBlocks 1 = .ok (.istore_n 3, 1) := by decide +kernel
theorem dX10_doesBlocks_2 : decode cX10_doesBlocks 2 = .ok (.aload_n 0, 1) := by decide +kernel
theorem dX10_doesBlocks_3 : decode cX10_doesBlocks 3 = .ok (.getfield 60, 3) := by decide +kernel
theorem dX10_doesBlocks_6 : decode cX10_doesBlocks 6 = .ok (.iload_n 1, 1) := by decide +kernel
theorem dX10_doesBlocks_7 : decode cX10_doesBlocks 7 = .ok (.iaload, 1) := by decide +kernel
theorem dX10_doesBlocks_8 : decode cX10_doesBlocks 8 = .ok (.tableswitch 200 7 10 #[32, 83, 131, 161], 32) := by decide +kernel
theorem dX10_doesBlocks_40 : decode cX10_doesBlocks 40 = .ok (.iconst 0, 1) := by decide +kernel
theorem dX10_doesBlocks_41 : decode cX10_doesBlocks 41 = .ok (.istore 4, 2) := by decide +kernel
theorem dX10_doesBlocks_43 : decode cX10_doesBlocks 43 = .ok (.iload 4, 2) := by decide +kernel
theorem dX10_doesBlocks_45 : decode cX10_doesBlocks 45 = .ok (.aload_n 0, 1) := by decide +kernel
theorem dX10_doesBlocks_46 : decode cX10_doesBlocks 46 = .ok (.getfield 63, 3) := by decide +kernel
theorem dX10_doesBlocks_49 : decode cX10_doesBlocks 49 = .ok (.iload_n 1, 1) := by decide +kernel
theorem dX10_doesBlocks_50 : decode cX10_doesBlocks 50 = .ok (.iaload, 1) := by decide +kernel
theorem dX10_doesBlocks_51 : decode cX10_doesBlocks 51 = .ok (.if_icmp .ge 38, 3) := by decide +kernel
theorem dX10_doesBlocks_54 : decode cX10_doesBlocks 54 = .ok (.iload_n 3, 1) := by decide +kernel
theorem dX10_doesBlocks_55 : decode cX10_doesBlocks 55 = .ok (.ifCond .ne 34, 3) := by decide +kernel
theorem dX10_doesBlocks_58 : decode cX10_doesBlocks 58 = .ok (.aload_n 0, 1) := by decide +kernel
theorem dX10_doesBlocks_59 : decode cX10_doesBlocks 59 = .ok (.invokevirtual 297, 3) := by decide +kernel
theorem dX10_doesBlocks_62 : decode cX10_doesBlocks 62 = .ok (.ifCond .eq 17, 3) := by decide +kernel
theorem dX10_doesBlocks_65 : decode cX10_doesBlocks 65 = .ok (.aload_n 0, 1) := by decide +kernel
theorem dX10_doesBlocks_66 : decode cX10_doesBlocks 66 = .ok (.aload_n 0, 1) := by decide +kernel
theorem dX10_doesBlocks_67 : decode cX10_doesBlocks 67 = .ok (.getfield 75, 3) := by decide +kernel
theorem dX10_doesBlocks_70 : decode cX10_doesBlocks 70 = .ok (.iload_n 1, 1) := by decide +kernel
theorem dX10_doesBlocks_71 : decode cX10_doesBlocks 71 = .ok (.iaload, 1) := by decide +kernel
theorem dX10_doesBlocks_72 : decode cX10_doesBlocks 72 = .ok (.iload_n 2, 1) := by decide +kernel
theorem dX10_doesBlocks_73 : decode cX10_doesBlocks 73 = .ok (.invokevirtual 319, 3) := by decide +kernel
theorem dX10_doesBlocks_76 : decode cX10_doesBlocks 76 = .ok (.goto 6, 3) := by decide +kernel
theorem dX10_doesBlocks_79 : decode cX10_doesBlocks 79 = .ok (.sipush 1000, 3) := by decide +kernel
theorem dX10_doesBlocks_82 : decode cX10_doesBlocks 82 = .ok (.istore_n 3, 1) := by decide +kernel
theorem dX10_doesBlocks_83 : decode cX10_doesBlocks 83 = .ok (.iinc 4 1, 3) := by decide +kernel
theorem dX10_doesBlocks_86 : decode cX10_doesBlocks 86 = .ok (.goto (-43), 3) := by decide +kernel
theorem dX10_doesBlocks_89 : decode cX10_doesBlocks 89 = .ok (.iload_n 3, 1) := by decide +kernel
theorem dX10_doesBlocks_90 : decode cX10_doesBlocks 90 = .ok (.ireturn, 1) := by decide +kernel
theorem dX10_doesBlocks_91 : decode cX10_doesBlocks 91 = .ok (.iload_n 3, 1) := by decide +kernel
theorem dX10_doesBlocks_92 : decode cX10_doesBlocks 92 = .ok (.ifCond .ne 45, 3) := by decide +kernel
theorem dX10_doesBlocks_95 : decode cX10_doesBlocks 95 = .ok (.aload_n 0, 1) := by decide +kernel
theorem dX10_doesBlocks_96 : decode cX10_doesBlocks 96 = .ok (.invokevirtual 297, 3) := by decide +kernel
theorem dX10_doesBlocks_99 : decode cX10_doesBlocks 99 = .ok (.ifCond .ne 7, 3) := by decide +kernel
theorem dX10_doesBlocks_102 : decode cX10_doesBlocks 102 = .ok (.sipush 1000, 3) := by decide +kernel
theorem dX10_doesBlocks_105 : decode cX10_doesBlocks 105 = .ok (.ireturn, 1) := by decide +kernel
theorem dX10_doesBlocks_106 : decode cX10_doesBlocks 106 = .ok (.aload_n 0, 1) := by decide +kernel
theorem dX10_doesBlocks_107 : decode cX10_doesBlocks 107 = .ok (.iload_n 2, 1) := by decide +kernel
theorem dX10_doesBlocks_108 : decode cX10_doesBlocks 108 = .ok (.invokevirtual 322, 3) := by decide +kernel
theorem dX10_doesBlocks_111 : decode cX10_doesBlocks 111 = .ok (.aload_n 0, 1) := by decide +kernel
theorem dX10_doesBlocks_112 : decode cX10_doesBlocks 112 = .ok (.getfield 63, 3) := by decide +kernel
theorem dX10_doesBlocks_115 : decode cX10_doesBlocks 115 = .ok (.iload_n 1, 1) := by decide +kernel
theorem dX10_doesBlocks_116 : decode cX10_doesBlocks 116 = .ok (.iaload, 1) := by decide +kernel
theorem dX10_doesBlocks_117 : decode cX10_doesBlocks 117 = .ok (.if_icmp .lt 5, 3) := by decide +kernel
theorem dX10_doesBlocks_120 : decode cX10_doesBlocks 120 = .ok (.iconst 0, 1) := by decide +kernel
theorem dX10_doesBlocks_121 : decode cX10_doesBlocks 121 = .ok (.ireturn, 1) := by decide +kernel
theorem dX10_doesBlocks_122 : decode cX10_doesBlocks 122 = .ok (.aload_n 0, 1) := by decide +kernel
theorem dX10_doesBlocks_123 : decode cX10_doesBlocks 123 = .ok (.aload_n 0, 1) := by decide +kernel
theorem dX10_doesBlocks_124 : decode cX10_doesBlocks 124 = .ok (.getfield 75, 3) := by decide +kernel
theorem dX10_doesBlocks_127 : decode cX10_doesBlocks 127 = .ok (.iload_n 1, 1) := by decide +kernel
theorem dX10_doesBlocks_128 : decode cX10_doesBlocks 128 = .ok (.iaload, 1) := by decide +kernel
theorem dX10_doesBlocks_129 : decode cX10_doesBlocks 129 = .ok (.iload_n 2, 1) := by decide +kernel
theorem dX10_doesBlocks_130 : decode cX10_doesBlocks 130 = .ok (.invokevirtual 319, 3) := by decide +kernel
theorem dX10_doesBlocks_133 : decode cX10_doesBlocks 133 = .ok (.istore_n 3, 1) := by decide +kernel
theorem dX10_doesBlocks_134 : decode cX10_doesBlocks 134 = .ok (.goto (-43), 3) := by decide +kernel
theorem dX10_doesBlocks_137 : decode cX10_doesBlocks 137 = .ok (.iload_n 3, 1) := by decide +kernel
theorem dX10_doesBlocks_138 : decode cX10_doesBlocks 138 = .ok (.ireturn, 1) := by decide +kernel
theorem dX10_doesBlocks_139 : decode cX10_doesBlocks 139 = .ok (.aload_n 0, 1) := by decide +kernel
theorem dX10_doesBlocks_140 : decode cX10_doesBlocks 140 = .ok (.aload_n 0, 1) := by decide +kernel
theorem dX10_doesBlocks_141 : decode cX10_doesBlocks 141 = .ok (.iload_n 1, 1) := by decide +kernel
theorem dX10_doesBlocks_142 : decode cX10_doesBlocks 142 = .ok (.iload_n 2, 1) := by decide +kernel
theorem dX10_doesBlocks_143 : decode cX10_doesBlocks 143 = .ok (.invokevirtual 325, 3) := by decide +kernel
theorem dX10_doesBlocks_146 : decode cX10_doesBlocks 146 = .ok (.ifCond .eq 12, 3) := by decide +kernel
theorem dX10_doesBlocks_149 : decode cX10_doesBlocks 149 = .ok (.aload_n 0, 1) := by decide +kernel
theorem dX10_doesBlocks_150 : decode cX10_doesBlocks 150 = .ok (.getfield 75, 3) := by decide +kernel
theorem dX10_doesBlocks_153 : decode cX10_doesBlocks 153 = .ok (.iload_n 1, 1) := by decide +kernel
theorem dX10_doesBlocks_154 : decode cX10_doesBlocks 154 = .ok (.iaload, 1) := by decide +kernel
theorem dX10_doesBlocks_155 : decode cX10_doesBlocks 155 = .ok (.goto 9, 3) := by decide +kernel
theorem dX10_doesBlocks_158 : decode cX10_doesBlocks 158 = .ok (.aload_n 0, 1) := by decide +kernel
theorem dX10_doesBlocks_159 : decode cX10_doesBlocks 159 = .ok (.getfield 78, 3) := by decide +kernel
theorem dX10_doesBlocks_162 : decode cX10_doesBlocks 162 = .ok (.iload_n 1, 1) := by decide +kernel
theorem dX10_doesBlocks_163 : decode cX10_doesBlocks 163 = .ok (.iaload, 1) := by decide +kernel
theorem dX10_doesBlocks_164 : decode cX10_doesBlocks 164 = .ok (.iload_n 2, 1) := by decide +kernel
theorem dX10_doesBlocks_165 : decode cX10_doesBlocks 165 = .ok (.invokevirtual 319, 3) := by decide +kernel
theorem dX10_doesBlocks_168 : decode cX10_doesBlocks 168 = .ok (.ireturn, 1) := by decide +kernel
theorem dX10_doesBlocks_169 : decode cX10_doesBlocks 169 = .ok (.aload_n 0, 1) := by decide +kernel
theorem dX10_doesBlocks_170 : decode cX10_doesBlocks 170 = .ok (.aload_n 0, 1) := by decide +kernel
theorem dX10_doesBlocks_171 : decode cX10_doesBlocks 171 = .ok (.getfield 75, 3) := by decide +kernel
theorem dX10_doesBlocks_174 : decode cX10_doesBlocks 174 = .ok (.iload_n 1, 1) := by decide +kernel
theorem dX10_doesBlocks_175 : decode cX10_doesBlocks 175 = .ok (.iaload, 1) := by decide +kernel
theorem dX10_doesBlocks_176 : decode cX10_doesBlocks 176 = .ok (.iload_n 2, 1) := by decide +kernel
theorem dX10_doesBlocks_177 : decode cX10_doesBlocks 177 = .ok (.invokevirtual 319, 3) := by decide +kernel
theorem dX10_doesBlocks_180 : decode cX10_doesBlocks 180 = .ok (.istore_n 3, 1) := by decide +kernel
theorem dX10_doesBlocks_181 : decode cX10_doesBlocks 181 = .ok (.iload_n 3, 1) := by decide +kernel
theorem dX10_doesBlocks_182 : decode cX10_doesBlocks 182 = .ok (.ifCond .eq 10, 3) := by decide +kernel
theorem dX10_doesBlocks_185 : decode cX10_doesBlocks 185 = .ok (.iload_n 3, 1) := by decide +kernel
theorem dX10_doesBlocks_186 : decode cX10_doesBlocks 186 = .ok (.sipush 1000, 3) := by decide +kernel
theorem dX10_doesBlocks_189 : decode cX10_doesBlocks 189 = .ok (.if_icmp .ne 7, 3) := by decide +kernel
theorem dX10_doesBlocks_192 : decode cX10_doesBlocks 192 = .ok (.iload_n 3, 1) := by decide +kernel
theorem dX10_doesBlocks_193 : decode cX10_doesBlocks 193 = .ok (.goto 14, 3) := by decide +kernel
theorem dX10_doesBlocks_196 : decode cX10_doesBlocks 196 = .ok (.aload_n 0, 1) := by decide +kernel
theorem dX10_doesBlocks_197 : decode cX10_doesBlocks 197 = .ok (.aload_n 0, 1) := by decide +kernel
theorem dX10_doesBlocks_198 : decode cX10_doesBlocks 198 = .ok (.getfield 78, 3) := by decide +kernel
theorem dX10_doesBlocks_201 : decode cX10_doesBlocks 201 = .ok (.iload_n 1, 1) := by decide +kernel
theorem dX10_doesBlocks_202 : decode cX10_doesBlocks 202 = .ok (.iaload, 1) := by decide +kernel
theorem dX10_doesBlocks_203 : decode cX10_doesBlocks 203 = .ok (.iload_n 2, 1) := by decide +kernel
theorem dX10_doesBlocks_204 : decode cX10_doesBlocks 204 = .ok (.invokevirtual 319, 3) := by decide +kernel
theorem dX10_doesBlocks_207 : decode cX10_doesBlocks 207 = .ok (.ireturn, 1) := by decide +kernel
theorem dX10_doesBlocks_208 : decode cX10_doesBlocks 208 = .ok (.aload_n 0, 1) := by decide +kernel
theorem dX10_doesBlocks_209 : decode cX10_doesBlocks 209 = .ok (.aload_n 0, 1) := by decide +kernel
theorem dX10_doesBlocks_210 : decode cX10_doesBlocks 210 = .ok (.getfield 75, 3) := by decide +kernel
theorem dX10_doesBlocks_213 : decode cX10_doesBlocks 213 = .ok (.iload_n 1, 1) := by decide +kernel
theorem dX10_doesBlocks_214 : decode cX10_doesBlocks 214 = .ok (.iaload, 1) := by decide +kernel
theorem dX10_doesBlocks_215 : decode cX10_doesBlocks 215 = .ok (.iload_n 2, 1) := by decide +kernel
theorem dX10_doesBlocks_216 : decode cX10_doesBlocks 216 = .ok (.invokevirtual 319, 3) := by decide +kernel
theorem dX10_doesBlocks_219 : decode cX10_doesBlocks 219 = .ok (.istore_n 3, 1) := by decide +kernel
theorem dX10_doesBlocks_220 : decode cX10_doesBlocks 220 = .ok (.iload_n 3, 1) := by decide +kernel
theorem dX10_doesBlocks_221 : decode cX10_doesBlocks 221 = .ok (.sipush 1000, 3) := by decide +kernel
theorem dX10_doesBlocks_224 : decode cX10_doesBlocks 224 = .ok (.if_icmp .ne 5, 3) := by decide +kernel
theorem dX10_doesBlocks_227 : decode cX10_doesBlocks 227 = .ok (.iload_n 3, 1) := by decide +kernel
theorem dX10_doesBlocks_228 : decode cX10_doesBlocks 228 = .ok (.ireturn, 1) := by decide +kernel
theorem dX10_doesBlocks_229 : decode cX10_doesBlocks 229 = .ok (.aload_n 0, 1) := by decide +kernel
theorem dX10_doesBlocks_230 : decode cX10_doesBlocks 230 = .ok (.aload_n 0, 1) := by decide +kernel
theorem dX10_doesBlocks_231 : decode cX10_doesBlocks 231 = .ok (.getfield 78, 3) := by decide +kernel
theorem dX10_doesBlocks_234 : decode cX10_doesBlocks 234 = .ok (.iload_n 1, 1) := by decide +kernel
theorem dX10_doesBlocks_235 : decode cX10_doesBlocks 235 = .ok (.iaload, 1) := by decide +kernel
theorem dX10_doesBlocks_236 : decode cX10_doesBlocks 236 = .ok (.iload_n 2, 1) := by decide +kernel
theorem dX10_doesBlocks_237 : decode cX10_doesBlocks 237 = .ok (.invokevirtual 319, 3) := by decide +kernel
theorem dX10_doesBlocks_240 : decode cX10_doesBlocks 240 = .ok (.istore 4, 2) := by decide +kernel
theorem dX10_doesBlocks_242 : decode cX10_doesBlocks 242 = .ok (.iload 4, 2) := by decide +kernel
theorem dX10_doesBlocks_244 : decode cX10_doesBlocks 244 = .ok (.ifCond .eq 8, 3) := by decide +kernel
theorem dX10_doesBlocks_247 : decode cX10_doesBlocks 247 = .ok (.iload 4, 2) := by decide +kernel
theorem dX10_doesBlocks_249 : decode cX10_doesBlocks 249 = .ok (.goto 4, 3) := by decide +kernel
theorem dX10_doesBlocks_252 : decode cX10_doesBlocks 252 = .ok (.iload_n 3, 1) := by decide +kernel
theorem dX10_doesBlocks_253 : decode cX10_doesBlocks 253 = .ok (.ireturn, 1) := by decide +kernel
theorem dX10_holds_0 : decode cX10_holds 0 = .ok (.aload_n 0, 1) := by decide +kernel
theorem dX10_holds_1 : decode cX10_holds 1 = .ok (.getfield 69, 3) := by decide +kernel
theorem dX10_holds_4 : decode cX10_holds 4 = .ok (.iload_n 1, 1) := by decide +kernel
theorem dX10_holds_5 : decode cX10_holds 5 = .ok (.iaload, 1) := by decide +kernel
theorem dX10_holds_6 : decode cX10_holds 6 = .ok (.bipush 14, 2) := by decide +kernel
theorem dX10_holds_8 : decode cX10_holds 8 = .ok (.if_icmp .ne 11, 3) := by decide +kernel
theorem dX10_holds_11 : decode cX10_holds 11 = .ok (.aload_n 0, 1) := by decide +kernel
theorem dX10_holds_12 : decode cX10_holds 12 = .ok (.iload_n 2, 1) := by decide +kernel
theorem dX10_holds_13 : decode cX10_holds 13 = .ok (.invokevirtual 322, 3) := by decide +kernel
theorem dX10_holds_16 : decode cX10_holds 16 = .ok (.goto 80, 3) := by decide +kernel
theorem dX10_holds_19 : decode cX10_holds 19 = .ok (.aload_n 0, 1) := by decide +kernel
theorem dX10_holds_20 : decode cX10_holds 20 = .ok (.getfield 69, 3) := by decide +kernel
theorem dX10_holds_23 : decode cX10_holds 23 = .ok (.iload_n 1, 1) := by decide +kernel
theorem dX10_holds_24 : decode cX10_holds 24 = .ok (.iaload, 1) := by decide +kernel
theorem dX10_holds_25 : decode cX10_holds 25 = .ok (.bipush 15, 2) := by decide +kernel
theorem dX10_holds_27 : decode cX10_holds 27 = .ok (.if_icmp .ne 12, 3) := by decide +kernel
theorem dX10_holds_30 : decode cX10_holds 30 = .ok (.aload_n 0, 1) := by decide +kernel
theorem dX10_holds_31 : decode cX10_holds 31 = .ok (.getfield 38, 3) := by decide +kernel
theorem dX10_holds_34 : decode cX10_holds 34 = .ok (.iload_n 2, 1) := by decide +kernel
theorem dX10_holds_35 : decode cX10_holds 35 = .ok (.iaload, 1) := by decide +kernel
theorem dX10_holds_36 : decode cX10_holds 36 = .ok (.goto 60, 3) := by decide +kernel
theorem dX10_holds_39 : decode cX10_holds 39 = .ok (.aload_n 0, 1) := by decide +kernel
theorem dX10_holds_40 : decode cX10_holds 40 = .ok (.getfield 69, 3) := by decide +kernel
theorem dX10_holds_43 : decode cX10_holds 43 = .ok (.iload_n 1, 1) := by decide +kernel
theorem dX10_holds_44 : decode cX10_holds 44 = .ok (.iaload, 1) := by decide +kernel
theorem dX10_holds_45 : decode cX10_holds 45 = .ok (.bipush 16, 2) := by decide +kernel
theorem dX10_holds_47 : decode cX10_holds 47 = .ok (.if_icmp .ne 13, 3) := by decide +kernel
theorem dX10_holds_50 : decode cX10_holds 50 = .ok (.aload_n 0, 1) := by decide +kernel
theorem dX10_holds_51 : decode cX10_holds 51 = .ok (.getfield 131, 3) := by decide +kernel
theorem dX10_holds_54 : decode cX10_holds 54 = .ok (.bipush 24, 2) := by decide +kernel
theorem dX10_holds_56 : decode cX10_holds 56 = .ok (.irem, 1) := by decide +kernel
theorem dX10_holds_57 : decode cX10_holds 57 = .ok (.goto 39, 3) := by decide +kernel
theorem dX10_holds_60 : decode cX10_holds 60 = .ok (.aload_n 0, 1) := by decide +kernel
theorem dX10_holds_61 : decode cX10_holds 61 = .ok (.getfield 69, 3) := by decide +kernel
theorem dX10_holds_64 : decode cX10_holds 64 = .ok (.iload_n 1, 1) := by decide +kernel
theorem dX10_holds_65 : decode cX10_holds 65 = .ok (.iaload, 1) := by decide +kernel
theorem dX10_holds_66 : decode cX10_holds 66 = .ok (.bipush 17, 2) := by decide +kernel
theorem dX10_holds_68 : decode cX10_holds 68 = .ok (.if_icmp .ne 17, 3) := by decide +kernel
theorem dX10_holds_71 : decode cX10_holds 71 = .ok (.aload_n 0, 1) := by decide +kernel
theorem dX10_holds_72 : decode cX10_holds 72 = .ok (.getfield 7, 3) := by decide +kernel
theorem dX10_holds_75 : decode cX10_holds 75 = .ok (.aload_n 0, 1) := by decide +kernel
theorem dX10_holds_76 : decode cX10_holds 76 = .ok (.getfield 63, 3) := by decide +kernel
theorem dX10_holds_79 : decode cX10_holds 79 = .ok (.iload_n 1, 1) := by decide +kernel
theorem dX10_holds_80 : decode cX10_holds 80 = .ok (.iaload, 1) := by decide +kernel
theorem dX10_holds_81 : decode cX10_holds 81 = .ok (.iaload, 1) := by decide +kernel
theorem dX10_holds_82 : decode cX10_holds 82 = .ok (.goto 14, 3) := by decide +kernel
theorem dX10_holds_85 : decode cX10_holds 85 = .ok (.aload_n 0, 1) := by decide +kernel
theorem dX10_holds_86 : decode cX10_holds 86 = .ok (.getfield 13, 3) := by decide +kernel
theorem dX10_holds_89 : decode cX10_holds 89 = .ok (.aload_n 0, 1) := by decide +kernel
theorem dX10_holds_90 : decode cX10_holds 90 = .ok (.getfield 63, 3) := by decide +kernel
theorem dX10_holds_93 : decode cX10_holds 93 = .ok (.iload_n 1, 1) := by decide +kernel
theorem dX10_holds_94 : decode cX10_holds 94 = .ok (.iaload, 1) := by decide +kernel
theorem dX10_holds_95 : decode cX10_holds 95 = .ok (.iaload, 1) := by decide +kernel
theorem dX10_holds_96 : decode cX10_holds 96 = .ok (.istore_n 3, 1) := by decide +kernel
theorem dX10_holds_97 : decode cX10_holds 97 = .ok (.aload_n 0, 1) := by decide +kernel
theorem dX10_holds_98 : decode cX10_holds 98 = .ok (.getfield 72, 3) := by decide +kernel
theorem dX10_holds_101 : decode cX10_holds 101 = .ok (.iload_n 1, 1) := by decide +kernel
theorem dX10_holds_102 : decode cX10_holds 102 = .ok (.iaload, 1) := by decide +kernel
theorem dX10_holds_103 : decode cX10_holds 103 = .ok (.bipush 60, 2) := by decide +kernel
theorem dX10_holds_105 : decode cX10_holds 105 = .ok (.if_icmp .ne 21, 3) := by decide +kernel
theorem dX10_holds_108 : decode cX10_holds 108 = .ok (.iload_n 3, 1) := by decide +kernel
theorem dX10_holds_109 : decode cX10_holds 109 = .ok (.aload_n 0, 1) := by decide +kernel
theorem dX10_holds_110 : decode cX10_holds 110 = .ok (.getfield 66, 3) := by decide +kernel
theorem dX10_holds_113 : decode cX10_holds 113 = .ok (.iload_n 1, 1) := by decide +kernel
theorem dX10_holds_114 : decode cX10_holds 114 = .ok (.iaload, 1) := by decide +kernel
theorem dX10_holds_115 : decode cX10_holds 115 = .ok (.if_icmp .ge 7, 3) := by decide +kernel
theorem dX10_holds_118 : decode cX10_holds 118 = .ok (.iconst 1, 1) := by decide +kernel
theorem dX10_holds_119 : decode cX10_holds 119 = .ok (.goto 22, 3) := by decide +kernel
theorem dX10_holds_122 : decode cX10_holds 122 = .ok (.iconst 0, 1) := by decide +kernel
theorem dX10_holds_123 : decode cX10_holds 123 = .ok (.goto 18, 3) := by decide +kernel
theorem dX10_holds_126 : decode cX10_holds 126 = .ok (.iload_n 3, 1) := by decide +kernel
theorem dX10_holds_127 : decode cX10_holds 127 = .ok (.aload_n 0, 1) := by decide +kernel
theorem dX10_holds_128 : decode cX10_holds 128 = .ok (.getfield 66, 3) := by decide +kernel
theorem dX10_holds_131 : decode cX10_holds 131 = .ok (.iload_n 1, 1) := by decide +kernel
theorem dX10_holds_132 : decode cX10_holds 132 = .ok (.iaload, 1) := by decide +kernel
theorem dX10_holds_133 : decode cX10_holds 133 = .ok (.if_icmp .ne 7, 3) := by decide +kernel
theorem dX10_holds_136 : decode cX10_holds 136 = .ok (.iconst 1, 1) := by decide +kernel
theorem dX10_holds_137 : decode cX10_holds 137 = .ok (.goto 4, 3) := by decide +kernel
theorem dX10_holds_140 : decode cX10_holds 140 = .ok (.iconst 0, 1) := by decide +kernel
theorem dX10_holds_141 : decode cX10_holds 141 = .ok (.ireturn, 1) := by decide +kernel
theorem dX10_run_0 : decode cX10_run 0 = .ok (.aload_n 0, 1) := by decide +kernel
theorem dX10_run_1 : decode cX10_run 1 = .ok (.iload_n 2, 1) := by decide +kernel
theorem dX10_run_2 : decode cX10_run 2 = .ok (.invokevirtual 141, 3) := by decide +kernel
theorem dX10_run_5 : decode cX10_run 5 = .ok (.ifCond .ne 5, 3) := by decide +kernel
theorem dX10_run_8 : decode cX10_run 8 = .ok (.iconst 0, 1) := by decide +kernel
theorem dX10_run_9 : decode cX10_run 9 = .ok (.ireturn, 1) := by decide +kernel
theorem dX10_run_10 : decode cX10_run 10 = .ok (.iload_n 1, 1) := by decide +kernel
theorem dX10_run_11 : decode cX10_run 11 = .ok (.ifCond .lt 39, 3) := by decide +kernel
theorem dX10_run_14 : decode cX10_run 14 = .ok (.iload_n 1, 1) := by decide +kernel
theorem dX10_run_15 : decode cX10_run 15 = .ok (.bipush 8, 2) := by decide +kernel
theorem dX10_run_17 : decode cX10_run 17 = .ok (.if_icmp .ge 33, 3) := by decide +kernel
theorem dX10_run_20 : decode cX10_run 20 = .ok (.aload_n 0, 1) := by decide +kernel
theorem dX10_run_21 : decode cX10_run 21 = .ok (.getfield 84, 3) := by decide +kernel
theorem dX10_run_24 : decode cX10_run 24 = .ok (.iload_n 1, 1) := by decide +kernel
theorem dX10_run_25 : decode cX10_run 25 = .ok (.iaload, 1) := by decide +kernel
theorem dX10_run_26 : decode cX10_run 26 = .ok (.iconst (-1), 1) := by decide +kernel
theorem dX10_run_27 : decode cX10_run 27 = .ok (.if_icmp .eq 23, 3) := by decide +kernel
theorem dX10_run_30 : decode cX10_run 30 = .ok (.aload_n 0, 1) := by decide +kernel
theorem dX10_run_31 : decode cX10_run 31 = .ok (.iload_n 2, 1) := by decide +kernel
theorem dX10_run_32 : decode cX10_run 32 = .ok (.invokevirtual 144, 3) := by decide +kernel
theorem dX10_run_35 : decode cX10_run 35 = .ok (.ifCond .ne 15, 3) := by decide +kernel
theorem dX10_run_38 : decode cX10_run 38 = .ok (.iload_n 3, 1) := by decide +kernel
theorem dX10_run_39 : decode cX10_run 39 = .ok (.iconst 1, 1) := by decide +kernel
theorem dX10_run_40 : decode cX10_run 40 = .ok (.if_icmp .lt 10, 3) := by decide +kernel
theorem dX10_run_43 : decode cX10_run 43 = .ok (.iload_n 3, 1) := by decide +kernel
theorem dX10_run_44 : decode cX10_run 44 = .ok (.sipush 5000, 3) := by decide +kernel
theorem dX10_run_47 : decode cX10_run 47 = .ok (.if_icmp .le 5, 3) := by decide +kernel
theorem dX10_run_50 : decode cX10_run 50 = .ok (.iconst (-1), 1) := by decide +kernel
theorem dX10_run_51 : decode cX10_run 51 = .ok (.ireturn, 1) := by decide +kernel
theorem dX10_run_52 : decode cX10_run 52 = .ok (.aload_n 0, 1) := by decide +kernel
theorem dX10_run_53 : decode cX10_run 53 = .ok (.iload_n 3, 1) := by decide +kernel
theorem dX10_run_54 : decode cX10_run 54 = .ok (.putfield 290, 3) := by decide +kernel
theorem dX10_run_57 : decode cX10_run 57 = .ok (.aload_n 0, 1) := by decide +kernel
theorem dX10_run_58 : decode cX10_run 58 = .ok (.iconst 0, 1) := by decide +kernel
theorem dX10_run_59 : decode cX10_run 59 = .ok (.putfield 287, 3) := by decide +kernel
theorem dX10_run_62 : decode cX10_run 62 = .ok (.aload_n 0, 1) := by decide +kernel
theorem dX10_run_63 : decode cX10_run 63 = .ok (.iconst 0, 1) := by decide +kernel
theorem dX10_run_64 : decode cX10_run 64 = .ok (.putfield 313, 3) := by decide +kernel
theorem dX10_run_67 : decode cX10_run 67 = .ok (.aload_n 0, 1) := by decide +kernel
theorem dX10_run_68 : decode cX10_run 68 = .ok (.iconst 0, 1) := by decide +kernel
theorem dX10_run_69 : decode cX10_run 69 = .ok (.putfield 310, 3) := by decide +kernel
theorem dX10_run_72 : decode cX10_run 72 = .ok (.aload_n 0, 1) := by decide +kernel
theorem dX10_run_73 : decode cX10_run 73 = .ok (.iconst 0, 1) := by decide +kernel
theorem dX10_run_74 : decode cX10_run 74 = .ok (.putfield 316, 3) := by decide +kernel
theorem dX10_run_77 : decode cX10_run 77 = .ok (.aload_n 0, 1) := by decide +kernel
theorem dX10_run_78 : decode cX10_run 78 = .ok (.getfield 84, 3) := by decide +kernel
theorem dX10_run_81 : decode cX10_run 81 = .ok (.iload_n 1, 1) := by decide +kernel
theorem dX10_run_82 : decode cX10_run 82 = .ok (.iaload, 1) := by decide +kernel
theorem dX10_run_83 : decode cX10_run 83 = .ok (.bipush (-2), 2) := by decide +kernel
theorem dX10_run_85 : decode cX10_run 85 = .ok (.if_icmp .ne 7, 3) := by decide +kernel
theorem dX10_run_88 : decode cX10_run 88 = .ok (.iconst 0, 1) := by decide +kernel
theorem dX10_run_89 : decode cX10_run 89 = .ok (.goto 14, 3) := by decide +kernel
theorem dX10_run_92 : decode cX10_run 92 = .ok (.aload_n 0, 1) := by decide +kernel
theorem dX10_run_93 : decode cX10_run 93 = .ok (.aload_n 0, 1) := by decide +kernel
theorem dX10_run_94 : decode cX10_run 94 = .ok (.getfield 84, 3) := by decide +kernel
theorem dX10_run_97 : decode cX10_run 97 = .ok (.iload_n 1, 1) := by decide +kernel
theorem dX10_run_98 : decode cX10_run 98 = .ok (.iaload, 1) := by decide +kernel
theorem dX10_run_99 : decode cX10_run 99 = .ok (.iload_n 2, 1) := by decide +kernel
theorem dX10_run_100 : decode cX10_run 100 = .ok (.invokevirtual 319, 3) := by decide +kernel
theorem dX10_run_103 : decode cX10_run 103 = .ok (.istore 4, 2) := by decide +kernel
theorem dX10_run_105 : decode cX10_run 105 = .ok (.aload_n 0, 1) := by decide +kernel
theorem dX10_run_106 : decode cX10_run 106 = .ok (.iload 4, 2) := by decide +kernel
theorem dX10_run_108 : decode cX10_run 108 = .ok (.sipush 1000, 3) := by decide +kernel
theorem dX10_run_111 : decode cX10_run 111 = .ok (.if_icmp .ne 7, 3) := by decide +kernel
theorem dX10_run_114 : decode cX10_run 114 = .ok (.iconst 0, 1) := by decide +kernel
theorem dX10_run_115 : decode cX10_run 115 = .ok (.goto 5, 3) := by decide +kernel
theorem dX10_run_118 : decode cX10_run 118 = .ok (.iload 4, 2) := by decide +kernel
theorem dX10_run_120 : decode cX10_run 120 = .ok (.putfield 328, 3) := by decide +kernel
theorem dX10_run_123 : decode cX10_run 123 = .ok (.aload_n 0, 1) := by decide +kernel
theorem dX10_run_124 : decode cX10_run 124 = .ok (.iload 4, 2) := by decide +kernel
theorem dX10_run_126 : decode cX10_run 126 = .ok (.ifCond .ne 7, 3) := by decide +kernel
theorem dX10_run_129 : decode cX10_run 129 = .ok (.iconst 0, 1) := by decide +kernel
theorem dX10_run_130 : decode cX10_run 130 = .ok (.goto 16, 3) := by decide +kernel
theorem dX10_run_133 : decode cX10_run 133 = .ok (.iload 4, 2) := by decide +kernel
theorem dX10_run_135 : decode cX10_run 135 = .ok (.sipush 1000, 3) := by decide +kernel
theorem dX10_run_138 : decode cX10_run 138 = .ok (.if_icmp .ne 7, 3) := by decide +kernel
theorem dX10_run_141 : decode cX10_run 141 = .ok (.iconst 2, 1) := by decide +kernel
theorem dX10_run_142 : decode cX10_run 142 = .ok (.goto 4, 3) := by decide +kernel
theorem dX10_run_145 : decode cX10_run 145 = .ok (.iconst 1, 1) := by decide +kernel
theorem dX10_run_146 : decode cX10_run 146 = .ok (.putfield 90, 3) := by decide +kernel
theorem dX10_run_149 : decode cX10_run 149 = .ok (.aload_n 0, 1) := by decide +kernel
theorem dX10_run_150 : decode cX10_run 150 = .ok (.getfield 90, 3) := by decide +kernel
theorem dX10_run_153 : decode cX10_run 153 = .ok (.ireturn, 1) := by decide +kernel
theorem dX10_ran_0 : decode cX10_ran 0 = .ok (.aload_n 0, 1) := by decide +kernel
theorem dX10_ran_1 : decode cX10_ran 1 = .ok (.iconst 0, 1) := by decide +kernel
theorem dX10_ran_2 : decode cX10_ran 2 = .ok (.putfield 105, 3) := by decide +kernel
theorem dX10_ran_5 : decode cX10_ran 5 = .ok (.aload_n 0, 1) := by decide +kernel
theorem dX10_ran_6 : decode cX10_ran 6 = .ok (.iload_n 1, 1) := by decide +kernel
theorem dX10_ran_7 : decode cX10_ran 7 = .ok (.ifCond .lt 12, 3) := by decide +kernel
theorem dX10_ran_10 : decode cX10_ran 10 = .ok (.iload_n 1, 1) := by decide +kernel
theorem dX10_ran_11 : decode cX10_ran 11 = .ok (.iconst 5, 1) := by decide +kernel
theorem dX10_ran_12 : decode cX10_ran 12 = .ok (.if_icmp .gt 7, 3) := by decide +kernel
theorem dX10_ran_15 : decode cX10_ran 15 = .ok (.iconst 1, 1) := by decide +kernel
theorem dX10_ran_16 : decode cX10_ran 16 = .ok (.goto 4, 3) := by decide +kernel
theorem dX10_ran_19 : decode cX10_ran 19 = .ok (.iconst 0, 1) := by decide +kernel
theorem dX10_ran_20 : decode cX10_ran 20 = .ok (.iconst 1, 1) := by decide +kernel
theorem dX10_ran_21 : decode cX10_ran 21 = .ok (.invokevirtual 108, 3) := by decide +kernel
theorem dX10_ran_24 : decode cX10_ran 24 = .ok (.ifCond .ne 5, 3) := by decide +kernel
theorem dX10_ran_27 : decode cX10_ran 27 = .ok (.iconst 0, 1) := by decide +kernel
theorem dX10_ran_28 : decode cX10_ran 28 = .ok (.ireturn, 1) := by decide +kernel
theorem dX10_ran_29 : decode cX10_ran 29 = .ok (.iload_n 1, 1) := by decide +kernel
theorem dX10_ran_30 : decode cX10_ran 30 = .ok (.tableswitch 59 0 4 #[34, 39, 44, 49, 54], 34) := by decide +kernel
theorem dX10_ran_64 : decode cX10_ran 64 = .ok (.aload_n 0, 1) := by decide +kernel
theorem dX10_ran_65 : decode cX10_ran 65 = .ok (.getfield 90, 3) := by decide +kernel
theorem dX10_ran_68 : decode cX10_ran 68 = .ok (.ireturn, 1) := by decide +kernel
theorem dX10_ran_69 : decode cX10_ran 69 = .ok (.aload_n 0, 1) := by decide +kernel
theorem dX10_ran_70 : decode cX10_ran 70 = .ok (.getfield 328, 3) := by decide +kernel
theorem dX10_ran_73 : decode cX10_ran 73 = .ok (.ireturn, 1) := by decide +kernel
theorem dX10_ran_74 : decode cX10_ran 74 = .ok (.aload_n 0, 1) := by decide +kernel
theorem dX10_ran_75 : decode cX10_ran 75 = .ok (.getfield 287, 3) := by decide +kernel
theorem dX10_ran_78 : decode cX10_ran 78 = .ok (.ireturn, 1) := by decide +kernel
theorem dX10_ran_79 : decode cX10_ran 79 = .ok (.aload_n 0, 1) := by decide +kernel
theorem dX10_ran_80 : decode cX10_ran 80 = .ok (.getfield 313, 3) := by decide +kernel
theorem dX10_ran_83 : decode cX10_ran 83 = .ok (.ireturn, 1) := by decide +kernel
theorem dX10_ran_84 : decode cX10_ran 84 = .ok (.aload_n 0, 1) := by decide +kernel
theorem dX10_ran_85 : decode cX10_ran 85 = .ok (.getfield 310, 3) := by decide +kernel
theorem dX10_ran_88 : decode cX10_ran 88 = .ok (.ireturn, 1) := by decide +kernel
theorem dX10_ran_89 : decode cX10_ran 89 = .ok (.aload_n 0, 1) := by decide +kernel
theorem dX10_ran_90 : decode cX10_ran 90 = .ok (.getfield 316, 3) := by decide +kernel
theorem dX10_ran_93 : decode cX10_ran 93 = .ok (.ireturn, 1) := by decide +kernel
theorem dX10_keeps_0 : decode cX10_keeps 0 = .ok (.bipush 26, 2) := by decide +kernel
theorem dX10_keeps_2 : decode cX10_keeps 2 = .ok (.iload_n 1, 1) := by decide +kernel
theorem dX10_keeps_3 : decode cX10_keeps 3 = .ok (.imul, 1) := by decide +kernel
theorem dX10_keeps_4 : decode cX10_keeps 4 = .ok (.istore_n 3, 1) := by decide +kernel
theorem dX10_keeps_5 : decode cX10_keeps 5 = .ok (.iconst 0, 1) := by decide +kernel
theorem dX10_keeps_6 : decode cX10_keeps 6 = .ok (.istore 4, 2) := by decide +kernel
theorem dX10_keeps_8 : decode cX10_keeps 8 = .ok (.iload 4, 2) := by decide +kernel
theorem dX10_keeps_10 : decode cX10_keeps 10 = .ok (.bipush 6, 2) := by decide +kernel
theorem dX10_keeps_12 : decode cX10_keeps 12 = .ok (.if_icmp .ge 87, 3) := by decide +kernel
theorem dX10_keeps_15 : decode cX10_keeps 15 = .ok (.aload_n 0, 1) := by decide +kernel
theorem dX10_keeps_16 : decode cX10_keeps 16 = .ok (.getfield 102, 3) := by decide +kernel
theorem dX10_keeps_19 : decode cX10_keeps 19 = .ok (.iload_n 3, 1) := by decide +kernel
theorem dX10_keeps_20 : decode cX10_keeps 20 = .ok (.iconst 4, 1) := by decide +kernel
theorem dX10_keeps_21 : decode cX10_keeps 21 = .ok (.iload 4, 2) := by decide +kernel
theorem dX10_keeps_23 : decode cX10_keeps 23 = .ok (.imul, 1) := by decide +kernel
theorem dX10_keeps_24 : decode cX10_keeps 24 = .ok (.iadd, 1) := by decide +kernel
theorem dX10_keeps_25 : decode cX10_keeps 25 = .ok (.aload_n 0, 1) := by decide +kernel
theorem dX10_keeps_26 : decode cX10_keeps 26 = .ok (.getfield 7, 3) := by decide +kernel
theorem dX10_keeps_29 : decode cX10_keeps 29 = .ok (.iload 4, 2) := by decide +kernel
theorem dX10_keeps_31 : decode cX10_keeps 31 = .ok (.iaload, 1) := by decide +kernel
theorem dX10_keeps_32 : decode cX10_keeps 32 = .ok (.iastore, 1) := by decide +kernel
theorem dX10_keeps_33 : decode cX10_keeps 33 = .ok (.aload_n 0, 1) := by decide +kernel
theorem dX10_keeps_34 : decode cX10_keeps 34 = .ok (.getfield 102, 3) := by decide +kernel
theorem dX10_keeps_37 : decode cX10_keeps 37 = .ok (.iload_n 3, 1) := by decide +kernel
theorem dX10_keeps_38 : decode cX10_keeps 38 = .ok (.iconst 4, 1) := by decide +kernel
theorem dX10_keeps_39 : decode cX10_keeps 39 = .ok (.iload 4, 2) := by decide +kernel
theorem dX10_keeps_41 : decode cX10_keeps 41 = .ok (.imul, 1) := by decide +kernel
theorem dX10_keeps_42 : decode cX10_keeps 42 = .ok (.iadd, 1) := by decide +kernel
theorem dX10_keeps_43 : decode cX10_keeps 43 = .ok (.iconst 1, 1) := by decide +kernel
theorem dX10_keeps_44 : decode cX10_keeps 44 = .ok (.iadd, 1) := by decide +kernel
theorem dX10_keeps_45 : decode cX10_keeps 45 = .ok (.aload_n 0, 1) := by decide +kernel
theorem dX10_keeps_46 : decode cX10_keeps 46 = .ok (.getfield 13, 3) := by decide +kernel
theorem dX10_keeps_49 : decode cX10_keeps 49 = .ok (.iload 4, 2) := by decide +kernel
theorem dX10_keeps_51 : decode cX10_keeps 51 = .ok (.iaload, 1) := by decide +kernel
theorem dX10_keeps_52 : decode cX10_keeps 52 = .ok (.iastore, 1) := by decide +kernel
theorem dX10_keeps_53 : decode cX10_keeps 53 = .ok (.aload_n 0, 1) := by decide +kernel
theorem dX10_keeps_54 : decode cX10_keeps 54 = .ok (.getfield 102, 3) := by decide +kernel
theorem dX10_keeps_57 : decode cX10_keeps 57 = .ok (.iload_n 3, 1) := by decide +kernel
theorem dX10_keeps_58 : decode cX10_keeps 58 = .ok (.iconst 4, 1) := by decide +kernel
theorem dX10_keeps_59 : decode cX10_keeps 59 = .ok (.iload 4, 2) := by decide +kernel
theorem dX10_keeps_61 : decode cX10_keeps 61 = .ok (.imul, 1) := by decide +kernel
theorem dX10_keeps_62 : decode cX10_keeps 62 = .ok (.iadd, 1) := by decide +kernel
theorem dX10_keeps_63 : decode cX10_keeps 63 = .ok (.iconst 2, 1) := by decide +kernel
theorem dX10_keeps_64 : decode cX10_keeps 64 = .ok (.iadd, 1) := by decide +kernel
theorem dX10_keeps_65 : decode cX10_keeps 65 = .ok (.aload_n 0, 1) := by decide +kernel
theorem dX10_keeps_66 : decode cX10_keeps 66 = .ok (.getfield 16, 3) := by decide +kernel
theorem dX10_keeps_69 : decode cX10_keeps 69 = .ok (.iload 4, 2) := by decide +kernel
theorem dX10_keeps_71 : decode cX10_keeps 71 = .ok (.iaload, 1) := by decide +kernel
theorem dX10_keeps_72 : decode cX10_keeps 72 = .ok (.iastore, 1) := by decide +kernel
theorem dX10_keeps_73 : decode cX10_keeps 73 = .ok (.aload_n 0, 1) := by decide +kernel
theorem dX10_keeps_74 : decode cX10_keeps 74 = .ok (.getfield 102, 3) := by decide +kernel
theorem dX10_keeps_77 : decode cX10_keeps 77 = .ok (.iload_n 3, 1) := by decide +kernel
theorem dX10_keeps_78 : decode cX10_keeps 78 = .ok (.iconst 4, 1) := by decide +kernel
theorem dX10_keeps_79 : decode cX10_keeps 79 = .ok (.iload 4, 2) := by decide +kernel
theorem dX10_keeps_81 : decode cX10_keeps 81 = .ok (.imul, 1) := by decide +kernel
theorem dX10_keeps_82 : decode cX10_keeps 82 = .ok (.iadd, 1) := by decide +kernel
theorem dX10_keeps_83 : decode cX10_keeps 83 = .ok (.iconst 3, 1) := by decide +kernel
theorem dX10_keeps_84 : decode cX10_keeps 84 = .ok (.iadd, 1) := by decide +kernel
theorem dX10_keeps_85 : decode cX10_keeps 85 = .ok (.aload_n 0, 1) := by decide +kernel
theorem dX10_keeps_86 : decode cX10_keeps 86 = .ok (.getfield 19, 3) := by decide +kernel
theorem dX10_keeps_89 : decode cX10_keeps 89 = .ok (.iload 4, 2) := by decide +kernel
theorem dX10_keeps_91 : decode cX10_keeps 91 = .ok (.iaload, 1) := by decide +kernel
theorem dX10_keeps_92 : decode cX10_keeps 92 = .ok (.iastore, 1) := by decide +kernel
theorem dX10_keeps_93 : decode cX10_keeps 93 = .ok (.iinc 4 1, 3) := by decide +kernel
theorem dX10_keeps_96 : decode cX10_keeps 96 = .ok (.goto (-88), 3) := by decide +kernel
theorem dX10_keeps_99 : decode cX10_keeps 99 = .ok (.aload_n 0, 1) := by decide +kernel
theorem dX10_keeps_100 : decode cX10_keeps 100 = .ok (.getfield 102, 3) := by decide +kernel
theorem dX10_keeps_103 : decode cX10_keeps 103 = .ok (.iload_n 3, 1) := by decide +kernel
theorem dX10_keeps_104 : decode cX10_keeps 104 = .ok (.bipush 24, 2) := by decide +kernel
theorem dX10_keeps_106 : decode cX10_keeps 106 = .ok (.iadd, 1) := by decide +kernel
theorem dX10_keeps_107 : decode cX10_keeps 107 = .ok (.aload_n 0, 1) := by decide +kernel
theorem dX10_keeps_108 : decode cX10_keeps 108 = .ok (.getfield 38, 3) := by decide +kernel
theorem dX10_keeps_111 : decode cX10_keeps 111 = .ok (.iload_n 2, 1) := by decide +kernel
theorem dX10_keeps_112 : decode cX10_keeps 112 = .ok (.iaload, 1) := by decide +kernel
theorem dX10_keeps_113 : decode cX10_keeps 113 = .ok (.iastore, 1) := by decide +kernel
theorem dX10_keeps_114 : decode cX10_keeps 114 = .ok (.aload_n 0, 1) := by decide +kernel
theorem dX10_keeps_115 : decode cX10_keeps 115 = .ok (.getfield 102, 3) := by decide +kernel
theorem dX10_keeps_118 : decode cX10_keeps 118 = .ok (.iload_n 3, 1) := by decide +kernel
theorem dX10_keeps_119 : decode cX10_keeps 119 = .ok (.bipush 25, 2) := by decide +kernel
theorem dX10_keeps_121 : decode cX10_keeps 121 = .ok (.iadd, 1) := by decide +kernel
theorem dX10_keeps_122 : decode cX10_keeps 122 = .ok (.aload_n 0, 1) := by decide +kernel
theorem dX10_keeps_123 : decode cX10_keeps 123 = .ok (.getfield 41, 3) := by decide +kernel
theorem dX10_keeps_126 : decode cX10_keeps 126 = .ok (.iload_n 2, 1) := by decide +kernel
theorem dX10_keeps_127 : decode cX10_keeps 127 = .ok (.iaload, 1) := by decide +kernel
theorem dX10_keeps_128 : decode cX10_keeps 128 = .ok (.iastore, 1) := by decide +kernel
theorem dX10_keeps_129 : decode cX10_keeps 129 = .ok (.return_, 1) := by decide +kernel
theorem dX10_restores_0 : decode cX10_restores 0 = .ok (.bipush 26, 2) := by decide +kernel
theorem dX10_restores_2 : decode cX10_restores 2 = .ok (.iload_n 1, 1) := by decide +kernel
theorem dX10_restores_3 : decode cX10_restores 3 = .ok (.imul, 1) := by decide +kernel
theorem dX10_restores_4 : decode cX10_restores 4 = .ok (.istore_n 3, 1) := by decide +kernel
theorem dX10_restores_5 : decode cX10_restores 5 = .ok (.iconst 0, 1) := by decide +kernel
theorem dX10_restores_6 : decode cX10_restores 6 = .ok (.istore 4, 2) := by decide +kernel
theorem dX10_restores_8 : decode cX10_restores 8 = .ok (.iload 4, 2) := by decide +kernel
theorem dX10_restores_10 : decode cX10_restores 10 = .ok (.bipush 6, 2) := by decide +kernel
theorem dX10_restores_12 : decode cX10_restores 12 = .ok (.if_icmp .ge 87, 3) := by decide +kernel
theorem dX10_restores_15 : decode cX10_restores 15 = .ok (.aload_n 0, 1) := by decide +kernel
theorem dX10_restores_16 : decode cX10_restores 16 = .ok (.getfield 7, 3) := by decide +kernel
theorem dX10_restores_19 : decode cX10_restores 19 = .ok (.iload 4, 2) := by decide +kernel
theorem dX10_restores_21 : decode cX10_restores 21 = .ok (.aload_n 0, 1) := by decide +kernel
theorem dX10_restores_22 : decode cX10_restores 22 = .ok (.getfield 102, 3) := by decide +kernel
theorem dX10_restores_25 : decode cX10_restores 25 = .ok (.iload_n 3, 1) := by decide +kernel
theorem dX10_restores_26 : decode cX10_restores 26 = .ok (.iconst 4, 1) := by decide +kernel
theorem dX10_restores_27 : decode cX10_restores 27 = .ok (.iload 4, 2) := by decide +kernel
theorem dX10_restores_29 : decode cX10_restores 29 = .ok (.imul, 1) := by decide +kernel
theorem dX10_restores_30 : decode cX10_restores 30 = .ok (.iadd, 1) := by decide +kernel
theorem dX10_restores_31 : decode cX10_restores 31 = .ok (.iaload, 1) := by decide +kernel
theorem dX10_restores_32 : decode cX10_restores 32 = .ok (.iastore, 1) := by decide +kernel
theorem dX10_restores_33 : decode cX10_restores 33 = .ok (.aload_n 0, 1) := by decide +kernel
theorem dX10_restores_34 : decode cX10_restores 34 = .ok (.getfield 13, 3) := by decide +kernel
theorem dX10_restores_37 : decode cX10_restores 37 = .ok (.iload 4, 2) := by decide +kernel
theorem dX10_restores_39 : decode cX10_restores 39 = .ok (.aload_n 0, 1) := by decide +kernel
theorem dX10_restores_40 : decode cX10_restores 40 = .ok (.getfield 102, 3) := by decide +kernel
theorem dX10_restores_43 : decode cX10_restores 43 = .ok (.iload_n 3, 1) := by decide +kernel
theorem dX10_restores_44 : decode cX10_restores 44 = .ok (.iconst 4, 1) := by decide +kernel
theorem dX10_restores_45 : decode cX10_restores 45 = .ok (.iload 4, 2) := by decide +kernel
theorem dX10_restores_47 : decode cX10_restores 47 = .ok (.imul, 1) := by decide +kernel
theorem dX10_restores_48 : decode cX10_restores 48 = .ok (.iadd, 1) := by decide +kernel
theorem dX10_restores_49 : decode cX10_restores 49 = .ok (.iconst 1, 1) := by decide +kernel
theorem dX10_restores_50 : decode cX10_restores 50 = .ok (.iadd, 1) := by decide +kernel
theorem dX10_restores_51 : decode cX10_restores 51 = .ok (.iaload, 1) := by decide +kernel
theorem dX10_restores_52 : decode cX10_restores 52 = .ok (.iastore, 1) := by decide +kernel
theorem dX10_restores_53 : decode cX10_restores 53 = .ok (.aload_n 0, 1) := by decide +kernel
theorem dX10_restores_54 : decode cX10_restores 54 = .ok (.getfield 16, 3) := by decide +kernel
theorem dX10_restores_57 : decode cX10_restores 57 = .ok (.iload 4, 2) := by decide +kernel
theorem dX10_restores_59 : decode cX10_restores 59 = .ok (.aload_n 0, 1) := by decide +kernel
theorem dX10_restores_60 : decode cX10_restores 60 = .ok (.getfield 102, 3) := by decide +kernel
theorem dX10_restores_63 : decode cX10_restores 63 = .ok (.iload_n 3, 1) := by decide +kernel
theorem dX10_restores_64 : decode cX10_restores 64 = .ok (.iconst 4, 1) := by decide +kernel
theorem dX10_restores_65 : decode cX10_restores 65 = .ok (.iload 4, 2) := by decide +kernel
theorem dX10_restores_67 : decode cX10_restores 67 = .ok (.imul, 1) := by decide +kernel
theorem dX10_restores_68 : decode cX10_restores 68 = .ok (.iadd, 1) := by decide +kernel
theorem dX10_restores_69 : decode cX10_restores 69 = .ok (.iconst 2, 1) := by decide +kernel
theorem dX10_restores_70 : decode cX10_restores 70 = .ok (.iadd, 1) := by decide +kernel
theorem dX10_restores_71 : decode cX10_restores 71 = .ok (.iaload, 1) := by decide +kernel
theorem dX10_restores_72 : decode cX10_restores 72 = .ok (.iastore, 1) := by decide +kernel
theorem dX10_restores_73 : decode cX10_restores 73 = .ok (.aload_n 0, 1) := by decide +kernel
theorem dX10_restores_74 : decode cX10_restores 74 = .ok (.getfield 19, 3) := by decide +kernel
theorem dX10_restores_77 : decode cX10_restores 77 = .ok (.iload 4, 2) := by decide +kernel
theorem dX10_restores_79 : decode cX10_restores 79 = .ok (.aload_n 0, 1) := by decide +kernel
theorem dX10_restores_80 : decode cX10_restores 80 = .ok (.getfield 102, 3) := by decide +kernel
theorem dX10_restores_83 : decode cX10_restores 83 = .ok (.iload_n 3, 1) := by decide +kernel
theorem dX10_restores_84 : decode cX10_restores 84 = .ok (.iconst 4, 1) := by decide +kernel
theorem dX10_restores_85 : decode cX10_restores 85 = .ok (.iload 4, 2) := by decide +kernel
theorem dX10_restores_87 : decode cX10_restores 87 = .ok (.imul, 1) := by decide +kernel
theorem dX10_restores_88 : decode cX10_restores 88 = .ok (.iadd, 1) := by decide +kernel
theorem dX10_restores_89 : decode cX10_restores 89 = .ok (.iconst 3, 1) := by decide +kernel
theorem dX10_restores_90 : decode cX10_restores 90 = .ok (.iadd, 1) := by decide +kernel
theorem dX10_restores_91 : decode cX10_restores 91 = .ok (.iaload, 1) := by decide +kernel
theorem dX10_restores_92 : decode cX10_restores 92 = .ok (.iastore, 1) := by decide +kernel
theorem dX10_restores_93 : decode cX10_restores 93 = .ok (.iinc 4 1, 3) := by decide +kernel
theorem dX10_restores_96 : decode cX10_restores 96 = .ok (.goto (-88), 3) := by decide +kernel
theorem dX10_restores_99 : decode cX10_restores 99 = .ok (.aload_n 0, 1) := by decide +kernel
theorem dX10_restores_100 : decode cX10_restores 100 = .ok (.getfield 38, 3) := by decide +kernel
theorem dX10_restores_103 : decode cX10_restores 103 = .ok (.iload_n 2, 1) := by decide +kernel
theorem dX10_restores_104 : decode cX10_restores 104 = .ok (.aload_n 0, 1) := by decide +kernel
theorem dX10_restores_105 : decode cX10_restores 105 = .ok (.getfield 102, 3) := by decide +kernel
theorem dX10_restores_108 : decode cX10_restores 108 = .ok (.iload_n 3, 1) := by decide +kernel
theorem dX10_restores_109 : decode cX10_restores 109 = .ok (.bipush 24, 2) := by decide +kernel
theorem dX10_restores_111 : decode cX10_restores 111 = .ok (.iadd, 1) := by decide +kernel
theorem dX10_restores_112 : decode cX10_restores 112 = .ok (.iaload, 1) := by decide +kernel
theorem dX10_restores_113 : decode cX10_restores 113 = .ok (.iastore, 1) := by decide +kernel
theorem dX10_restores_114 : decode cX10_restores 114 = .ok (.aload_n 0, 1) := by decide +kernel
theorem dX10_restores_115 : decode cX10_restores 115 = .ok (.getfield 41, 3) := by decide +kernel
theorem dX10_restores_118 : decode cX10_restores 118 = .ok (.iload_n 2, 1) := by decide +kernel
theorem dX10_restores_119 : decode cX10_restores 119 = .ok (.aload_n 0, 1) := by decide +kernel
theorem dX10_restores_120 : decode cX10_restores 120 = .ok (.getfield 102, 3) := by decide +kernel
theorem dX10_restores_123 : decode cX10_restores 123 = .ok (.iload_n 3, 1) := by decide +kernel
theorem dX10_restores_124 : decode cX10_restores 124 = .ok (.bipush 25, 2) := by decide +kernel
theorem dX10_restores_126 : decode cX10_restores 126 = .ok (.iadd, 1) := by decide +kernel
theorem dX10_restores_127 : decode cX10_restores 127 = .ok (.iaload, 1) := by decide +kernel
theorem dX10_restores_128 : decode cX10_restores 128 = .ok (.iastore, 1) := by decide +kernel
theorem dX10_restores_129 : decode cX10_restores 129 = .ok (.return_, 1) := by decide +kernel
theorem dX10_thinks_0 : decode cX10_thinks 0 = .ok (.aload_n 0, 1) := by decide +kernel
theorem dX10_thinks_1 : decode cX10_thinks 1 = .ok (.iload_n 1, 1) := by decide +kernel
theorem dX10_thinks_2 : decode cX10_thinks 2 = .ok (.iload_n 2, 1) := by decide +kernel
theorem dX10_thinks_3 : decode cX10_thinks 3 = .ok (.iload_n 3, 1) := by decide +kernel
theorem dX10_thinks_4 : decode cX10_thinks 4 = .ok (.invokevirtual 137, 3) := by decide +kernel
theorem dX10_thinks_7 : decode cX10_thinks 7 = .ok (.istore 4, 2) := by decide +kernel
theorem dX10_thinks_9 : decode cX10_thinks 9 = .ok (.aload_n 0, 1) := by decide +kernel
theorem dX10_thinks_10 : decode cX10_thinks 10 = .ok (.getfield 7, 3) := by decide +kernel
theorem dX10_thinks_13 : decode cX10_thinks 13 = .ok (.iload_n 2, 1) := by decide +kernel
theorem dX10_thinks_14 : decode cX10_thinks 14 = .ok (.dup2, 1) := by decide +kernel
theorem dX10_thinks_15 : decode cX10_thinks 15 = .ok (.iaload, 1) := by decide +kernel
theorem dX10_thinks_16 : decode cX10_thinks 16 = .ok (.iload 4, 2) := by decide +kernel
theorem dX10_thinks_18 : decode cX10_thinks 18 = .ok (.isub, 1) := by decide +kernel
theorem dX10_thinks_19 : decode cX10_thinks 19 = .ok (.iastore, 1) := by decide +kernel
theorem dX10_thinks_20 : decode cX10_thinks 20 = .ok (.aload_n 0, 1) := by decide +kernel
theorem dX10_thinks_21 : decode cX10_thinks 21 = .ok (.getfield 38, 3) := by decide +kernel
theorem dX10_thinks_24 : decode cX10_thinks 24 = .ok (.iload_n 1, 1) := by decide +kernel
theorem dX10_thinks_25 : decode cX10_thinks 25 = .ok (.dup2, 1) := by decide +kernel
theorem dX10_thinks_26 : decode cX10_thinks 26 = .ok (.iaload, 1) := by decide +kernel
theorem dX10_thinks_27 : decode cX10_thinks 27 = .ok (.iload 4, 2) := by decide +kernel
theorem dX10_thinks_29 : decode cX10_thinks 29 = .ok (.iadd, 1) := by decide +kernel
theorem dX10_thinks_30 : decode cX10_thinks 30 = .ok (.iastore, 1) := by decide +kernel
theorem dX10_thinks_31 : decode cX10_thinks 31 = .ok (.aload_n 0, 1) := by decide +kernel
theorem dX10_thinks_32 : decode cX10_thinks 32 = .ok (.getfield 16, 3) := by decide +kernel
theorem dX10_thinks_35 : decode cX10_thinks 35 = .ok (.iload_n 2, 1) := by decide +kernel
theorem dX10_thinks_36 : decode cX10_thinks 36 = .ok (.dup2, 1) := by decide +kernel
theorem dX10_thinks_37 : decode cX10_thinks 37 = .ok (.iaload, 1) := by decide +kernel
theorem dX10_thinks_38 : decode cX10_thinks 38 = .ok (.iload_n 3, 1) := by decide +kernel
theorem dX10_thinks_39 : decode cX10_thinks 39 = .ok (.iadd, 1) := by decide +kernel
theorem dX10_thinks_40 : decode cX10_thinks 40 = .ok (.iastore, 1) := by decide +kernel
theorem dX10_thinks_41 : decode cX10_thinks 41 = .ok (.aload_n 0, 1) := by decide +kernel
theorem dX10_thinks_42 : decode cX10_thinks 42 = .ok (.getfield 16, 3) := by decide +kernel
theorem dX10_thinks_45 : decode cX10_thinks 45 = .ok (.iload_n 2, 1) := by decide +kernel
theorem dX10_thinks_46 : decode cX10_thinks 46 = .ok (.iaload, 1) := by decide +kernel
theorem dX10_thinks_47 : decode cX10_thinks 47 = .ok (.bipush 60, 2) := by decide +kernel
theorem dX10_thinks_49 : decode cX10_thinks 49 = .ok (.if_icmp .le 10, 3) := by decide +kernel
theorem dX10_thinks_52 : decode cX10_thinks 52 = .ok (.aload_n 0, 1) := by decide +kernel
theorem dX10_thinks_53 : decode cX10_thinks 53 = .ok (.getfield 19, 3) := by decide +kernel
theorem dX10_thinks_56 : decode cX10_thinks 56 = .ok (.iload_n 2, 1) := by decide +kernel
theorem dX10_thinks_57 : decode cX10_thinks 57 = .ok (.iconst 1, 1) := by decide +kernel
theorem dX10_thinks_58 : decode cX10_thinks 58 = .ok (.iastore, 1) := by decide +kernel
theorem dX10_thinks_59 : decode cX10_thinks 59 = .ok (.aload_n 0, 1) := by decide +kernel
theorem dX10_thinks_60 : decode cX10_thinks 60 = .ok (.getfield 13, 3) := by decide +kernel
theorem dX10_thinks_63 : decode cX10_thinks 63 = .ok (.iload_n 2, 1) := by decide +kernel
theorem dX10_thinks_64 : decode cX10_thinks 64 = .ok (.dup2, 1) := by decide +kernel
theorem dX10_thinks_65 : decode cX10_thinks 65 = .ok (.iaload, 1) := by decide +kernel
theorem dX10_thinks_66 : decode cX10_thinks 66 = .ok (.iload_n 3, 1) := by decide +kernel
theorem dX10_thinks_67 : decode cX10_thinks 67 = .ok (.isub, 1) := by decide +kernel
theorem dX10_thinks_68 : decode cX10_thinks 68 = .ok (.iastore, 1) := by decide +kernel
theorem dX10_thinks_69 : decode cX10_thinks 69 = .ok (.aload_n 0, 1) := by decide +kernel
theorem dX10_thinks_70 : decode cX10_thinks 70 = .ok (.getfield 13, 3) := by decide +kernel
theorem dX10_thinks_73 : decode cX10_thinks 73 = .ok (.iload_n 2, 1) := by decide +kernel
theorem dX10_thinks_74 : decode cX10_thinks 74 = .ok (.iaload, 1) := by decide +kernel
theorem dX10_thinks_75 : decode cX10_thinks 75 = .ok (.iconst 1, 1) := by decide +kernel
theorem dX10_thinks_76 : decode cX10_thinks 76 = .ok (.if_icmp .ge 17, 3) := by decide +kernel
theorem dX10_thinks_79 : decode cX10_thinks 79 = .ok (.aload_n 0, 1) := by decide +kernel
theorem dX10_thinks_80 : decode cX10_thinks 80 = .ok (.getfield 13, 3) := by decide +kernel
theorem dX10_thinks_83 : decode cX10_thinks 83 = .ok (.iload_n 2, 1) := by decide +kernel
theorem dX10_thinks_84 : decode cX10_thinks 84 = .ok (.iconst 0, 1) := by decide +kernel
theorem dX10_thinks_85 : decode cX10_thinks 85 = .ok (.iastore, 1) := by decide +kernel
theorem dX10_thinks_86 : decode cX10_thinks 86 = .ok (.aload_n 0, 1) := by decide +kernel
theorem dX10_thinks_87 : decode cX10_thinks 87 = .ok (.getfield 19, 3) := by decide +kernel
theorem dX10_thinks_90 : decode cX10_thinks 90 = .ok (.iload_n 2, 1) := by decide +kernel
theorem dX10_thinks_91 : decode cX10_thinks 91 = .ok (.iconst 2, 1) := by decide +kernel
theorem dX10_thinks_92 : decode cX10_thinks 92 = .ok (.iastore, 1) := by decide +kernel
theorem dX10_thinks_93 : decode cX10_thinks 93 = .ok (.aload_n 0, 1) := by decide +kernel
theorem dX10_thinks_94 : decode cX10_thinks 94 = .ok (.getfield 41, 3) := by decide +kernel
theorem dX10_thinks_97 : decode cX10_thinks 97 = .ok (.iload_n 1, 1) := by decide +kernel
theorem dX10_thinks_98 : decode cX10_thinks 98 = .ok (.dup2, 1) := by decide +kernel
theorem dX10_thinks_99 : decode cX10_thinks 99 = .ok (.iaload, 1) := by decide +kernel
theorem dX10_thinks_100 : decode cX10_thinks 100 = .ok (.aload_n 0, 1) := by decide +kernel
theorem dX10_thinks_101 : decode cX10_thinks 101 = .ok (.getfield 38, 3) := by decide +kernel
theorem dX10_thinks_104 : decode cX10_thinks 104 = .ok (.iload_n 1, 1) := by decide +kernel
theorem dX10_thinks_105 : decode cX10_thinks 105 = .ok (.iaload, 1) := by decide +kernel
theorem dX10_thinks_106 : decode cX10_thinks 106 = .ok (.aload_n 0, 1) := by decide +kernel
theorem dX10_thinks_107 : decode cX10_thinks 107 = .ok (.getfield 38, 3) := by decide +kernel
theorem dX10_thinks_110 : decode cX10_thinks 110 = .ok (.iload_n 1, 1) := by decide +kernel
theorem dX10_thinks_111 : decode cX10_thinks 111 = .ok (.iaload, 1) := by decide +kernel
theorem dX10_thinks_112 : decode cX10_thinks 112 = .ok (.bipush 8, 2) := by decide +kernel
theorem dX10_thinks_114 : decode cX10_thinks 114 = .ok (.idiv, 1) := by decide +kernel
theorem dX10_thinks_115 : decode cX10_thinks 115 = .ok (.isub, 1) := by decide +kernel
theorem dX10_thinks_116 : decode cX10_thinks 116 = .ok (.iadd, 1) := by decide +kernel
theorem dX10_thinks_117 : decode cX10_thinks 117 = .ok (.iastore, 1) := by decide +kernel
theorem dX10_thinks_118 : decode cX10_thinks 118 = .ok (.aload_n 0, 1) := by decide +kernel
theorem dX10_thinks_119 : decode cX10_thinks 119 = .ok (.getfield 38, 3) := by decide +kernel
theorem dX10_thinks_122 : decode cX10_thinks 122 = .ok (.iload_n 1, 1) := by decide +kernel
theorem dX10_thinks_123 : decode cX10_thinks 123 = .ok (.iconst 0, 1) := by decide +kernel
theorem dX10_thinks_124 : decode cX10_thinks 124 = .ok (.iastore, 1) := by decide +kernel
theorem dX10_thinks_125 : decode cX10_thinks 125 = .ok (.return_, 1) := by decide +kernel
theorem dX10_leads_0 : decode cX10_leads 0 = .ok (.iload_n 2, 1) := by decide +kernel
theorem dX10_leads_1 : decode cX10_leads 1 = .ok (.iload_n 3, 1) := by decide +kernel
theorem dX10_leads_2 : decode cX10_leads 2 = .ok (.if_icmp .ne 38, 3) := by decide +kernel
theorem dX10_leads_5 : decode cX10_leads 5 = .ok (.aload_n 0, 1) := by decide +kernel
theorem dX10_leads_6 : decode cX10_leads 6 = .ok (.getfield 38, 3) := by decide +kernel
theorem dX10_leads_9 : decode cX10_leads 9 = .ok (.iload_n 1, 1) := by decide +kernel
theorem dX10_leads_10 : decode cX10_leads 10 = .ok (.iaload, 1) := by decide +kernel
theorem dX10_leads_11 : decode cX10_leads 11 = .ok (.ifCond .ne 27, 3) := by decide +kernel
theorem dX10_leads_14 : decode cX10_leads 14 = .ok (.aload_n 0, 1) := by decide +kernel
theorem dX10_leads_15 : decode cX10_leads 15 = .ok (.iload_n 1, 1) := by decide +kernel
theorem dX10_leads_16 : decode cX10_leads 16 = .ok (.invokevirtual 322, 3) := by decide +kernel
theorem dX10_leads_19 : decode cX10_leads 19 = .ok (.iload 4, 2) := by decide +kernel
theorem dX10_leads_21 : decode cX10_leads 21 = .ok (.if_icmp .lt 17, 3) := by decide +kernel
theorem dX10_leads_24 : decode cX10_leads 24 = .ok (.aload_n 0, 1) := by decide +kernel
theorem dX10_leads_25 : decode cX10_leads 25 = .ok (.iload_n 1, 1) := by decide +kernel
theorem dX10_leads_26 : decode cX10_leads 26 = .ok (.invokevirtual 322, 3) := by decide +kernel
theorem dX10_leads_29 : decode cX10_leads 29 = .ok (.iload 5, 2) := by decide +kernel
theorem dX10_leads_31 : decode cX10_leads 31 = .ok (.if_icmp .gt 7, 3) := by decide +kernel
theorem dX10_leads_34 : decode cX10_leads 34 = .ok (.iconst 1, 1) := by decide +kernel
theorem dX10_leads_35 : decode cX10_leads 35 = .ok (.goto 4, 3) := by decide +kernel
theorem dX10_leads_38 : decode cX10_leads 38 = .ok (.iconst 0, 1) := by decide +kernel
theorem dX10_leads_39 : decode cX10_leads 39 = .ok (.ireturn, 1) := by decide +kernel
theorem dX10_leads_40 : decode cX10_leads 40 = .ok (.aload_n 0, 1) := by decide +kernel
theorem dX10_leads_41 : decode cX10_leads 41 = .ok (.iload_n 2, 1) := by decide +kernel
theorem dX10_leads_42 : decode cX10_leads 42 = .ok (.iload_n 1, 1) := by decide +kernel
theorem dX10_leads_43 : decode cX10_leads 43 = .ok (.invokevirtual 331, 3) := by decide +kernel
theorem dX10_leads_46 : decode cX10_leads 46 = .ok (.iconst 0, 1) := by decide +kernel
theorem dX10_leads_47 : decode cX10_leads 47 = .ok (.istore 6, 2) := by decide +kernel
theorem dX10_leads_49 : decode cX10_leads 49 = .ok (.iload 6, 2) := by decide +kernel
theorem dX10_leads_51 : decode cX10_leads 51 = .ok (.bipush 6, 2) := by decide +kernel
theorem dX10_leads_53 : decode cX10_leads 53 = .ok (.if_icmp .ge 118, 3) := by decide +kernel
theorem dX10_leads_56 : decode cX10_leads 56 = .ok (.iconst 1, 1) := by decide +kernel
theorem dX10_leads_57 : decode cX10_leads 57 = .ok (.istore 7, 2) := by decide +kernel
theorem dX10_leads_59 : decode cX10_leads 59 = .ok (.iload 7, 2) := by decide +kernel
theorem dX10_leads_61 : decode cX10_leads 61 = .ok (.bipush 8, 2) := by decide +kernel
theorem dX10_leads_63 : decode cX10_leads 63 = .ok (.if_icmp .gt 102, 3) := by decide +kernel
theorem dX10_leads_66 : decode cX10_leads 66 = .ok (.aload_n 0, 1) := by decide +kernel
theorem dX10_leads_67 : decode cX10_leads 67 = .ok (.getfield 19, 3) := by decide +kernel
theorem dX10_leads_70 : decode cX10_leads 70 = .ok (.iload 6, 2) := by decide +kernel
theorem dX10_leads_72 : decode cX10_leads 72 = .ok (.iaload, 1) := by decide +kernel
theorem dX10_leads_73 : decode cX10_leads 73 = .ok (.iconst 2, 1) := by decide +kernel
theorem dX10_leads_74 : decode cX10_leads 74 = .ok (.if_icmp .eq 82, 3) := by decide +kernel
theorem dX10_leads_77 : decode cX10_leads 77 = .ok (.aload_n 0, 1) := by decide +kernel
theorem dX10_leads_78 : decode cX10_leads 78 = .ok (.iload_n 1, 1) := by decide +kernel
theorem dX10_leads_79 : decode cX10_leads 79 = .ok (.iload 6, 2) := by decide +kernel
theorem dX10_leads_81 : decode cX10_leads 81 = .ok (.iload 7, 2) := by decide +kernel
theorem dX10_leads_83 : decode cX10_leads 83 = .ok (.invokevirtual 137, 3) := by decide +kernel
theorem dX10_leads_86 : decode cX10_leads 86 = .ok (.ifCond .ne 6, 3) := by decide +kernel
theorem dX10_leads_89 : decode cX10_leads 89 = .ok (.goto 67, 3) := by decide +kernel
theorem dX10_leads_92 : decode cX10_leads 92 = .ok (.aload_n 0, 1) := by decide +kernel
theorem dX10_leads_93 : decode cX10_leads 93 = .ok (.iload_n 1, 1) := by decide +kernel
theorem dX10_leads_94 : decode cX10_leads 94 = .ok (.iload 6, 2) := by decide +kernel
theorem dX10_leads_96 : decode cX10_leads 96 = .ok (.iload 7, 2) := by decide +kernel
theorem dX10_leads_98 : decode cX10_leads 98 = .ok (.invokevirtual 335, 3) := by decide +kernel
theorem dX10_leads_101 : decode cX10_leads 101 = .ok (.aload_n 0, 1) := by decide +kernel
theorem dX10_leads_102 : decode cX10_leads 102 = .ok (.getfield 93, 3) := by decide +kernel
theorem dX10_leads_105 : decode cX10_leads 105 = .ok (.iload_n 2, 1) := by decide +kernel
theorem dX10_leads_106 : decode cX10_leads 106 = .ok (.iload 6, 2) := by decide +kernel
theorem dX10_leads_108 : decode cX10_leads 108 = .ok (.iastore, 1) := by decide +kernel
theorem dX10_leads_109 : decode cX10_leads 109 = .ok (.aload_n 0, 1) := by decide +kernel
theorem dX10_leads_110 : decode cX10_leads 110 = .ok (.getfield 96, 3) := by decide +kernel
theorem dX10_leads_113 : decode cX10_leads 113 = .ok (.iload_n 2, 1) := by decide +kernel
theorem dX10_leads_114 : decode cX10_leads 114 = .ok (.iload 7, 2) := by decide +kernel
theorem dX10_leads_116 : decode cX10_leads 116 = .ok (.iastore, 1) := by decide +kernel
theorem dX10_leads_117 : decode cX10_leads 117 = .ok (.aload_n 0, 1) := by decide +kernel
theorem dX10_leads_118 : decode cX10_leads 118 = .ok (.getfield 99, 3) := by decide +kernel
theorem dX10_leads_121 : decode cX10_leads 121 = .ok (.iload_n 2, 1) := by decide +kernel
theorem dX10_leads_122 : decode cX10_leads 122 = .ok (.aload_n 0, 1) := by decide +kernel
theorem dX10_leads_123 : decode cX10_leads 123 = .ok (.iload_n 1, 1) := by decide +kernel
theorem dX10_leads_124 : decode cX10_leads 124 = .ok (.invokevirtual 322, 3) := by decide +kernel
theorem dX10_leads_127 : decode cX10_leads 127 = .ok (.iastore, 1) := by decide +kernel
theorem dX10_leads_128 : decode cX10_leads 128 = .ok (.aload_n 0, 1) := by decide +kernel
theorem dX10_leads_129 : decode cX10_leads 129 = .ok (.iload_n 1, 1) := by decide +kernel
theorem dX10_leads_130 : decode cX10_leads 130 = .ok (.iload_n 2, 1) := by decide +kernel
theorem dX10_leads_131 : decode cX10_leads 131 = .ok (.iconst 1, 1) := by decide +kernel
theorem dX10_leads_132 : decode cX10_leads 132 = .ok (.iadd, 1) := by decide +kernel
theorem dX10_leads_133 : decode cX10_leads 133 = .ok (.iload_n 3, 1) := by decide +kernel
theorem dX10_leads_134 : decode cX10_leads 134 = .ok (.iload 4, 2) := by decide +kernel
theorem dX10_leads_136 : decode cX10_leads 136 = .ok (.iload 5, 2) := by decide +kernel
theorem dX10_leads_138 : decode cX10_leads 138 = .ok (.invokevirtual 339, 3) := by decide +kernel
theorem dX10_leads_141 : decode cX10_leads 141 = .ok (.istore 8, 2) := by decide +kernel
theorem dX10_leads_143 : decode cX10_leads 143 = .ok (.aload_n 0, 1) := by decide +kernel
theorem dX10_leads_144 : decode cX10_leads 144 = .ok (.iload_n 2, 1) := by decide +kernel
theorem dX10_leads_145 : decode cX10_leads 145 = .ok (.iload_n 1, 1) := by decide +kernel
theorem dX10_leads_146 : decode cX10_leads 146 = .ok (.invokevirtual 343, 3) := by decide +kernel
theorem dX10_leads_149 : decode cX10_leads 149 = .ok (.iload 8, 2) := by decide +kernel
theorem dX10_leads_151 : decode cX10_leads 151 = .ok (.ifCond .eq 5, 3) := by decide +kernel
theorem dX10_leads_154 : decode cX10_leads 154 = .ok (.iconst 1, 1) := by decide +kernel
theorem dX10_leads_155 : decode cX10_leads 155 = .ok (.ireturn, 1) := by decide +kernel
theorem dX10_leads_156 : decode cX10_leads 156 = .ok (.iload 7, 2) := by decide +kernel
