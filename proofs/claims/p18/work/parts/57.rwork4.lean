/-! general: the reference's reader of texts: work, fault -/
set_option maxRecDepth 100000 in
theorem wd_1106 : Cond.constantLong "LearnLoansModel" 181 48 ∈ am_ws := am_wsi (List.mem_of_getElem? (i := 1106) (by rfl)) (by decide +kernel)
set_option maxRecDepth 100000 in
theorem wd_1107 : Cond.constantLong "LearnLoansModel" 183 57 ∈ am_ws := am_wsi (List.mem_of_getElem? (i := 1107) (by rfl)) (by decide +kernel)
set_option maxRecDepth 100000 in
theorem wd_909 : Cond.fieldLink "LearnLoansModel" 185 "LearnLoansModel" "faultAt" "I" ∈ am_ws := am_wsi (List.mem_of_getElem? (i := 909) (by rfl)) (by decide +kernel)
set_option maxRecDepth 100000 in
theorem wd_1120 : Cond.methodLink "LearnLoansModel" 190 yX8_factOf ∈ am_ws := am_wsi (List.mem_of_getElem? (i := 1120) (by rfl)) (by decide +kernel)
set_option maxRecDepth 100000 in
theorem wd_1121 : Cond.static yX8_factOf ∈ am_ws := am_wsi (List.mem_of_getElem? (i := 1121) (by rfl)) (by decide +kernel)
set_option maxRecDepth 100000 in
theorem wd_1122 : Cond.code yX8_factOf cX8_factOf 1 (some .int) ∈ am_ws := am_wsi (List.mem_of_getElem? (i := 1122) (by rfl)) (by decide +kernel)
set_option maxRecDepth 100000 in
theorem wd_1123 : Cond.methodLink "LearnLoansModel" 193 yX8_opened ∈ am_ws := am_wsi (List.mem_of_getElem? (i := 1123) (by rfl)) (by decide +kernel)
set_option maxRecDepth 100000 in
theorem wd_1125 : Cond.instanceMethod yX8_opened ∈ am_ws := am_wsi (List.mem_of_getElem? (i := 1125) (by rfl)) (by decide +kernel)
set_option maxRecDepth 100000 in
theorem wd_36 : Cond.selects "LearnLoansModel" yX8_opened yX8_opened ∈ am_ws := am_wsi (List.mem_of_getElem? (i := 36) (by rfl)) (by decide +kernel)
set_option maxRecDepth 100000 in
theorem wd_1126 : Cond.code yX8_opened cX8_opened 3 (some .int) ∈ am_ws := am_wsi (List.mem_of_getElem? (i := 1126) (by rfl)) (by decide +kernel)
set_option maxRecDepth 100000 in
theorem wd_1131 : Cond.methodLink "LearnLoansModel" 196 yX8_behind ∈ am_ws := am_wsi (List.mem_of_getElem? (i := 1131) (by rfl)) (by decide +kernel)
set_option maxRecDepth 100000 in
theorem wd_1133 : Cond.instanceMethod yX8_behind ∈ am_ws := am_wsi (List.mem_of_getElem? (i := 1133) (by rfl)) (by decide +kernel)
set_option maxRecDepth 100000 in
theorem wd_38 : Cond.selects "LearnLoansModel" yX8_behind yX8_behind ∈ am_ws := am_wsi (List.mem_of_getElem? (i := 38) (by rfl)) (by decide +kernel)
set_option maxRecDepth 100000 in
theorem wd_1134 : Cond.code yX8_behind cX8_behind 2 (some .boolean) ∈ am_ws := am_wsi (List.mem_of_getElem? (i := 1134) (by rfl)) (by decide +kernel)
theorem dX8_work_0 : decode cX8_work 0 = .ok (.sipush 3258, 3) := by decide +kernel
theorem dX8_work_3 : decode cX8_work 3 = .ok (.bipush 50, 2) := by decide +kernel
theorem dX8_work_5 : decode cX8_work 5 = .ok (.iload_n 1, 1) := by decide +kernel
theorem dX8_work_6 : decode cX8_work 6 = .ok (.imul, 1) := by decide +kernel
theorem dX8_work_7 : decode cX8_work 7 = .ok (.iadd, 1) := by decide +kernel
theorem dX8_work_8 : decode cX8_work 8 = .ok (.istore_n 2, 1) := by decide +kernel
theorem dX8_work_9 : decode cX8_work 9 = .ok (.aload_n 0, 1) := by decide +kernel
theorem dX8_work_10 : decode cX8_work 10 = .ok (.getfield 7, 3) := by decide +kernel
theorem dX8_work_13 : decode cX8_work 13 = .ok (.sipush 3508, 3) := by decide +kernel
theorem dX8_work_16 : decode cX8_work 16 = .ok (.iload_n 1, 1) := by decide +kernel
theorem dX8_work_17 : decode cX8_work 17 = .ok (.iadd, 1) := by decide +kernel
theorem dX8_work_18 : decode cX8_work 18 = .ok (.iaload, 1) := by decide +kernel
theorem dX8_work_19 : decode cX8_work 19 = .ok (.istore_n 3, 1) := by decide +kernel
theorem dX8_work_20 : decode cX8_work 20 = .ok (.aload_n 0, 1) := by decide +kernel
theorem dX8_work_21 : decode cX8_work 21 = .ok (.iconst 0, 1) := by decide +kernel
theorem dX8_work_22 : decode cX8_work 22 = .ok (.putfield 150, 3) := by decide +kernel
theorem dX8_work_25 : decode cX8_work 25 = .ok (.aload_n 0, 1) := by decide +kernel
theorem dX8_work_26 : decode cX8_work 26 = .ok (.iconst 0, 1) := by decide +kernel
theorem dX8_work_27 : decode cX8_work 27 = .ok (.putfield 153, 3) := by decide +kernel
theorem dX8_work_30 : decode cX8_work 30 = .ok (.iconst 1, 1) := by decide +kernel
theorem dX8_work_31 : decode cX8_work 31 = .ok (.istore 4, 2) := by decide +kernel
theorem dX8_work_33 : decode cX8_work 33 = .ok (.iconst 0, 1) := by decide +kernel
theorem dX8_work_34 : decode cX8_work 34 = .ok (.istore 5, 2) := by decide +kernel
theorem dX8_work_36 : decode cX8_work 36 = .ok (.iload 5, 2) := by decide +kernel
theorem dX8_work_38 : decode cX8_work 38 = .ok (.iload_n 3, 1) := by decide +kernel
theorem dX8_work_39 : decode cX8_work 39 = .ok (.if_icmp .ge 319, 3) := by decide +kernel
theorem dX8_work_42 : decode cX8_work 42 = .ok (.aload_n 0, 1) := by decide +kernel
theorem dX8_work_43 : decode cX8_work 43 = .ok (.getfield 7, 3) := by decide +kernel
theorem dX8_work_46 : decode cX8_work 46 = .ok (.iload_n 2, 1) := by decide +kernel
theorem dX8_work_47 : decode cX8_work 47 = .ok (.iload 5, 2) := by decide +kernel
theorem dX8_work_49 : decode cX8_work 49 = .ok (.iadd, 1) := by decide +kernel
theorem dX8_work_50 : decode cX8_work 50 = .ok (.iaload, 1) := by decide +kernel
theorem dX8_work_51 : decode cX8_work 51 = .ok (.istore 6, 2) := by decide +kernel
theorem dX8_work_53 : decode cX8_work 53 = .ok (.iload 6, 2) := by decide +kernel
theorem dX8_work_55 : decode cX8_work 55 = .ok (.bipush 32, 2) := by decide +kernel
theorem dX8_work_57 : decode cX8_work 57 = .ok (.if_icmp .ne 9, 3) := by decide +kernel
theorem dX8_work_60 : decode cX8_work 60 = .ok (.iinc 5 1, 3) := by decide +kernel
theorem dX8_work_63 : decode cX8_work 63 = .ok (.goto 292, 3) := by decide +kernel
theorem dX8_work_66 : decode cX8_work 66 = .ok (.iload 4, 2) := by decide +kernel
theorem dX8_work_68 : decode cX8_work 68 = .ok (.ifCond .eq 117, 3) := by decide +kernel
theorem dX8_work_71 : decode cX8_work 71 = .ok (.iload 6, 2) := by decide +kernel
theorem dX8_work_73 : decode cX8_work 73 = .ok (.i2l, 1) := by decide +kernel
theorem dX8_work_74 : decode cX8_work 74 = .ok (.ldc2_w 181, 3) := by decide +kernel
theorem dX8_work_77 : decode cX8_work 77 = .ok (.ldc2_w 183, 3) := by decide +kernel
theorem dX8_work_80 : decode cX8_work 80 = .ok (.invokestatic 66, 3) := by decide +kernel
theorem dX8_work_83 : decode cX8_work 83 = .ok (.ifCond .eq 102, 3) := by decide +kernel
theorem dX8_work_86 : decode cX8_work 86 = .ok (.iload 5, 2) := by decide +kernel
theorem dX8_work_88 : decode cX8_work 88 = .ok (.istore 7, 2) := by decide +kernel
theorem dX8_work_90 : decode cX8_work 90 = .ok (.lconst 0, 1) := by decide +kernel
theorem dX8_work_91 : decode cX8_work 91 = .ok (.lstore 8, 2) := by decide +kernel
theorem dX8_work_93 : decode cX8_work 93 = .ok (.iload 5, 2) := by decide +kernel
theorem dX8_work_95 : decode cX8_work 95 = .ok (.iload_n 3, 1) := by decide +kernel
theorem dX8_work_96 : decode cX8_work 96 = .ok (.if_icmp .ge 77, 3) := by decide +kernel
theorem dX8_work_99 : decode cX8_work 99 = .ok (.aload_n 0, 1) := by decide +kernel
theorem dX8_work_100 : decode cX8_work 100 = .ok (.getfield 7, 3) := by decide +kernel
theorem dX8_work_103 : decode cX8_work 103 = .ok (.iload_n 2, 1) := by decide +kernel
theorem dX8_work_104 : decode cX8_work 104 = .ok (.iload 5, 2) := by decide +kernel
theorem dX8_work_106 : decode cX8_work 106 = .ok (.iadd, 1) := by decide +kernel
theorem dX8_work_107 : decode cX8_work 107 = .ok (.iaload, 1) := by decide +kernel
theorem dX8_work_108 : decode cX8_work 108 = .ok (.i2l, 1) := by decide +kernel
theorem dX8_work_109 : decode cX8_work 109 = .ok (.ldc2_w 181, 3) := by decide +kernel
theorem dX8_work_112 : decode cX8_work 112 = .ok (.ldc2_w 183, 3) := by decide +kernel
theorem dX8_work_115 : decode cX8_work 115 = .ok (.invokestatic 66, 3) := by decide +kernel
theorem dX8_work_118 : decode cX8_work 118 = .ok (.ifCond .eq 55, 3) := by decide +kernel
theorem dX8_work_121 : decode cX8_work 121 = .ok (.iload 5, 2) := by decide +kernel
theorem dX8_work_123 : decode cX8_work 123 = .ok (.iload 7, 2) := by decide +kernel
theorem dX8_work_125 : decode cX8_work 125 = .ok (.isub, 1) := by decide +kernel
theorem dX8_work_126 : decode cX8_work 126 = .ok (.bipush 6, 2) := by decide +kernel
theorem dX8_work_128 : decode cX8_work 128 = .ok (.if_icmp .ne 16, 3) := by decide +kernel
theorem dX8_work_131 : decode cX8_work 131 = .ok (.aload_n 0, 1) := by decide +kernel
theorem dX8_work_132 : decode cX8_work 132 = .ok (.bipush 10, 2) := by decide +kernel
theorem dX8_work_134 : decode cX8_work 134 = .ok (.iload 7, 2) := by decide +kernel
theorem dX8_work_136 : decode cX8_work 136 = .ok (.imul, 1) := by decide +kernel
theorem dX8_work_137 : decode cX8_work 137 = .ok (.iconst 2, 1) := by decide +kernel
theorem dX8_work_138 : decode cX8_work 138 = .ok (.iadd, 1) := by decide +kernel
theorem dX8_work_139 : decode cX8_work 139 = .ok (.putfield 185, 3) := by decide +kernel
theorem dX8_work_142 : decode cX8_work 142 = .ok (.iconst 0, 1) := by decide +kernel
theorem dX8_work_143 : decode cX8_work 143 = .ok (.ireturn, 1) := by decide +kernel
theorem dX8_work_144 : decode cX8_work 144 = .ok (.ldc2_w 188, 3) := by decide +kernel
theorem dX8_work_147 : decode cX8_work 147 = .ok (.lload 8, 2) := by decide +kernel
theorem dX8_work_149 : decode cX8_work 149 = .ok (.lmul, 1) := by decide +kernel
theorem dX8_work_150 : decode cX8_work 150 = .ok (.aload_n 0, 1) := by decide +kernel
theorem dX8_work_151 : decode cX8_work 151 = .ok (.getfield 7, 3) := by decide +kernel
theorem dX8_work_154 : decode cX8_work 154 = .ok (.iload_n 2, 1) := by decide +kernel
theorem dX8_work_155 : decode cX8_work 155 = .ok (.iload 5, 2) := by decide +kernel
theorem dX8_work_157 : decode cX8_work 157 = .ok (.iadd, 1) := by decide +kernel
theorem dX8_work_158 : decode cX8_work 158 = .ok (.iaload, 1) := by decide +kernel
theorem dX8_work_159 : decode cX8_work 159 = .ok (.i2l, 1) := by decide +kernel
theorem dX8_work_160 : decode cX8_work 160 = .ok (.ladd, 1) := by decide +kernel
theorem dX8_work_161 : decode cX8_work 161 = .ok (.ldc2_w 181, 3) := by decide +kernel
theorem dX8_work_164 : decode cX8_work 164 = .ok (.lsub, 1) := by decide +kernel
theorem dX8_work_165 : decode cX8_work 165 = .ok (.lstore 8, 2) := by decide +kernel
theorem dX8_work_167 : decode cX8_work 167 = .ok (.iinc 5 1, 3) := by decide +kernel
theorem dX8_work_170 : decode cX8_work 170 = .ok (.goto (-77), 3) := by decide +kernel
theorem dX8_work_173 : decode cX8_work 173 = .ok (.aload_n 0, 1) := by decide +kernel
theorem dX8_work_174 : decode cX8_work 174 = .ok (.lload 8, 2) := by decide +kernel
theorem dX8_work_176 : decode cX8_work 176 = .ok (.invokevirtual 177, 3) := by decide +kernel
theorem dX8_work_179 : decode cX8_work 179 = .ok (.iconst 0, 1) := by decide +kernel
theorem dX8_work_180 : decode cX8_work 180 = .ok (.istore 4, 2) := by decide +kernel
theorem dX8_work_182 : decode cX8_work 182 = .ok (.goto 173, 3) := by decide +kernel
theorem dX8_work_185 : decode cX8_work 185 = .ok (.iload 4, 2) := by decide +kernel
theorem dX8_work_187 : decode cX8_work 187 = .ok (.ifCond .eq 34, 3) := by decide +kernel
theorem dX8_work_190 : decode cX8_work 190 = .ok (.iload 6, 2) := by decide +kernel
theorem dX8_work_192 : decode cX8_work 192 = .ok (.invokestatic 190, 3) := by decide +kernel
theorem dX8_work_195 : decode cX8_work 195 = .ok (.ifCond .lt 26, 3) := by decide +kernel
theorem dX8_work_198 : decode cX8_work 198 = .ok (.aload_n 0, 1) := by decide +kernel
theorem dX8_work_199 : decode cX8_work 199 = .ok (.aload_n 0, 1) := by decide +kernel
theorem dX8_work_200 : decode cX8_work 200 = .ok (.getfield 27, 3) := by decide +kernel
theorem dX8_work_203 : decode cX8_work 203 = .ok (.iload 6, 2) := by decide +kernel
theorem dX8_work_205 : decode cX8_work 205 = .ok (.invokestatic 190, 3) := by decide +kernel
theorem dX8_work_208 : decode cX8_work 208 = .ok (.laload, 1) := by decide +kernel
theorem dX8_work_209 : decode cX8_work 209 = .ok (.invokevirtual 177, 3) := by decide +kernel
theorem dX8_work_212 : decode cX8_work 212 = .ok (.iconst 0, 1) := by decide +kernel
theorem dX8_work_213 : decode cX8_work 213 = .ok (.istore 4, 2) := by decide +kernel
theorem dX8_work_215 : decode cX8_work 215 = .ok (.iinc 5 1, 3) := by decide +kernel
theorem dX8_work_218 : decode cX8_work 218 = .ok (.goto 137, 3) := by decide +kernel
theorem dX8_work_221 : decode cX8_work 221 = .ok (.iload 4, 2) := by decide +kernel
theorem dX8_work_223 : decode cX8_work 223 = .ok (.ifCond .eq 44, 3) := by decide +kernel
theorem dX8_work_226 : decode cX8_work 226 = .ok (.iload 6, 2) := by decide +kernel
theorem dX8_work_228 : decode cX8_work 228 = .ok (.bipush 40, 2) := by decide +kernel
theorem dX8_work_230 : decode cX8_work 230 = .ok (.if_icmp .ne 37, 3) := by decide +kernel
theorem dX8_work_233 : decode cX8_work 233 = .ok (.aload_n 0, 1) := by decide +kernel
theorem dX8_work_234 : decode cX8_work 234 = .ok (.invokevirtual 193, 3) := by decide +kernel
theorem dX8_work_237 : decode cX8_work 237 = .ok (.bipush 8, 2) := by decide +kernel
theorem dX8_work_239 : decode cX8_work 239 = .ok (.if_icmp .ne 16, 3) := by decide +kernel
theorem dX8_work_242 : decode cX8_work 242 = .ok (.aload_n 0, 1) := by decide +kernel
theorem dX8_work_243 : decode cX8_work 243 = .ok (.bipush 10, 2) := by decide +kernel
theorem dX8_work_245 : decode cX8_work 245 = .ok (.iload 5, 2) := by decide +kernel
theorem dX8_work_247 : decode cX8_work 247 = .ok (.imul, 1) := by decide +kernel
theorem dX8_work_248 : decode cX8_work 248 = .ok (.iconst 3, 1) := by decide +kernel
theorem dX8_work_249 : decode cX8_work 249 = .ok (.iadd, 1) := by decide +kernel
theorem dX8_work_250 : decode cX8_work 250 = .ok (.putfield 185, 3) := by decide +kernel
theorem dX8_work_253 : decode cX8_work 253 = .ok (.iconst 0, 1) := by decide +kernel
theorem dX8_work_254 : decode cX8_work 254 = .ok (.ireturn, 1) := by decide +kernel
theorem dX8_work_255 : decode cX8_work 255 = .ok (.aload_n 0, 1) := by decide +kernel
theorem dX8_work_256 : decode cX8_work 256 = .ok (.bipush 40, 2) := by decide +kernel
theorem dX8_work_258 : decode cX8_work 258 = .ok (.invokevirtual 171, 3) := by decide +kernel
theorem dX8_work_261 : decode cX8_work 261 = .ok (.iinc 5 1, 3) := by decide +kernel
theorem dX8_work_264 : decode cX8_work 264 = .ok (.goto 91, 3) := by decide +kernel
theorem dX8_work_267 : decode cX8_work 267 = .ok (.iload 4, 2) := by decide +kernel
theorem dX8_work_269 : decode cX8_work 269 = .ok (.ifCond .eq 39, 3) := by decide +kernel
theorem dX8_work_272 : decode cX8_work 272 = .ok (.iload 6, 2) := by decide +kernel
theorem dX8_work_274 : decode cX8_work 274 = .ok (.bipush 33, 2) := by decide +kernel
theorem dX8_work_276 : decode cX8_work 276 = .ok (.if_icmp .eq 10, 3) := by decide +kernel
theorem dX8_work_279 : decode cX8_work 279 = .ok (.iload 6, 2) := by decide +kernel
theorem dX8_work_281 : decode cX8_work 281 = .ok (.bipush 45, 2) := by decide +kernel
theorem dX8_work_283 : decode cX8_work 283 = .ok (.if_icmp .ne 25, 3) := by decide +kernel
theorem dX8_work_286 : decode cX8_work 286 = .ok (.aload_n 0, 1) := by decide +kernel
theorem dX8_work_287 : decode cX8_work 287 = .ok (.iload 6, 2) := by decide +kernel
theorem dX8_work_289 : decode cX8_work 289 = .ok (.bipush 33, 2) := by decide +kernel
theorem dX8_work_291 : decode cX8_work 291 = .ok (.if_icmp .ne 7, 3) := by decide +kernel
theorem dX8_work_294 : decode cX8_work 294 = .ok (.iconst 1, 1) := by decide +kernel
theorem dX8_work_295 : decode cX8_work 295 = .ok (.goto 4, 3) := by decide +kernel
theorem dX8_work_298 : decode cX8_work 298 = .ok (.iconst 2, 1) := by decide +kernel
theorem dX8_work_299 : decode cX8_work 299 = .ok (.invokevirtual 171, 3) := by decide +kernel
theorem dX8_work_302 : decode cX8_work 302 = .ok (.iinc 5 1, 3) := by decide +kernel
theorem dX8_work_305 : decode cX8_work 305 = .ok (.goto 50, 3) := by decide +kernel
theorem dX8_work_308 : decode cX8_work 308 = .ok (.iload 4, 2) := by decide +kernel
theorem dX8_work_310 : decode cX8_work 310 = .ok (.ifCond .ne 32, 3) := by decide +kernel
theorem dX8_work_313 : decode cX8_work 313 = .ok (.aload_n 0, 1) := by decide +kernel
theorem dX8_work_314 : decode cX8_work 314 = .ok (.iload 6, 2) := by decide +kernel
theorem dX8_work_316 : decode cX8_work 316 = .ok (.invokevirtual 196, 3) := by decide +kernel
theorem dX8_work_319 : decode cX8_work 319 = .ok (.ifCond .eq 23, 3) := by decide +kernel
theorem dX8_work_322 : decode cX8_work 322 = .ok (.iload 6, 2) := by decide +kernel
theorem dX8_work_324 : decode cX8_work 324 = .ok (.bipush 41, 2) := by decide +kernel
theorem dX8_work_326 : decode cX8_work 326 = .ok (.if_icmp .eq 7, 3) := by decide +kernel
theorem dX8_work_329 : decode cX8_work 329 = .ok (.iconst 1, 1) := by decide +kernel
theorem dX8_work_330 : decode cX8_work 330 = .ok (.goto 4, 3) := by decide +kernel
theorem dX8_work_333 : decode cX8_work 333 = .ok (.iconst 0, 1) := by decide +kernel
theorem dX8_work_334 : decode cX8_work 334 = .ok (.istore 4, 2) := by decide +kernel
theorem dX8_work_336 : decode cX8_work 336 = .ok (.iinc 5 1, 3) := by decide +kernel
theorem dX8_work_339 : decode cX8_work 339 = .ok (.goto 16, 3) := by decide +kernel
theorem dX8_work_342 : decode cX8_work 342 = .ok (.aload_n 0, 1) := by decide +kernel
theorem dX8_work_343 : decode cX8_work 343 = .ok (.bipush 10, 2) := by decide +kernel
theorem dX8_work_345 : decode cX8_work 345 = .ok (.iload 5, 2) := by decide +kernel
theorem dX8_work_347 : decode cX8_work 347 = .ok (.imul, 1) := by decide +kernel
theorem dX8_work_348 : decode cX8_work 348 = .ok (.iconst 1, 1) := by decide +kernel
theorem dX8_work_349 : decode cX8_work 349 = .ok (.iadd, 1) := by decide +kernel
theorem dX8_work_350 : decode cX8_work 350 = .ok (.putfield 185, 3) := by decide +kernel
theorem dX8_work_353 : decode cX8_work 353 = .ok (.iconst 0, 1) := by decide +kernel
theorem dX8_work_354 : decode cX8_work 354 = .ok (.ireturn, 1) := by decide +kernel
theorem dX8_work_355 : decode cX8_work 355 = .ok (.goto (-319), 3) := by decide +kernel
theorem dX8_work_358 : decode cX8_work 358 = .ok (.iload 4, 2) := by decide +kernel
theorem dX8_work_360 : decode cX8_work 360 = .ok (.ifCond .ne 7, 3) := by decide +kernel
theorem dX8_work_363 : decode cX8_work 363 = .ok (.aload_n 0, 1) := by decide +kernel
theorem dX8_work_364 : decode cX8_work 364 = .ok (.invokevirtual 174, 3) := by decide +kernel
theorem dX8_work_367 : decode cX8_work 367 = .ok (.aload_n 0, 1) := by decide +kernel
theorem dX8_work_368 : decode cX8_work 368 = .ok (.bipush 10, 2) := by decide +kernel
theorem dX8_work_370 : decode cX8_work 370 = .ok (.iload_n 3, 1) := by decide +kernel
theorem dX8_work_371 : decode cX8_work 371 = .ok (.imul, 1) := by decide +kernel
theorem dX8_work_372 : decode cX8_work 372 = .ok (.iconst 1, 1) := by decide +kernel
theorem dX8_work_373 : decode cX8_work 373 = .ok (.iadd, 1) := by decide +kernel
theorem dX8_work_374 : decode cX8_work 374 = .ok (.putfield 185, 3) := by decide +kernel
theorem dX8_work_377 : decode cX8_work 377 = .ok (.iload 4, 2) := by decide +kernel
theorem dX8_work_379 : decode cX8_work 379 = .ok (.ifCond .ne 14, 3) := by decide +kernel
theorem dX8_work_382 : decode cX8_work 382 = .ok (.aload_n 0, 1) := by decide +kernel
theorem dX8_work_383 : decode cX8_work 383 = .ok (.getfield 150, 3) := by decide +kernel
theorem dX8_work_386 : decode cX8_work 386 = .ok (.ifCond .ne 7, 3) := by decide +kernel
theorem dX8_work_389 : decode cX8_work 389 = .ok (.iconst 1, 1) := by decide +kernel
theorem dX8_work_390 : decode cX8_work 390 = .ok (.goto 4, 3) := by decide +kernel
theorem dX8_work_393 : decode cX8_work 393 = .ok (.iconst 0, 1) := by decide +kernel
theorem dX8_work_394 : decode cX8_work 394 = .ok (.ireturn, 1) := by decide +kernel
def kX8_work (live : am_E) (Ret : am_R) : am_code := [(0, am_const (.int 3258) 3), (3, am_const (.int 50) 5), (5, am_iload 1 6), (6, am_i2 (fun x y => x * y) 7), (7, am_i2 (fun x y => x + y) 8), (8, am_istore 2 10 9), (9, am_aload 0 10), (10, am_getR live 8 0 13), (13, am_const (.int 3508) 16), (16, am_iload 1 17), (17, am_i2 (fun x y => x + y) 18), (18, am_ald live 0 19), (19, am_istore 3 10 20), (20, am_aload 0 21), (21, am_const (.int 0) 22), (22, am_putI live 8 11 25), (25, am_aload 0 26), (26, am_const (.int 0) 27), (27, am_putI live 8 12 30), (30, am_const (.int 1) 31), (31, am_istore 4 10 33), (33, am_const (.int 0) 34), (34, am_istore 5 10 36), (36, am_iload 5 38), (38, am_iload 3 39), (39, am_if2 (fun x y => y ≤ x) 358 42), (42, am_aload 0 43), (43, am_getR live 8 0 46), (46, am_iload 2 47), (47, am_iload 5 49), (49, am_i2 (fun x y => x + y) 50), (50, am_ald live 0 51), (51, am_istore 6 10 53), (53, am_iload 6 55), (55, am_const (.int 32) 57), (57, am_if2 (fun x y => x = y) 60 66), (60, am_iinc 5 10 1 63), (63, am_goto 355), (66, am_iload 4 68), (68, am_if1 (fun x => x = 0) 185 71), (71, am_iload 6 73), (73, am_i2l 74), (74, am_const (.long 48) 77), (77, am_const (.long 57) 80), (80, am_callS live 3 TX8_in 83), (83, am_if1 (fun x => x = 0) 185 86), (86, am_iload 5 88), (88, am_istore 7 10 90), (90, am_const (.long 0) 91), (91, am_lstore 8 10 93), (93, am_iload 5 95), (95, am_iload 3 96), (96, am_if2 (fun x y => y ≤ x) 173 99), (99, am_aload 0 100), (100, am_getR live 8 0 103), (103, am_iload 2 104), (104, am_iload 5 106), (106, am_i2 (fun x y => x + y) 107), (107, am_ald live 0 108), (108, am_i2l 109), (109, am_const (.long 48) 112), (112, am_const (.long 57) 115), (115, am_callS live 3 TX8_in 118), (118, am_if1 (fun x => x = 0) 173 121), (121, am_iload 5 123), (123, am_iload 7 125), (125, am_i2 (fun x y => x - y) 126), (126, am_const (.int 6) 128), (128, am_if2 (fun x y => x = y) 131 144), (131, am_aload 0 132), (132, am_const (.int 10) 134), (134, am_iload 7 136), (136, am_i2 (fun x y => x * y) 137), (137, am_const (.int 2) 138), (138, am_i2 (fun x y => x + y) 139), (139, am_putI live 8 14 142), (142, am_const (.int 0) 143), (143, am_retZ Ret), (144, am_const (.long 10) 147), (147, am_lload 8 149), (149, am_l2 (fun x y => x * y) 150), (150, am_aload 0 151), (151, am_getR live 8 0 154), (154, am_iload 2 155), (155, am_iload 5 157), (157, am_i2 (fun x y => x + y) 158), (158, am_ald live 0 159), (159, am_i2l 160), (160, am_l2 (fun x y => x + y) 161), (161, am_const (.long 48) 164), (164, am_l2 (fun x y => x - y) 165), (165, am_lstore 8 10 167), (167, am_iinc 5 10 1 170), (170, am_goto 93), (173, am_aload 0 174), (174, am_lload 8 176), (176, am_callV live 8 1 TX8_lay 179), (179, am_const (.int 0) 180), (180, am_istore 4 10 182), (182, am_goto 355), (185, am_iload 4 187), (187, am_if1 (fun x => x = 0) 221 190), (190, am_iload 6 192), (192, am_callS live 1 TX8_factOf 195), (195, am_if1 (fun x => x < 0) 221 198), (198, am_aload 0 199), (199, am_aload 0 200), (200, am_getR live 8 13 203), (203, am_iload 6 205), (205, am_callS live 1 TX8_factOf 208), (208, am_lald live 1 209), (209, am_callV live 8 1 TX8_lay 212), (212, am_const (.int 0) 213), (213, am_istore 4 10 215), (215, am_iinc 5 10 1 218), (218, am_goto 355), (221, am_iload 4 223), (223, am_if1 (fun x => x = 0) 267 226), (226, am_iload 6 228), (228, am_const (.int 40) 230), (230, am_if2 (fun x y => x = y) 233 267), (233, am_aload 0 234), (234, am_callV live 8 0 TX8_opened 237), (237, am_const (.int 8) 239), (239, am_if2 (fun x y => x = y) 242 255), (242, am_aload 0 243), (243, am_const (.int 10) 245), (245, am_iload 5 247), (247, am_i2 (fun x y => x * y) 248), (248, am_const (.int 3) 249), (249, am_i2 (fun x y => x + y) 250), (250, am_putI live 8 14 253), (253, am_const (.int 0) 254), (254, am_retZ Ret), (255, am_aload 0 256), (256, am_const (.int 40) 258), (258, am_callV live 8 1 TX8_wait 261), (261, am_iinc 5 10 1 264), (264, am_goto 355), (267, am_iload 4 269), (269, am_if1 (fun x => x = 0) 308 272), (272, am_iload 6 274), (274, am_const (.int 33) 276), (276, am_if2 (fun x y => x = y) 286 279), (279, am_iload 6 281), (281, am_const (.int 45) 283), (283, am_if2 (fun x y => x = y) 286 308), (286, am_aload 0 287), (287, am_iload 6 289), (289, am_const (.int 33) 291), (291, am_if2 (fun x y => x = y) 294 298), (294, am_const (.int 1) 295), (295, am_goto 299), (298, am_const (.int 2) 299), (299, am_callV live 8 1 TX8_wait 302), (302, am_iinc 5 10 1 305), (305, am_goto 355), (308, am_iload 4 310), (310, am_if1 (fun x => x = 0) 313 342), (313, am_aload 0 314), (314, am_iload 6 316), (316, am_callV live 8 1 TX8_behind 319), (319, am_if1 (fun x => x = 0) 342 322), (322, am_iload 6 324), (324, am_const (.int 41) 326), (326, am_if2 (fun x y => x = y) 333 329), (329, am_const (.int 1) 330), (330, am_goto 334), (333, am_const (.int 0) 334), (334, am_istore 4 10 336), (336, am_iinc 5 10 1 339), (339, am_goto 355), (342, am_aload 0 343), (343, am_const (.int 10) 345), (345, am_iload 5 347), (347, am_i2 (fun x y => x * y) 348), (348, am_const (.int 1) 349), (349, am_i2 (fun x y => x + y) 350), (350, am_putI live 8 14 353), (353, am_const (.int 0) 354), (354, am_retZ Ret), (355, am_goto 36), (358, am_iload 4 360), (360, am_if1 (fun x => x = 0) 363 367), (363, am_aload 0 364), (364, am_callV live 8 0 TX8_choose 367), (367, am_aload 0 368), (368, am_const (.int 10) 370), (370, am_iload 3 371), (371, am_i2 (fun x y => x * y) 372), (372, am_const (.int 1) 373), (373, am_i2 (fun x y => x + y) 374), (374, am_putI live 8 14 377), (377, am_iload 4 379), (379, am_if1 (fun x => x = 0) 382 393), (382, am_aload 0 383), (383, am_getI live 8 11 386), (386, am_if1 (fun x => x = 0) 389 393), (389, am_const (.int 1) 390), (390, am_goto 394), (393, am_const (.int 0) 394), (394, am_retZ Ret)]
theorem koX8_work (live : am_E) (Ret : am_R) : ∀ q ∈ kX8_work live Ret, am_ok RX8 cX8_work 10 (some .boolean) 5 106 live Ret q.1 q.2 :=
  am_kc (ak_sipush dX8_work_0 (by decide +kernel) rfl) <|
  am_kc (ak_bipush dX8_work_3 (by decide +kernel) rfl) <|
  am_kc (ak_iload_n dX8_work_5 rfl rfl) <|
  am_kc (ak_imul dX8_work_6 rfl) <|
  am_kc (ak_iadd dX8_work_7 rfl) <|
  am_kc (ak_istore_n dX8_work_8 rfl rfl) <|
  am_kc (ak_aload_n dX8_work_9 rfl rfl) <|
  am_kc (ak_getR (C := RX8) (T := TX8) (N := 27) rfl inX8w (by decide) rfl rfl rfl wd_895 dX8_work_10 rfl) <|
  am_kc (ak_sipush dX8_work_13 (by decide +kernel) rfl) <|
  am_kc (ak_iload_n dX8_work_16 rfl rfl) <|
  am_kc (ak_iadd dX8_work_17 rfl) <|
  am_kc (ak_iald (t := 0) (fun _ => rfl) rfl dX8_work_18 rfl) <|
  am_kc (ak_istore_n dX8_work_19 rfl rfl) <|
  am_kc (ak_aload_n dX8_work_20 rfl rfl) <|
  am_kc (ak_iconst dX8_work_21 (by decide +kernel) rfl) <|
  am_kc (ak_putI (C := RX8) (T := TX8) (N := 27) rfl inX8w tyX8_ok nmX8 (by decide) rfl rfl rfl rfl (by decide +kernel) wd_906 dX8_work_22 rfl) <|
  am_kc (ak_aload_n dX8_work_25 rfl rfl) <|
  am_kc (ak_iconst dX8_work_26 (by decide +kernel) rfl) <|
  am_kc (ak_putI (C := RX8) (T := TX8) (N := 27) rfl inX8w tyX8_ok nmX8 (by decide) rfl rfl rfl rfl (by decide +kernel) wd_907 dX8_work_27 rfl) <|
  am_kc (ak_iconst dX8_work_30 (by decide +kernel) rfl) <|
  am_kc (ak_istore dX8_work_31 rfl) <|
  am_kc (ak_iconst dX8_work_33 (by decide +kernel) rfl) <|
  am_kc (ak_istore dX8_work_34 rfl) <|
  am_kc (ak_iload dX8_work_36 rfl) <|
  am_kc (ak_iload_n dX8_work_38 rfl rfl) <|
  am_kc (ak_icmp_ge dX8_work_39 (by decide +kernel) rfl) <|
  am_kc (ak_aload_n dX8_work_42 rfl rfl) <|
  am_kc (ak_getR (C := RX8) (T := TX8) (N := 27) rfl inX8w (by decide) rfl rfl rfl wd_895 dX8_work_43 rfl) <|
  am_kc (ak_iload_n dX8_work_46 rfl rfl) <|
  am_kc (ak_iload dX8_work_47 rfl) <|
  am_kc (ak_iadd dX8_work_49 rfl) <|
  am_kc (ak_iald (t := 0) (fun _ => rfl) rfl dX8_work_50 rfl) <|
  am_kc (ak_istore dX8_work_51 rfl) <|
  am_kc (ak_iload dX8_work_53 rfl) <|
  am_kc (ak_bipush dX8_work_55 (by decide +kernel) rfl) <|
  am_kc (ak_icmp_ne dX8_work_57 (by decide +kernel) rfl) <|
  am_kc (ak_iinc dX8_work_60 (by decide +kernel) rfl) <|
  am_kc (ak_goto dX8_work_63 (by decide +kernel)) <|
  am_kc (ak_iload dX8_work_66 rfl) <|
  am_kc (ak_if_eq dX8_work_68 (by decide +kernel) rfl) <|
  am_kc (ak_iload dX8_work_71 rfl) <|
  am_kc (ak_i2l dX8_work_73 rfl) <|
  am_kc (ak_ldc2 wd_1106 dX8_work_74 rfl) <|
  am_kc (ak_ldc2 wd_1107 dX8_work_77 rfl) <|
  am_kc (ak_callS metX8_in ⟨rfl, by decide +kernel, by decide +kernel, by decide +kernel⟩ (am_w4 wd_986 wd_987 wd_67 wd_988) (by decide) dX8_work_80 rfl) <|
  am_kc (ak_if_eq dX8_work_83 (by decide +kernel) rfl) <|
  am_kc (ak_iload dX8_work_86 rfl) <|
  am_kc (ak_istore dX8_work_88 rfl) <|
  am_kc (ak_lconst dX8_work_90 (by decide +kernel) rfl) <|
  am_kc (ak_lstore dX8_work_91 rfl) <|
  am_kc (ak_iload dX8_work_93 rfl) <|
  am_kc (ak_iload_n dX8_work_95 rfl rfl) <|
  am_kc (ak_icmp_ge dX8_work_96 (by decide +kernel) rfl) <|
  am_kc (ak_aload_n dX8_work_99 rfl rfl) <|
  am_kc (ak_getR (C := RX8) (T := TX8) (N := 27) rfl inX8w (by decide) rfl rfl rfl wd_895 dX8_work_100 rfl) <|
  am_kc (ak_iload_n dX8_work_103 rfl rfl) <|
  am_kc (ak_iload dX8_work_104 rfl) <|
  am_kc (ak_iadd dX8_work_106 rfl) <|
  am_kc (ak_iald (t := 0) (fun _ => rfl) rfl dX8_work_107 rfl) <|
  am_kc (ak_i2l dX8_work_108 rfl) <|
  am_kc (ak_ldc2 wd_1106 dX8_work_109 rfl) <|
  am_kc (ak_ldc2 wd_1107 dX8_work_112 rfl) <|
  am_kc (ak_callS metX8_in ⟨rfl, by decide +kernel, by decide +kernel, by decide +kernel⟩ (am_w4 wd_986 wd_987 wd_67 wd_988) (by decide) dX8_work_115 rfl) <|
  am_kc (ak_if_eq dX8_work_118 (by decide +kernel) rfl) <|
  am_kc (ak_iload dX8_work_121 rfl) <|
  am_kc (ak_iload dX8_work_123 rfl) <|
  am_kc (ak_isub dX8_work_125 rfl) <|
  am_kc (ak_bipush dX8_work_126 (by decide +kernel) rfl) <|
  am_kc (ak_icmp_ne dX8_work_128 (by decide +kernel) rfl) <|
  am_kc (ak_aload_n dX8_work_131 rfl rfl) <|
  am_kc (ak_bipush dX8_work_132 (by decide +kernel) rfl) <|
  am_kc (ak_iload dX8_work_134 rfl) <|
  am_kc (ak_imul dX8_work_136 rfl) <|
  am_kc (ak_iconst dX8_work_137 (by decide +kernel) rfl) <|
  am_kc (ak_iadd dX8_work_138 rfl) <|
  am_kc (ak_putI (C := RX8) (T := TX8) (N := 27) rfl inX8w tyX8_ok nmX8 (by decide) rfl rfl rfl rfl (by decide +kernel) wd_909 dX8_work_139 rfl) <|
  am_kc (ak_iconst dX8_work_142 (by decide +kernel) rfl) <|
  am_kc (ak_retZ dX8_work_143) <|
  am_kc (ak_ldc2 wd_1108 dX8_work_144 rfl) <|
  am_kc (ak_lload dX8_work_147 rfl) <|
  am_kc (ak_lmul dX8_work_149 rfl) <|
  am_kc (ak_aload_n dX8_work_150 rfl rfl) <|
  am_kc (ak_getR (C := RX8) (T := TX8) (N := 27) rfl inX8w (by decide) rfl rfl rfl wd_895 dX8_work_151 rfl) <|
  am_kc (ak_iload_n dX8_work_154 rfl rfl) <|
  am_kc (ak_iload dX8_work_155 rfl) <|
  am_kc (ak_iadd dX8_work_157 rfl) <|
  am_kc (ak_iald (t := 0) (fun _ => rfl) rfl dX8_work_158 rfl) <|
  am_kc (ak_i2l dX8_work_159 rfl) <|
  am_kc (ak_ladd dX8_work_160 rfl) <|
  am_kc (ak_ldc2 wd_1106 dX8_work_161 rfl) <|
  am_kc (ak_lsub dX8_work_164 rfl) <|
  am_kc (ak_lstore dX8_work_165 rfl) <|
  am_kc (ak_iinc dX8_work_167 (by decide +kernel) rfl) <|
  am_kc (ak_goto dX8_work_170 (by decide +kernel)) <|
  am_kc (ak_aload_n dX8_work_173 rfl rfl) <|
  am_kc (ak_lload dX8_work_174 rfl) <|
  am_kc (ak_callV (C := RX8) (F := TX8) (N := 27) metX8_lay rfl ⟨rfl, by decide +kernel, by decide +kernel, by decide +kernel⟩ (am_w5 wd_1109 wd_1111 wd_34 wd_67 wd_1112) (by decide) dX8_work_176 rfl) <|
  am_kc (ak_iconst dX8_work_179 (by decide +kernel) rfl) <|
  am_kc (ak_istore dX8_work_180 rfl) <|
  am_kc (ak_goto dX8_work_182 (by decide +kernel)) <|
  am_kc (ak_iload dX8_work_185 rfl) <|
  am_kc (ak_if_eq dX8_work_187 (by decide +kernel) rfl) <|
  am_kc (ak_iload dX8_work_190 rfl) <|
  am_kc (ak_callS metX8_factOf ⟨rfl, by decide +kernel, by decide +kernel, by decide +kernel⟩ (am_w4 wd_1120 wd_1121 wd_67 wd_1122) (by decide) dX8_work_192 rfl) <|
  am_kc (ak_if_lt dX8_work_195 (by decide +kernel) rfl) <|
  am_kc (ak_aload_n dX8_work_198 rfl rfl) <|
  am_kc (ak_aload_n dX8_work_199 rfl rfl) <|
  am_kc (ak_getR (C := RX8) (T := TX8) (N := 27) rfl inX8w (by decide) rfl rfl rfl wd_908 dX8_work_200 rfl) <|
  am_kc (ak_iload dX8_work_203 rfl) <|
  am_kc (ak_callS metX8_factOf ⟨rfl, by decide +kernel, by decide +kernel, by decide +kernel⟩ (am_w4 wd_1120 wd_1121 wd_67 wd_1122) (by decide) dX8_work_205 rfl) <|
  am_kc (ak_lald (t := 1) (fun _ => rfl) rfl dX8_work_208 rfl) <|
  am_kc (ak_callV (C := RX8) (F := TX8) (N := 27) metX8_lay rfl ⟨rfl, by decide +kernel, by decide +kernel, by decide +kernel⟩ (am_w5 wd_1109 wd_1111 wd_34 wd_67 wd_1112) (by decide) dX8_work_209 rfl) <|
  am_kc (ak_iconst dX8_work_212 (by decide +kernel) rfl) <|
  am_kc (ak_istore dX8_work_213 rfl) <|
  am_kc (ak_iinc dX8_work_215 (by decide +kernel) rfl) <|
  am_kc (ak_goto dX8_work_218 (by decide +kernel)) <|
  am_kc (ak_iload dX8_work_221 rfl) <|
  am_kc (ak_if_eq dX8_work_223 (by decide +kernel) rfl) <|
  am_kc (ak_iload dX8_work_226 rfl) <|
  am_kc (ak_bipush dX8_work_228 (by decide +kernel) rfl) <|
  am_kc (ak_icmp_ne dX8_work_230 (by decide +kernel) rfl) <|
  am_kc (ak_aload_n dX8_work_233 rfl rfl) <|
  am_kc (ak_callV (C := RX8) (F := TX8) (N := 27) metX8_opened rfl ⟨rfl, by decide +kernel, by decide +kernel, by decide +kernel⟩ (am_w5 wd_1123 wd_1125 wd_36 wd_67 wd_1126) (by decide) dX8_work_234 rfl) <|
  am_kc (ak_bipush dX8_work_237 (by decide +kernel) rfl) <|
  am_kc (ak_icmp_ne dX8_work_239 (by decide +kernel) rfl) <|
  am_kc (ak_aload_n dX8_work_242 rfl rfl) <|
  am_kc (ak_bipush dX8_work_243 (by decide +kernel) rfl) <|
  am_kc (ak_iload dX8_work_245 rfl) <|
  am_kc (ak_imul dX8_work_247 rfl) <|
  am_kc (ak_iconst dX8_work_248 (by decide +kernel) rfl) <|
  am_kc (ak_iadd dX8_work_249 rfl) <|
  am_kc (ak_putI (C := RX8) (T := TX8) (N := 27) rfl inX8w tyX8_ok nmX8 (by decide) rfl rfl rfl rfl (by decide +kernel) wd_909 dX8_work_250 rfl) <|
  am_kc (ak_iconst dX8_work_253 (by decide +kernel) rfl) <|
  am_kc (ak_retZ dX8_work_254) <|
  am_kc (ak_aload_n dX8_work_255 rfl rfl) <|
  am_kc (ak_bipush dX8_work_256 (by decide +kernel) rfl) <|
  am_kc (ak_callV (C := RX8) (F := TX8) (N := 27) metX8_wait rfl ⟨rfl, by decide +kernel, by decide +kernel, by decide +kernel⟩ (am_w5 wd_1127 wd_1129 wd_37 wd_67 wd_1130) (by decide) dX8_work_258 rfl) <|
  am_kc (ak_iinc dX8_work_261 (by decide +kernel) rfl) <|
  am_kc (ak_goto dX8_work_264 (by decide +kernel)) <|
  am_kc (ak_iload dX8_work_267 rfl) <|
  am_kc (ak_if_eq dX8_work_269 (by decide +kernel) rfl) <|
  am_kc (ak_iload dX8_work_272 rfl) <|
  am_kc (ak_bipush dX8_work_274 (by decide +kernel) rfl) <|
  am_kc (ak_icmp_eq dX8_work_276 (by decide +kernel) rfl) <|
  am_kc (ak_iload dX8_work_279 rfl) <|
  am_kc (ak_bipush dX8_work_281 (by decide +kernel) rfl) <|
  am_kc (ak_icmp_ne dX8_work_283 (by decide +kernel) rfl) <|
  am_kc (ak_aload_n dX8_work_286 rfl rfl) <|
  am_kc (ak_iload dX8_work_287 rfl) <|
  am_kc (ak_bipush dX8_work_289 (by decide +kernel) rfl) <|
  am_kc (ak_icmp_ne dX8_work_291 (by decide +kernel) rfl) <|
  am_kc (ak_iconst dX8_work_294 (by decide +kernel) rfl) <|
  am_kc (ak_goto dX8_work_295 (by decide +kernel)) <|
  am_kc (ak_iconst dX8_work_298 (by decide +kernel) rfl) <|
  am_kc (ak_callV (C := RX8) (F := TX8) (N := 27) metX8_wait rfl ⟨rfl, by decide +kernel, by decide +kernel, by decide +kernel⟩ (am_w5 wd_1127 wd_1129 wd_37 wd_67 wd_1130) (by decide) dX8_work_299 rfl) <|
  am_kc (ak_iinc dX8_work_302 (by decide +kernel) rfl) <|
  am_kc (ak_goto dX8_work_305 (by decide +kernel)) <|
  am_kc (ak_iload dX8_work_308 rfl) <|
  am_kc (ak_if_ne dX8_work_310 (by decide +kernel) rfl) <|
  am_kc (ak_aload_n dX8_work_313 rfl rfl) <|
  am_kc (ak_iload dX8_work_314 rfl) <|
  am_kc (ak_callV (C := RX8) (F := TX8) (N := 27) metX8_behind rfl ⟨rfl, by decide +kernel, by decide +kernel, by decide +kernel⟩ (am_w5 wd_1131 wd_1133 wd_38 wd_67 wd_1134) (by decide) dX8_work_316 rfl) <|
  am_kc (ak_if_eq dX8_work_319 (by decide +kernel) rfl) <|
  am_kc (ak_iload dX8_work_322 rfl) <|
  am_kc (ak_bipush dX8_work_324 (by decide +kernel) rfl) <|
  am_kc (ak_icmp_eq dX8_work_326 (by decide +kernel) rfl) <|
  am_kc (ak_iconst dX8_work_329 (by decide +kernel) rfl) <|
  am_kc (ak_goto dX8_work_330 (by decide +kernel)) <|
  am_kc (ak_iconst dX8_work_333 (by decide +kernel) rfl) <|
  am_kc (ak_istore dX8_work_334 rfl) <|
  am_kc (ak_iinc dX8_work_336 (by decide +kernel) rfl) <|
  am_kc (ak_goto dX8_work_339 (by decide +kernel)) <|
  am_kc (ak_aload_n dX8_work_342 rfl rfl) <|
  am_kc (ak_bipush dX8_work_343 (by decide +kernel) rfl) <|
  am_kc (ak_iload dX8_work_345 rfl) <|
  am_kc (ak_imul dX8_work_347 rfl) <|
  am_kc (ak_iconst dX8_work_348 (by decide +kernel) rfl) <|
  am_kc (ak_iadd dX8_work_349 rfl) <|
  am_kc (ak_putI (C := RX8) (T := TX8) (N := 27) rfl inX8w tyX8_ok nmX8 (by decide) rfl rfl rfl rfl (by decide +kernel) wd_909 dX8_work_350 rfl) <|
  am_kc (ak_iconst dX8_work_353 (by decide +kernel) rfl) <|
  am_kc (ak_retZ dX8_work_354) <|
  am_kc (ak_goto dX8_work_355 (by decide +kernel)) <|
  am_kc (ak_iload dX8_work_358 rfl) <|
  am_kc (ak_if_ne dX8_work_360 (by decide +kernel) rfl) <|
  am_kc (ak_aload_n dX8_work_363 rfl rfl) <|
  am_kc (ak_callV (C := RX8) (F := TX8) (N := 27) metX8_choose rfl ⟨rfl, by decide +kernel, by decide +kernel, by decide +kernel⟩ (am_w5 wd_1145 wd_1147 wd_40 wd_67 wd_1148) (by decide) dX8_work_364 rfl) <|
  am_kc (ak_aload_n dX8_work_367 rfl rfl) <|
  am_kc (ak_bipush dX8_work_368 (by decide +kernel) rfl) <|
  am_kc (ak_iload_n dX8_work_370 rfl rfl) <|
  am_kc (ak_imul dX8_work_371 rfl) <|
  am_kc (ak_iconst dX8_work_372 (by decide +kernel) rfl) <|
  am_kc (ak_iadd dX8_work_373 rfl) <|
  am_kc (ak_putI (C := RX8) (T := TX8) (N := 27) rfl inX8w tyX8_ok nmX8 (by decide) rfl rfl rfl rfl (by decide +kernel) wd_909 dX8_work_374 rfl) <|
  am_kc (ak_iload dX8_work_377 rfl) <|
  am_kc (ak_if_ne dX8_work_379 (by decide +kernel) rfl) <|
  am_kc (ak_aload_n dX8_work_382 rfl rfl) <|
  am_kc (ak_getI (C := RX8) (T := TX8) (N := 27) rfl inX8w (by decide) rfl rfl rfl wd_906 dX8_work_383 rfl) <|
  am_kc (ak_if_ne dX8_work_386 (by decide +kernel) rfl) <|
  am_kc (ak_iconst dX8_work_389 (by decide +kernel) rfl) <|
  am_kc (ak_goto dX8_work_390 (by decide +kernel)) <|
  am_kc (ak_iconst dX8_work_393 (by decide +kernel) rfl) <|
  am_kc (ak_retZ dX8_work_394) <| am_kn
def r_dig (c : Int32) : Prop := (48 : Int64) ≤ c.toInt64 ∧ c.toInt64 ≤ (57 : Int64)
def r_du (du : Int32) : Nat := if du = 0 then 1 else 0
def TX8_work : am_T := fun live as M R => match as with
  | [.ref n, .int pl] => am_mn live ∧ n = 200 ∧ am_in pl 5 ∧ r_I M ∧ ∀ v M', r_sc M M' → r_I M' → R (some (.int v)) M'
  | _ => False
def r_wk36 (M0 M : am_M) (m du i : Int32) : Prop := (0 ≤ i.toInt ∧ i.toInt ≤ m.toInt ∧ m.toInt ≤ 50) ∧ (du = 0 ∨ du = 1) ∧ (∃ w0 : Nat, r_wI M (r_du du) w0 ∧ (w0 : Int) ≤ i.toInt) ∧ r_sc M0 M ∧ r_I M
def JX8_work : am_E → List Value → am_M → am_R → am_inv := fun live as M0 R pc => match as with
  | [.ref n, .int pl] => (match pc with
    | 36 => some ([0, 2, 3, 4, 5], fun k L st M => ∃ m du i : Int32, L = [(0, .ref 200), (2, .int (3258 + 50 * pl)), (3, .int m), (4, .int du), (5, .int i)] ∧ st = [] ∧ k = ((60 - i.toInt).toNat * 2 + 1, 0) ∧ r_wk36 M0 M m du i)
    | 93 => some ([0, 2, 3, 5, 7, 8], fun k L st M => ∃ (m i f : Int32) (v : Int64), L = [(0, .ref 200), (2, .int (3258 + 50 * pl)), (3, .int m), (5, .int i), (7, .int f), (8, .long v)] ∧ st = [] ∧ k = ((60 - f.toInt).toNat * 2, (60 - i.toInt).toNat) ∧ (f.toInt ≤ i.toInt ∧ f.toInt < m.toInt ∧ (i = f → r_dig (M.1 201 (3258 + 50 * pl + f).toNatClampNeg))) ∧ r_wk36 M0 M m 1 f ∧ i.toInt ≤ m.toInt)
    | _ => none)
  | _ => none
theorem r_36 {M0 M : am_M} {m du i : Int32} (h1 : 0 ≤ i.toInt ∧ i.toInt ≤ m.toInt ∧ m.toInt ≤ 50) (h2 : du = 0 ∨ du = 1) {w0 : Nat} (h3 : r_wI M (r_du du) w0) (h4 : (w0 : Int) ≤ i.toInt) (h5 : r_sc M0 M) (h6 : r_I M) : r_wk36 M0 M m du i := ⟨h1, h2, ⟨w0, h3, h4⟩, h5, h6⟩
set_option maxRecDepth 100000 in
set_option maxHeartbeats 4000000 in
theorem metX8_work : am_Met yX8_work cX8_work 10 (some .boolean) (5) (106) TX8_work := by
  refine am_met (own := RX8) (by decide +kernel) rfl kX8_work koX8_work 150 JX8_work ?_ ?_
  · intro live as M Ret h
    unfold TX8_work at h
    split at h
    · next n pl =>
      refine ⟨Nat.le_of_ble_eq_true rfl, ?_⟩
      change am_wp _ _ _ _ [(0, Value.ref n), (1, Value.int pl)] _ _
      obtain ⟨hmn, rfl, hp, hR, h⟩ := h
      have hmn2 := hmn
      obtain ⟨i1, i2, rfl⟩ := hmn2
      have l201 : am_len 201 = 3760 := rfl
      have p1 := hp.1
      have p2 := hp.2
      have ea := r_off (c := 3508) (x := pl) ⟨by decide, by decide⟩ ⟨by omega, by omega⟩
      simp only [Int32.reduceToInt] at ea
      have htx : 0 ≤ (M.1 201 (3508 + pl).toNatClampNeg).toInt ∧ (M.1 201 (3508 + pl).toNatClampNeg).toInt ≤ 50 := by
        have q := hR.tx (g_cl hp)
        have q2 := i_clamp (x := 3508 + pl) (by omega)
        have q3 := i_clamp (x := pl) p1
        rw [show (3508 + pl).toNatClampNeg = 3508 + pl.toNatClampNeg by omega]
        exact q
      repeat' (first | apply And.intro | exact rfl | intro hx | (refine Exists.intro _ (And.intro rfl ?_)))
      all_goals try first | (with_reducible change am_tI _ _) | (change Ret _ _) | (change Ret _ _ _) | (change Exists _)
      all_goals try dsimp only at *
      all_goals try exact absurd ‹(1000 : Int64) = 0› (by decide)
      all_goals first
        | omega
        | (rw [l201]; omega)
        | skip
      refine ⟨_, _, _, _, rfl, rfl, rfl, r_36 ⟨by decide, htx.1, htx.2⟩ (Or.inr rfl) (w0 := 0) ?_ (by decide) (by (repeat' (first | (with_reducible exact r_sc.rf) | (with_reducible assumption) | ((with_reducible change r_sc _ (am_wI _ _ _ _)); refine r_sc.wI ?_ rfl) | ((with_reducible change r_sc _ (am_wJ _ _ _ _)); refine r_sc.wJ ?_ rfl) | (refine r_sc.tr ?_ (by with_reducible assumption))))) (by (repeat' (first | (with_reducible assumption) | ((with_reducible change r_I (am_wJ _ _ _ _)); refine r_I.wJ ?_) | ((with_reducible change r_I (am_wI _ _ _ _)); refine r_I.wI ?_ rfl))))⟩
      exact ⟨(), ⟨Int.le_refl 0, Int.le_refl 0, Nat.zero_le _⟩, rfl, Int.le_refl 0⟩
    · exact h.elim
  · intro live as M0 Ret h k pc I hI L st M hi
    unfold TX8_work at h
    split at h
    · next n pl =>
      obtain ⟨hmn, rfl, hp, hR, h⟩ := h
      have hmn2 := hmn
      obtain ⟨i1, i2, rfl⟩ := hmn2
      have l201 : am_len 201 = 3760 := rfl
      have l206 : am_len 206 = 7 := rfl
      have p1 := hp.1
      have p2 := hp.2
      have e50 := r_mul (c := 50) (x := pl) ⟨by decide, by decide⟩ ⟨by omega, by omega⟩
      simp only [Int32.reduceToInt] at e50
      have eb := r_off (c := 3258) (x := 50 * pl) ⟨by decide, by decide⟩ ⟨by omega, by omega⟩
      simp only [e50, Int32.reduceToInt] at eb
      change (match pc with | 36 => _ | 93 => _ | _ => none) = _ at hI
      split at hI
      · cases hI
        obtain ⟨m, du, i, rfl, rfl, rfl, ⟨g1, g2, g3⟩, hdu, ⟨w0, hw, hw0⟩, hs, hr⟩ := hi
        have hi := i_inc (x := i) (by omega) (by omega)
        have h120 := r_wI.bd hw
        by_cases hz : m ≤ i
        · rcases hdu with rfl | rfl
          · skip
            repeat' (first | (with_reducible exact hmn) | apply And.intro | exact rfl | (intro hx; with_reducible exact absurd hz hx) | (intro hx; exact absurd hx (by decide)) | (intro hx; exact absurd (by decide) hx) | decide | intro hx | (refine Exists.intro _ (And.intro rfl ?_)) | (refine r_cw_in (show r_wI M 1 w0 from hw) (fun M1 c1 d1 => ?_)))
            all_goals try first | (with_reducible change am_tI _ _) | (change Ret _ _) | (change Ret _ _ _) | (change Exists _)
            all_goals try dsimp only at *
            all_goals try exact absurd ‹(1000 : Int64) = 0› (by decide)
            all_goals first
              | (left; rfl)
              | (right; rfl)
              | exact h _ _ (r_sc.wI (hs.tr c1.sc) rfl) (r_I.wI (c1.i hr) rfl)
              | skip
          · skip
            repeat' (first | (with_reducible exact hmn) | apply And.intro | exact rfl | (intro hx; with_reducible exact absurd hz hx) | (intro hx; exact absurd hx (by decide)) | (intro hx; exact absurd (by decide) hx) | decide | intro hx | (refine Exists.intro _ (And.intro rfl ?_)))
            all_goals try first | (with_reducible change am_tI _ _) | (change Ret _ _) | (change Ret _ _ _) | (change Exists _)
            all_goals try dsimp only at *
            all_goals try exact absurd ‹(1000 : Int64) = 0› (by decide)
            all_goals first
              | (left; rfl)
              | (right; rfl)
              | exact h _ _ (r_sc.wI hs rfl) (r_I.wI hr rfl)
              | skip
        · have hz2 := hz
          simp only [i_le] at hz2
          have ec := r_off (c := 3258 + 50 * pl) (x := i) ⟨by omega, by omega⟩ ⟨by omega, by omega⟩
          rw [eb] at ec
          have x1 : 0 ≤ (3258 + 50 * pl + i).toInt := by omega
          have x2 : (3258 + 50 * pl + i).toInt < (am_len 201 : Int) := by rw [l201]; omega
          generalize hc : M.1 201 (3258 + 50 * pl + i).toNatClampNeg = c
          rcases hdu with rfl | rfl
          · by_cases z32 : c = 32
            · rw [← hc] at z32
              repeat' (first | (with_reducible exact x1) | (with_reducible exact x2) | (with_reducible exact hmn) | apply And.intro | exact rfl | (intro hx; with_reducible exact absurd hx hz) | (intro hx; with_reducible exact absurd z32 hx) | (intro hx; exact absurd hx (by decide)) | (intro hx; exact absurd (by decide) hx) | decide | intro hx | (refine Exists.intro _ (And.intro rfl ?_)))
              all_goals try first | (with_reducible change am_tI _ _) | (change Ret _ _) | (change Ret _ _ _) | (change Exists _)
              all_goals try dsimp only at *
              all_goals try exact absurd ‹(1000 : Int64) = 0› (by decide)
              all_goals exact ⟨_, am_lt_l (by omega), _, _, _, rfl, rfl, rfl, r_36 ⟨by omega, by omega, g3⟩ (Or.inl rfl) hw (by omega) hs hr⟩
            · have z32b := z32
              rw [← hc] at z32b
              by_cases z41 : c = 41
              · have z41b := z41
                rw [← hc] at z41b
                repeat' (first | (with_reducible exact x1) | (with_reducible exact x2) | (with_reducible exact hmn) | apply And.intro | exact rfl | (intro hx; with_reducible exact absurd hx hz) | (intro hx; with_reducible exact absurd hx z32b) | (intro hx; with_reducible exact absurd z41b hx) | (intro hx; exact absurd hx (by decide)) | (intro hx; exact absurd (by decide) hx) | decide | intro hx | (refine Exists.intro _ (And.intro rfl ?_)) | (refine r_cw_in (show r_wI M 1 w0 from hw) ⟨by omega, fun M1 c1 => ?_, fun M1 c1 d1 => ?_⟩))
                all_goals try first | (with_reducible change am_tI _ _) | (change Ret _ _) | (change Ret _ _ _) | (change Exists _)
                all_goals try dsimp only at *
                all_goals try exact absurd ‹(1000 : Int64) = 0› (by decide)
                all_goals first
                  | (left; rfl)
                  | exact h _ _ (r_sc.wI (hs.tr c1.sc) rfl) (r_I.wI (c1.i hr) rfl)
                  | exact ⟨_, am_lt_l (by omega), _, _, _, rfl, rfl, rfl, r_36 ⟨by omega, by omega, g3⟩ (Or.inl rfl) (by rw [if_pos z41b] at d1; exact d1) (by omega) (hs.tr c1.sc) (c1.i hr)⟩
                  | skip
              · have z41b := z41
                rw [← hc] at z41b
                repeat' (first | (with_reducible exact x1) | (with_reducible exact x2) | (with_reducible exact hmn) | apply And.intro | exact rfl | (intro hx; with_reducible exact absurd hx hz) | (intro hx; with_reducible exact absurd hx z32b) | (intro hx; with_reducible exact absurd hx z41b) | (intro hx; exact absurd hx (by decide)) | (intro hx; exact absurd (by decide) hx) | decide | intro hx | (refine Exists.intro _ (And.intro rfl ?_)) | (refine r_cw_in (show r_wI M 1 w0 from hw) ⟨by omega, fun M1 c1 => ?_, fun M1 c1 d1 => ?_⟩))
                all_goals try first | (with_reducible change am_tI _ _) | (change Ret _ _) | (change Ret _ _ _) | (change Exists _)
                all_goals try dsimp only at *
                all_goals try exact absurd ‹(1000 : Int64) = 0› (by decide)
                all_goals first
                  | (left; rfl)
                  | exact h _ _ (r_sc.wI (hs.tr c1.sc) rfl) (r_I.wI (c1.i hr) rfl)
                  | exact ⟨_, am_lt_l (by omega), _, _, _, rfl, rfl, rfl, r_36 ⟨by omega, by omega, g3⟩ (Or.inr rfl) (by rw [if_neg z41b] at d1; exact d1) (by omega) (hs.tr c1.sc) (c1.i hr)⟩
                  | skip
          · have q1 : r_wI M 0 w0 := hw
            have hx1 := h120.1
            have hx2 : (M.1 200 11).toInt < 120 := by have q := hw.u.1; omega
            have nx : ∀ (M2 : am_M) (d2 : Int32) (w2 : Nat), d2 = 0 ∨ d2 = 1 → r_wI M2 (r_du d2) w2 → (w2 : Int) ≤ (i + 1).toInt → r_sc M0 M2 → r_I M2 → r_wk36 M0 M2 m d2 (i + 1) := fun M2 d2 w2 a1 a2 a3 a4 a5 => r_36 ⟨by omega, by omega, g3⟩ a1 a2 a3 a4 a5
            by_cases z32 : M.1 201 (3258 + 50 * pl + i).toNatClampNeg = 32
            · skip
              repeat' (first | (with_reducible exact x1) | (with_reducible exact x2) | (with_reducible exact hmn) | apply And.intro | exact rfl | (intro hx; with_reducible exact absurd hx hz) | (intro hx; with_reducible exact absurd z32 hx) | (intro hx; exact absurd hx (by decide)) | (intro hx; exact absurd (by decide) hx) | decide | intro hx | (refine Exists.intro _ (And.intro rfl ?_)))
              all_goals try first | (with_reducible change am_tI _ _) | (change Ret _ _) | (change Ret _ _ _) | (change Exists _)
              all_goals try dsimp only at *
              all_goals try exact absurd ‹(1000 : Int64) = 0› (by decide)
              all_goals exact ⟨_, am_lt_l (by omega), _, _, _, rfl, rfl, rfl, nx _ _ w0 (Or.inr rfl) q1 (by omega) hs hr⟩
            · by_cases zd : r_dig (M.1 201 (3258 + 50 * pl + i).toNatClampNeg)
              · have qd : ¬ ((if (48 : Int64) ≤ (M.1 201 (3258 + 50 * pl + i).toNatClampNeg).toInt64 ∧ (M.1 201 (3258 + 50 * pl + i).toNatClampNeg).toInt64 ≤ (57 : Int64) then (1 : Int32) else 0) = 0) := by rw [if_pos (show _ ∧ _ from zd)]; decide
                repeat' (first | (with_reducible exact x1) | (with_reducible exact x2) | (with_reducible exact hmn) | apply And.intro | exact rfl | (intro hx; with_reducible exact absurd hx hz) | (intro hx; with_reducible exact absurd hx z32) | (intro hx; with_reducible exact absurd hx qd) | (intro hx; exact absurd hx (by decide)) | (intro hx; exact absurd (by decide) hx) | decide | intro hx | (refine Exists.intro _ (And.intro rfl ?_)))
                all_goals try first | (with_reducible change am_tI _ _) | (change Ret _ _) | (change Ret _ _ _) | (change Exists _)
                all_goals try dsimp only at *
                all_goals try exact absurd ‹(1000 : Int64) = 0› (by decide)
                all_goals exact ⟨_, am_lt_l (by omega), _, _, _, _, rfl, rfl, rfl, ⟨Int.le_refl _, by omega, fun _ => zd⟩, r_36 ⟨g1, g2, g3⟩ (Or.inr rfl) q1 hw0 hs hr, g2⟩
              · have qd : (if (48 : Int64) ≤ (M.1 201 (3258 + 50 * pl + i).toNatClampNeg).toInt64 ∧ (M.1 201 (3258 + 50 * pl + i).toNatClampNeg).toInt64 ≤ (57 : Int64) then (1 : Int32) else 0) = 0 := if_neg zd
                by_cases zf : r_fact (M.1 201 (3258 + 50 * pl + i).toNatClampNeg) < 0
                · by_cases z40 : M.1 201 (3258 + 50 * pl + i).toNatClampNeg = 40
                  · skip
                    repeat' (first | (with_reducible exact x1) | (with_reducible exact x2) | (with_reducible exact hx1) | (with_reducible exact hx2) | (with_reducible exact h120) | (with_reducible exact hmn) | apply And.intro | exact rfl | (intro hx; with_reducible exact absurd hx hz) | (intro hx; with_reducible exact absurd hx z32) | (intro hx; with_reducible exact absurd qd hx) | (intro hx; with_reducible exact absurd zf hx) | (intro hx; with_reducible exact absurd z40 hx) | (intro hx; exact absurd hx (by decide)) | (intro hx; exact absurd (by decide) hx) | decide | intro hx | (refine Exists.intro _ (And.intro rfl ?_)))
                    all_goals try first | (with_reducible change am_tI _ _) | (change Ret _ _) | (change Ret _ _ _) | (change Exists _)
                    all_goals try dsimp only at *
                    all_goals try exact absurd ‹(1000 : Int64) = 0› (by decide)
                    all_goals first
                      | exact h120.1
                      | exact h120.2
                      | (left; rfl)
                      | ((with_reducible change Ret _ _); exact h _ _ (by (repeat' (first | (with_reducible exact r_sc.rf) | (with_reducible assumption) | ((with_reducible change r_sc _ (am_wI _ _ _ _)); refine r_sc.wI ?_ rfl) | ((with_reducible change r_sc _ (am_wJ _ _ _ _)); refine r_sc.wJ ?_ rfl) | (refine r_sc.tr ?_ (by with_reducible assumption))))) (by (repeat' (first | (with_reducible assumption) | ((with_reducible change r_I (am_wJ _ _ _ _)); refine r_I.wJ ?_) | ((with_reducible change r_I (am_wI _ _ _ _)); refine r_I.wI ?_ rfl)))))
                      | exact ⟨_, am_lt_l (by omega), _, _, _, rfl, rfl, rfl, nx _ _ (w0 + 1) (Or.inr rfl) (r_push q1 (by decide) (by omega)) (by omega) (by (repeat' (first | (with_reducible exact r_sc.rf) | (with_reducible assumption) | ((with_reducible change r_sc _ (am_wI _ _ _ _)); refine r_sc.wI ?_ rfl) | ((with_reducible change r_sc _ (am_wJ _ _ _ _)); refine r_sc.wJ ?_ rfl) | (refine r_sc.tr ?_ (by with_reducible assumption))))) (by (repeat' (first | (with_reducible assumption) | ((with_reducible change r_I (am_wJ _ _ _ _)); refine r_I.wJ ?_) | ((with_reducible change r_I (am_wI _ _ _ _)); refine r_I.wI ?_ rfl))))⟩
                      | skip
                  · by_cases z33 : M.1 201 (3258 + 50 * pl + i).toNatClampNeg = 33
                    · skip
                      repeat' (first | (with_reducible exact x1) | (with_reducible exact x2) | (with_reducible exact hx1) | (with_reducible exact hx2) | (with_reducible exact hmn) | apply And.intro | exact rfl | (intro hx; with_reducible exact absurd hx hz) | (intro hx; with_reducible exact absurd hx z32) | (intro hx; with_reducible exact absurd hx z40) | (intro hx; with_reducible exact absurd qd hx) | (intro hx; with_reducible exact absurd zf hx) | (intro hx; with_reducible exact absurd z33 hx) | (intro hx; exact absurd hx (by decide)) | (intro hx; exact absurd (by decide) hx) | decide | intro hx | (refine Exists.intro _ (And.intro rfl ?_)))
                      all_goals try first | (with_reducible change am_tI _ _) | (change Ret _ _) | (change Ret _ _ _) | (change Exists _)
                      all_goals try dsimp only at *
                      all_goals try exact absurd ‹(1000 : Int64) = 0› (by decide)
                      all_goals exact ⟨_, am_lt_l (by omega), _, _, _, rfl, rfl, rfl, nx _ _ (w0 + 1) (Or.inr rfl) (r_push q1 (by decide) (by omega)) (by omega) (by (repeat' (first | (with_reducible exact r_sc.rf) | (with_reducible assumption) | ((with_reducible change r_sc _ (am_wI _ _ _ _)); refine r_sc.wI ?_ rfl) | ((with_reducible change r_sc _ (am_wJ _ _ _ _)); refine r_sc.wJ ?_ rfl) | (refine r_sc.tr ?_ (by with_reducible assumption))))) (by (repeat' (first | (with_reducible assumption) | ((with_reducible change r_I (am_wJ _ _ _ _)); refine r_I.wJ ?_) | ((with_reducible change r_I (am_wI _ _ _ _)); refine r_I.wI ?_ rfl))))⟩
                    · by_cases z45 : M.1 201 (3258 + 50 * pl + i).toNatClampNeg = 45
                      · skip
                        repeat' (first | (with_reducible exact x1) | (with_reducible exact x2) | (with_reducible exact hx1) | (with_reducible exact hx2) | (with_reducible exact hmn) | apply And.intro | exact rfl | (intro hx; with_reducible exact absurd hx hz) | (intro hx; with_reducible exact absurd hx z32) | (intro hx; with_reducible exact absurd hx z40) | (intro hx; with_reducible exact absurd hx z33) | (intro hx; with_reducible exact absurd qd hx) | (intro hx; with_reducible exact absurd zf hx) | (intro hx; with_reducible exact absurd z45 hx) | (intro hx; exact absurd hx (by decide)) | (intro hx; exact absurd (by decide) hx) | decide | intro hx | (refine Exists.intro _ (And.intro rfl ?_)))
                        all_goals try first | (with_reducible change am_tI _ _) | (change Ret _ _) | (change Ret _ _ _) | (change Exists _)
                        all_goals try dsimp only at *
                        all_goals try exact absurd ‹(1000 : Int64) = 0› (by decide)
                        all_goals exact ⟨_, am_lt_l (by omega), _, _, _, rfl, rfl, rfl, nx _ _ (w0 + 1) (Or.inr rfl) (r_push q1 (by decide) (by omega)) (by omega) (by (repeat' (first | (with_reducible exact r_sc.rf) | (with_reducible assumption) | ((with_reducible change r_sc _ (am_wI _ _ _ _)); refine r_sc.wI ?_ rfl) | ((with_reducible change r_sc _ (am_wJ _ _ _ _)); refine r_sc.wJ ?_ rfl) | (refine r_sc.tr ?_ (by with_reducible assumption))))) (by (repeat' (first | (with_reducible assumption) | ((with_reducible change r_I (am_wJ _ _ _ _)); refine r_I.wJ ?_) | ((with_reducible change r_I (am_wI _ _ _ _)); refine r_I.wI ?_ rfl))))⟩
                      · skip
                        repeat' (first | (with_reducible exact x1) | (with_reducible exact x2) | (with_reducible exact hmn) | apply And.intro | exact rfl | (intro hx; with_reducible exact absurd hx hz) | (intro hx; with_reducible exact absurd hx z32) | (intro hx; with_reducible exact absurd hx z40) | (intro hx; with_reducible exact absurd hx z33) | (intro hx; with_reducible exact absurd hx z45) | (intro hx; with_reducible exact absurd qd hx) | (intro hx; with_reducible exact absurd zf hx) | (intro hx; exact absurd hx (by decide)) | (intro hx; exact absurd (by decide) hx) | decide | intro hx | (refine Exists.intro _ (And.intro rfl ?_)))
                        all_goals try first | (with_reducible change am_tI _ _) | (change Ret _ _) | (change Ret _ _ _) | (change Exists _)
                        all_goals try dsimp only at *
                        all_goals try exact absurd ‹(1000 : Int64) = 0› (by decide)
                        all_goals first
                          | (left; rfl)
                          | ((with_reducible change Ret _ _); exact h _ _ (by (repeat' (first | (with_reducible exact r_sc.rf) | (with_reducible assumption) | ((with_reducible change r_sc _ (am_wI _ _ _ _)); refine r_sc.wI ?_ rfl) | ((with_reducible change r_sc _ (am_wJ _ _ _ _)); refine r_sc.wJ ?_ rfl) | (refine r_sc.tr ?_ (by with_reducible assumption))))) (by (repeat' (first | (with_reducible assumption) | ((with_reducible change r_I (am_wJ _ _ _ _)); refine r_I.wJ ?_) | ((with_reducible change r_I (am_wI _ _ _ _)); refine r_I.wI ?_ rfl)))))
                          | skip
                · have zf2 := zf
                  simp only [i_lt, Int32.reduceToInt] at zf2
                  have hf := r_fact_in (M.1 201 (3258 + 50 * pl + i).toNatClampNeg)
                  have y1 : 0 ≤ (r_fact (M.1 201 (3258 + 50 * pl + i).toNatClampNeg)).toInt := by omega
                  have y2 : (r_fact (M.1 201 (3258 + 50 * pl + i).toNatClampNeg)).toInt < (am_len 206 : Int) := by rw [l206]; omega
                  repeat' (first | (with_reducible exact x1) | (with_reducible exact x2) | (with_reducible exact y1) | (with_reducible exact y2) | (with_reducible exact hmn) | apply And.intro | exact rfl | (intro hx; with_reducible exact absurd hx hz) | (intro hx; with_reducible exact absurd hx z32) | (intro hx; with_reducible exact absurd hx zf) | (intro hx; with_reducible exact absurd qd hx) | (intro hx; exact absurd hx (by decide)) | (intro hx; exact absurd (by decide) hx) | decide | intro hx | (refine Exists.intro _ (And.intro rfl ?_)) | (refine r_cw_in q1 ⟨by omega, fun M1 c1 d1 => ?_⟩))
                  all_goals try first | (with_reducible change am_tI _ _) | (change Ret _ _) | (change Ret _ _ _) | (change Exists _)
                  all_goals try dsimp only at *
                  all_goals try exact absurd ‹(1000 : Int64) = 0› (by decide)
                  all_goals exact ⟨_, am_lt_l (by omega), _, _, _, rfl, rfl, rfl, nx _ _ (w0 + 1) (Or.inl rfl) d1 (by omega) (hs.tr c1.sc) (c1.i hr)⟩
      · cases hI
        obtain ⟨m, i, f, v, rfl, rfl, rfl, ⟨g4, g5, g6⟩, ⟨⟨g1, g2, g3⟩, hdu, ⟨w0, hw, hw0⟩, hs, hr⟩, g7⟩ := hi
        have q1 : r_wI M 0 w0 := hw
        have hi := i_inc (x := i) (by omega) (by omega)
        have nx : f.toInt < i.toInt → ∀ (M2 : am_M) (w2 : Nat), r_wI M2 1 w2 → (w2 : Int) ≤ i.toInt → r_sc M0 M2 → r_I M2 → r_wk36 M0 M2 m 0 i := fun a0 M2 w2 a2 a3 a4 a5 => r_36 ⟨by omega, g7, g3⟩ (Or.inl rfl) a2 a3 a4 a5
        by_cases hz : m ≤ i
        · have hz2 := hz
          simp only [i_le] at hz2
          repeat' (first | (with_reducible exact hmn) | apply And.intro | exact rfl | (intro hx; with_reducible exact absurd hx hz) | (intro hx; with_reducible exact absurd hz hx) | (intro hx; exact absurd hx (by decide)) | (intro hx; exact absurd (by decide) hx) | decide | intro hx | (refine Exists.intro _ (And.intro rfl ?_)) | (refine r_cw_in q1 ⟨by omega, fun M1 c1 d1 => ?_⟩))
          all_goals try first | (with_reducible change am_tI _ _) | (change Ret _ _) | (change Ret _ _ _) | (change Exists _)
          all_goals try dsimp only at *
          all_goals try exact absurd ‹(1000 : Int64) = 0› (by decide)
          all_goals exact ⟨_, am_lt_l (by omega), _, _, _, rfl, rfl, rfl, nx (by omega) _ (w0 + 1) d1 (by omega) (hs.tr c1.sc) (c1.i hr)⟩
        · have hz2 := hz
          simp only [i_le] at hz2
          have ec := r_off (c := 3258 + 50 * pl) (x := i) ⟨by omega, by omega⟩ ⟨by omega, by omega⟩
          rw [eb] at ec
          have x1 : 0 ≤ (3258 + 50 * pl + i).toInt := by omega
          have x2 : (3258 + 50 * pl + i).toInt < (am_len 201 : Int) := by rw [l201]; omega
          by_cases zd : r_dig (M.1 201 (3258 + 50 * pl + i).toNatClampNeg)
          · have qd : ¬ ((if (48 : Int64) ≤ (M.1 201 (3258 + 50 * pl + i).toNatClampNeg).toInt64 ∧ (M.1 201 (3258 + 50 * pl + i).toNatClampNeg).toInt64 ≤ (57 : Int64) then (1 : Int32) else 0) = 0) := by rw [if_pos (show _ ∧ _ from zd)]; decide
            repeat' (first | (with_reducible exact x1) | (with_reducible exact x2) | (with_reducible exact hmn) | apply And.intro | exact rfl | (intro hx; with_reducible exact absurd hx hz) | (intro hx; with_reducible exact absurd hx qd) | (intro hx; exact absurd hx (by decide)) | (intro hx; exact absurd (by decide) hx) | decide | intro hx | (refine Exists.intro _ (And.intro rfl ?_)))
            all_goals try first | (with_reducible change am_tI _ _) | (change Ret _ _) | (change Ret _ _ _) | (change Exists _)
            all_goals try dsimp only at *
            all_goals try exact absurd ‹(1000 : Int64) = 0› (by decide)
            all_goals first
              | (left; rfl)
              | ((with_reducible change Ret _ _); exact h _ _ (by (repeat' (first | (with_reducible exact r_sc.rf) | (with_reducible assumption) | ((with_reducible change r_sc _ (am_wI _ _ _ _)); refine r_sc.wI ?_ rfl) | ((with_reducible change r_sc _ (am_wJ _ _ _ _)); refine r_sc.wJ ?_ rfl) | (refine r_sc.tr ?_ (by with_reducible assumption))))) (by (repeat' (first | (with_reducible assumption) | ((with_reducible change r_I (am_wJ _ _ _ _)); refine r_I.wJ ?_) | ((with_reducible change r_I (am_wI _ _ _ _)); refine r_I.wI ?_ rfl)))))
              | exact ⟨_, am_lt_r (by omega), _, _, _, _, rfl, rfl, rfl, ⟨by omega, g5, fun q => by have q2 := congrArg Int32.toInt q; omega⟩, r_36 ⟨g1, g2, g3⟩ (Or.inr rfl) q1 hw0 hs hr, by omega⟩
              | skip
          · have qd : (if (48 : Int64) ≤ (M.1 201 (3258 + 50 * pl + i).toNatClampNeg).toInt64 ∧ (M.1 201 (3258 + 50 * pl + i).toNatClampNeg).toInt64 ≤ (57 : Int64) then (1 : Int32) else 0) = 0 := if_neg zd
            have hne : f.toInt < i.toInt := by
              rcases Int.lt_or_eq_of_le g4 with q | q
              · exact q
              · have e : i = f := (i_eq _ _).mpr q.symm
                rw [e] at zd
                exact absurd (g6 e) zd
            repeat' (first | (with_reducible exact x1) | (with_reducible exact x2) | (with_reducible exact hmn) | apply And.intro | exact rfl | (intro hx; with_reducible exact absurd hx hz) | (intro hx; with_reducible exact absurd qd hx) | (intro hx; exact absurd hx (by decide)) | (intro hx; exact absurd (by decide) hx) | decide | intro hx | (refine Exists.intro _ (And.intro rfl ?_)) | (refine r_cw_in q1 ⟨by omega, fun M1 c1 d1 => ?_⟩))
            all_goals try first | (with_reducible change am_tI _ _) | (change Ret _ _) | (change Ret _ _ _) | (change Exists _)
            all_goals try dsimp only at *
            all_goals try exact absurd ‹(1000 : Int64) = 0› (by decide)
            all_goals exact ⟨_, am_lt_l (by omega), _, _, _, rfl, rfl, rfl, nx hne _ (w0 + 1) d1 (by omega) (hs.tr c1.sc) (c1.i hr)⟩
      · cases hI
    · exact h.elim
set_option maxRecDepth 100000 in
theorem wd_1102 : Cond.methodLink "LearnLoansModel" 199 yX8_work ∈ am_ws := am_wsi (List.mem_of_getElem? (i := 1102) (by rfl)) (by decide +kernel)
set_option maxRecDepth 100000 in
theorem wd_1104 : Cond.instanceMethod yX8_work ∈ am_ws := am_wsi (List.mem_of_getElem? (i := 1104) (by rfl)) (by decide +kernel)
set_option maxRecDepth 100000 in
theorem wd_33 : Cond.selects "LearnLoansModel" yX8_work yX8_work ∈ am_ws := am_wsi (List.mem_of_getElem? (i := 33) (by rfl)) (by decide +kernel)
set_option maxRecDepth 100000 in
theorem wd_1105 : Cond.code yX8_work cX8_work 10 (some .boolean) ∈ am_ws := am_wsi (List.mem_of_getElem? (i := 1105) (by rfl)) (by decide +kernel)
theorem dX8_fault_0 : decode cX8_fault 0 = .ok (.iload_n 1, 1) := by decide +kernel
theorem dX8_fault_1 : decode cX8_fault 1 = .ok (.invokestatic 104, 3) := by decide +kernel
theorem dX8_fault_4 : decode cX8_fault 4 = .ok (.ifCond .ne 6, 3) := by decide +kernel
theorem dX8_fault_7 : decode cX8_fault 7 = .ok (.bipush (-2), 2) := by decide +kernel
theorem dX8_fault_9 : decode cX8_fault 9 = .ok (.ireturn, 1) := by decide +kernel
theorem dX8_fault_10 : decode cX8_fault 10 = .ok (.aload_n 0, 1) := by decide +kernel
theorem dX8_fault_11 : decode cX8_fault 11 = .ok (.iload_n 1, 1) := by decide +kernel
theorem dX8_fault_12 : decode cX8_fault 12 = .ok (.invokevirtual 199, 3) := by decide +kernel
theorem dX8_fault_15 : decode cX8_fault 15 = .ok (.ifCond .eq 7, 3) := by decide +kernel
theorem dX8_fault_18 : decode cX8_fault 18 = .ok (.iconst (-1), 1) := by decide +kernel
theorem dX8_fault_19 : decode cX8_fault 19 = .ok (.goto 7, 3) := by decide +kernel
theorem dX8_fault_22 : decode cX8_fault 22 = .ok (.aload_n 0, 1) := by decide +kernel
theorem dX8_fault_23 : decode cX8_fault 23 = .ok (.getfield 185, 3) := by decide +kernel
theorem dX8_fault_26 : decode cX8_fault 26 = .ok (.ireturn, 1) := by decide +kernel
def kX8_fault (live : am_E) (Ret : am_R) : am_code := [(0, am_iload 1 1), (1, am_callS live 1 TX8_isPlan 4), (4, am_if1 (fun x => x = 0) 7 10), (7, am_const (.int (-2)) 9), (9, am_retI Ret), (10, am_aload 0 11), (11, am_iload 1 12), (12, am_callV live 8 1 TX8_work 15), (15, am_if1 (fun x => x = 0) 22 18), (18, am_const (.int (-1)) 19), (19, am_goto 26), (22, am_aload 0 23), (23, am_getI live 8 14 26), (26, am_retI Ret)]
theorem koX8_fault (live : am_E) (Ret : am_R) : ∀ q ∈ kX8_fault live Ret, am_ok RX8 cX8_fault 2 (some .int) 6 135 live Ret q.1 q.2 :=
  am_kc (ak_iload_n dX8_fault_0 rfl rfl) <|
  am_kc (ak_callS metX8_isPlan ⟨rfl, by decide +kernel, by decide +kernel, by decide +kernel⟩ (am_w4 wd_1034 wd_1035 wd_67 wd_1036) (by decide) dX8_fault_1 rfl) <|
  am_kc (ak_if_ne dX8_fault_4 (by decide +kernel) rfl) <|
  am_kc (ak_bipush dX8_fault_7 (by decide +kernel) rfl) <|
  am_kc (ak_retI dX8_fault_9) <|
  am_kc (ak_aload_n dX8_fault_10 rfl rfl) <|
  am_kc (ak_iload_n dX8_fault_11 rfl rfl) <|
  am_kc (ak_callV (C := RX8) (F := TX8) (N := 27) metX8_work rfl ⟨rfl, by decide +kernel, by decide +kernel, by decide +kernel⟩ (am_w5 wd_1102 wd_1104 wd_33 wd_67 wd_1105) (by decide) dX8_fault_12 rfl) <|
  am_kc (ak_if_eq dX8_fault_15 (by decide +kernel) rfl) <|
  am_kc (ak_iconst dX8_fault_18 (by decide +kernel) rfl) <|
  am_kc (ak_goto dX8_fault_19 (by decide +kernel)) <|
  am_kc (ak_aload_n dX8_fault_22 rfl rfl) <|
  am_kc (ak_getI (C := RX8) (T := TX8) (N := 27) rfl inX8w (by decide) rfl rfl rfl wd_909 dX8_fault_23 rfl) <|
  am_kc (ak_retI dX8_fault_26) <| am_kn
def TX8_fault : am_T := fun live as M R => match as with
  | [.ref n, .int pl] => am_mn live ∧ n = 200 ∧ r_I M ∧ ∀ v M', r_sc M M' → r_I M' → R (some (.int v)) M'
  | _ => False
set_option maxRecDepth 100000 in
set_option maxHeartbeats 4000000 in
theorem metX8_fault : am_Met yX8_fault cX8_fault 2 (some .int) (6) (135) TX8_fault := by
  refine am_met (own := RX8) (by decide +kernel) rfl kX8_fault koX8_fault 100 (fun _ _ _ _ _ => none) (fun live as M Ret h => ?_) (fun _ _ _ _ _ _ _ _ hI => by cases hI)
  unfold TX8_fault at h
  split at h
  · next n pl =>
    refine ⟨Nat.le_of_ble_eq_true rfl, ?_⟩
    change am_wp _ _ _ _ [(0, Value.ref n), (1, Value.int pl)] _ _
    obtain ⟨hmn, rfl, hR, h⟩ := h
    have hmn2 := hmn
    obtain ⟨i1, i2, rfl⟩ := hmn2
    by_cases z0 : 0 ≤ pl ∧ pl < 5
    · have q0 : ¬ ((if 0 ≤ pl ∧ pl < 5 then (1 : Int32) else 0) = 0) := by rw [if_pos z0]; decide
      have hp : am_in pl 5 := ⟨by have q := z0.1; simp only [i_le, Int32.reduceToInt] at q; omega, by have q := z0.2; simp only [i_lt, Int32.reduceToInt] at q; omega⟩
      repeat' (first | (with_reducible exact hmn) | (with_reducible exact hp) | (with_reducible exact hR) | apply And.intro | exact rfl | (intro hx; with_reducible exact absurd hx q0) | (intro hx; exact absurd hx (by decide)) | (intro hx; exact absurd (by decide) hx) | decide | intro hx | (refine Exists.intro _ (And.intro rfl ?_)))
      all_goals try first | (with_reducible change am_tI _ _) | (change Ret _ _) | (change Ret _ _ _) | (change Exists _)
      all_goals try dsimp only at *
      all_goals try exact absurd ‹(1000 : Int64) = 0› (by decide)
      all_goals exact h _ _ (by (repeat' (first | (with_reducible exact r_sc.rf) | (with_reducible assumption) | ((with_reducible change r_sc _ (am_wI _ _ _ _)); refine r_sc.wI ?_ rfl) | ((with_reducible change r_sc _ (am_wJ _ _ _ _)); refine r_sc.wJ ?_ rfl) | (refine r_sc.tr ?_ (by with_reducible assumption))))) (by (repeat' (first | (with_reducible assumption) | ((with_reducible change r_I (am_wJ _ _ _ _)); refine r_I.wJ ?_) | ((with_reducible change r_I (am_wI _ _ _ _)); refine r_I.wI ?_ rfl))))
    · have q0 : (if 0 ≤ pl ∧ pl < 5 then (1 : Int32) else 0) = 0 := if_neg z0
      repeat' (first | (with_reducible exact hmn) | apply And.intro | exact rfl | (intro hx; with_reducible exact absurd q0 hx) | (intro hx; exact absurd hx (by decide)) | (intro hx; exact absurd (by decide) hx) | decide | intro hx | (refine Exists.intro _ (And.intro rfl ?_)))
      all_goals try first | (with_reducible change am_tI _ _) | (change Ret _ _) | (change Ret _ _ _) | (change Exists _)
      all_goals try dsimp only at *
      all_goals try exact absurd ‹(1000 : Int64) = 0› (by decide)
      all_goals exact h _ _ r_sc.rf hR
  · exact h.elim
