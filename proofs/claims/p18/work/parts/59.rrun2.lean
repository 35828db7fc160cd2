/-! general: the reference's runs, II -/
set_option maxRecDepth 100000 in
theorem wd_1174 : Cond.methodLink "LearnLoansModel" 205 yX8_rateOf ∈ am_ws := am_wsi (List.mem_of_getElem? (i := 1174) (by rfl)) (by decide +kernel)
set_option maxRecDepth 100000 in
theorem wd_1176 : Cond.instanceMethod yX8_rateOf ∈ am_ws := am_wsi (List.mem_of_getElem? (i := 1176) (by rfl)) (by decide +kernel)
set_option maxRecDepth 100000 in
theorem wd_46 : Cond.selects "LearnLoansModel" yX8_rateOf yX8_rateOf ∈ am_ws := am_wsi (List.mem_of_getElem? (i := 46) (by rfl)) (by decide +kernel)
set_option maxRecDepth 100000 in
theorem wd_1177 : Cond.code yX8_rateOf cX8_rateOf 8 (some .int) ∈ am_ws := am_wsi (List.mem_of_getElem? (i := 1177) (by rfl)) (by decide +kernel)
set_option maxRecDepth 100000 in
theorem wd_1178 : Cond.constantLong "LearnLoansModel" 208 1000000000000 ∈ am_ws := am_wsi (List.mem_of_getElem? (i := 1178) (by rfl)) (by decide +kernel)
theorem dX8_begin_0 : decode cX8_begin 0 = .ok (.aload_n 0, 1) := by decide +kernel
theorem dX8_begin_1 : decode cX8_begin 1 = .ok (.iload_n 1, 1) := by decide +kernel
theorem dX8_begin_2 : decode cX8_begin 2 = .ok (.iconst 0, 1) := by decide +kernel
theorem dX8_begin_3 : decode cX8_begin 3 = .ok (.invokevirtual 202, 3) := by decide +kernel
theorem dX8_begin_6 : decode cX8_begin 6 = .ok (.istore 6, 2) := by decide +kernel
theorem dX8_begin_8 : decode cX8_begin 8 = .ok (.aload_n 0, 1) := by decide +kernel
theorem dX8_begin_9 : decode cX8_begin 9 = .ok (.getfield 42, 3) := by decide +kernel
theorem dX8_begin_12 : decode cX8_begin 12 = .ok (.iload_n 1, 1) := by decide +kernel
theorem dX8_begin_13 : decode cX8_begin 13 = .ok (.lconst 0, 1) := by decide +kernel
theorem dX8_begin_14 : decode cX8_begin 14 = .ok (.lastore, 1) := by decide +kernel
theorem dX8_begin_15 : decode cX8_begin 15 = .ok (.aload_n 0, 1) := by decide +kernel
theorem dX8_begin_16 : decode cX8_begin 16 = .ok (.getfield 45, 3) := by decide +kernel
theorem dX8_begin_19 : decode cX8_begin 19 = .ok (.iload_n 1, 1) := by decide +kernel
theorem dX8_begin_20 : decode cX8_begin 20 = .ok (.lconst 0, 1) := by decide +kernel
theorem dX8_begin_21 : decode cX8_begin 21 = .ok (.lastore, 1) := by decide +kernel
theorem dX8_begin_22 : decode cX8_begin 22 = .ok (.aload_n 0, 1) := by decide +kernel
theorem dX8_begin_23 : decode cX8_begin 23 = .ok (.getfield 33, 3) := by decide +kernel
theorem dX8_begin_26 : decode cX8_begin 26 = .ok (.iload_n 1, 1) := by decide +kernel
theorem dX8_begin_27 : decode cX8_begin 27 = .ok (.lconst 0, 1) := by decide +kernel
theorem dX8_begin_28 : decode cX8_begin 28 = .ok (.lastore, 1) := by decide +kernel
theorem dX8_begin_29 : decode cX8_begin 29 = .ok (.iload 5, 2) := by decide +kernel
theorem dX8_begin_31 : decode cX8_begin 31 = .ok (.ifCond .ne 28, 3) := by decide +kernel
theorem dX8_begin_34 : decode cX8_begin 34 = .ok (.iload_n 2, 1) := by decide +kernel
theorem dX8_begin_35 : decode cX8_begin 35 = .ok (.aload_n 0, 1) := by decide +kernel
theorem dX8_begin_36 : decode cX8_begin 36 = .ok (.iload_n 1, 1) := by decide +kernel
theorem dX8_begin_37 : decode cX8_begin 37 = .ok (.iconst 2, 1) := by decide +kernel
theorem dX8_begin_38 : decode cX8_begin 38 = .ok (.invokevirtual 202, 3) := by decide +kernel
theorem dX8_begin_41 : decode cX8_begin 41 = .ok (.isub, 1) := by decide +kernel
theorem dX8_begin_42 : decode cX8_begin 42 = .ok (.aload_n 0, 1) := by decide +kernel
theorem dX8_begin_43 : decode cX8_begin 43 = .ok (.aload_n 0, 1) := by decide +kernel
theorem dX8_begin_44 : decode cX8_begin 44 = .ok (.iload_n 1, 1) := by decide +kernel
theorem dX8_begin_45 : decode cX8_begin 45 = .ok (.iload_n 2, 1) := by decide +kernel
theorem dX8_begin_46 : decode cX8_begin 46 = .ok (.invokevirtual 141, 3) := by decide +kernel
theorem dX8_begin_49 : decode cX8_begin 49 = .ok (.iconst 3, 1) := by decide +kernel
theorem dX8_begin_50 : decode cX8_begin 50 = .ok (.iload 6, 2) := by decide +kernel
theorem dX8_begin_52 : decode cX8_begin 52 = .ok (.iload_n 2, 1) := by decide +kernel
theorem dX8_begin_53 : decode cX8_begin 53 = .ok (.invokevirtual 127, 3) := by decide +kernel
theorem dX8_begin_56 : decode cX8_begin 56 = .ok (.if_icmp .lt 7, 3) := by decide +kernel
theorem dX8_begin_59 : decode cX8_begin 59 = .ok (.iconst 1, 1) := by decide +kernel
theorem dX8_begin_60 : decode cX8_begin 60 = .ok (.goto 4, 3) := by decide +kernel
theorem dX8_begin_63 : decode cX8_begin 63 = .ok (.iconst 0, 1) := by decide +kernel
theorem dX8_begin_64 : decode cX8_begin 64 = .ok (.istore 7, 2) := by decide +kernel
theorem dX8_begin_66 : decode cX8_begin 66 = .ok (.aload_n 0, 1) := by decide +kernel
theorem dX8_begin_67 : decode cX8_begin 67 = .ok (.getfield 48, 3) := by decide +kernel
theorem dX8_begin_70 : decode cX8_begin 70 = .ok (.iload_n 1, 1) := by decide +kernel
theorem dX8_begin_71 : decode cX8_begin 71 = .ok (.baload, 1) := by decide +kernel
theorem dX8_begin_72 : decode cX8_begin 72 = .ok (.ifCond .ne 34, 3) := by decide +kernel
theorem dX8_begin_75 : decode cX8_begin 75 = .ok (.iload 7, 2) := by decide +kernel
theorem dX8_begin_77 : decode cX8_begin 77 = .ok (.ifCond .eq 29, 3) := by decide +kernel
theorem dX8_begin_80 : decode cX8_begin 80 = .ok (.aload_n 0, 1) := by decide +kernel
theorem dX8_begin_81 : decode cX8_begin 81 = .ok (.getfield 48, 3) := by decide +kernel
theorem dX8_begin_84 : decode cX8_begin 84 = .ok (.iload_n 1, 1) := by decide +kernel
theorem dX8_begin_85 : decode cX8_begin 85 = .ok (.iconst 1, 1) := by decide +kernel
theorem dX8_begin_86 : decode cX8_begin 86 = .ok (.bastore, 1) := by decide +kernel
theorem dX8_begin_87 : decode cX8_begin 87 = .ok (.aload_n 0, 1) := by decide +kernel
theorem dX8_begin_88 : decode cX8_begin 88 = .ok (.getfield 42, 3) := by decide +kernel
theorem dX8_begin_91 : decode cX8_begin 91 = .ok (.iload_n 1, 1) := by decide +kernel
theorem dX8_begin_92 : decode cX8_begin 92 = .ok (.aload_n 0, 1) := by decide +kernel
theorem dX8_begin_93 : decode cX8_begin 93 = .ok (.getfield 30, 3) := by decide +kernel
theorem dX8_begin_96 : decode cX8_begin 96 = .ok (.iload_n 1, 1) := by decide +kernel
theorem dX8_begin_97 : decode cX8_begin 97 = .ok (.laload, 1) := by decide +kernel
theorem dX8_begin_98 : decode cX8_begin 98 = .ok (.lastore, 1) := by decide +kernel
theorem dX8_begin_99 : decode cX8_begin 99 = .ok (.aload_n 0, 1) := by decide +kernel
theorem dX8_begin_100 : decode cX8_begin 100 = .ok (.getfield 30, 3) := by decide +kernel
theorem dX8_begin_103 : decode cX8_begin 103 = .ok (.iload_n 1, 1) := by decide +kernel
theorem dX8_begin_104 : decode cX8_begin 104 = .ok (.lconst 0, 1) := by decide +kernel
theorem dX8_begin_105 : decode cX8_begin 105 = .ok (.lastore, 1) := by decide +kernel
theorem dX8_begin_106 : decode cX8_begin 106 = .ok (.aload_n 0, 1) := by decide +kernel
theorem dX8_begin_107 : decode cX8_begin 107 = .ok (.getfield 48, 3) := by decide +kernel
theorem dX8_begin_110 : decode cX8_begin 110 = .ok (.iload_n 1, 1) := by decide +kernel
theorem dX8_begin_111 : decode cX8_begin 111 = .ok (.baload, 1) := by decide +kernel
theorem dX8_begin_112 : decode cX8_begin 112 = .ok (.ifCond .ne 156, 3) := by decide +kernel
theorem dX8_begin_115 : decode cX8_begin 115 = .ok (.aload_n 0, 1) := by decide +kernel
theorem dX8_begin_116 : decode cX8_begin 116 = .ok (.getfield 30, 3) := by decide +kernel
theorem dX8_begin_119 : decode cX8_begin 119 = .ok (.iload_n 1, 1) := by decide +kernel
theorem dX8_begin_120 : decode cX8_begin 120 = .ok (.laload, 1) := by decide +kernel
theorem dX8_begin_121 : decode cX8_begin 121 = .ok (.aload_n 0, 1) := by decide +kernel
theorem dX8_begin_122 : decode cX8_begin 122 = .ok (.getfield 30, 3) := by decide +kernel
theorem dX8_begin_125 : decode cX8_begin 125 = .ok (.iload_n 1, 1) := by decide +kernel
theorem dX8_begin_126 : decode cX8_begin 126 = .ok (.laload, 1) := by decide +kernel
theorem dX8_begin_127 : decode cX8_begin 127 = .ok (.aload_n 0, 1) := by decide +kernel
theorem dX8_begin_128 : decode cX8_begin 128 = .ok (.iload_n 1, 1) := by decide +kernel
theorem dX8_begin_129 : decode cX8_begin 129 = .ok (.iload_n 2, 1) := by decide +kernel
theorem dX8_begin_130 : decode cX8_begin 130 = .ok (.iload_n 3, 1) := by decide +kernel
theorem dX8_begin_131 : decode cX8_begin 131 = .ok (.iload 4, 2) := by decide +kernel
theorem dX8_begin_133 : decode cX8_begin 133 = .ok (.invokevirtual 205, 3) := by decide +kernel
theorem dX8_begin_136 : decode cX8_begin 136 = .ok (.i2l, 1) := by decide +kernel
theorem dX8_begin_137 : decode cX8_begin 137 = .ok (.lmul, 1) := by decide +kernel
theorem dX8_begin_138 : decode cX8_begin 138 = .ok (.ldc2_w 94, 3) := by decide +kernel
theorem dX8_begin_141 : decode cX8_begin 141 = .ok (.ldiv, 1) := by decide +kernel
theorem dX8_begin_142 : decode cX8_begin 142 = .ok (.ladd, 1) := by decide +kernel
theorem dX8_begin_143 : decode cX8_begin 143 = .ok (.lstore 8, 2) := by decide +kernel
theorem dX8_begin_145 : decode cX8_begin 145 = .ok (.lload 8, 2) := by decide +kernel
theorem dX8_begin_147 : decode cX8_begin 147 = .ok (.ldc2_w 208, 3) := by decide +kernel
theorem dX8_begin_150 : decode cX8_begin 150 = .ok (.lcmp, 1) := by decide +kernel
theorem dX8_begin_151 : decode cX8_begin 151 = .ok (.ifCond .le 9, 3) := by decide +kernel
theorem dX8_begin_154 : decode cX8_begin 154 = .ok (.ldc2_w 208, 3) := by decide +kernel
theorem dX8_begin_157 : decode cX8_begin 157 = .ok (.goto 5, 3) := by decide +kernel
theorem dX8_begin_160 : decode cX8_begin 160 = .ok (.lload 8, 2) := by decide +kernel
theorem dX8_begin_162 : decode cX8_begin 162 = .ok (.lstore 8, 2) := by decide +kernel
theorem dX8_begin_164 : decode cX8_begin 164 = .ok (.aload_n 0, 1) := by decide +kernel
theorem dX8_begin_165 : decode cX8_begin 165 = .ok (.getfield 45, 3) := by decide +kernel
theorem dX8_begin_168 : decode cX8_begin 168 = .ok (.iload_n 1, 1) := by decide +kernel
theorem dX8_begin_169 : decode cX8_begin 169 = .ok (.lload 8, 2) := by decide +kernel
theorem dX8_begin_171 : decode cX8_begin 171 = .ok (.aload_n 0, 1) := by decide +kernel
theorem dX8_begin_172 : decode cX8_begin 172 = .ok (.getfield 30, 3) := by decide +kernel
theorem dX8_begin_175 : decode cX8_begin 175 = .ok (.iload_n 1, 1) := by decide +kernel
theorem dX8_begin_176 : decode cX8_begin 176 = .ok (.laload, 1) := by decide +kernel
theorem dX8_begin_177 : decode cX8_begin 177 = .ok (.lsub, 1) := by decide +kernel
theorem dX8_begin_178 : decode cX8_begin 178 = .ok (.lastore, 1) := by decide +kernel
theorem dX8_begin_179 : decode cX8_begin 179 = .ok (.aload_n 0, 1) := by decide +kernel
theorem dX8_begin_180 : decode cX8_begin 180 = .ok (.getfield 30, 3) := by decide +kernel
theorem dX8_begin_183 : decode cX8_begin 183 = .ok (.iload_n 1, 1) := by decide +kernel
theorem dX8_begin_184 : decode cX8_begin 184 = .ok (.lload 8, 2) := by decide +kernel
theorem dX8_begin_186 : decode cX8_begin 186 = .ok (.lastore, 1) := by decide +kernel
theorem dX8_begin_187 : decode cX8_begin 187 = .ok (.aload_n 0, 1) := by decide +kernel
theorem dX8_begin_188 : decode cX8_begin 188 = .ok (.getfield 30, 3) := by decide +kernel
theorem dX8_begin_191 : decode cX8_begin 191 = .ok (.iload_n 1, 1) := by decide +kernel
theorem dX8_begin_192 : decode cX8_begin 192 = .ok (.dup2, 1) := by decide +kernel
theorem dX8_begin_193 : decode cX8_begin 193 = .ok (.laload, 1) := by decide +kernel
theorem dX8_begin_194 : decode cX8_begin 194 = .ok (.aload_n 0, 1) := by decide +kernel
theorem dX8_begin_195 : decode cX8_begin 195 = .ok (.iload_n 1, 1) := by decide +kernel
theorem dX8_begin_196 : decode cX8_begin 196 = .ok (.iconst 2, 1) := by decide +kernel
theorem dX8_begin_197 : decode cX8_begin 197 = .ok (.invokevirtual 202, 3) := by decide +kernel
theorem dX8_begin_200 : decode cX8_begin 200 = .ok (.iload_n 2, 1) := by decide +kernel
theorem dX8_begin_201 : decode cX8_begin 201 = .ok (.if_icmp .ne 13, 3) := by decide +kernel
theorem dX8_begin_204 : decode cX8_begin 204 = .ok (.aload_n 0, 1) := by decide +kernel
theorem dX8_begin_205 : decode cX8_begin 205 = .ok (.iload_n 1, 1) := by decide +kernel
theorem dX8_begin_206 : decode cX8_begin 206 = .ok (.iconst 3, 1) := by decide +kernel
theorem dX8_begin_207 : decode cX8_begin 207 = .ok (.invokevirtual 202, 3) := by decide +kernel
theorem dX8_begin_210 : decode cX8_begin 210 = .ok (.i2l, 1) := by decide +kernel
theorem dX8_begin_211 : decode cX8_begin 211 = .ok (.goto 4, 3) := by decide +kernel
theorem dX8_begin_214 : decode cX8_begin 214 = .ok (.lconst 0, 1) := by decide +kernel
theorem dX8_begin_215 : decode cX8_begin 215 = .ok (.ladd, 1) := by decide +kernel
theorem dX8_begin_216 : decode cX8_begin 216 = .ok (.lastore, 1) := by decide +kernel
theorem dX8_begin_217 : decode cX8_begin 217 = .ok (.aload_n 0, 1) := by decide +kernel
theorem dX8_begin_218 : decode cX8_begin 218 = .ok (.iload_n 1, 1) := by decide +kernel
theorem dX8_begin_219 : decode cX8_begin 219 = .ok (.iconst 5, 1) := by decide +kernel
theorem dX8_begin_220 : decode cX8_begin 220 = .ok (.invokevirtual 202, 3) := by decide +kernel
theorem dX8_begin_223 : decode cX8_begin 223 = .ok (.iload_n 2, 1) := by decide +kernel
theorem dX8_begin_224 : decode cX8_begin 224 = .ok (.if_icmp .ne 44, 3) := by decide +kernel
theorem dX8_begin_227 : decode cX8_begin 227 = .ok (.aload_n 0, 1) := by decide +kernel
theorem dX8_begin_228 : decode cX8_begin 228 = .ok (.iload_n 1, 1) := by decide +kernel
theorem dX8_begin_229 : decode cX8_begin 229 = .ok (.iload_n 2, 1) := by decide +kernel
theorem dX8_begin_230 : decode cX8_begin 230 = .ok (.invokevirtual 134, 3) := by decide +kernel
theorem dX8_begin_233 : decode cX8_begin 233 = .ok (.i2l, 1) := by decide +kernel
theorem dX8_begin_234 : decode cX8_begin 234 = .ok (.lstore 10, 2) := by decide +kernel
theorem dX8_begin_236 : decode cX8_begin 236 = .ok (.aload_n 0, 1) := by decide +kernel
theorem dX8_begin_237 : decode cX8_begin 237 = .ok (.getfield 30, 3) := by decide +kernel
theorem dX8_begin_240 : decode cX8_begin 240 = .ok (.iload_n 1, 1) := by decide +kernel
theorem dX8_begin_241 : decode cX8_begin 241 = .ok (.dup2, 1) := by decide +kernel
theorem dX8_begin_242 : decode cX8_begin 242 = .ok (.laload, 1) := by decide +kernel
theorem dX8_begin_243 : decode cX8_begin 243 = .ok (.lload 10, 2) := by decide +kernel
theorem dX8_begin_245 : decode cX8_begin 245 = .ok (.aload_n 0, 1) := by decide +kernel
theorem dX8_begin_246 : decode cX8_begin 246 = .ok (.getfield 30, 3) := by decide +kernel
theorem dX8_begin_249 : decode cX8_begin 249 = .ok (.iload_n 1, 1) := by decide +kernel
theorem dX8_begin_250 : decode cX8_begin 250 = .ok (.laload, 1) := by decide +kernel
theorem dX8_begin_251 : decode cX8_begin 251 = .ok (.lcmp, 1) := by decide +kernel
theorem dX8_begin_252 : decode cX8_begin 252 = .ok (.ifCond .ge 8, 3) := by decide +kernel
theorem dX8_begin_255 : decode cX8_begin 255 = .ok (.lload 10, 2) := by decide +kernel
theorem dX8_begin_257 : decode cX8_begin 257 = .ok (.goto 9, 3) := by decide +kernel
theorem dX8_begin_260 : decode cX8_begin 260 = .ok (.aload_n 0, 1) := by decide +kernel
theorem dX8_begin_261 : decode cX8_begin 261 = .ok (.getfield 30, 3) := by decide +kernel
theorem dX8_begin_264 : decode cX8_begin 264 = .ok (.iload_n 1, 1) := by decide +kernel
theorem dX8_begin_265 : decode cX8_begin 265 = .ok (.laload, 1) := by decide +kernel
theorem dX8_begin_266 : decode cX8_begin 266 = .ok (.lsub, 1) := by decide +kernel
theorem dX8_begin_267 : decode cX8_begin 267 = .ok (.lastore, 1) := by decide +kernel
theorem dX8_begin_268 : decode cX8_begin 268 = .ok (.return_, 1) := by decide +kernel
def kX8_begin (live : am_E) (Ret : am_R) : am_code := [(0, am_aload 0 1), (1, am_iload 1 2), (2, am_const (.int 0) 3), (3, am_callV live 8 2 TX8_ofLoan 6), (6, am_istore 6 12 8), (8, am_aload 0 9), (9, am_getR live 8 19 12), (12, am_iload 1 13), (13, am_const (.long 0) 14), (14, am_last live 1 15), (15, am_aload 0 16), (16, am_getR live 8 20 19), (19, am_iload 1 20), (20, am_const (.long 0) 21), (21, am_last live 1 22), (22, am_aload 0 23), (23, am_getR live 8 16 26), (26, am_iload 1 27), (27, am_const (.long 0) 28), (28, am_last live 1 29), (29, am_iload 5 31), (31, am_if1 (fun x => x = 0) 34 59), (34, am_iload 2 35), (35, am_aload 0 36), (36, am_iload 1 37), (37, am_const (.int 2) 38), (38, am_callV live 8 2 TX8_ofLoan 41), (41, am_i2 (fun x y => x - y) 42), (42, am_aload 0 43), (43, am_aload 0 44), (44, am_iload 1 45), (45, am_iload 2 46), (46, am_callV live 8 2 TX8_planAt 49), (49, am_const (.int 3) 50), (50, am_iload 6 52), (52, am_iload 2 53), (53, am_callV live 8 4 TX8_inForce 56), (56, am_if2 (fun x y => x < y) 63 59), (59, am_const (.int 1) 60), (60, am_goto 64), (63, am_const (.int 0) 64), (64, am_istore 7 12 66), (66, am_aload 0 67), (67, am_getR live 8 21 70), (70, am_iload 1 71), (71, am_ald live 2 72), (72, am_if1 (fun x => x = 0) 75 106), (75, am_iload 7 77), (77, am_if1 (fun x => x = 0) 106 80), (80, am_aload 0 81), (81, am_getR live 8 21 84), (84, am_iload 1 85), (85, am_const (.int 1) 86), (86, am_zst live 2 87), (87, am_aload 0 88), (88, am_getR live 8 19 91), (91, am_iload 1 92), (92, am_aload 0 93), (93, am_getR live 8 15 96), (96, am_iload 1 97), (97, am_lald live 1 98), (98, am_last live 1 99), (99, am_aload 0 100), (100, am_getR live 8 15 103), (103, am_iload 1 104), (104, am_const (.long 0) 105), (105, am_last live 1 106), (106, am_aload 0 107), (107, am_getR live 8 21 110), (110, am_iload 1 111), (111, am_ald live 2 112), (112, am_if1 (fun x => x = 0) 115 268), (115, am_aload 0 116), (116, am_getR live 8 15 119), (119, am_iload 1 120), (120, am_lald live 1 121), (121, am_aload 0 122), (122, am_getR live 8 15 125), (125, am_iload 1 126), (126, am_lald live 1 127), (127, am_aload 0 128), (128, am_iload 1 129), (129, am_iload 2 130), (130, am_iload 3 131), (131, am_iload 4 133), (133, am_callV live 8 4 TX8_rateOf 136), (136, am_i2l 137), (137, am_l2 (fun x y => x * y) 138), (138, am_const (.long 1000) 141), (141, am_l2z (fun x y => x / y) 142), (142, am_l2 (fun x y => x + y) 143), (143, am_lstore 8 12 145), (145, am_lload 8 147), (147, am_const (.long 1000000000000) 150), (150, am_lcmp 151), (151, am_if1 (fun x => x ≤ 0) 160 154), (154, am_const (.long 1000000000000) 157), (157, am_goto 162), (160, am_lload 8 162), (162, am_lstore 8 12 164), (164, am_aload 0 165), (165, am_getR live 8 20 168), (168, am_iload 1 169), (169, am_lload 8 171), (171, am_aload 0 172), (172, am_getR live 8 15 175), (175, am_iload 1 176), (176, am_lald live 1 177), (177, am_l2 (fun x y => x - y) 178), (178, am_last live 1 179), (179, am_aload 0 180), (180, am_getR live 8 15 183), (183, am_iload 1 184), (184, am_lload 8 186), (186, am_last live 1 187), (187, am_aload 0 188), (188, am_getR live 8 15 191), (191, am_iload 1 192), (192, am_dup2 193), (193, am_lald live 1 194), (194, am_aload 0 195), (195, am_iload 1 196), (196, am_const (.int 2) 197), (197, am_callV live 8 2 TX8_ofLoan 200), (200, am_iload 2 201), (201, am_if2 (fun x y => x = y) 204 214), (204, am_aload 0 205), (205, am_iload 1 206), (206, am_const (.int 3) 207), (207, am_callV live 8 2 TX8_ofLoan 210), (210, am_i2l 211), (211, am_goto 215), (214, am_const (.long 0) 215), (215, am_l2 (fun x y => x + y) 216), (216, am_last live 1 217), (217, am_aload 0 218), (218, am_iload 1 219), (219, am_const (.int 5) 220), (220, am_callV live 8 2 TX8_ofLoan 223), (223, am_iload 2 224), (224, am_if2 (fun x y => x = y) 227 268), (227, am_aload 0 228), (228, am_iload 1 229), (229, am_iload 2 230), (230, am_callV live 8 2 TX8_given 233), (233, am_i2l 234), (234, am_lstore 10 12 236), (236, am_aload 0 237), (237, am_getR live 8 15 240), (240, am_iload 1 241), (241, am_dup2 242), (242, am_lald live 1 243), (243, am_lload 10 245), (245, am_aload 0 246), (246, am_getR live 8 15 249), (249, am_iload 1 250), (250, am_lald live 1 251), (251, am_lcmp 252), (252, am_if1 (fun x => 0 ≤ x) 260 255), (255, am_lload 10 257), (257, am_goto 266), (260, am_aload 0 261), (261, am_getR live 8 15 264), (264, am_iload 1 265), (265, am_lald live 1 266), (266, am_l2 (fun x y => x - y) 267), (267, am_last live 1 268), (268, am_retV Ret)]
theorem koX8_begin (live : am_E) (Ret : am_R) : ∀ q ∈ kX8_begin live Ret, am_ok RX8 cX8_begin 12 none 7 162 live Ret q.1 q.2 :=
  am_kc (ak_aload_n dX8_begin_0 rfl rfl) <|
  am_kc (ak_iload_n dX8_begin_1 rfl rfl) <|
  am_kc (ak_iconst dX8_begin_2 (by decide +kernel) rfl) <|
  am_kc (ak_callV (C := RX8) (F := TX8) (N := 27) metX8_ofLoan rfl ⟨rfl, by decide +kernel, by decide +kernel, by decide +kernel⟩ (am_w5 wd_1154 wd_1156 wd_41 wd_67 wd_1157) (by decide) dX8_begin_3 rfl) <|
  am_kc (ak_istore dX8_begin_6 rfl) <|
  am_kc (ak_aload_n dX8_begin_8 rfl rfl) <|
  am_kc (ak_getR (C := RX8) (T := TX8) (N := 27) rfl inX8w (by decide) rfl rfl rfl wd_914 dX8_begin_9 rfl) <|
  am_kc (ak_iload_n dX8_begin_12 rfl rfl) <|
  am_kc (ak_lconst dX8_begin_13 (by decide +kernel) rfl) <|
  am_kc (ak_last (t := 1) (fun _ => rfl) rfl dX8_begin_14 rfl) <|
  am_kc (ak_aload_n dX8_begin_15 rfl rfl) <|
  am_kc (ak_getR (C := RX8) (T := TX8) (N := 27) rfl inX8w (by decide) rfl rfl rfl wd_915 dX8_begin_16 rfl) <|
  am_kc (ak_iload_n dX8_begin_19 rfl rfl) <|
  am_kc (ak_lconst dX8_begin_20 (by decide +kernel) rfl) <|
  am_kc (ak_last (t := 1) (fun _ => rfl) rfl dX8_begin_21 rfl) <|
  am_kc (ak_aload_n dX8_begin_22 rfl rfl) <|
  am_kc (ak_getR (C := RX8) (T := TX8) (N := 27) rfl inX8w (by decide) rfl rfl rfl wd_911 dX8_begin_23 rfl) <|
  am_kc (ak_iload_n dX8_begin_26 rfl rfl) <|
  am_kc (ak_lconst dX8_begin_27 (by decide +kernel) rfl) <|
  am_kc (ak_last (t := 1) (fun _ => rfl) rfl dX8_begin_28 rfl) <|
  am_kc (ak_iload dX8_begin_29 rfl) <|
  am_kc (ak_if_ne dX8_begin_31 (by decide +kernel) rfl) <|
  am_kc (ak_iload_n dX8_begin_34 rfl rfl) <|
  am_kc (ak_aload_n dX8_begin_35 rfl rfl) <|
  am_kc (ak_iload_n dX8_begin_36 rfl rfl) <|
  am_kc (ak_iconst dX8_begin_37 (by decide +kernel) rfl) <|
  am_kc (ak_callV (C := RX8) (F := TX8) (N := 27) metX8_ofLoan rfl ⟨rfl, by decide +kernel, by decide +kernel, by decide +kernel⟩ (am_w5 wd_1154 wd_1156 wd_41 wd_67 wd_1157) (by decide) dX8_begin_38 rfl) <|
  am_kc (ak_isub dX8_begin_41 rfl) <|
  am_kc (ak_aload_n dX8_begin_42 rfl rfl) <|
  am_kc (ak_aload_n dX8_begin_43 rfl rfl) <|
  am_kc (ak_iload_n dX8_begin_44 rfl rfl) <|
  am_kc (ak_iload_n dX8_begin_45 rfl rfl) <|
  am_kc (ak_callV (C := RX8) (F := TX8) (N := 27) metX8_planAt rfl ⟨rfl, by decide +kernel, by decide +kernel, by decide +kernel⟩ (am_w5 wd_1085 wd_1087 wd_32 wd_67 wd_1088) (by decide) dX8_begin_46 rfl) <|
  am_kc (ak_iconst dX8_begin_49 (by decide +kernel) rfl) <|
  am_kc (ak_iload dX8_begin_50 rfl) <|
  am_kc (ak_iload_n dX8_begin_52 rfl rfl) <|
  am_kc (ak_callV (C := RX8) (F := TX8) (N := 27) metX8_inForce rfl ⟨rfl, by decide +kernel, by decide +kernel, by decide +kernel⟩ (am_w5 wd_1053 wd_1055 wd_29 wd_67 wd_1056) (by decide) dX8_begin_53 rfl) <|
  am_kc (ak_icmp_lt dX8_begin_56 (by decide +kernel) rfl) <|
  am_kc (ak_iconst dX8_begin_59 (by decide +kernel) rfl) <|
  am_kc (ak_goto dX8_begin_60 (by decide +kernel)) <|
  am_kc (ak_iconst dX8_begin_63 (by decide +kernel) rfl) <|
  am_kc (ak_istore dX8_begin_64 rfl) <|
  am_kc (ak_aload_n dX8_begin_66 rfl rfl) <|
  am_kc (ak_getR (C := RX8) (T := TX8) (N := 27) rfl inX8w (by decide) rfl rfl rfl wd_916 dX8_begin_67 rfl) <|
  am_kc (ak_iload_n dX8_begin_70 rfl rfl) <|
  am_kc (ak_zald (t := 2) (fun _ => rfl) rfl dX8_begin_71 rfl) <|
  am_kc (ak_if_ne dX8_begin_72 (by decide +kernel) rfl) <|
  am_kc (ak_iload dX8_begin_75 rfl) <|
  am_kc (ak_if_eq dX8_begin_77 (by decide +kernel) rfl) <|
  am_kc (ak_aload_n dX8_begin_80 rfl rfl) <|
  am_kc (ak_getR (C := RX8) (T := TX8) (N := 27) rfl inX8w (by decide) rfl rfl rfl wd_916 dX8_begin_81 rfl) <|
  am_kc (ak_iload_n dX8_begin_84 rfl rfl) <|
  am_kc (ak_iconst dX8_begin_85 (by decide +kernel) rfl) <|
  am_kc (ak_zast (t := 2) (fun _ => rfl) rfl dX8_begin_86 rfl) <|
  am_kc (ak_aload_n dX8_begin_87 rfl rfl) <|
  am_kc (ak_getR (C := RX8) (T := TX8) (N := 27) rfl inX8w (by decide) rfl rfl rfl wd_914 dX8_begin_88 rfl) <|
  am_kc (ak_iload_n dX8_begin_91 rfl rfl) <|
  am_kc (ak_aload_n dX8_begin_92 rfl rfl) <|
  am_kc (ak_getR (C := RX8) (T := TX8) (N := 27) rfl inX8w (by decide) rfl rfl rfl wd_910 dX8_begin_93 rfl) <|
  am_kc (ak_iload_n dX8_begin_96 rfl rfl) <|
  am_kc (ak_lald (t := 1) (fun _ => rfl) rfl dX8_begin_97 rfl) <|
  am_kc (ak_last (t := 1) (fun _ => rfl) rfl dX8_begin_98 rfl) <|
  am_kc (ak_aload_n dX8_begin_99 rfl rfl) <|
  am_kc (ak_getR (C := RX8) (T := TX8) (N := 27) rfl inX8w (by decide) rfl rfl rfl wd_910 dX8_begin_100 rfl) <|
  am_kc (ak_iload_n dX8_begin_103 rfl rfl) <|
  am_kc (ak_lconst dX8_begin_104 (by decide +kernel) rfl) <|
  am_kc (ak_last (t := 1) (fun _ => rfl) rfl dX8_begin_105 rfl) <|
  am_kc (ak_aload_n dX8_begin_106 rfl rfl) <|
  am_kc (ak_getR (C := RX8) (T := TX8) (N := 27) rfl inX8w (by decide) rfl rfl rfl wd_916 dX8_begin_107 rfl) <|
  am_kc (ak_iload_n dX8_begin_110 rfl rfl) <|
  am_kc (ak_zald (t := 2) (fun _ => rfl) rfl dX8_begin_111 rfl) <|
  am_kc (ak_if_ne dX8_begin_112 (by decide +kernel) rfl) <|
  am_kc (ak_aload_n dX8_begin_115 rfl rfl) <|
  am_kc (ak_getR (C := RX8) (T := TX8) (N := 27) rfl inX8w (by decide) rfl rfl rfl wd_910 dX8_begin_116 rfl) <|
  am_kc (ak_iload_n dX8_begin_119 rfl rfl) <|
  am_kc (ak_lald (t := 1) (fun _ => rfl) rfl dX8_begin_120 rfl) <|
  am_kc (ak_aload_n dX8_begin_121 rfl rfl) <|
  am_kc (ak_getR (C := RX8) (T := TX8) (N := 27) rfl inX8w (by decide) rfl rfl rfl wd_910 dX8_begin_122 rfl) <|
  am_kc (ak_iload_n dX8_begin_125 rfl rfl) <|
  am_kc (ak_lald (t := 1) (fun _ => rfl) rfl dX8_begin_126 rfl) <|
  am_kc (ak_aload_n dX8_begin_127 rfl rfl) <|
  am_kc (ak_iload_n dX8_begin_128 rfl rfl) <|
  am_kc (ak_iload_n dX8_begin_129 rfl rfl) <|
  am_kc (ak_iload_n dX8_begin_130 rfl rfl) <|
  am_kc (ak_iload dX8_begin_131 rfl) <|
  am_kc (ak_callV (C := RX8) (F := TX8) (N := 27) metX8_rateOf rfl ⟨rfl, by decide +kernel, by decide +kernel, by decide +kernel⟩ (am_w5 wd_1174 wd_1176 wd_46 wd_67 wd_1177) (by decide) dX8_begin_133 rfl) <|
  am_kc (ak_i2l dX8_begin_136 rfl) <|
  am_kc (ak_lmul dX8_begin_137 rfl) <|
  am_kc (ak_ldc2 wd_1045 dX8_begin_138 rfl) <|
  am_kc (ak_ldiv dX8_begin_141 rfl) <|
  am_kc (ak_ladd dX8_begin_142 rfl) <|
  am_kc (ak_lstore dX8_begin_143 rfl) <|
  am_kc (ak_lload dX8_begin_145 rfl) <|
  am_kc (ak_ldc2 wd_1178 dX8_begin_147 rfl) <|
  am_kc (ak_lcmp dX8_begin_150 rfl) <|
  am_kc (ak_if_le dX8_begin_151 (by decide +kernel) rfl) <|
  am_kc (ak_ldc2 wd_1178 dX8_begin_154 rfl) <|
  am_kc (ak_goto dX8_begin_157 (by decide +kernel)) <|
  am_kc (ak_lload dX8_begin_160 rfl) <|
  am_kc (ak_lstore dX8_begin_162 rfl) <|
  am_kc (ak_aload_n dX8_begin_164 rfl rfl) <|
  am_kc (ak_getR (C := RX8) (T := TX8) (N := 27) rfl inX8w (by decide) rfl rfl rfl wd_915 dX8_begin_165 rfl) <|
  am_kc (ak_iload_n dX8_begin_168 rfl rfl) <|
  am_kc (ak_lload dX8_begin_169 rfl) <|
  am_kc (ak_aload_n dX8_begin_171 rfl rfl) <|
  am_kc (ak_getR (C := RX8) (T := TX8) (N := 27) rfl inX8w (by decide) rfl rfl rfl wd_910 dX8_begin_172 rfl) <|
  am_kc (ak_iload_n dX8_begin_175 rfl rfl) <|
  am_kc (ak_lald (t := 1) (fun _ => rfl) rfl dX8_begin_176 rfl) <|
  am_kc (ak_lsub dX8_begin_177 rfl) <|
  am_kc (ak_last (t := 1) (fun _ => rfl) rfl dX8_begin_178 rfl) <|
  am_kc (ak_aload_n dX8_begin_179 rfl rfl) <|
  am_kc (ak_getR (C := RX8) (T := TX8) (N := 27) rfl inX8w (by decide) rfl rfl rfl wd_910 dX8_begin_180 rfl) <|
  am_kc (ak_iload_n dX8_begin_183 rfl rfl) <|
  am_kc (ak_lload dX8_begin_184 rfl) <|
  am_kc (ak_last (t := 1) (fun _ => rfl) rfl dX8_begin_186 rfl) <|
  am_kc (ak_aload_n dX8_begin_187 rfl rfl) <|
  am_kc (ak_getR (C := RX8) (T := TX8) (N := 27) rfl inX8w (by decide) rfl rfl rfl wd_910 dX8_begin_188 rfl) <|
  am_kc (ak_iload_n dX8_begin_191 rfl rfl) <|
  am_kc (ak_dup2 dX8_begin_192 rfl) <|
  am_kc (ak_lald (t := 1) (fun _ => rfl) rfl dX8_begin_193 rfl) <|
  am_kc (ak_aload_n dX8_begin_194 rfl rfl) <|
  am_kc (ak_iload_n dX8_begin_195 rfl rfl) <|
  am_kc (ak_iconst dX8_begin_196 (by decide +kernel) rfl) <|
  am_kc (ak_callV (C := RX8) (F := TX8) (N := 27) metX8_ofLoan rfl ⟨rfl, by decide +kernel, by decide +kernel, by decide +kernel⟩ (am_w5 wd_1154 wd_1156 wd_41 wd_67 wd_1157) (by decide) dX8_begin_197 rfl) <|
  am_kc (ak_iload_n dX8_begin_200 rfl rfl) <|
  am_kc (ak_icmp_ne dX8_begin_201 (by decide +kernel) rfl) <|
  am_kc (ak_aload_n dX8_begin_204 rfl rfl) <|
  am_kc (ak_iload_n dX8_begin_205 rfl rfl) <|
  am_kc (ak_iconst dX8_begin_206 (by decide +kernel) rfl) <|
  am_kc (ak_callV (C := RX8) (F := TX8) (N := 27) metX8_ofLoan rfl ⟨rfl, by decide +kernel, by decide +kernel, by decide +kernel⟩ (am_w5 wd_1154 wd_1156 wd_41 wd_67 wd_1157) (by decide) dX8_begin_207 rfl) <|
  am_kc (ak_i2l dX8_begin_210 rfl) <|
  am_kc (ak_goto dX8_begin_211 (by decide +kernel)) <|
  am_kc (ak_lconst dX8_begin_214 (by decide +kernel) rfl) <|
  am_kc (ak_ladd dX8_begin_215 rfl) <|
  am_kc (ak_last (t := 1) (fun _ => rfl) rfl dX8_begin_216 rfl) <|
  am_kc (ak_aload_n dX8_begin_217 rfl rfl) <|
  am_kc (ak_iload_n dX8_begin_218 rfl rfl) <|
  am_kc (ak_iconst dX8_begin_219 (by decide +kernel) rfl) <|
  am_kc (ak_callV (C := RX8) (F := TX8) (N := 27) metX8_ofLoan rfl ⟨rfl, by decide +kernel, by decide +kernel, by decide +kernel⟩ (am_w5 wd_1154 wd_1156 wd_41 wd_67 wd_1157) (by decide) dX8_begin_220 rfl) <|
  am_kc (ak_iload_n dX8_begin_223 rfl rfl) <|
  am_kc (ak_icmp_ne dX8_begin_224 (by decide +kernel) rfl) <|
  am_kc (ak_aload_n dX8_begin_227 rfl rfl) <|
  am_kc (ak_iload_n dX8_begin_228 rfl rfl) <|
  am_kc (ak_iload_n dX8_begin_229 rfl rfl) <|
  am_kc (ak_callV (C := RX8) (F := TX8) (N := 27) metX8_given rfl ⟨rfl, by decide +kernel, by decide +kernel, by decide +kernel⟩ (am_w5 wd_1073 wd_1075 wd_31 wd_67 wd_1076) (by decide) dX8_begin_230 rfl) <|
  am_kc (ak_i2l dX8_begin_233 rfl) <|
  am_kc (ak_lstore dX8_begin_234 rfl) <|
  am_kc (ak_aload_n dX8_begin_236 rfl rfl) <|
  am_kc (ak_getR (C := RX8) (T := TX8) (N := 27) rfl inX8w (by decide) rfl rfl rfl wd_910 dX8_begin_237 rfl) <|
  am_kc (ak_iload_n dX8_begin_240 rfl rfl) <|
  am_kc (ak_dup2 dX8_begin_241 rfl) <|
  am_kc (ak_lald (t := 1) (fun _ => rfl) rfl dX8_begin_242 rfl) <|
  am_kc (ak_lload dX8_begin_243 rfl) <|
  am_kc (ak_aload_n dX8_begin_245 rfl rfl) <|
  am_kc (ak_getR (C := RX8) (T := TX8) (N := 27) rfl inX8w (by decide) rfl rfl rfl wd_910 dX8_begin_246 rfl) <|
  am_kc (ak_iload_n dX8_begin_249 rfl rfl) <|
  am_kc (ak_lald (t := 1) (fun _ => rfl) rfl dX8_begin_250 rfl) <|
  am_kc (ak_lcmp dX8_begin_251 rfl) <|
  am_kc (ak_if_ge dX8_begin_252 (by decide +kernel) rfl) <|
  am_kc (ak_lload dX8_begin_255 rfl) <|
  am_kc (ak_goto dX8_begin_257 (by decide +kernel)) <|
  am_kc (ak_aload_n dX8_begin_260 rfl rfl) <|
  am_kc (ak_getR (C := RX8) (T := TX8) (N := 27) rfl inX8w (by decide) rfl rfl rfl wd_910 dX8_begin_261 rfl) <|
  am_kc (ak_iload_n dX8_begin_264 rfl rfl) <|
  am_kc (ak_lald (t := 1) (fun _ => rfl) rfl dX8_begin_265 rfl) <|
  am_kc (ak_lsub dX8_begin_266 rfl) <|
  am_kc (ak_last (t := 1) (fun _ => rfl) rfl dX8_begin_267 rfl) <|
  am_kc (ak_retV dX8_begin_268) <| am_kn
def TX8_begin : am_T := fun live as M R => match as with
  | [.ref n, .int l, .int y, .int e, .int a, .int d] => am_mn live ∧ n = 200 ∧ am_in l 30 ∧ am_in y 40 ∧ r_I M ∧ ∀ M', r_sc M M' → r_I M' → R none M'
  | _ => False
def JX8_begin : am_E → List Value → am_M → am_R → am_inv := fun live as M0 _ pc => match as with
  | [.ref n, .int l, .int y, .int e, .int a, .int d] => (match pc with
    | 66 => some ([0, 1, 2, 3, 4, 7], fun k L st M => ∃ z : Int32, L = [(0, .ref 200), (1, .int l), (2, .int y), (3, .int e), (4, .int a), (7, .int z)] ∧ st = [] ∧ k = (10, 0) ∧ r_sc M0 M ∧ r_I M)
    | 106 => some ([0, 1, 2, 3, 4], fun k L st M => L = [(0, .ref 200), (1, .int l), (2, .int y), (3, .int e), (4, .int a)] ∧ st = [] ∧ k = (9, 0) ∧ r_sc M0 M ∧ r_I M)
    | 187 => some ([0, 1, 2], fun k L st M => L = [(0, .ref 200), (1, .int l), (2, .int y)] ∧ st = [] ∧ k = (8, 0) ∧ r_sc M0 M ∧ r_I M)
    | 217 => some ([0, 1, 2], fun k L st M => L = [(0, .ref 200), (1, .int l), (2, .int y)] ∧ st = [] ∧ k = (7, 0) ∧ r_sc M0 M ∧ r_I M)
    | _ => none)
  | _ => none
set_option maxRecDepth 100000 in
set_option maxHeartbeats 4000000 in
theorem metX8_begin : am_Met yX8_begin cX8_begin 12 none (7) (162) TX8_begin := by
  refine am_met (own := RX8) (by decide +kernel) rfl kX8_begin koX8_begin 150 JX8_begin ?_ ?_
  · intro live as M Ret h
    unfold TX8_begin at h
    split at h
    · next n l y e a d =>
      refine ⟨Nat.le_of_ble_eq_true rfl, ?_⟩
      change am_wp _ _ _ _ [(0, Value.ref n), (1, Value.int l), (2, Value.int y), (3, Value.int e), (4, Value.int a), (5, Value.int d)] _ _
      obtain ⟨hmn, rfl, hl, hy, hR, h⟩ := h
      have hmn2 := hmn
      obtain ⟨i1, i2, rfl⟩ := hmn2
      have hp := r_pers hR hl
      have w0 : 0 ≤ (0 : Int32).toInt ∧ (0 : Int32).toInt ≤ 7 := ⟨by decide, by decide⟩
      have w2 : 0 ≤ (2 : Int32).toInt ∧ (2 : Int32).toInt ≤ 7 := ⟨by decide, by decide⟩
      have l1 := hl.1
      have l2 : l.toInt < ((30 : Nat) : Int) := hl.2
      repeat' (first | (with_reducible exact hmn) | (with_reducible exact hl) | (with_reducible exact hy) | (with_reducible exact hp) | (with_reducible exact w0) | (with_reducible exact w2) | (with_reducible exact hR) | (with_reducible exact l1) | apply And.intro | exact rfl | ((with_reducible change r_I _); (with_reducible assumption)) | (intro hx; exact absurd hx (by decide)) | (intro hx; exact absurd (by decide) hx) | decide | intro hx | (refine Exists.intro _ (And.intro rfl ?_)))
      all_goals try first | (with_reducible change am_tI _ _) | (change Ret _ _) | (change Ret _ _ _) | (change Exists _)
      all_goals try dsimp only at *
      all_goals try exact absurd ‹(1000 : Int64) = 0› (by decide)
      all_goals first
        | exact l2
        | (change r_I _; (repeat' (first | (with_reducible assumption) | ((with_reducible change r_I (am_wJ _ _ _ _)); refine r_I.wJ ?_) | ((with_reducible change r_I (am_wI _ _ _ _)); refine r_I.wI ?_ rfl))))
        | exact ⟨_, _, rfl, rfl, rfl, by (repeat' (first | (with_reducible exact r_sc.rf) | (with_reducible assumption) | ((with_reducible change r_sc _ (am_wI _ _ _ _)); refine r_sc.wI ?_ rfl) | ((with_reducible change r_sc _ (am_wJ _ _ _ _)); refine r_sc.wJ ?_ rfl) | (refine r_sc.tr ?_ (by with_reducible assumption)))), by (repeat' (first | (with_reducible assumption) | ((with_reducible change r_I (am_wJ _ _ _ _)); refine r_I.wJ ?_) | ((with_reducible change r_I (am_wI _ _ _ _)); refine r_I.wI ?_ rfl)))⟩
        | skip
    · exact h.elim
  · intro live as M0 Ret h k pc I hI L st M hi
    unfold TX8_begin at h
    split at h
    · next n l y e a d =>
      obtain ⟨hmn, rfl, hl, hy, hR, h⟩ := h
      have hmn2 := hmn
      obtain ⟨i1, i2, rfl⟩ := hmn2
      have w2 : 0 ≤ (2 : Int32).toInt ∧ (2 : Int32).toInt ≤ 7 := ⟨by decide, by decide⟩
      have w3 : 0 ≤ (3 : Int32).toInt ∧ (3 : Int32).toInt ≤ 7 := ⟨by decide, by decide⟩
      have w5 : 0 ≤ (5 : Int32).toInt ∧ (5 : Int32).toInt ≤ 7 := ⟨by decide, by decide⟩
      have l1 := hl.1
      have l2 : l.toInt < ((30 : Nat) : Int) := hl.2
      change (match pc with | 66 => _ | 106 => _ | 187 => _ | 217 => _ | _ => none) = _ at hI
      split at hI
      · cases hI
        obtain ⟨z, rfl, rfl, rfl, e2, e3⟩ := hi
        repeat' (first | (with_reducible exact hmn) | (with_reducible exact l1) | apply And.intro | exact rfl | (intro hx; exact absurd hx (by decide)) | (intro hx; exact absurd (by decide) hx) | decide | intro hx | (refine Exists.intro _ (And.intro rfl ?_)))
        all_goals try first | (with_reducible change am_tI _ _) | (change Ret _ _) | (change Ret _ _ _) | (change Exists _)
        all_goals try dsimp only at *
        all_goals try exact absurd ‹(1000 : Int64) = 0› (by decide)
        all_goals first
          | exact l2
          | exact ⟨_, am_lt_l (by decide), rfl, rfl, rfl, by (repeat' (first | (with_reducible exact r_sc.rf) | (with_reducible assumption) | ((with_reducible change r_sc _ (am_wI _ _ _ _)); refine r_sc.wI ?_ rfl) | ((with_reducible change r_sc _ (am_wJ _ _ _ _)); refine r_sc.wJ ?_ rfl) | (refine r_sc.tr ?_ (by with_reducible assumption)))), by (repeat' (first | (with_reducible assumption) | ((with_reducible change r_I (am_wJ _ _ _ _)); refine r_I.wJ ?_) | ((with_reducible change r_I (am_wI _ _ _ _)); refine r_I.wI ?_ rfl)))⟩
          | skip
      · cases hI
        obtain ⟨rfl, rfl, rfl, e2, e3⟩ := hi
        repeat' (first | (with_reducible exact hmn) | (with_reducible exact hl) | (with_reducible exact hy) | (with_reducible exact l1) | (with_reducible exact e3) | apply And.intro | exact rfl | ((with_reducible change r_I _); (with_reducible assumption)) | (intro hx; exact absurd hx (by decide)) | (intro hx; exact absurd (by decide) hx) | decide | intro hx | (refine Exists.intro _ (And.intro rfl ?_)))
        all_goals try first | (with_reducible change am_tI _ _) | (change Ret _ _) | (change Ret _ _ _) | (change Exists _)
        all_goals try dsimp only at *
        all_goals try exact absurd ‹(1000 : Int64) = 0› (by decide)
        all_goals first
          | exact l2
          | exact h _ e2 e3
          | exact ⟨_, am_lt_l (by decide), rfl, rfl, rfl, by (repeat' (first | (with_reducible exact r_sc.rf) | (with_reducible assumption) | ((with_reducible change r_sc _ (am_wI _ _ _ _)); refine r_sc.wI ?_ rfl) | ((with_reducible change r_sc _ (am_wJ _ _ _ _)); refine r_sc.wJ ?_ rfl) | (refine r_sc.tr ?_ (by with_reducible assumption)))), by (repeat' (first | (with_reducible assumption) | ((with_reducible change r_I (am_wJ _ _ _ _)); refine r_I.wJ ?_) | ((with_reducible change r_I (am_wI _ _ _ _)); refine r_I.wI ?_ rfl)))⟩
          | skip
      · cases hI
        obtain ⟨rfl, rfl, rfl, e2, e3⟩ := hi
        repeat' (first | (with_reducible exact hmn) | (with_reducible exact hl) | (with_reducible exact w2) | (with_reducible exact w3) | (with_reducible exact l1) | (with_reducible exact e3) | apply And.intro | exact rfl | ((with_reducible change r_I _); (with_reducible assumption)) | (intro hx; exact absurd hx (by decide)) | (intro hx; exact absurd (by decide) hx) | decide | intro hx | (refine Exists.intro _ (And.intro rfl ?_)))
        all_goals try first | (with_reducible change am_tI _ _) | (change Ret _ _) | (change Ret _ _ _) | (change Exists _)
        all_goals try dsimp only at *
        all_goals try exact absurd ‹(1000 : Int64) = 0› (by decide)
        all_goals first
          | exact l2
          | exact ⟨_, am_lt_l (by decide), rfl, rfl, rfl, by (repeat' (first | (with_reducible exact r_sc.rf) | (with_reducible assumption) | ((with_reducible change r_sc _ (am_wI _ _ _ _)); refine r_sc.wI ?_ rfl) | ((with_reducible change r_sc _ (am_wJ _ _ _ _)); refine r_sc.wJ ?_ rfl) | (refine r_sc.tr ?_ (by with_reducible assumption)))), by (repeat' (first | (with_reducible assumption) | ((with_reducible change r_I (am_wJ _ _ _ _)); refine r_I.wJ ?_) | ((with_reducible change r_I (am_wI _ _ _ _)); refine r_I.wI ?_ rfl)))⟩
          | skip
      · cases hI
        obtain ⟨rfl, rfl, rfl, e2, e3⟩ := hi
        repeat' (first | (with_reducible exact hmn) | (with_reducible exact hl) | (with_reducible exact w5) | (with_reducible exact l1) | (with_reducible exact e3) | apply And.intro | exact rfl | ((with_reducible change r_I _); (with_reducible assumption)) | (intro hx; exact absurd hx (by decide)) | (intro hx; exact absurd (by decide) hx) | decide | intro hx | (refine Exists.intro _ (And.intro rfl ?_)))
        all_goals try first | (with_reducible change am_tI _ _) | (change Ret _ _) | (change Ret _ _ _) | (change Exists _)
        all_goals try dsimp only at *
        all_goals try exact absurd ‹(1000 : Int64) = 0› (by decide)
        all_goals first
          | exact l2
          | exact h _ (by (repeat' (first | (with_reducible exact r_sc.rf) | (with_reducible assumption) | ((with_reducible change r_sc _ (am_wI _ _ _ _)); refine r_sc.wI ?_ rfl) | ((with_reducible change r_sc _ (am_wJ _ _ _ _)); refine r_sc.wJ ?_ rfl) | (refine r_sc.tr ?_ (by with_reducible assumption))))) (by (repeat' (first | (with_reducible assumption) | ((with_reducible change r_I (am_wJ _ _ _ _)); refine r_I.wJ ?_) | ((with_reducible change r_I (am_wI _ _ _ _)); refine r_I.wI ?_ rfl))))
          | skip
      · cases hI
    · exact h.elim
set_option maxRecDepth 100000 in
theorem wd_1170 : Cond.methodLink "LearnLoansModel" 210 yX8_begin ∈ am_ws := am_wsi (List.mem_of_getElem? (i := 1170) (by rfl)) (by decide +kernel)
set_option maxRecDepth 100000 in
theorem wd_1172 : Cond.instanceMethod yX8_begin ∈ am_ws := am_wsi (List.mem_of_getElem? (i := 1172) (by rfl)) (by decide +kernel)
set_option maxRecDepth 100000 in
theorem wd_45 : Cond.selects "LearnLoansModel" yX8_begin yX8_begin ∈ am_ws := am_wsi (List.mem_of_getElem? (i := 45) (by rfl)) (by decide +kernel)
set_option maxRecDepth 100000 in
theorem wd_1173 : Cond.code yX8_begin cX8_begin 12 none ∈ am_ws := am_wsi (List.mem_of_getElem? (i := 1173) (by rfl)) (by decide +kernel)
set_option maxRecDepth 100000 in
theorem wd_1179 : Cond.methodLink "LearnLoansModel" 214 yX8_isIn ∈ am_ws := am_wsi (List.mem_of_getElem? (i := 1179) (by rfl)) (by decide +kernel)
set_option maxRecDepth 100000 in
theorem wd_1181 : Cond.instanceMethod yX8_isIn ∈ am_ws := am_wsi (List.mem_of_getElem? (i := 1181) (by rfl)) (by decide +kernel)
set_option maxRecDepth 100000 in
theorem wd_47 : Cond.selects "LearnLoansModel" yX8_isIn yX8_isIn ∈ am_ws := am_wsi (List.mem_of_getElem? (i := 47) (by rfl)) (by decide +kernel)
set_option maxRecDepth 100000 in
theorem wd_1182 : Cond.code yX8_isIn cX8_isIn 5 (some .boolean) ∈ am_ws := am_wsi (List.mem_of_getElem? (i := 1182) (by rfl)) (by decide +kernel)
set_option maxRecDepth 100000 in
theorem wd_917 : Cond.fieldLink "LearnLoansModel" 218 "LearnLoansModel" "paid" "J" ∈ am_ws := am_wsi (List.mem_of_getElem? (i := 917) (by rfl)) (by decide +kernel)
set_option maxRecDepth 100000 in
theorem wd_1183 : Cond.methodLink "LearnLoansModel" 222 yX8_dueOf ∈ am_ws := am_wsi (List.mem_of_getElem? (i := 1183) (by rfl)) (by decide +kernel)
set_option maxRecDepth 100000 in
theorem wd_1185 : Cond.instanceMethod yX8_dueOf ∈ am_ws := am_wsi (List.mem_of_getElem? (i := 1185) (by rfl)) (by decide +kernel)
set_option maxRecDepth 100000 in
theorem wd_48 : Cond.selects "LearnLoansModel" yX8_dueOf yX8_dueOf ∈ am_ws := am_wsi (List.mem_of_getElem? (i := 48) (by rfl)) (by decide +kernel)
set_option maxRecDepth 100000 in
theorem wd_1186 : Cond.code yX8_dueOf cX8_dueOf 9 (some .long) ∈ am_ws := am_wsi (List.mem_of_getElem? (i := 1186) (by rfl)) (by decide +kernel)
theorem dX8_stepYear_0 : decode cX8_stepYear 0 = .ok (.iconst 0, 1) := by decide +kernel
theorem dX8_stepYear_1 : decode cX8_stepYear 1 = .ok (.istore 8, 2) := by decide +kernel
theorem dX8_stepYear_3 : decode cX8_stepYear 3 = .ok (.iload 8, 2) := by decide +kernel
theorem dX8_stepYear_5 : decode cX8_stepYear 5 = .ok (.aload_n 0, 1) := by decide +kernel
theorem dX8_stepYear_6 : decode cX8_stepYear 6 = .ok (.getfield 7, 3) := by decide +kernel
theorem dX8_stepYear_9 : decode cX8_stepYear 9 = .ok (.iconst 1, 1) := by decide +kernel
theorem dX8_stepYear_10 : decode cX8_stepYear 10 = .ok (.iaload, 1) := by decide +kernel
theorem dX8_stepYear_11 : decode cX8_stepYear 11 = .ok (.if_icmp .ge 32, 3) := by decide +kernel
theorem dX8_stepYear_14 : decode cX8_stepYear 14 = .ok (.aload_n 0, 1) := by decide +kernel
theorem dX8_stepYear_15 : decode cX8_stepYear 15 = .ok (.iload 8, 2) := by decide +kernel
theorem dX8_stepYear_17 : decode cX8_stepYear 17 = .ok (.iconst 0, 1) := by decide +kernel
theorem dX8_stepYear_18 : decode cX8_stepYear 18 = .ok (.invokevirtual 202, 3) := by decide +kernel
theorem dX8_stepYear_21 : decode cX8_stepYear 21 = .ok (.iload_n 1, 1) := by decide +kernel
theorem dX8_stepYear_22 : decode cX8_stepYear 22 = .ok (.if_icmp .ne 15, 3) := by decide +kernel
theorem dX8_stepYear_25 : decode cX8_stepYear 25 = .ok (.aload_n 0, 1) := by decide +kernel
theorem dX8_stepYear_26 : decode cX8_stepYear 26 = .ok (.iload 8, 2) := by decide +kernel
theorem dX8_stepYear_28 : decode cX8_stepYear 28 = .ok (.iload_n 2, 1) := by decide +kernel
theorem dX8_stepYear_29 : decode cX8_stepYear 29 = .ok (.iload_n 3, 1) := by decide +kernel
theorem dX8_stepYear_30 : decode cX8_stepYear 30 = .ok (.iload 4, 2) := by decide +kernel
theorem dX8_stepYear_32 : decode cX8_stepYear 32 = .ok (.iload 5, 2) := by decide +kernel
theorem dX8_stepYear_34 : decode cX8_stepYear 34 = .ok (.invokevirtual 210, 3) := by decide +kernel
theorem dX8_stepYear_37 : decode cX8_stepYear 37 = .ok (.iinc 8 1, 3) := by decide +kernel
theorem dX8_stepYear_40 : decode cX8_stepYear 40 = .ok (.goto (-37), 3) := by decide +kernel
theorem dX8_stepYear_43 : decode cX8_stepYear 43 = .ok (.lload 6, 2) := by decide +kernel
theorem dX8_stepYear_45 : decode cX8_stepYear 45 = .ok (.lstore 8, 2) := by decide +kernel
theorem dX8_stepYear_47 : decode cX8_stepYear 47 = .ok (.iconst 0, 1) := by decide +kernel
theorem dX8_stepYear_48 : decode cX8_stepYear 48 = .ok (.istore 10, 2) := by decide +kernel
theorem dX8_stepYear_50 : decode cX8_stepYear 50 = .ok (.iload 10, 2) := by decide +kernel
theorem dX8_stepYear_52 : decode cX8_stepYear 52 = .ok (.bipush 10, 2) := by decide +kernel
theorem dX8_stepYear_54 : decode cX8_stepYear 54 = .ok (.aload_n 0, 1) := by decide +kernel
theorem dX8_stepYear_55 : decode cX8_stepYear 55 = .ok (.getfield 7, 3) := by decide +kernel
theorem dX8_stepYear_58 : decode cX8_stepYear 58 = .ok (.iconst 1, 1) := by decide +kernel
theorem dX8_stepYear_59 : decode cX8_stepYear 59 = .ok (.iaload, 1) := by decide +kernel
theorem dX8_stepYear_60 : decode cX8_stepYear 60 = .ok (.imul, 1) := by decide +kernel
theorem dX8_stepYear_61 : decode cX8_stepYear 61 = .ok (.if_icmp .ge 93, 3) := by decide +kernel
theorem dX8_stepYear_64 : decode cX8_stepYear 64 = .ok (.iload 10, 2) := by decide +kernel
theorem dX8_stepYear_66 : decode cX8_stepYear 66 = .ok (.aload_n 0, 1) := by decide +kernel
theorem dX8_stepYear_67 : decode cX8_stepYear 67 = .ok (.getfield 7, 3) := by decide +kernel
theorem dX8_stepYear_70 : decode cX8_stepYear 70 = .ok (.iconst 1, 1) := by decide +kernel
theorem dX8_stepYear_71 : decode cX8_stepYear 71 = .ok (.iaload, 1) := by decide +kernel
theorem dX8_stepYear_72 : decode cX8_stepYear 72 = .ok (.irem, 1) := by decide +kernel
theorem dX8_stepYear_73 : decode cX8_stepYear 73 = .ok (.istore 11, 2) := by decide +kernel
theorem dX8_stepYear_75 : decode cX8_stepYear 75 = .ok (.lload 8, 2) := by decide +kernel
theorem dX8_stepYear_77 : decode cX8_stepYear 77 = .ok (.lconst 0, 1) := by decide +kernel
theorem dX8_stepYear_78 : decode cX8_stepYear 78 = .ok (.lcmp, 1) := by decide +kernel
theorem dX8_stepYear_79 : decode cX8_stepYear 79 = .ok (.ifCond .le 69, 3) := by decide +kernel
theorem dX8_stepYear_82 : decode cX8_stepYear 82 = .ok (.aload_n 0, 1) := by decide +kernel
theorem dX8_stepYear_83 : decode cX8_stepYear 83 = .ok (.iload 11, 2) := by decide +kernel
theorem dX8_stepYear_85 : decode cX8_stepYear 85 = .ok (.iload_n 1, 1) := by decide +kernel
theorem dX8_stepYear_86 : decode cX8_stepYear 86 = .ok (.iload_n 2, 1) := by decide +kernel
theorem dX8_stepYear_87 : decode cX8_stepYear 87 = .ok (.iload 10, 2) := by decide +kernel
theorem dX8_stepYear_89 : decode cX8_stepYear 89 = .ok (.aload_n 0, 1) := by decide +kernel
theorem dX8_stepYear_90 : decode cX8_stepYear 90 = .ok (.getfield 7, 3) := by decide +kernel
theorem dX8_stepYear_93 : decode cX8_stepYear 93 = .ok (.iconst 1, 1) := by decide +kernel
theorem dX8_stepYear_94 : decode cX8_stepYear 94 = .ok (.iaload, 1) := by decide +kernel
theorem dX8_stepYear_95 : decode cX8_stepYear 95 = .ok (.idiv, 1) := by decide +kernel
theorem dX8_stepYear_96 : decode cX8_stepYear 96 = .ok (.invokevirtual 214, 3) := by decide +kernel
theorem dX8_stepYear_99 : decode cX8_stepYear 99 = .ok (.ifCond .eq 49, 3) := by decide +kernel
theorem dX8_stepYear_102 : decode cX8_stepYear 102 = .ok (.lload 8, 2) := by decide +kernel
theorem dX8_stepYear_104 : decode cX8_stepYear 104 = .ok (.aload_n 0, 1) := by decide +kernel
theorem dX8_stepYear_105 : decode cX8_stepYear 105 = .ok (.getfield 30, 3) := by decide +kernel
theorem dX8_stepYear_108 : decode cX8_stepYear 108 = .ok (.iload 11, 2) := by decide +kernel
theorem dX8_stepYear_110 : decode cX8_stepYear 110 = .ok (.laload, 1) := by decide +kernel
theorem dX8_stepYear_111 : decode cX8_stepYear 111 = .ok (.lcmp, 1) := by decide +kernel
theorem dX8_stepYear_112 : decode cX8_stepYear 112 = .ok (.ifCond .ge 8, 3) := by decide +kernel
theorem dX8_stepYear_115 : decode cX8_stepYear 115 = .ok (.lload 8, 2) := by decide +kernel
theorem dX8_stepYear_117 : decode cX8_stepYear 117 = .ok (.goto 10, 3) := by decide +kernel
theorem dX8_stepYear_120 : decode cX8_stepYear 120 = .ok (.aload_n 0, 1) := by decide +kernel
theorem dX8_stepYear_121 : decode cX8_stepYear 121 = .ok (.getfield 30, 3) := by decide +kernel
theorem dX8_stepYear_124 : decode cX8_stepYear 124 = .ok (.iload 11, 2) := by decide +kernel
theorem dX8_stepYear_126 : decode cX8_stepYear 126 = .ok (.laload, 1) := by decide +kernel
theorem dX8_stepYear_127 : decode cX8_stepYear 127 = .ok (.lstore 12, 2) := by decide +kernel
theorem dX8_stepYear_129 : decode cX8_stepYear 129 = .ok (.aload_n 0, 1) := by decide +kernel
theorem dX8_stepYear_130 : decode cX8_stepYear 130 = .ok (.getfield 30, 3) := by decide +kernel
theorem dX8_stepYear_133 : decode cX8_stepYear 133 = .ok (.iload 11, 2) := by decide +kernel
theorem dX8_stepYear_135 : decode cX8_stepYear 135 = .ok (.dup2, 1) := by decide +kernel
theorem dX8_stepYear_136 : decode cX8_stepYear 136 = .ok (.laload, 1) := by decide +kernel
theorem dX8_stepYear_137 : decode cX8_stepYear 137 = .ok (.lload 12, 2) := by decide +kernel
theorem dX8_stepYear_139 : decode cX8_stepYear 139 = .ok (.lsub, 1) := by decide +kernel
theorem dX8_stepYear_140 : decode cX8_stepYear 140 = .ok (.lastore, 1) := by decide +kernel
theorem dX8_stepYear_141 : decode cX8_stepYear 141 = .ok (.lload 8, 2) := by decide +kernel
theorem dX8_stepYear_143 : decode cX8_stepYear 143 = .ok (.lload 12, 2) := by decide +kernel
theorem dX8_stepYear_145 : decode cX8_stepYear 145 = .ok (.lsub, 1) := by decide +kernel
theorem dX8_stepYear_146 : decode cX8_stepYear 146 = .ok (.lstore 8, 2) := by decide +kernel
theorem dX8_stepYear_148 : decode cX8_stepYear 148 = .ok (.iinc 10 1, 3) := by decide +kernel
theorem dX8_stepYear_151 : decode cX8_stepYear 151 = .ok (.goto (-101), 3) := by decide +kernel
theorem dX8_stepYear_154 : decode cX8_stepYear 154 = .ok (.aload_n 0, 1) := by decide +kernel
theorem dX8_stepYear_155 : decode cX8_stepYear 155 = .ok (.lload 6, 2) := by decide +kernel
theorem dX8_stepYear_157 : decode cX8_stepYear 157 = .ok (.lload 8, 2) := by decide +kernel
theorem dX8_stepYear_159 : decode cX8_stepYear 159 = .ok (.lsub, 1) := by decide +kernel
theorem dX8_stepYear_160 : decode cX8_stepYear 160 = .ok (.putfield 218, 3) := by decide +kernel
theorem dX8_stepYear_163 : decode cX8_stepYear 163 = .ok (.lconst 0, 1) := by decide +kernel
theorem dX8_stepYear_164 : decode cX8_stepYear 164 = .ok (.lstore 10, 2) := by decide +kernel
theorem dX8_stepYear_166 : decode cX8_stepYear 166 = .ok (.iconst 0, 1) := by decide +kernel
theorem dX8_stepYear_167 : decode cX8_stepYear 167 = .ok (.istore 12, 2) := by decide +kernel
theorem dX8_stepYear_169 : decode cX8_stepYear 169 = .ok (.iload 12, 2) := by decide +kernel
theorem dX8_stepYear_171 : decode cX8_stepYear 171 = .ok (.bipush 10, 2) := by decide +kernel
theorem dX8_stepYear_173 : decode cX8_stepYear 173 = .ok (.aload_n 0, 1) := by decide +kernel
theorem dX8_stepYear_174 : decode cX8_stepYear 174 = .ok (.getfield 7, 3) := by decide +kernel
theorem dX8_stepYear_177 : decode cX8_stepYear 177 = .ok (.iconst 1, 1) := by decide +kernel
theorem dX8_stepYear_178 : decode cX8_stepYear 178 = .ok (.iaload, 1) := by decide +kernel
theorem dX8_stepYear_179 : decode cX8_stepYear 179 = .ok (.imul, 1) := by decide +kernel
theorem dX8_stepYear_180 : decode cX8_stepYear 180 = .ok (.if_icmp .ge 192, 3) := by decide +kernel
theorem dX8_stepYear_183 : decode cX8_stepYear 183 = .ok (.iload 12, 2) := by decide +kernel
theorem dX8_stepYear_185 : decode cX8_stepYear 185 = .ok (.aload_n 0, 1) := by decide +kernel
theorem dX8_stepYear_186 : decode cX8_stepYear 186 = .ok (.getfield 7, 3) := by decide +kernel
theorem dX8_stepYear_189 : decode cX8_stepYear 189 = .ok (.iconst 1, 1) := by decide +kernel
theorem dX8_stepYear_190 : decode cX8_stepYear 190 = .ok (.iaload, 1) := by decide +kernel
theorem dX8_stepYear_191 : decode cX8_stepYear 191 = .ok (.irem, 1) := by decide +kernel
theorem dX8_stepYear_192 : decode cX8_stepYear 192 = .ok (.istore 13, 2) := by decide +kernel
theorem dX8_stepYear_194 : decode cX8_stepYear 194 = .ok (.aload_n 0, 1) := by decide +kernel
theorem dX8_stepYear_195 : decode cX8_stepYear 195 = .ok (.iload 13, 2) := by decide +kernel
theorem dX8_stepYear_197 : decode cX8_stepYear 197 = .ok (.iload_n 1, 1) := by decide +kernel
theorem dX8_stepYear_198 : decode cX8_stepYear 198 = .ok (.iload_n 2, 1) := by decide +kernel
theorem dX8_stepYear_199 : decode cX8_stepYear 199 = .ok (.iload 12, 2) := by decide +kernel
theorem dX8_stepYear_201 : decode cX8_stepYear 201 = .ok (.aload_n 0, 1) := by decide +kernel
theorem dX8_stepYear_202 : decode cX8_stepYear 202 = .ok (.getfield 7, 3) := by decide +kernel
theorem dX8_stepYear_205 : decode cX8_stepYear 205 = .ok (.iconst 1, 1) := by decide +kernel
theorem dX8_stepYear_206 : decode cX8_stepYear 206 = .ok (.iaload, 1) := by decide +kernel
theorem dX8_stepYear_207 : decode cX8_stepYear 207 = .ok (.idiv, 1) := by decide +kernel
theorem dX8_stepYear_208 : decode cX8_stepYear 208 = .ok (.invokevirtual 214, 3) := by decide +kernel
theorem dX8_stepYear_211 : decode cX8_stepYear 211 = .ok (.ifCond .eq 155, 3) := by decide +kernel
theorem dX8_stepYear_214 : decode cX8_stepYear 214 = .ok (.aload_n 0, 1) := by decide +kernel
theorem dX8_stepYear_215 : decode cX8_stepYear 215 = .ok (.iload 13, 2) := by decide +kernel
theorem dX8_stepYear_217 : decode cX8_stepYear 217 = .ok (.iload_n 2, 1) := by decide +kernel
theorem dX8_stepYear_218 : decode cX8_stepYear 218 = .ok (.iload_n 3, 1) := by decide +kernel
theorem dX8_stepYear_219 : decode cX8_stepYear 219 = .ok (.iload 4, 2) := by decide +kernel
theorem dX8_stepYear_221 : decode cX8_stepYear 221 = .ok (.invokevirtual 222, 3) := by decide +kernel
theorem dX8_stepYear_224 : decode cX8_stepYear 224 = .ok (.lload 10, 2) := by decide +kernel
theorem dX8_stepYear_226 : decode cX8_stepYear 226 = .ok (.lsub, 1) := by decide +kernel
theorem dX8_stepYear_227 : decode cX8_stepYear 227 = .ok (.lstore 14, 2) := by decide +kernel
theorem dX8_stepYear_229 : decode cX8_stepYear 229 = .ok (.lload 14, 2) := by decide +kernel
theorem dX8_stepYear_231 : decode cX8_stepYear 231 = .ok (.lconst 0, 1) := by decide +kernel
theorem dX8_stepYear_232 : decode cX8_stepYear 232 = .ok (.lcmp, 1) := by decide +kernel
theorem dX8_stepYear_233 : decode cX8_stepYear 233 = .ok (.ifCond .ge 7, 3) := by decide +kernel
theorem dX8_stepYear_236 : decode cX8_stepYear 236 = .ok (.lconst 0, 1) := by decide +kernel
theorem dX8_stepYear_237 : decode cX8_stepYear 237 = .ok (.goto 5, 3) := by decide +kernel
theorem dX8_stepYear_240 : decode cX8_stepYear 240 = .ok (.lload 14, 2) := by decide +kernel
theorem dX8_stepYear_242 : decode cX8_stepYear 242 = .ok (.lstore 14, 2) := by decide +kernel
theorem dX8_stepYear_244 : decode cX8_stepYear 244 = .ok (.aload_n 0, 1) := by decide +kernel
theorem dX8_stepYear_245 : decode cX8_stepYear 245 = .ok (.getfield 33, 3) := by decide +kernel
theorem dX8_stepYear_248 : decode cX8_stepYear 248 = .ok (.iload 13, 2) := by decide +kernel
theorem dX8_stepYear_250 : decode cX8_stepYear 250 = .ok (.lload 14, 2) := by decide +kernel
theorem dX8_stepYear_252 : decode cX8_stepYear 252 = .ok (.aload_n 0, 1) := by decide +kernel
theorem dX8_stepYear_253 : decode cX8_stepYear 253 = .ok (.getfield 30, 3) := by decide +kernel
theorem dX8_stepYear_256 : decode cX8_stepYear 256 = .ok (.iload 13, 2) := by decide +kernel
theorem dX8_stepYear_258 : decode cX8_stepYear 258 = .ok (.laload, 1) := by decide +kernel
theorem dX8_stepYear_259 : decode cX8_stepYear 259 = .ok (.lcmp, 1) := by decide +kernel
theorem dX8_stepYear_260 : decode cX8_stepYear 260 = .ok (.ifCond .ge 8, 3) := by decide +kernel
theorem dX8_stepYear_263 : decode cX8_stepYear 263 = .ok (.lload 14, 2) := by decide +kernel
theorem dX8_stepYear_265 : decode cX8_stepYear 265 = .ok (.goto 10, 3) := by decide +kernel
theorem dX8_stepYear_268 : decode cX8_stepYear 268 = .ok (.aload_n 0, 1) := by decide +kernel
theorem dX8_stepYear_269 : decode cX8_stepYear 269 = .ok (.getfield 30, 3) := by decide +kernel
theorem dX8_stepYear_272 : decode cX8_stepYear 272 = .ok (.iload 13, 2) := by decide +kernel
theorem dX8_stepYear_274 : decode cX8_stepYear 274 = .ok (.laload, 1) := by decide +kernel
theorem dX8_stepYear_275 : decode cX8_stepYear 275 = .ok (.lastore, 1) := by decide +kernel
theorem dX8_stepYear_276 : decode cX8_stepYear 276 = .ok (.aload_n 0, 1) := by decide +kernel
theorem dX8_stepYear_277 : decode cX8_stepYear 277 = .ok (.getfield 30, 3) := by decide +kernel
theorem dX8_stepYear_280 : decode cX8_stepYear 280 = .ok (.iload 13, 2) := by decide +kernel
theorem dX8_stepYear_282 : decode cX8_stepYear 282 = .ok (.dup2, 1) := by decide +kernel
theorem dX8_stepYear_283 : decode cX8_stepYear 283 = .ok (.laload, 1) := by decide +kernel
theorem dX8_stepYear_284 : decode cX8_stepYear 284 = .ok (.aload_n 0, 1) := by decide +kernel
theorem dX8_stepYear_285 : decode cX8_stepYear 285 = .ok (.getfield 33, 3) := by decide +kernel
theorem dX8_stepYear_288 : decode cX8_stepYear 288 = .ok (.iload 13, 2) := by decide +kernel
theorem dX8_stepYear_290 : decode cX8_stepYear 290 = .ok (.laload, 1) := by decide +kernel
theorem dX8_stepYear_291 : decode cX8_stepYear 291 = .ok (.lsub, 1) := by decide +kernel
theorem dX8_stepYear_292 : decode cX8_stepYear 292 = .ok (.lastore, 1) := by decide +kernel
theorem dX8_stepYear_293 : decode cX8_stepYear 293 = .ok (.lload 10, 2) := by decide +kernel
theorem dX8_stepYear_295 : decode cX8_stepYear 295 = .ok (.aload_n 0, 1) := by decide +kernel
theorem dX8_stepYear_296 : decode cX8_stepYear 296 = .ok (.getfield 33, 3) := by decide +kernel
theorem dX8_stepYear_299 : decode cX8_stepYear 299 = .ok (.iload 13, 2) := by decide +kernel
theorem dX8_stepYear_301 : decode cX8_stepYear 301 = .ok (.laload, 1) := by decide +kernel
theorem dX8_stepYear_302 : decode cX8_stepYear 302 = .ok (.ladd, 1) := by decide +kernel
theorem dX8_stepYear_303 : decode cX8_stepYear 303 = .ok (.lstore 10, 2) := by decide +kernel
theorem dX8_stepYear_305 : decode cX8_stepYear 305 = .ok (.aload_n 0, 1) := by decide +kernel
theorem dX8_stepYear_306 : decode cX8_stepYear 306 = .ok (.getfield 36, 3) := by decide +kernel
theorem dX8_stepYear_309 : decode cX8_stepYear 309 = .ok (.iload 13, 2) := by decide +kernel
theorem dX8_stepYear_311 : decode cX8_stepYear 311 = .ok (.dup2, 1) := by decide +kernel
theorem dX8_stepYear_312 : decode cX8_stepYear 312 = .ok (.laload, 1) := by decide +kernel
theorem dX8_stepYear_313 : decode cX8_stepYear 313 = .ok (.aload_n 0, 1) := by decide +kernel
theorem dX8_stepYear_314 : decode cX8_stepYear 314 = .ok (.getfield 33, 3) := by decide +kernel
theorem dX8_stepYear_317 : decode cX8_stepYear 317 = .ok (.iload 13, 2) := by decide +kernel
theorem dX8_stepYear_319 : decode cX8_stepYear 319 = .ok (.laload, 1) := by decide +kernel
theorem dX8_stepYear_320 : decode cX8_stepYear 320 = .ok (.ladd, 1) := by decide +kernel
theorem dX8_stepYear_321 : decode cX8_stepYear 321 = .ok (.lastore, 1) := by decide +kernel
theorem dX8_stepYear_322 : decode cX8_stepYear 322 = .ok (.aload_n 0, 1) := by decide +kernel
theorem dX8_stepYear_323 : decode cX8_stepYear 323 = .ok (.getfield 39, 3) := by decide +kernel
theorem dX8_stepYear_326 : decode cX8_stepYear 326 = .ok (.iload 13, 2) := by decide +kernel
theorem dX8_stepYear_328 : decode cX8_stepYear 328 = .ok (.dup2, 1) := by decide +kernel
theorem dX8_stepYear_329 : decode cX8_stepYear 329 = .ok (.laload, 1) := by decide +kernel
theorem dX8_stepYear_330 : decode cX8_stepYear 330 = .ok (.aload_n 0, 1) := by decide +kernel
theorem dX8_stepYear_331 : decode cX8_stepYear 331 = .ok (.iload 13, 2) := by decide +kernel
theorem dX8_stepYear_333 : decode cX8_stepYear 333 = .ok (.bipush 7, 2) := by decide +kernel
theorem dX8_stepYear_335 : decode cX8_stepYear 335 = .ok (.invokevirtual 202, 3) := by decide +kernel
theorem dX8_stepYear_338 : decode cX8_stepYear 338 = .ok (.ifCond .lt 25, 3) := by decide +kernel
theorem dX8_stepYear_341 : decode cX8_stepYear 341 = .ok (.iload_n 2, 1) := by decide +kernel
theorem dX8_stepYear_342 : decode cX8_stepYear 342 = .ok (.aload_n 0, 1) := by decide +kernel
theorem dX8_stepYear_343 : decode cX8_stepYear 343 = .ok (.iload 13, 2) := by decide +kernel
theorem dX8_stepYear_345 : decode cX8_stepYear 345 = .ok (.bipush 7, 2) := by decide +kernel
theorem dX8_stepYear_347 : decode cX8_stepYear 347 = .ok (.invokevirtual 202, 3) := by decide +kernel
theorem dX8_stepYear_350 : decode cX8_stepYear 350 = .ok (.if_icmp .lt 13, 3) := by decide +kernel
theorem dX8_stepYear_353 : decode cX8_stepYear 353 = .ok (.aload_n 0, 1) := by decide +kernel
theorem dX8_stepYear_354 : decode cX8_stepYear 354 = .ok (.getfield 33, 3) := by decide +kernel
theorem dX8_stepYear_357 : decode cX8_stepYear 357 = .ok (.iload 13, 2) := by decide +kernel
theorem dX8_stepYear_359 : decode cX8_stepYear 359 = .ok (.laload, 1) := by decide +kernel
theorem dX8_stepYear_360 : decode cX8_stepYear 360 = .ok (.goto 4, 3) := by decide +kernel
theorem dX8_stepYear_363 : decode cX8_stepYear 363 = .ok (.lconst 0, 1) := by decide +kernel
theorem dX8_stepYear_364 : decode cX8_stepYear 364 = .ok (.ladd, 1) := by decide +kernel
theorem dX8_stepYear_365 : decode cX8_stepYear 365 = .ok (.lastore, 1) := by decide +kernel
theorem dX8_stepYear_366 : decode cX8_stepYear 366 = .ok (.iinc 12 1, 3) := by decide +kernel
theorem dX8_stepYear_369 : decode cX8_stepYear 369 = .ok (.goto (-200), 3) := by decide +kernel
theorem dX8_stepYear_372 : decode cX8_stepYear 372 = .ok (.return_, 1) := by decide +kernel
def kX8_stepYear (live : am_E) (Ret : am_R) : am_code := [(0, am_const (.int 0) 1), (1, am_istore 8 16 3), (3, am_iload 8 5), (5, am_aload 0 6), (6, am_getR live 8 0 9), (9, am_const (.int 1) 10), (10, am_ald live 0 11), (11, am_if2 (fun x y => y ≤ x) 43 14), (14, am_aload 0 15), (15, am_iload 8 17), (17, am_const (.int 0) 18), (18, am_callV live 8 2 TX8_ofLoan 21), (21, am_iload 1 22), (22, am_if2 (fun x y => x = y) 25 37), (25, am_aload 0 26), (26, am_iload 8 28), (28, am_iload 2 29), (29, am_iload 3 30), (30, am_iload 4 32), (32, am_iload 5 34), (34, am_callV live 8 5 TX8_begin 37), (37, am_iinc 8 16 1 40), (40, am_goto 3), (43, am_lload 6 45), (45, am_lstore 8 16 47), (47, am_const (.int 0) 48), (48, am_istore 10 16 50), (50, am_iload 10 52), (52, am_const (.int 10) 54), (54, am_aload 0 55), (55, am_getR live 8 0 58), (58, am_const (.int 1) 59), (59, am_ald live 0 60), (60, am_i2 (fun x y => x * y) 61), (61, am_if2 (fun x y => y ≤ x) 154 64), (64, am_iload 10 66), (66, am_aload 0 67), (67, am_getR live 8 0 70), (70, am_const (.int 1) 71), (71, am_ald live 0 72), (72, am_i2z (fun x y => x - x / y * y) 73), (73, am_istore 11 16 75), (75, am_lload 8 77), (77, am_const (.long 0) 78), (78, am_lcmp 79), (79, am_if1 (fun x => x ≤ 0) 148 82), (82, am_aload 0 83), (83, am_iload 11 85), (85, am_iload 1 86), (86, am_iload 2 87), (87, am_iload 10 89), (89, am_aload 0 90), (90, am_getR live 8 0 93), (93, am_const (.int 1) 94), (94, am_ald live 0 95), (95, am_i2z (fun x y => x / y) 96), (96, am_callV live 8 4 TX8_isIn 99), (99, am_if1 (fun x => x = 0) 148 102), (102, am_lload 8 104), (104, am_aload 0 105), (105, am_getR live 8 15 108), (108, am_iload 11 110), (110, am_lald live 1 111), (111, am_lcmp 112), (112, am_if1 (fun x => 0 ≤ x) 120 115), (115, am_lload 8 117), (117, am_goto 127), (120, am_aload 0 121), (121, am_getR live 8 15 124), (124, am_iload 11 126), (126, am_lald live 1 127), (127, am_lstore 12 16 129), (129, am_aload 0 130), (130, am_getR live 8 15 133), (133, am_iload 11 135), (135, am_dup2 136), (136, am_lald live 1 137), (137, am_lload 12 139), (139, am_l2 (fun x y => x - y) 140), (140, am_last live 1 141), (141, am_lload 8 143), (143, am_lload 12 145), (145, am_l2 (fun x y => x - y) 146), (146, am_lstore 8 16 148), (148, am_iinc 10 16 1 151), (151, am_goto 50), (154, am_aload 0 155), (155, am_lload 6 157), (157, am_lload 8 159), (159, am_l2 (fun x y => x - y) 160), (160, am_putJ live 8 22 163), (163, am_const (.long 0) 164), (164, am_lstore 10 16 166), (166, am_const (.int 0) 167), (167, am_istore 12 16 169), (169, am_iload 12 171), (171, am_const (.int 10) 173), (173, am_aload 0 174), (174, am_getR live 8 0 177), (177, am_const (.int 1) 178), (178, am_ald live 0 179), (179, am_i2 (fun x y => x * y) 180), (180, am_if2 (fun x y => y ≤ x) 372 183), (183, am_iload 12 185), (185, am_aload 0 186), (186, am_getR live 8 0 189), (189, am_const (.int 1) 190), (190, am_ald live 0 191), (191, am_i2z (fun x y => x - x / y * y) 192), (192, am_istore 13 16 194), (194, am_aload 0 195), (195, am_iload 13 197), (197, am_iload 1 198), (198, am_iload 2 199), (199, am_iload 12 201), (201, am_aload 0 202), (202, am_getR live 8 0 205), (205, am_const (.int 1) 206), (206, am_ald live 0 207), (207, am_i2z (fun x y => x / y) 208), (208, am_callV live 8 4 TX8_isIn 211), (211, am_if1 (fun x => x = 0) 366 214), (214, am_aload 0 215), (215, am_iload 13 217), (217, am_iload 2 218), (218, am_iload 3 219), (219, am_iload 4 221), (221, am_callV live 8 4 TX8_dueOf 224), (224, am_lload 10 226), (226, am_l2 (fun x y => x - y) 227), (227, am_lstore 14 16 229), (229, am_lload 14 231), (231, am_const (.long 0) 232), (232, am_lcmp 233), (233, am_if1 (fun x => 0 ≤ x) 240 236), (236, am_const (.long 0) 237), (237, am_goto 242), (240, am_lload 14 242), (242, am_lstore 14 16 244), (244, am_aload 0 245), (245, am_getR live 8 16 248), (248, am_iload 13 250), (250, am_lload 14 252), (252, am_aload 0 253), (253, am_getR live 8 15 256), (256, am_iload 13 258), (258, am_lald live 1 259), (259, am_lcmp 260), (260, am_if1 (fun x => 0 ≤ x) 268 263), (263, am_lload 14 265), (265, am_goto 275), (268, am_aload 0 269), (269, am_getR live 8 15 272), (272, am_iload 13 274), (274, am_lald live 1 275), (275, am_last live 1 276), (276, am_aload 0 277), (277, am_getR live 8 15 280), (280, am_iload 13 282), (282, am_dup2 283), (283, am_lald live 1 284), (284, am_aload 0 285), (285, am_getR live 8 16 288), (288, am_iload 13 290), (290, am_lald live 1 291), (291, am_l2 (fun x y => x - y) 292), (292, am_last live 1 293), (293, am_lload 10 295), (295, am_aload 0 296), (296, am_getR live 8 16 299), (299, am_iload 13 301), (301, am_lald live 1 302), (302, am_l2 (fun x y => x + y) 303), (303, am_lstore 10 16 305), (305, am_aload 0 306), (306, am_getR live 8 17 309), (309, am_iload 13 311), (311, am_dup2 312), (312, am_lald live 1 313), (313, am_aload 0 314), (314, am_getR live 8 16 317), (317, am_iload 13 319), (319, am_lald live 1 320), (320, am_l2 (fun x y => x + y) 321), (321, am_last live 1 322), (322, am_aload 0 323), (323, am_getR live 8 18 326), (326, am_iload 13 328), (328, am_dup2 329), (329, am_lald live 1 330), (330, am_aload 0 331), (331, am_iload 13 333), (333, am_const (.int 7) 335), (335, am_callV live 8 2 TX8_ofLoan 338), (338, am_if1 (fun x => x < 0) 363 341), (341, am_iload 2 342), (342, am_aload 0 343), (343, am_iload 13 345), (345, am_const (.int 7) 347), (347, am_callV live 8 2 TX8_ofLoan 350), (350, am_if2 (fun x y => x < y) 363 353), (353, am_aload 0 354), (354, am_getR live 8 16 357), (357, am_iload 13 359), (359, am_lald live 1 360), (360, am_goto 364), (363, am_const (.long 0) 364), (364, am_l2 (fun x y => x + y) 365), (365, am_last live 1 366), (366, am_iinc 12 16 1 369), (369, am_goto 169), (372, am_retV Ret)]
theorem koX8_stepYear (live : am_E) (Ret : am_R) : ∀ q ∈ kX8_stepYear live Ret, am_ok RX8 cX8_stepYear 16 none 8 193 live Ret q.1 q.2 :=
  am_kc (ak_iconst dX8_stepYear_0 (by decide +kernel) rfl) <|
  am_kc (ak_istore dX8_stepYear_1 rfl) <|
  am_kc (ak_iload dX8_stepYear_3 rfl) <|
  am_kc (ak_aload_n dX8_stepYear_5 rfl rfl) <|
  am_kc (ak_getR (C := RX8) (T := TX8) (N := 27) rfl inX8w (by decide) rfl rfl rfl wd_895 dX8_stepYear_6 rfl) <|
  am_kc (ak_iconst dX8_stepYear_9 (by decide +kernel) rfl) <|
  am_kc (ak_iald (t := 0) (fun _ => rfl) rfl dX8_stepYear_10 rfl) <|
  am_kc (ak_icmp_ge dX8_stepYear_11 (by decide +kernel) rfl) <|
  am_kc (ak_aload_n dX8_stepYear_14 rfl rfl) <|
  am_kc (ak_iload dX8_stepYear_15 rfl) <|
  am_kc (ak_iconst dX8_stepYear_17 (by decide +kernel) rfl) <|
  am_kc (ak_callV (C := RX8) (F := TX8) (N := 27) metX8_ofLoan rfl ⟨rfl, by decide +kernel, by decide +kernel, by decide +kernel⟩ (am_w5 wd_1154 wd_1156 wd_41 wd_67 wd_1157) (by decide) dX8_stepYear_18 rfl) <|
  am_kc (ak_iload_n dX8_stepYear_21 rfl rfl) <|
  am_kc (ak_icmp_ne dX8_stepYear_22 (by decide +kernel) rfl) <|
  am_kc (ak_aload_n dX8_stepYear_25 rfl rfl) <|
  am_kc (ak_iload dX8_stepYear_26 rfl) <|
  am_kc (ak_iload_n dX8_stepYear_28 rfl rfl) <|
  am_kc (ak_iload_n dX8_stepYear_29 rfl rfl) <|
  am_kc (ak_iload dX8_stepYear_30 rfl) <|
  am_kc (ak_iload dX8_stepYear_32 rfl) <|
  am_kc (ak_callV (C := RX8) (F := TX8) (N := 27) metX8_begin rfl ⟨rfl, by decide +kernel, by decide +kernel, by decide +kernel⟩ (am_w5 wd_1170 wd_1172 wd_45 wd_67 wd_1173) (by decide) dX8_stepYear_34 rfl) <|
  am_kc (ak_iinc dX8_stepYear_37 (by decide +kernel) rfl) <|
  am_kc (ak_goto dX8_stepYear_40 (by decide +kernel)) <|
  am_kc (ak_lload dX8_stepYear_43 rfl) <|
  am_kc (ak_lstore dX8_stepYear_45 rfl) <|
  am_kc (ak_iconst dX8_stepYear_47 (by decide +kernel) rfl) <|
  am_kc (ak_istore dX8_stepYear_48 rfl) <|
  am_kc (ak_iload dX8_stepYear_50 rfl) <|
  am_kc (ak_bipush dX8_stepYear_52 (by decide +kernel) rfl) <|
  am_kc (ak_aload_n dX8_stepYear_54 rfl rfl) <|
  am_kc (ak_getR (C := RX8) (T := TX8) (N := 27) rfl inX8w (by decide) rfl rfl rfl wd_895 dX8_stepYear_55 rfl) <|
  am_kc (ak_iconst dX8_stepYear_58 (by decide +kernel) rfl) <|
  am_kc (ak_iald (t := 0) (fun _ => rfl) rfl dX8_stepYear_59 rfl) <|
  am_kc (ak_imul dX8_stepYear_60 rfl) <|
  am_kc (ak_icmp_ge dX8_stepYear_61 (by decide +kernel) rfl) <|
  am_kc (ak_iload dX8_stepYear_64 rfl) <|
  am_kc (ak_aload_n dX8_stepYear_66 rfl rfl) <|
  am_kc (ak_getR (C := RX8) (T := TX8) (N := 27) rfl inX8w (by decide) rfl rfl rfl wd_895 dX8_stepYear_67 rfl) <|
  am_kc (ak_iconst dX8_stepYear_70 (by decide +kernel) rfl) <|
  am_kc (ak_iald (t := 0) (fun _ => rfl) rfl dX8_stepYear_71 rfl) <|
  am_kc (ak_irem dX8_stepYear_72 rfl) <|
  am_kc (ak_istore dX8_stepYear_73 rfl) <|
  am_kc (ak_lload dX8_stepYear_75 rfl) <|
  am_kc (ak_lconst dX8_stepYear_77 (by decide +kernel) rfl) <|
  am_kc (ak_lcmp dX8_stepYear_78 rfl) <|
  am_kc (ak_if_le dX8_stepYear_79 (by decide +kernel) rfl) <|
  am_kc (ak_aload_n dX8_stepYear_82 rfl rfl) <|
  am_kc (ak_iload dX8_stepYear_83 rfl) <|
  am_kc (ak_iload_n dX8_stepYear_85 rfl rfl) <|
  am_kc (ak_iload_n dX8_stepYear_86 rfl rfl) <|
  am_kc (ak_iload dX8_stepYear_87 rfl) <|
  am_kc (ak_aload_n dX8_stepYear_89 rfl rfl) <|
  am_kc (ak_getR (C := RX8) (T := TX8) (N := 27) rfl inX8w (by decide) rfl rfl rfl wd_895 dX8_stepYear_90 rfl) <|
  am_kc (ak_iconst dX8_stepYear_93 (by decide +kernel) rfl) <|
  am_kc (ak_iald (t := 0) (fun _ => rfl) rfl dX8_stepYear_94 rfl) <|
  am_kc (ak_idiv dX8_stepYear_95 rfl) <|
  am_kc (ak_callV (C := RX8) (F := TX8) (N := 27) metX8_isIn rfl ⟨rfl, by decide +kernel, by decide +kernel, by decide +kernel⟩ (am_w5 wd_1179 wd_1181 wd_47 wd_67 wd_1182) (by decide) dX8_stepYear_96 rfl) <|
  am_kc (ak_if_eq dX8_stepYear_99 (by decide +kernel) rfl) <|
  am_kc (ak_lload dX8_stepYear_102 rfl) <|
  am_kc (ak_aload_n dX8_stepYear_104 rfl rfl) <|
  am_kc (ak_getR (C := RX8) (T := TX8) (N := 27) rfl inX8w (by decide) rfl rfl rfl wd_910 dX8_stepYear_105 rfl) <|
  am_kc (ak_iload dX8_stepYear_108 rfl) <|
  am_kc (ak_lald (t := 1) (fun _ => rfl) rfl dX8_stepYear_110 rfl) <|
  am_kc (ak_lcmp dX8_stepYear_111 rfl) <|
  am_kc (ak_if_ge dX8_stepYear_112 (by decide +kernel) rfl) <|
  am_kc (ak_lload dX8_stepYear_115 rfl) <|
  am_kc (ak_goto dX8_stepYear_117 (by decide +kernel)) <|
  am_kc (ak_aload_n dX8_stepYear_120 rfl rfl) <|
  am_kc (ak_getR (C := RX8) (T := TX8) (N := 27) rfl inX8w (by decide) rfl rfl rfl wd_910 dX8_stepYear_121 rfl) <|
  am_kc (ak_iload dX8_stepYear_124 rfl) <|
  am_kc (ak_lald (t := 1) (fun _ => rfl) rfl dX8_stepYear_126 rfl) <|
  am_kc (ak_lstore dX8_stepYear_127 rfl) <|
  am_kc (ak_aload_n dX8_stepYear_129 rfl rfl) <|
  am_kc (ak_getR (C := RX8) (T := TX8) (N := 27) rfl inX8w (by decide) rfl rfl rfl wd_910 dX8_stepYear_130 rfl) <|
  am_kc (ak_iload dX8_stepYear_133 rfl) <|
  am_kc (ak_dup2 dX8_stepYear_135 rfl) <|
  am_kc (ak_lald (t := 1) (fun _ => rfl) rfl dX8_stepYear_136 rfl) <|
  am_kc (ak_lload dX8_stepYear_137 rfl) <|
  am_kc (ak_lsub dX8_stepYear_139 rfl) <|
  am_kc (ak_last (t := 1) (fun _ => rfl) rfl dX8_stepYear_140 rfl) <|
  am_kc (ak_lload dX8_stepYear_141 rfl) <|
  am_kc (ak_lload dX8_stepYear_143 rfl) <|
  am_kc (ak_lsub dX8_stepYear_145 rfl) <|
  am_kc (ak_lstore dX8_stepYear_146 rfl) <|
  am_kc (ak_iinc dX8_stepYear_148 (by decide +kernel) rfl) <|
  am_kc (ak_goto dX8_stepYear_151 (by decide +kernel)) <|
  am_kc (ak_aload_n dX8_stepYear_154 rfl rfl) <|
  am_kc (ak_lload dX8_stepYear_155 rfl) <|
  am_kc (ak_lload dX8_stepYear_157 rfl) <|
  am_kc (ak_lsub dX8_stepYear_159 rfl) <|
  am_kc (ak_putJ (C := RX8) (T := TX8) (N := 27) rfl inX8w tyX8_ok nmX8 (by decide) rfl rfl rfl rfl (by decide +kernel) wd_917 dX8_stepYear_160 rfl) <|
  am_kc (ak_lconst dX8_stepYear_163 (by decide +kernel) rfl) <|
  am_kc (ak_lstore dX8_stepYear_164 rfl) <|
  am_kc (ak_iconst dX8_stepYear_166 (by decide +kernel) rfl) <|
  am_kc (ak_istore dX8_stepYear_167 rfl) <|
  am_kc (ak_iload dX8_stepYear_169 rfl) <|
  am_kc (ak_bipush dX8_stepYear_171 (by decide +kernel) rfl) <|
  am_kc (ak_aload_n dX8_stepYear_173 rfl rfl) <|
  am_kc (ak_getR (C := RX8) (T := TX8) (N := 27) rfl inX8w (by decide) rfl rfl rfl wd_895 dX8_stepYear_174 rfl) <|
  am_kc (ak_iconst dX8_stepYear_177 (by decide +kernel) rfl) <|
  am_kc (ak_iald (t := 0) (fun _ => rfl) rfl dX8_stepYear_178 rfl) <|
  am_kc (ak_imul dX8_stepYear_179 rfl) <|
  am_kc (ak_icmp_ge dX8_stepYear_180 (by decide +kernel) rfl) <|
  am_kc (ak_iload dX8_stepYear_183 rfl) <|
  am_kc (ak_aload_n dX8_stepYear_185 rfl rfl) <|
  am_kc (ak_getR (C := RX8) (T := TX8) (N := 27) rfl inX8w (by decide) rfl rfl rfl wd_895 dX8_stepYear_186 rfl) <|
  am_kc (ak_iconst dX8_stepYear_189 (by decide +kernel) rfl) <|
  am_kc (ak_iald (t := 0) (fun _ => rfl) rfl dX8_stepYear_190 rfl) <|
  am_kc (ak_irem dX8_stepYear_191 rfl) <|
  am_kc (ak_istore dX8_stepYear_192 rfl) <|
  am_kc (ak_aload_n dX8_stepYear_194 rfl rfl) <|
  am_kc (ak_iload dX8_stepYear_195 rfl) <|
  am_kc (ak_iload_n dX8_stepYear_197 rfl rfl) <|
  am_kc (ak_iload_n dX8_stepYear_198 rfl rfl) <|
  am_kc (ak_iload dX8_stepYear_199 rfl) <|
  am_kc (ak_aload_n dX8_stepYear_201 rfl rfl) <|
  am_kc (ak_getR (C := RX8) (T := TX8) (N := 27) rfl inX8w (by decide) rfl rfl rfl wd_895 dX8_stepYear_202 rfl) <|
  am_kc (ak_iconst dX8_stepYear_205 (by decide +kernel) rfl) <|
  am_kc (ak_iald (t := 0) (fun _ => rfl) rfl dX8_stepYear_206 rfl) <|
  am_kc (ak_idiv dX8_stepYear_207 rfl) <|
  am_kc (ak_callV (C := RX8) (F := TX8) (N := 27) metX8_isIn rfl ⟨rfl, by decide +kernel, by decide +kernel, by decide +kernel⟩ (am_w5 wd_1179 wd_1181 wd_47 wd_67 wd_1182) (by decide) dX8_stepYear_208 rfl) <|
  am_kc (ak_if_eq dX8_stepYear_211 (by decide +kernel) rfl) <|
  am_kc (ak_aload_n dX8_stepYear_214 rfl rfl) <|
  am_kc (ak_iload dX8_stepYear_215 rfl) <|
  am_kc (ak_iload_n dX8_stepYear_217 rfl rfl) <|
  am_kc (ak_iload_n dX8_stepYear_218 rfl rfl) <|
  am_kc (ak_iload dX8_stepYear_219 rfl) <|
  am_kc (ak_callV (C := RX8) (F := TX8) (N := 27) metX8_dueOf rfl ⟨rfl, by decide +kernel, by decide +kernel, by decide +kernel⟩ (am_w5 wd_1183 wd_1185 wd_48 wd_67 wd_1186) (by decide) dX8_stepYear_221 rfl) <|
  am_kc (ak_lload dX8_stepYear_224 rfl) <|
  am_kc (ak_lsub dX8_stepYear_226 rfl) <|
  am_kc (ak_lstore dX8_stepYear_227 rfl) <|
  am_kc (ak_lload dX8_stepYear_229 rfl) <|
  am_kc (ak_lconst dX8_stepYear_231 (by decide +kernel) rfl) <|
  am_kc (ak_lcmp dX8_stepYear_232 rfl) <|
  am_kc (ak_if_ge dX8_stepYear_233 (by decide +kernel) rfl) <|
  am_kc (ak_lconst dX8_stepYear_236 (by decide +kernel) rfl) <|
  am_kc (ak_goto dX8_stepYear_237 (by decide +kernel)) <|
  am_kc (ak_lload dX8_stepYear_240 rfl) <|
  am_kc (ak_lstore dX8_stepYear_242 rfl) <|
  am_kc (ak_aload_n dX8_stepYear_244 rfl rfl) <|
  am_kc (ak_getR (C := RX8) (T := TX8) (N := 27) rfl inX8w (by decide) rfl rfl rfl wd_911 dX8_stepYear_245 rfl) <|
  am_kc (ak_iload dX8_stepYear_248 rfl) <|
  am_kc (ak_lload dX8_stepYear_250 rfl) <|
  am_kc (ak_aload_n dX8_stepYear_252 rfl rfl) <|
  am_kc (ak_getR (C := RX8) (T := TX8) (N := 27) rfl inX8w (by decide) rfl rfl rfl wd_910 dX8_stepYear_253 rfl) <|
  am_kc (ak_iload dX8_stepYear_256 rfl) <|
  am_kc (ak_lald (t := 1) (fun _ => rfl) rfl dX8_stepYear_258 rfl) <|
  am_kc (ak_lcmp dX8_stepYear_259 rfl) <|
  am_kc (ak_if_ge dX8_stepYear_260 (by decide +kernel) rfl) <|
  am_kc (ak_lload dX8_stepYear_263 rfl) <|
  am_kc (ak_goto dX8_stepYear_265 (by decide +kernel)) <|
  am_kc (ak_aload_n dX8_stepYear_268 rfl rfl) <|
  am_kc (ak_getR (C := RX8) (T := TX8) (N := 27) rfl inX8w (by decide) rfl rfl rfl wd_910 dX8_stepYear_269 rfl) <|
  am_kc (ak_iload dX8_stepYear_272 rfl) <|
  am_kc (ak_lald (t := 1) (fun _ => rfl) rfl dX8_stepYear_274 rfl) <|
  am_kc (ak_last (t := 1) (fun _ => rfl) rfl dX8_stepYear_275 rfl) <|
  am_kc (ak_aload_n dX8_stepYear_276 rfl rfl) <|
  am_kc (ak_getR (C := RX8) (T := TX8) (N := 27) rfl inX8w (by decide) rfl rfl rfl wd_910 dX8_stepYear_277 rfl) <|
  am_kc (ak_iload dX8_stepYear_280 rfl) <|
  am_kc (ak_dup2 dX8_stepYear_282 rfl) <|
  am_kc (ak_lald (t := 1) (fun _ => rfl) rfl dX8_stepYear_283 rfl) <|
  am_kc (ak_aload_n dX8_stepYear_284 rfl rfl) <|
  am_kc (ak_getR (C := RX8) (T := TX8) (N := 27) rfl inX8w (by decide) rfl rfl rfl wd_911 dX8_stepYear_285 rfl) <|
  am_kc (ak_iload dX8_stepYear_288 rfl) <|
  am_kc (ak_lald (t := 1) (fun _ => rfl) rfl dX8_stepYear_290 rfl) <|
  am_kc (ak_lsub dX8_stepYear_291 rfl) <|
  am_kc (ak_last (t := 1) (fun _ => rfl) rfl dX8_stepYear_292 rfl) <|
  am_kc (ak_lload dX8_stepYear_293 rfl) <|
  am_kc (ak_aload_n dX8_stepYear_295 rfl rfl) <|
  am_kc (ak_getR (C := RX8) (T := TX8) (N := 27) rfl inX8w (by decide) rfl rfl rfl wd_911 dX8_stepYear_296 rfl) <|
  am_kc (ak_iload dX8_stepYear_299 rfl) <|
  am_kc (ak_lald (t := 1) (fun _ => rfl) rfl dX8_stepYear_301 rfl) <|
  am_kc (ak_ladd dX8_stepYear_302 rfl) <|
  am_kc (ak_lstore dX8_stepYear_303 rfl) <|
  am_kc (ak_aload_n dX8_stepYear_305 rfl rfl) <|
  am_kc (ak_getR (C := RX8) (T := TX8) (N := 27) rfl inX8w (by decide) rfl rfl rfl wd_912 dX8_stepYear_306 rfl) <|
  am_kc (ak_iload dX8_stepYear_309 rfl) <|
  am_kc (ak_dup2 dX8_stepYear_311 rfl) <|
  am_kc (ak_lald (t := 1) (fun _ => rfl) rfl dX8_stepYear_312 rfl) <|
  am_kc (ak_aload_n dX8_stepYear_313 rfl rfl) <|
  am_kc (ak_getR (C := RX8) (T := TX8) (N := 27) rfl inX8w (by decide) rfl rfl rfl wd_911 dX8_stepYear_314 rfl) <|
  am_kc (ak_iload dX8_stepYear_317 rfl) <|
  am_kc (ak_lald (t := 1) (fun _ => rfl) rfl dX8_stepYear_319 rfl) <|
  am_kc (ak_ladd dX8_stepYear_320 rfl) <|
  am_kc (ak_last (t := 1) (fun _ => rfl) rfl dX8_stepYear_321 rfl) <|
  am_kc (ak_aload_n dX8_stepYear_322 rfl rfl) <|
  am_kc (ak_getR (C := RX8) (T := TX8) (N := 27) rfl inX8w (by decide) rfl rfl rfl wd_913 dX8_stepYear_323 rfl) <|
  am_kc (ak_iload dX8_stepYear_326 rfl) <|
  am_kc (ak_dup2 dX8_stepYear_328 rfl) <|
  am_kc (ak_lald (t := 1) (fun _ => rfl) rfl dX8_stepYear_329 rfl) <|
  am_kc (ak_aload_n dX8_stepYear_330 rfl rfl) <|
  am_kc (ak_iload dX8_stepYear_331 rfl) <|
  am_kc (ak_bipush dX8_stepYear_333 (by decide +kernel) rfl) <|
  am_kc (ak_callV (C := RX8) (F := TX8) (N := 27) metX8_ofLoan rfl ⟨rfl, by decide +kernel, by decide +kernel, by decide +kernel⟩ (am_w5 wd_1154 wd_1156 wd_41 wd_67 wd_1157) (by decide) dX8_stepYear_335 rfl) <|
  am_kc (ak_if_lt dX8_stepYear_338 (by decide +kernel) rfl) <|
  am_kc (ak_iload_n dX8_stepYear_341 rfl rfl) <|
  am_kc (ak_aload_n dX8_stepYear_342 rfl rfl) <|
  am_kc (ak_iload dX8_stepYear_343 rfl) <|
  am_kc (ak_bipush dX8_stepYear_345 (by decide +kernel) rfl) <|
  am_kc (ak_callV (C := RX8) (F := TX8) (N := 27) metX8_ofLoan rfl ⟨rfl, by decide +kernel, by decide +kernel, by decide +kernel⟩ (am_w5 wd_1154 wd_1156 wd_41 wd_67 wd_1157) (by decide) dX8_stepYear_347 rfl) <|
  am_kc (ak_icmp_lt dX8_stepYear_350 (by decide +kernel) rfl) <|
  am_kc (ak_aload_n dX8_stepYear_353 rfl rfl) <|
  am_kc (ak_getR (C := RX8) (T := TX8) (N := 27) rfl inX8w (by decide) rfl rfl rfl wd_911 dX8_stepYear_354 rfl) <|
  am_kc (ak_iload dX8_stepYear_357 rfl) <|
  am_kc (ak_lald (t := 1) (fun _ => rfl) rfl dX8_stepYear_359 rfl) <|
  am_kc (ak_goto dX8_stepYear_360 (by decide +kernel)) <|
  am_kc (ak_lconst dX8_stepYear_363 (by decide +kernel) rfl) <|
  am_kc (ak_ladd dX8_stepYear_364 rfl) <|
  am_kc (ak_last (t := 1) (fun _ => rfl) rfl dX8_stepYear_365 rfl) <|
  am_kc (ak_iinc dX8_stepYear_366 (by decide +kernel) rfl) <|
  am_kc (ak_goto dX8_stepYear_369 (by decide +kernel)) <|
  am_kc (ak_retV dX8_stepYear_372) <| am_kn
theorem r_rem {x y : Int32} (hx : 0 ≤ x.toInt) (hy : 0 < y.toInt) : 0 ≤ (x - x / y * y).toInt ∧ (x - x / y * y).toInt < y.toInt := by
  have e := i_div hx hy
  have hh := i_hi x
  have h1 := Int.mul_ediv_add_emod x.toInt y.toInt
  have h2 := Int.emod_nonneg x.toInt (show y.toInt ≠ 0 by omega)
  have h3 := Int.emod_lt_of_pos x.toInt hy
  have h4 : (x.toInt / y.toInt) * y.toInt = y.toInt * (x.toInt / y.toInt) := Int.mul_comm _ _
  have h5 := Int.mul_nonneg (Int.le_of_lt hy) (Int.ediv_nonneg hx (Int.le_of_lt hy))
  have e2 := i_mul (x := x / y) (y := y) (by rw [e, h4]; omega) (by rw [e, h4]; omega)
  rw [e, h4] at e2
  have e3 := i_sub (x := x) (y := x / y * y) (by omega) (by omega)
  omega
def TX8_stepYear : am_T := fun live as M R => match as with
  | [.ref n, .int p, .int y, .int e, .int a, .int d, .long q] => am_mn live ∧ n = 200 ∧ am_in p 12 ∧ am_in y 40 ∧ am_in a 4 ∧ r_I M ∧ ∀ M', r_sc M M' → r_I M' → R none M'
  | _ => False
def JX8_stepYear : am_E → List Value → am_M → am_R → am_inv := fun live as M0 _ pc => match as with
  | [.ref n, .int p, .int y, .int e, .int a, .int d, .long q] => (match pc with
    | 3 => some ([0, 1, 2, 3, 4, 5, 6, 8], fun k L st M => ∃ i : Int32, L = [(0, .ref 200), (1, .int p), (2, .int y), (3, .int e), (4, .int a), (5, .int d), (6, .long q), (8, .int i)] ∧ st = [] ∧ k = (2000 + (31 - i.toInt).toNat, 0) ∧ 0 ≤ i.toInt ∧ r_sc M0 M ∧ r_I M)
    | 50 => some ([0, 1, 2, 3, 4, 6, 8, 10], fun k L st M => ∃ (u : Int64) (i : Int32), L = [(0, .ref 200), (1, .int p), (2, .int y), (3, .int e), (4, .int a), (6, .long q), (8, .long u), (10, .int i)] ∧ st = [] ∧ k = (1000 + (310 - i.toInt).toNat, 0) ∧ 0 ≤ i.toInt ∧ r_sc M0 M ∧ r_I M)
    | 169 => some ([0, 1, 2, 3, 4, 10, 12], fun k L st M => ∃ (u : Int64) (i : Int32), L = [(0, .ref 200), (1, .int p), (2, .int y), (3, .int e), (4, .int a), (10, .long u), (12, .int i)] ∧ st = [] ∧ k = ((310 - i.toInt).toNat, 0) ∧ 0 ≤ i.toInt ∧ r_sc M0 M ∧ r_I M)
    | _ => none)
  | _ => none
set_option maxRecDepth 100000 in
set_option maxHeartbeats 4000000 in
theorem metX8_stepYear : am_Met yX8_stepYear cX8_stepYear 16 none (8) (193) TX8_stepYear := by
  refine am_met (own := RX8) (by decide +kernel) rfl kX8_stepYear koX8_stepYear 150 JX8_stepYear ?_ ?_
  · intro live as M Ret h
    unfold TX8_stepYear at h
    split at h
    · next n p y e a d q =>
      refine ⟨Nat.le_of_ble_eq_true rfl, ?_⟩
      change am_wp _ _ _ _ [(0, Value.ref n), (1, Value.int p), (2, Value.int y), (3, Value.int e), (4, Value.int a), (5, Value.int d), (6, Value.long q)] _ _
      obtain ⟨hmn, rfl, hp, hy, ha, hR, h⟩ := h
      repeat' (first | apply And.intro | exact rfl | intro hx | (refine Exists.intro _ (And.intro rfl ?_)))
      all_goals try first | (with_reducible change am_tI _ _) | (change Ret _ _) | (change Ret _ _ _) | (change Exists _)
      all_goals try dsimp only at *
      all_goals try exact absurd ‹(1000 : Int64) = 0› (by decide)
      exact ⟨_, _, rfl, rfl, rfl, by decide, r_sc.rf, hR⟩
    · exact h.elim
  · intro live as M0 Ret h k pc I hI L st M hi
    unfold TX8_stepYear at h
    split at h
    · next n p y e a d q =>
      obtain ⟨hmn, rfl, hp, hy, ha, hR, h⟩ := h
      have hmn2 := hmn
      obtain ⟨i1, i2, rfl⟩ := hmn2
      have l201 : am_len 201 = 3760 := rfl
      have w0 : 0 ≤ (0 : Int32).toInt ∧ (0 : Int32).toInt ≤ 7 := ⟨by decide, by decide⟩
      have w7 : 0 ≤ (7 : Int32).toInt ∧ (7 : Int32).toInt ≤ 7 := ⟨by decide, by decide⟩
      have x1l : (1 : Int32).toInt < (am_len 201 : Int) := by rw [l201]; decide
      change (match pc with | 3 => _ | 50 => _ | 169 => _ | _ => none) = _ at hI
      split at hI
      · cases hI
        obtain ⟨i, rfl, rfl, rfl, e1, e2, e3⟩ := hi
        have n1 : 0 ≤ (M.1 201 (Int32.toNatClampNeg 1)).toInt ∧ (M.1 201 (Int32.toNatClampNeg 1)).toInt ≤ 30 := e3.n1
        by_cases hz : M.1 201 (Int32.toNatClampNeg 1) ≤ i
        · skip
          repeat' (first | (with_reducible exact x1l) | apply And.intro | exact rfl | (intro hx; with_reducible exact absurd hz hx) | (intro hx; exact absurd hx (by decide)) | (intro hx; exact absurd (by decide) hx) | decide | intro hx | (refine Exists.intro _ (And.intro rfl ?_)))
          all_goals try first | (with_reducible change am_tI _ _) | (change Ret _ _) | (change Ret _ _ _) | (change Exists _)
          all_goals try dsimp only at *
          all_goals try exact absurd ‹(1000 : Int64) = 0› (by decide)
          all_goals exact ⟨_, am_lt_l (by simp only [Int32.reduceToInt]; omega), _, _, rfl, rfl, rfl, by decide, e2, e3⟩
        · have hz2 := hz
          simp only [i_le] at hz2
          have hl : am_in i 30 := ⟨e1, by omega⟩
          have hi := i_inc (x := i) (by omega) (by omega)
          repeat' (first | (with_reducible exact x1l) | (with_reducible exact hmn) | (with_reducible exact hl) | (with_reducible exact hy) | (with_reducible exact w0) | (with_reducible exact e3) | apply And.intro | exact rfl | (intro hx; with_reducible exact absurd hx hz) | ((with_reducible change r_I _); (with_reducible assumption)) | (intro hx; exact absurd hx (by decide)) | (intro hx; exact absurd (by decide) hx) | decide | intro hx | (refine Exists.intro _ (And.intro rfl ?_)))
          all_goals try first | (with_reducible change am_tI _ _) | (change Ret _ _) | (change Ret _ _ _) | (change Exists _)
          all_goals try dsimp only at *
          all_goals try exact absurd ‹(1000 : Int64) = 0› (by decide)
          all_goals exact ⟨_, am_lt_l (by omega), _, rfl, rfl, rfl, by omega, by (repeat' (first | (with_reducible exact r_sc.rf) | (with_reducible assumption) | ((with_reducible change r_sc _ (am_wI _ _ _ _)); refine r_sc.wI ?_ rfl) | ((with_reducible change r_sc _ (am_wJ _ _ _ _)); refine r_sc.wJ ?_ rfl) | (refine r_sc.tr ?_ (by with_reducible assumption)))), by (repeat' (first | (with_reducible assumption) | ((with_reducible change r_I (am_wJ _ _ _ _)); refine r_I.wJ ?_) | ((with_reducible change r_I (am_wI _ _ _ _)); refine r_I.wI ?_ rfl)))⟩
      · cases hI
        obtain ⟨u, i, rfl, rfl, rfl, e1, e2, e3⟩ := hi
        have n1 : 0 ≤ (M.1 201 (Int32.toNatClampNeg 1)).toInt ∧ (M.1 201 (Int32.toNatClampNeg 1)).toInt ≤ 30 := e3.n1
        have e10 := r_mul (c := 10) (x := M.1 201 (Int32.toNatClampNeg 1)) ⟨by decide, by decide⟩ ⟨n1.1, by omega⟩
        simp only [Int32.reduceToInt] at e10
        by_cases hz : 10 * M.1 201 (Int32.toNatClampNeg 1) ≤ i
        · skip
          repeat' (first | (with_reducible exact x1l) | apply And.intro | exact rfl | (intro hx; with_reducible exact absurd hz hx) | (intro hx; exact absurd hx (by decide)) | (intro hx; exact absurd (by decide) hx) | decide | intro hx | (refine Exists.intro _ (And.intro rfl ?_)))
          all_goals try first | (with_reducible change am_tI _ _) | (change Ret _ _) | (change Ret _ _ _) | (change Exists _)
          all_goals try dsimp only at *
          all_goals try exact absurd ‹(1000 : Int64) = 0› (by decide)
          all_goals exact ⟨_, am_lt_l (by simp only [Int32.reduceToInt]; omega), _, _, rfl, rfl, rfl, by decide, by (repeat' (first | (with_reducible exact r_sc.rf) | (with_reducible assumption) | ((with_reducible change r_sc _ (am_wI _ _ _ _)); refine r_sc.wI ?_ rfl) | ((with_reducible change r_sc _ (am_wJ _ _ _ _)); refine r_sc.wJ ?_ rfl) | (refine r_sc.tr ?_ (by with_reducible assumption)))), by (repeat' (first | (with_reducible assumption) | ((with_reducible change r_I (am_wJ _ _ _ _)); refine r_I.wJ ?_) | ((with_reducible change r_I (am_wI _ _ _ _)); refine r_I.wI ?_ rfl)))⟩
        · have hz2 := hz
          simp only [i_le] at hz2
          have hi := i_inc (x := i) (by omega) (by omega)
          have hc : 0 < (M.1 201 (Int32.toNatClampNeg 1)).toInt := by omega
          have hc0 : ¬ M.1 201 (Int32.toNatClampNeg 1) = 0 := fun z => by rw [z] at hc; exact absurd hc (by decide)
          have hq := r_rem e1 hc
          have hl : am_in (i - i / M.1 201 (Int32.toNatClampNeg 1) * M.1 201 (Int32.toNatClampNeg 1)) 30 := ⟨hq.1, by omega⟩
          have x1 := hl.1
          have x2 : (i - i / M.1 201 (Int32.toNatClampNeg 1) * M.1 201 (Int32.toNatClampNeg 1)).toInt < ((30 : Nat) : Int) := hl.2
          repeat' (first | (with_reducible exact x1l) | (with_reducible exact hmn) | (with_reducible exact hl) | (with_reducible exact hp) | (with_reducible exact e3) | (with_reducible exact x1) | (with_reducible exact hc0) | apply And.intro | exact rfl | (intro hx; with_reducible exact absurd hx hz) | ((with_reducible change r_I _); (with_reducible assumption)) | (intro hx; exact absurd hx (by decide)) | (intro hx; exact absurd (by decide) hx) | decide | intro hx | (refine Exists.intro _ (And.intro rfl ?_)))
          all_goals try first | (with_reducible change am_tI _ _) | (change Ret _ _) | (change Ret _ _ _) | (change Exists _)
          all_goals try dsimp only at *
          all_goals try exact absurd ‹(1000 : Int64) = 0› (by decide)
          all_goals first
            | exact x2
            | exact hc0 (by with_reducible assumption)
            | exact ⟨_, am_lt_l (by omega), _, _, rfl, rfl, rfl, by omega, by (repeat' (first | (with_reducible exact r_sc.rf) | (with_reducible assumption) | ((with_reducible change r_sc _ (am_wI _ _ _ _)); refine r_sc.wI ?_ rfl) | ((with_reducible change r_sc _ (am_wJ _ _ _ _)); refine r_sc.wJ ?_ rfl) | (refine r_sc.tr ?_ (by with_reducible assumption)))), by (repeat' (first | (with_reducible assumption) | ((with_reducible change r_I (am_wJ _ _ _ _)); refine r_I.wJ ?_) | ((with_reducible change r_I (am_wI _ _ _ _)); refine r_I.wI ?_ rfl)))⟩
            | skip
      · cases hI
        obtain ⟨u, i, rfl, rfl, rfl, e1, e2, e3⟩ := hi
        have n1 : 0 ≤ (M.1 201 (Int32.toNatClampNeg 1)).toInt ∧ (M.1 201 (Int32.toNatClampNeg 1)).toInt ≤ 30 := e3.n1
        have e10 := r_mul (c := 10) (x := M.1 201 (Int32.toNatClampNeg 1)) ⟨by decide, by decide⟩ ⟨n1.1, by omega⟩
        simp only [Int32.reduceToInt] at e10
        by_cases hz : 10 * M.1 201 (Int32.toNatClampNeg 1) ≤ i
        · skip
          repeat' (first | (with_reducible exact x1l) | apply And.intro | exact rfl | (intro hx; with_reducible exact absurd hz hx) | (intro hx; exact absurd hx (by decide)) | (intro hx; exact absurd (by decide) hx) | decide | intro hx | (refine Exists.intro _ (And.intro rfl ?_)))
          all_goals try first | (with_reducible change am_tI _ _) | (change Ret _ _) | (change Ret _ _ _) | (change Exists _)
          all_goals try dsimp only at *
          all_goals try exact absurd ‹(1000 : Int64) = 0› (by decide)
          all_goals exact h _ e2 e3
        · have hz2 := hz
          simp only [i_le] at hz2
          have hi := i_inc (x := i) (by omega) (by omega)
          have hc : 0 < (M.1 201 (Int32.toNatClampNeg 1)).toInt := by omega
          have hc0 : ¬ M.1 201 (Int32.toNatClampNeg 1) = 0 := fun z => by rw [z] at hc; exact absurd hc (by decide)
          have hq := r_rem e1 hc
          have hl : am_in (i - i / M.1 201 (Int32.toNatClampNeg 1) * M.1 201 (Int32.toNatClampNeg 1)) 30 := ⟨hq.1, by omega⟩
          have x1 := hl.1
          have x2 : (i - i / M.1 201 (Int32.toNatClampNeg 1) * M.1 201 (Int32.toNatClampNeg 1)).toInt < ((30 : Nat) : Int) := hl.2
          repeat' (first | (with_reducible exact x1l) | (with_reducible exact hmn) | (with_reducible exact hl) | (with_reducible exact hp) | (with_reducible exact ha) | (with_reducible exact w7) | (with_reducible exact e3) | (with_reducible exact x1) | (with_reducible exact hc0) | apply And.intro | exact rfl | (intro hx; with_reducible exact absurd hx hz) | ((with_reducible change r_I _); (with_reducible assumption)) | (intro hx; exact absurd hx (by decide)) | (intro hx; exact absurd (by decide) hx) | decide | intro hx | (refine Exists.intro _ (And.intro rfl ?_)))
          all_goals try first | (with_reducible change am_tI _ _) | (change Ret _ _) | (change Ret _ _ _) | (change Exists _)
          all_goals try dsimp only at *
          all_goals try exact absurd ‹(1000 : Int64) = 0› (by decide)
          all_goals first
            | exact x2
            | exact hc0 (by with_reducible assumption)
            | exact ⟨_, am_lt_l (by omega), _, _, rfl, rfl, rfl, by omega, by (repeat' (first | (with_reducible exact r_sc.rf) | (with_reducible assumption) | ((with_reducible change r_sc _ (am_wI _ _ _ _)); refine r_sc.wI ?_ rfl) | ((with_reducible change r_sc _ (am_wJ _ _ _ _)); refine r_sc.wJ ?_ rfl) | (refine r_sc.tr ?_ (by with_reducible assumption)))), by (repeat' (first | (with_reducible assumption) | ((with_reducible change r_I (am_wJ _ _ _ _)); refine r_I.wJ ?_) | ((with_reducible change r_I (am_wI _ _ _ _)); refine r_I.wI ?_ rfl)))⟩
            | skip
      · cases hI
    · exact h.elim
set_option maxRecDepth 100000 in
theorem wd_1162 : Cond.methodLink "LearnLoansModel" 226 yX8_beginRun ∈ am_ws := am_wsi (List.mem_of_getElem? (i := 1162) (by rfl)) (by decide +kernel)
set_option maxRecDepth 100000 in
theorem wd_1164 : Cond.instanceMethod yX8_beginRun ∈ am_ws := am_wsi (List.mem_of_getElem? (i := 1164) (by rfl)) (by decide +kernel)
set_option maxRecDepth 100000 in
theorem wd_43 : Cond.selects "LearnLoansModel" yX8_beginRun yX8_beginRun ∈ am_ws := am_wsi (List.mem_of_getElem? (i := 43) (by rfl)) (by decide +kernel)
set_option maxRecDepth 100000 in
theorem wd_1165 : Cond.code yX8_beginRun cX8_beginRun 2 none ∈ am_ws := am_wsi (List.mem_of_getElem? (i := 1165) (by rfl)) (by decide +kernel)
set_option maxRecDepth 100000 in
theorem wd_1166 : Cond.methodLink "LearnLoansModel" 229 yX8_stepYear ∈ am_ws := am_wsi (List.mem_of_getElem? (i := 1166) (by rfl)) (by decide +kernel)
set_option maxRecDepth 100000 in
theorem wd_1168 : Cond.instanceMethod yX8_stepYear ∈ am_ws := am_wsi (List.mem_of_getElem? (i := 1168) (by rfl)) (by decide +kernel)
set_option maxRecDepth 100000 in
theorem wd_44 : Cond.selects "LearnLoansModel" yX8_stepYear yX8_stepYear ∈ am_ws := am_wsi (List.mem_of_getElem? (i := 44) (by rfl)) (by decide +kernel)
set_option maxRecDepth 100000 in
theorem wd_1169 : Cond.code yX8_stepYear cX8_stepYear 16 none ∈ am_ws := am_wsi (List.mem_of_getElem? (i := 1169) (by rfl)) (by decide +kernel)
theorem dX8_run_0 : decode cX8_run 0 = .ok (.aload_n 0, 1) := by decide +kernel
theorem dX8_run_1 : decode cX8_run 1 = .ok (.invokevirtual 226, 3) := by decide +kernel
theorem dX8_run_4 : decode cX8_run 4 = .ok (.iconst 0, 1) := by decide +kernel
theorem dX8_run_5 : decode cX8_run 5 = .ok (.istore 4, 2) := by decide +kernel
theorem dX8_run_7 : decode cX8_run 7 = .ok (.iload 4, 2) := by decide +kernel
theorem dX8_run_9 : decode cX8_run 9 = .ok (.iload_n 2, 1) := by decide +kernel
theorem dX8_run_10 : decode cX8_run 10 = .ok (.if_icmp .gt 68, 3) := by decide +kernel
theorem dX8_run_13 : decode cX8_run 13 = .ok (.aload_n 0, 1) := by decide +kernel
theorem dX8_run_14 : decode cX8_run 14 = .ok (.getfield 7, 3) := by decide +kernel
theorem dX8_run_17 : decode cX8_run 17 = .ok (.bipush 22, 2) := by decide +kernel
theorem dX8_run_19 : decode cX8_run 19 = .ok (.iload_n 1, 1) := by decide +kernel
theorem dX8_run_20 : decode cX8_run 20 = .ok (.iadd, 1) := by decide +kernel
theorem dX8_run_21 : decode cX8_run 21 = .ok (.iaload, 1) := by decide +kernel
theorem dX8_run_22 : decode cX8_run 22 = .ok (.istore 5, 2) := by decide +kernel
theorem dX8_run_24 : decode cX8_run 24 = .ok (.aload_n 0, 1) := by decide +kernel
theorem dX8_run_25 : decode cX8_run 25 = .ok (.iload_n 1, 1) := by decide +kernel
theorem dX8_run_26 : decode cX8_run 26 = .ok (.iload 4, 2) := by decide +kernel
theorem dX8_run_28 : decode cX8_run 28 = .ok (.aload_n 0, 1) := by decide +kernel
theorem dX8_run_29 : decode cX8_run 29 = .ok (.iload_n 1, 1) := by decide +kernel
theorem dX8_run_30 : decode cX8_run 30 = .ok (.iload 4, 2) := by decide +kernel
theorem dX8_run_32 : decode cX8_run 32 = .ok (.iload_n 3, 1) := by decide +kernel
theorem dX8_run_33 : decode cX8_run 33 = .ok (.invokevirtual 89, 3) := by decide +kernel
theorem dX8_run_36 : decode cX8_run 36 = .ok (.aload_n 0, 1) := by decide +kernel
theorem dX8_run_37 : decode cX8_run 37 = .ok (.getfield 7, 3) := by decide +kernel
theorem dX8_run_40 : decode cX8_run 40 = .ok (.bipush 34, 2) := by decide +kernel
theorem dX8_run_42 : decode cX8_run 42 = .ok (.bipush 40, 2) := by decide +kernel
theorem dX8_run_44 : decode cX8_run 44 = .ok (.iload_n 1, 1) := by decide +kernel
theorem dX8_run_45 : decode cX8_run 45 = .ok (.imul, 1) := by decide +kernel
theorem dX8_run_46 : decode cX8_run 46 = .ok (.iadd, 1) := by decide +kernel
theorem dX8_run_47 : decode cX8_run 47 = .ok (.iload 4, 2) := by decide +kernel
theorem dX8_run_49 : decode cX8_run 49 = .ok (.iadd, 1) := by decide +kernel
theorem dX8_run_50 : decode cX8_run 50 = .ok (.iaload, 1) := by decide +kernel
theorem dX8_run_51 : decode cX8_run 51 = .ok (.iload 5, 2) := by decide +kernel
theorem dX8_run_53 : decode cX8_run 53 = .ok (.ifCond .lt 14, 3) := by decide +kernel
theorem dX8_run_56 : decode cX8_run 56 = .ok (.iload 5, 2) := by decide +kernel
theorem dX8_run_58 : decode cX8_run 58 = .ok (.iload 4, 2) := by decide +kernel
theorem dX8_run_60 : decode cX8_run 60 = .ok (.if_icmp .gt 7, 3) := by decide +kernel
theorem dX8_run_63 : decode cX8_run 63 = .ok (.iconst 1, 1) := by decide +kernel
theorem dX8_run_64 : decode cX8_run 64 = .ok (.goto 4, 3) := by decide +kernel
theorem dX8_run_67 : decode cX8_run 67 = .ok (.iconst 0, 1) := by decide +kernel
theorem dX8_run_68 : decode cX8_run 68 = .ok (.lconst 0, 1) := by decide +kernel
theorem dX8_run_69 : decode cX8_run 69 = .ok (.invokevirtual 229, 3) := by decide +kernel
theorem dX8_run_72 : decode cX8_run 72 = .ok (.iinc 4 1, 3) := by decide +kernel
theorem dX8_run_75 : decode cX8_run 75 = .ok (.goto (-68), 3) := by decide +kernel
theorem dX8_run_78 : decode cX8_run 78 = .ok (.return_, 1) := by decide +kernel
def kX8_run (live : am_E) (Ret : am_R) : am_code := [(0, am_aload 0 1), (1, am_callV live 8 0 TX8_beginRun 4), (4, am_const (.int 0) 5), (5, am_istore 4 6 7), (7, am_iload 4 9), (9, am_iload 2 10), (10, am_if2 (fun x y => y < x) 78 13), (13, am_aload 0 14), (14, am_getR live 8 0 17), (17, am_const (.int 22) 19), (19, am_iload 1 20), (20, am_i2 (fun x y => x + y) 21), (21, am_ald live 0 22), (22, am_istore 5 6 24), (24, am_aload 0 25), (25, am_iload 1 26), (26, am_iload 4 28), (28, am_aload 0 29), (29, am_iload 1 30), (30, am_iload 4 32), (32, am_iload 3 33), (33, am_callV live 8 3 TX8_earningsOf 36), (36, am_aload 0 37), (37, am_getR live 8 0 40), (40, am_const (.int 34) 42), (42, am_const (.int 40) 44), (44, am_iload 1 45), (45, am_i2 (fun x y => x * y) 46), (46, am_i2 (fun x y => x + y) 47), (47, am_iload 4 49), (49, am_i2 (fun x y => x + y) 50), (50, am_ald live 0 51), (51, am_iload 5 53), (53, am_if1 (fun x => x < 0) 67 56), (56, am_iload 5 58), (58, am_iload 4 60), (60, am_if2 (fun x y => y < x) 67 63), (63, am_const (.int 1) 64), (64, am_goto 68), (67, am_const (.int 0) 68), (68, am_const (.long 0) 69), (69, am_callV live 8 6 TX8_stepYear 72), (72, am_iinc 4 6 1 75), (75, am_goto 7), (78, am_retV Ret)]
theorem koX8_run (live : am_E) (Ret : am_R) : ∀ q ∈ kX8_run live Ret, am_ok RX8 cX8_run 6 none 9 228 live Ret q.1 q.2 :=
  am_kc (ak_aload_n dX8_run_0 rfl rfl) <|
  am_kc (ak_callV (C := RX8) (F := TX8) (N := 27) metX8_beginRun rfl ⟨rfl, by decide +kernel, by decide +kernel, by decide +kernel⟩ (am_w5 wd_1162 wd_1164 wd_43 wd_67 wd_1165) (by decide) dX8_run_1 rfl) <|
  am_kc (ak_iconst dX8_run_4 (by decide +kernel) rfl) <|
  am_kc (ak_istore dX8_run_5 rfl) <|
  am_kc (ak_iload dX8_run_7 rfl) <|
  am_kc (ak_iload_n dX8_run_9 rfl rfl) <|
  am_kc (ak_icmp_gt dX8_run_10 (by decide +kernel) rfl) <|
  am_kc (ak_aload_n dX8_run_13 rfl rfl) <|
  am_kc (ak_getR (C := RX8) (T := TX8) (N := 27) rfl inX8w (by decide) rfl rfl rfl wd_895 dX8_run_14 rfl) <|
  am_kc (ak_bipush dX8_run_17 (by decide +kernel) rfl) <|
  am_kc (ak_iload_n dX8_run_19 rfl rfl) <|
  am_kc (ak_iadd dX8_run_20 rfl) <|
  am_kc (ak_iald (t := 0) (fun _ => rfl) rfl dX8_run_21 rfl) <|
  am_kc (ak_istore dX8_run_22 rfl) <|
  am_kc (ak_aload_n dX8_run_24 rfl rfl) <|
  am_kc (ak_iload_n dX8_run_25 rfl rfl) <|
  am_kc (ak_iload dX8_run_26 rfl) <|
  am_kc (ak_aload_n dX8_run_28 rfl rfl) <|
  am_kc (ak_iload_n dX8_run_29 rfl rfl) <|
  am_kc (ak_iload dX8_run_30 rfl) <|
  am_kc (ak_iload_n dX8_run_32 rfl rfl) <|
  am_kc (ak_callV (C := RX8) (F := TX8) (N := 27) metX8_earningsOf rfl ⟨rfl, by decide +kernel, by decide +kernel, by decide +kernel⟩ (am_w5 wd_1026 wd_1028 wd_28 wd_67 wd_1029) (by decide) dX8_run_33 rfl) <|
  am_kc (ak_aload_n dX8_run_36 rfl rfl) <|
  am_kc (ak_getR (C := RX8) (T := TX8) (N := 27) rfl inX8w (by decide) rfl rfl rfl wd_895 dX8_run_37 rfl) <|
  am_kc (ak_bipush dX8_run_40 (by decide +kernel) rfl) <|
  am_kc (ak_bipush dX8_run_42 (by decide +kernel) rfl) <|
  am_kc (ak_iload_n dX8_run_44 rfl rfl) <|
  am_kc (ak_imul dX8_run_45 rfl) <|
  am_kc (ak_iadd dX8_run_46 rfl) <|
  am_kc (ak_iload dX8_run_47 rfl) <|
  am_kc (ak_iadd dX8_run_49 rfl) <|
  am_kc (ak_iald (t := 0) (fun _ => rfl) rfl dX8_run_50 rfl) <|
  am_kc (ak_iload dX8_run_51 rfl) <|
  am_kc (ak_if_lt dX8_run_53 (by decide +kernel) rfl) <|
  am_kc (ak_iload dX8_run_56 rfl) <|
  am_kc (ak_iload dX8_run_58 rfl) <|
  am_kc (ak_icmp_gt dX8_run_60 (by decide +kernel) rfl) <|
  am_kc (ak_iconst dX8_run_63 (by decide +kernel) rfl) <|
  am_kc (ak_goto dX8_run_64 (by decide +kernel)) <|
  am_kc (ak_iconst dX8_run_67 (by decide +kernel) rfl) <|
  am_kc (ak_lconst dX8_run_68 (by decide +kernel) rfl) <|
  am_kc (ak_callV (C := RX8) (F := TX8) (N := 27) metX8_stepYear rfl ⟨rfl, by decide +kernel, by decide +kernel, by decide +kernel⟩ (am_w5 wd_1166 wd_1168 wd_44 wd_67 wd_1169) (by decide) dX8_run_69 rfl) <|
  am_kc (ak_iinc dX8_run_72 (by decide +kernel) rfl) <|
  am_kc (ak_goto dX8_run_75 (by decide +kernel)) <|
  am_kc (ak_retV dX8_run_78) <| am_kn
def TX8_run : am_T := fun live as M R => match as with
  | [.ref n, .int p, .int u, .int k] => am_mn live ∧ n = 200 ∧ am_in p 12 ∧ u.toInt ≤ 39 ∧ r_I M ∧ ∀ M', r_sc M M' → r_I M' → R none M'
  | _ => False
def JX8_run : am_E → List Value → am_M → am_R → am_inv := fun live as M0 _ pc => match as with
  | [.ref n, .int p, .int u, .int w] => (match pc with
    | 7 => some ([0, 1, 2, 3, 4], fun k L st M => ∃ i : Int32, L = [(0, .ref 200), (1, .int p), (2, .int u), (3, .int w), (4, .int i)] ∧ st = [] ∧ k = ((41 - i.toInt).toNat, 0) ∧ 0 ≤ i.toInt ∧ r_sc M0 M ∧ r_I M)
    | _ => none)
  | _ => none
set_option maxRecDepth 100000 in
set_option maxHeartbeats 4000000 in
theorem metX8_run : am_Met yX8_run cX8_run 6 none (9) (228) TX8_run := by
  refine am_met (own := RX8) (by decide +kernel) rfl kX8_run koX8_run 100 JX8_run ?_ ?_
  · intro live as M Ret h
    unfold TX8_run at h
    split at h
    · next n p u k =>
      refine ⟨Nat.le_of_ble_eq_true rfl, ?_⟩
      change am_wp _ _ _ _ [(0, Value.ref n), (1, Value.int p), (2, Value.int u), (3, Value.int k)] _ _
      obtain ⟨hmn, rfl, hp, hu, hR, h⟩ := h
      have hmn2 := hmn
      obtain ⟨i1, i2, rfl⟩ := hmn2
      repeat' (first | (with_reducible exact hmn) | (with_reducible exact hR) | apply And.intro | exact rfl | ((with_reducible change r_I _); (with_reducible assumption)) | intro hx | (refine Exists.intro _ (And.intro rfl ?_)))
      all_goals try first | (with_reducible change am_tI _ _) | (change Ret _ _) | (change Ret _ _ _) | (change Exists _)
      all_goals try dsimp only at *
      all_goals try exact absurd ‹(1000 : Int64) = 0› (by decide)
      exact ⟨_, _, rfl, rfl, rfl, by decide, by (repeat' (first | (with_reducible exact r_sc.rf) | (with_reducible assumption) | ((with_reducible change r_sc _ (am_wI _ _ _ _)); refine r_sc.wI ?_ rfl) | ((with_reducible change r_sc _ (am_wJ _ _ _ _)); refine r_sc.wJ ?_ rfl) | (refine r_sc.tr ?_ (by with_reducible assumption)))), by (repeat' (first | (with_reducible assumption) | ((with_reducible change r_I (am_wJ _ _ _ _)); refine r_I.wJ ?_) | ((with_reducible change r_I (am_wI _ _ _ _)); refine r_I.wI ?_ rfl)))⟩
    · exact h.elim
  · intro live as M0 Ret h k pc I hI L st M hi
    unfold TX8_run at h
    split at h
    · next n p u k =>
      obtain ⟨hmn, rfl, hp, hu, hR, h⟩ := h
      have hmn2 := hmn
      obtain ⟨i1, i2, rfl⟩ := hmn2
      have l201 : am_len 201 = 3760 := rfl
      have p1 := hp.1
      have p2 := hp.2
      change (match pc with | 7 => _ | _ => none) = _ at hI
      split at hI
      · cases hI
        obtain ⟨i, rfl, rfl, rfl, e1, e2, e3⟩ := hi
        by_cases hz : u < i
        · skip
          repeat' (first | apply And.intro | exact rfl | (intro hx; with_reducible exact absurd hz hx) | intro hx | (refine Exists.intro _ (And.intro rfl ?_)))
          all_goals try first | (with_reducible change am_tI _ _) | (change Ret _ _) | (change Ret _ _ _) | (change Exists _)
          all_goals try dsimp only at *
          all_goals try exact absurd ‹(1000 : Int64) = 0› (by decide)
          exact h _ e2 e3
        · have hz2 := hz
          simp only [i_lt] at hz2
          have hy : am_in i 40 := ⟨e1, by omega⟩
          have hi := i_inc (x := i) (by omega) (by omega)
          have e22 := r_off (c := 22) (x := p) ⟨by decide, by decide⟩ ⟨by omega, by omega⟩
          have e40 := r_mul (c := 40) (x := p) ⟨by decide, by decide⟩ ⟨by omega, by omega⟩
          simp only [Int32.reduceToInt] at e22 e40
          have ea := r_off (c := 34) (x := 40 * p) ⟨by decide, by decide⟩ ⟨by omega, by omega⟩
          simp only [e40, Int32.reduceToInt] at ea
          have eb := r_off (c := 34 + 40 * p) (x := i) ⟨by omega, by omega⟩ ⟨by omega, by omega⟩
          rw [ea] at eb
          have x1 : 0 ≤ (22 + p).toInt := by omega
          have x2 : (22 + p).toInt < (am_len 201 : Int) := by rw [l201]; omega
          have x3 : 0 ≤ (34 + 40 * p + i).toInt := by omega
          have x4 : (34 + 40 * p + i).toInt < (am_len 201 : Int) := by rw [l201]; omega
          have hla : am_in (M.1 201 (34 + 40 * p + i).toNatClampNeg) 4 := by
            have c1 := i_clamp (x := 34 + 40 * p + i) x3
            have c2 := i_clamp (x := p) p1
            have c3 := i_clamp (x := i) e1
            rw [show (34 + 40 * p + i).toNatClampNeg = 34 + (40 * p.toNatClampNeg + i.toNatClampNeg) by omega]
            exact e3.ld (by omega)
          repeat' (first | (with_reducible exact x1) | (with_reducible exact x2) | (with_reducible exact x3) | (with_reducible exact x4) | (with_reducible exact hmn) | (with_reducible exact hp) | (with_reducible exact hy) | (with_reducible exact hla) | (with_reducible exact e3) | apply And.intro | exact rfl | (intro hx; with_reducible exact absurd hx hz) | ((with_reducible change r_I _); (with_reducible assumption)) | (intro hx; exact absurd hx (by decide)) | (intro hx; exact absurd (by decide) hx) | decide | intro hx | (refine Exists.intro _ (And.intro rfl ?_)))
          all_goals try first | (with_reducible change am_tI _ _) | (change Ret _ _) | (change Ret _ _ _) | (change Exists _)
          all_goals try dsimp only at *
          all_goals try exact absurd ‹(1000 : Int64) = 0› (by decide)
          all_goals first
            | exact ⟨_, am_lt_l (by omega), _, rfl, rfl, rfl, by omega, by (repeat' (first | (with_reducible exact r_sc.rf) | (with_reducible assumption) | ((with_reducible change r_sc _ (am_wI _ _ _ _)); refine r_sc.wI ?_ rfl) | ((with_reducible change r_sc _ (am_wJ _ _ _ _)); refine r_sc.wJ ?_ rfl) | (refine r_sc.tr ?_ (by with_reducible assumption)))), by (repeat' (first | (with_reducible assumption) | ((with_reducible change r_I (am_wJ _ _ _ _)); refine r_I.wJ ?_) | ((with_reducible change r_I (am_wI _ _ _ _)); refine r_I.wI ?_ rfl)))⟩
            | skip
      · cases hI
    · exact h.elim
