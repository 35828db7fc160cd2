/-! Text: worked -/
set_option maxRecDepth 100000 in
theorem wd_599 : Cond.methodLink "LearnLoans$Text" 86 yX1_valueOf ∈ am_ws := am_wsi (List.mem_of_getElem? (i := 599) (by rfl)) (by decide +kernel)
set_option maxRecDepth 100000 in
theorem wd_600 : Cond.instanceMethod yX1_valueOf ∈ am_ws := am_wsi (List.mem_of_getElem? (i := 600) (by rfl)) (by decide +kernel)
set_option maxRecDepth 100000 in
theorem wd_601 : Cond.selects "LearnLoans$Letters" yX1_valueOf yX1_valueOf ∈ am_ws := am_wsi (List.mem_of_getElem? (i := 601) (by rfl)) (by decide +kernel)
set_option maxRecDepth 100000 in
theorem wd_66 : Cond.initialized "LearnLoans$Letters" ∈ am_ws := am_wsi (List.mem_of_getElem? (i := 66) (by rfl)) (by decide +kernel)
set_option maxRecDepth 100000 in
theorem wd_602 : Cond.code yX1_valueOf cX1_valueOf 2 (some .long) ∈ am_ws := am_wsi (List.mem_of_getElem? (i := 602) (by rfl)) (by decide +kernel)
set_option maxRecDepth 100000 in
theorem wd_603 : Cond.methodLink "LearnLoans$Text" 92 yX5_joined ∈ am_ws := am_wsi (List.mem_of_getElem? (i := 603) (by rfl)) (by decide +kernel)
set_option maxRecDepth 100000 in
theorem wd_604 : Cond.static yX5_joined ∈ am_ws := am_wsi (List.mem_of_getElem? (i := 604) (by rfl)) (by decide +kernel)
set_option maxRecDepth 100000 in
theorem wd_605 : Cond.code yX5_joined cX5_joined 5 (some .long) ∈ am_ws := am_wsi (List.mem_of_getElem? (i := 605) (by rfl)) (by decide +kernel)
theorem dX5_worked_0 : decode cX5_worked 0 = .ok (.iconst 0, 1) := by decide +kernel
theorem dX5_worked_1 : decode cX5_worked 1 = .ok (.istore_n 3, 1) := by decide +kernel
theorem dX5_worked_2 : decode cX5_worked 2 = .ok (.iconst 0, 1) := by decide +kernel
theorem dX5_worked_3 : decode cX5_worked 3 = .ok (.istore 4, 2) := by decide +kernel
theorem dX5_worked_5 : decode cX5_worked 5 = .ok (.iload 4, 2) := by decide +kernel
theorem dX5_worked_7 : decode cX5_worked 7 = .ok (.aload_n 0, 1) := by decide +kernel
theorem dX5_worked_8 : decode cX5_worked 8 = .ok (.getfield 25, 3) := by decide +kernel
theorem dX5_worked_11 : decode cX5_worked 11 = .ok (.if_icmp .ge 189, 3) := by decide +kernel
theorem dX5_worked_14 : decode cX5_worked 14 = .ok (.iload 4, 2) := by decide +kernel
theorem dX5_worked_16 : decode cX5_worked 16 = .ok (.bipush 50, 2) := by decide +kernel
theorem dX5_worked_18 : decode cX5_worked 18 = .ok (.if_icmp .ge 182, 3) := by decide +kernel
theorem dX5_worked_21 : decode cX5_worked 21 = .ok (.aload_n 0, 1) := by decide +kernel
theorem dX5_worked_22 : decode cX5_worked 22 = .ok (.getfield 15, 3) := by decide +kernel
theorem dX5_worked_25 : decode cX5_worked 25 = .ok (.iload 4, 2) := by decide +kernel
theorem dX5_worked_27 : decode cX5_worked 27 = .ok (.iaload, 1) := by decide +kernel
theorem dX5_worked_28 : decode cX5_worked 28 = .ok (.istore 5, 2) := by decide +kernel
theorem dX5_worked_30 : decode cX5_worked 30 = .ok (.iload 5, 2) := by decide +kernel
theorem dX5_worked_32 : decode cX5_worked 32 = .ok (.ifCond .lt 7, 3) := by decide +kernel
theorem dX5_worked_35 : decode cX5_worked 35 = .ok (.iconst 0, 1) := by decide +kernel
theorem dX5_worked_36 : decode cX5_worked 36 = .ok (.goto 9, 3) := by decide +kernel
theorem dX5_worked_39 : decode cX5_worked 39 = .ok (.iload 5, 2) := by decide +kernel
theorem dX5_worked_41 : decode cX5_worked 41 = .ok (.ineg, 1) := by decide +kernel
theorem dX5_worked_42 : decode cX5_worked 42 = .ok (.invokestatic 83, 3) := by decide +kernel
theorem dX5_worked_45 : decode cX5_worked 45 = .ok (.istore 6, 2) := by decide +kernel
theorem dX5_worked_47 : decode cX5_worked 47 = .ok (.iload_n 3, 1) := by decide +kernel
theorem dX5_worked_48 : decode cX5_worked 48 = .ok (.iload 6, 2) := by decide +kernel
theorem dX5_worked_50 : decode cX5_worked 50 = .ok (.if_icmp .lt 12, 3) := by decide +kernel
theorem dX5_worked_53 : decode cX5_worked 53 = .ok (.iload_n 3, 1) := by decide +kernel
theorem dX5_worked_54 : decode cX5_worked 54 = .ok (.iload 6, 2) := by decide +kernel
theorem dX5_worked_56 : decode cX5_worked 56 = .ok (.isub, 1) := by decide +kernel
theorem dX5_worked_57 : decode cX5_worked 57 = .ok (.aload_n 2, 1) := by decide +kernel
theorem dX5_worked_58 : decode cX5_worked 58 = .ok (.arraylength, 1) := by decide +kernel
theorem dX5_worked_59 : decode cX5_worked 59 = .ok (.if_icmp .lt 5, 3) := by decide +kernel
theorem dX5_worked_62 : decode cX5_worked 62 = .ok (.lconst 0, 1) := by decide +kernel
theorem dX5_worked_63 : decode cX5_worked 63 = .ok (.lreturn, 1) := by decide +kernel
theorem dX5_worked_64 : decode cX5_worked 64 = .ok (.iload_n 3, 1) := by decide +kernel
theorem dX5_worked_65 : decode cX5_worked 65 = .ok (.iload 6, 2) := by decide +kernel
theorem dX5_worked_67 : decode cX5_worked 67 = .ok (.isub, 1) := by decide +kernel
theorem dX5_worked_68 : decode cX5_worked 68 = .ok (.istore_n 3, 1) := by decide +kernel
theorem dX5_worked_69 : decode cX5_worked 69 = .ok (.iload 5, 2) := by decide +kernel
theorem dX5_worked_71 : decode cX5_worked 71 = .ok (.ifCond .lt 12, 3) := by decide +kernel
theorem dX5_worked_74 : decode cX5_worked 74 = .ok (.aload_n 2, 1) := by decide +kernel
theorem dX5_worked_75 : decode cX5_worked 75 = .ok (.iload_n 3, 1) := by decide +kernel
theorem dX5_worked_76 : decode cX5_worked 76 = .ok (.iload 5, 2) := by decide +kernel
theorem dX5_worked_78 : decode cX5_worked 78 = .ok (.i2l, 1) := by decide +kernel
theorem dX5_worked_79 : decode cX5_worked 79 = .ok (.lastore, 1) := by decide +kernel
theorem dX5_worked_80 : decode cX5_worked 80 = .ok (.goto 111, 3) := by decide +kernel
theorem dX5_worked_83 : decode cX5_worked 83 = .ok (.iload 6, 2) := by decide +kernel
theorem dX5_worked_85 : decode cX5_worked 85 = .ok (.ifCond .ne 16, 3) := by decide +kernel
theorem dX5_worked_88 : decode cX5_worked 88 = .ok (.aload_n 2, 1) := by decide +kernel
theorem dX5_worked_89 : decode cX5_worked 89 = .ok (.iload_n 3, 1) := by decide +kernel
theorem dX5_worked_90 : decode cX5_worked 90 = .ok (.aload_n 1, 1) := by decide +kernel
theorem dX5_worked_91 : decode cX5_worked 91 = .ok (.iload 5, 2) := by decide +kernel
theorem dX5_worked_93 : decode cX5_worked 93 = .ok (.ineg, 1) := by decide +kernel
theorem dX5_worked_94 : decode cX5_worked 94 = .ok (.invokevirtual 86, 3) := by decide +kernel
theorem dX5_worked_97 : decode cX5_worked 97 = .ok (.lastore, 1) := by decide +kernel
theorem dX5_worked_98 : decode cX5_worked 98 = .ok (.goto 93, 3) := by decide +kernel
theorem dX5_worked_101 : decode cX5_worked 101 = .ok (.iload 6, 2) := by decide +kernel
theorem dX5_worked_103 : decode cX5_worked 103 = .ok (.iconst 1, 1) := by decide +kernel
theorem dX5_worked_104 : decode cX5_worked 104 = .ok (.if_icmp .ne 37, 3) := by decide +kernel
theorem dX5_worked_107 : decode cX5_worked 107 = .ok (.aload_n 2, 1) := by decide +kernel
theorem dX5_worked_108 : decode cX5_worked 108 = .ok (.iload_n 3, 1) := by decide +kernel
theorem dX5_worked_109 : decode cX5_worked 109 = .ok (.iload 5, 2) := by decide +kernel
theorem dX5_worked_111 : decode cX5_worked 111 = .ok (.bipush (-33), 2) := by decide +kernel
theorem dX5_worked_113 : decode cX5_worked 113 = .ok (.if_icmp .ne 20, 3) := by decide +kernel
theorem dX5_worked_116 : decode cX5_worked 116 = .ok (.aload_n 2, 1) := by decide +kernel
theorem dX5_worked_117 : decode cX5_worked 117 = .ok (.iload_n 3, 1) := by decide +kernel
theorem dX5_worked_118 : decode cX5_worked 118 = .ok (.laload, 1) := by decide +kernel
theorem dX5_worked_119 : decode cX5_worked 119 = .ok (.lconst 0, 1) := by decide +kernel
theorem dX5_worked_120 : decode cX5_worked 120 = .ok (.lcmp, 1) := by decide +kernel
theorem dX5_worked_121 : decode cX5_worked 121 = .ok (.ifCond .ne 7, 3) := by decide +kernel
theorem dX5_worked_124 : decode cX5_worked 124 = .ok (.iconst 1, 1) := by decide +kernel
theorem dX5_worked_125 : decode cX5_worked 125 = .ok (.goto 4, 3) := by decide +kernel
theorem dX5_worked_128 : decode cX5_worked 128 = .ok (.iconst 0, 1) := by decide +kernel
theorem dX5_worked_129 : decode cX5_worked 129 = .ok (.i2l, 1) := by decide +kernel
theorem dX5_worked_130 : decode cX5_worked 130 = .ok (.goto 7, 3) := by decide +kernel
theorem dX5_worked_133 : decode cX5_worked 133 = .ok (.aload_n 2, 1) := by decide +kernel
theorem dX5_worked_134 : decode cX5_worked 134 = .ok (.iload_n 3, 1) := by decide +kernel
theorem dX5_worked_135 : decode cX5_worked 135 = .ok (.laload, 1) := by decide +kernel
theorem dX5_worked_136 : decode cX5_worked 136 = .ok (.lneg, 1) := by decide +kernel
theorem dX5_worked_137 : decode cX5_worked 137 = .ok (.lastore, 1) := by decide +kernel
theorem dX5_worked_138 : decode cX5_worked 138 = .ok (.goto 53, 3) := by decide +kernel
theorem dX5_worked_141 : decode cX5_worked 141 = .ok (.iload 6, 2) := by decide +kernel
theorem dX5_worked_143 : decode cX5_worked 143 = .ok (.iconst 2, 1) := by decide +kernel
theorem dX5_worked_144 : decode cX5_worked 144 = .ok (.if_icmp .ne 23, 3) := by decide +kernel
theorem dX5_worked_147 : decode cX5_worked 147 = .ok (.aload_n 2, 1) := by decide +kernel
theorem dX5_worked_148 : decode cX5_worked 148 = .ok (.iload_n 3, 1) := by decide +kernel
theorem dX5_worked_149 : decode cX5_worked 149 = .ok (.iload 5, 2) := by decide +kernel
theorem dX5_worked_151 : decode cX5_worked 151 = .ok (.ineg, 1) := by decide +kernel
theorem dX5_worked_152 : decode cX5_worked 152 = .ok (.aload_n 2, 1) := by decide +kernel
theorem dX5_worked_153 : decode cX5_worked 153 = .ok (.iload_n 3, 1) := by decide +kernel
theorem dX5_worked_154 : decode cX5_worked 154 = .ok (.laload, 1) := by decide +kernel
theorem dX5_worked_155 : decode cX5_worked 155 = .ok (.aload_n 2, 1) := by decide +kernel
theorem dX5_worked_156 : decode cX5_worked 156 = .ok (.iload_n 3, 1) := by decide +kernel
theorem dX5_worked_157 : decode cX5_worked 157 = .ok (.iconst 1, 1) := by decide +kernel
theorem dX5_worked_158 : decode cX5_worked 158 = .ok (.iadd, 1) := by decide +kernel
theorem dX5_worked_159 : decode cX5_worked 159 = .ok (.laload, 1) := by decide +kernel
theorem dX5_worked_160 : decode cX5_worked 160 = .ok (.invokestatic 92, 3) := by decide +kernel
theorem dX5_worked_163 : decode cX5_worked 163 = .ok (.lastore, 1) := by decide +kernel
theorem dX5_worked_164 : decode cX5_worked 164 = .ok (.goto 27, 3) := by decide +kernel
theorem dX5_worked_167 : decode cX5_worked 167 = .ok (.aload_n 2, 1) := by decide +kernel
theorem dX5_worked_168 : decode cX5_worked 168 = .ok (.iload_n 3, 1) := by decide +kernel
theorem dX5_worked_169 : decode cX5_worked 169 = .ok (.aload_n 2, 1) := by decide +kernel
theorem dX5_worked_170 : decode cX5_worked 170 = .ok (.iload_n 3, 1) := by decide +kernel
theorem dX5_worked_171 : decode cX5_worked 171 = .ok (.laload, 1) := by decide +kernel
theorem dX5_worked_172 : decode cX5_worked 172 = .ok (.lconst 0, 1) := by decide +kernel
theorem dX5_worked_173 : decode cX5_worked 173 = .ok (.lcmp, 1) := by decide +kernel
theorem dX5_worked_174 : decode cX5_worked 174 = .ok (.ifCond .eq 11, 3) := by decide +kernel
theorem dX5_worked_177 : decode cX5_worked 177 = .ok (.aload_n 2, 1) := by decide +kernel
theorem dX5_worked_178 : decode cX5_worked 178 = .ok (.iload_n 3, 1) := by decide +kernel
theorem dX5_worked_179 : decode cX5_worked 179 = .ok (.iconst 1, 1) := by decide +kernel
theorem dX5_worked_180 : decode cX5_worked 180 = .ok (.iadd, 1) := by decide +kernel
theorem dX5_worked_181 : decode cX5_worked 181 = .ok (.laload, 1) := by decide +kernel
theorem dX5_worked_182 : decode cX5_worked 182 = .ok (.goto 8, 3) := by decide +kernel
theorem dX5_worked_185 : decode cX5_worked 185 = .ok (.aload_n 2, 1) := by decide +kernel
theorem dX5_worked_186 : decode cX5_worked 186 = .ok (.iload_n 3, 1) := by decide +kernel
theorem dX5_worked_187 : decode cX5_worked 187 = .ok (.iconst 2, 1) := by decide +kernel
theorem dX5_worked_188 : decode cX5_worked 188 = .ok (.iadd, 1) := by decide +kernel
theorem dX5_worked_189 : decode cX5_worked 189 = .ok (.laload, 1) := by decide +kernel
theorem dX5_worked_190 : decode cX5_worked 190 = .ok (.lastore, 1) := by decide +kernel
theorem dX5_worked_191 : decode cX5_worked 191 = .ok (.iinc 3 1, 3) := by decide +kernel
theorem dX5_worked_194 : decode cX5_worked 194 = .ok (.iinc 4 1, 3) := by decide +kernel
theorem dX5_worked_197 : decode cX5_worked 197 = .ok (.goto (-192), 3) := by decide +kernel
theorem dX5_worked_200 : decode cX5_worked 200 = .ok (.iload_n 3, 1) := by decide +kernel
theorem dX5_worked_201 : decode cX5_worked 201 = .ok (.ifCond .le 14, 3) := by decide +kernel
theorem dX5_worked_204 : decode cX5_worked 204 = .ok (.aload_n 2, 1) := by decide +kernel
theorem dX5_worked_205 : decode cX5_worked 205 = .ok (.arraylength, 1) := by decide +kernel
theorem dX5_worked_206 : decode cX5_worked 206 = .ok (.ifCond .le 9, 3) := by decide +kernel
theorem dX5_worked_209 : decode cX5_worked 209 = .ok (.aload_n 2, 1) := by decide +kernel
theorem dX5_worked_210 : decode cX5_worked 210 = .ok (.iconst 0, 1) := by decide +kernel
theorem dX5_worked_211 : decode cX5_worked 211 = .ok (.laload, 1) := by decide +kernel
theorem dX5_worked_212 : decode cX5_worked 212 = .ok (.goto 4, 3) := by decide +kernel
theorem dX5_worked_215 : decode cX5_worked 215 = .ok (.lconst 0, 1) := by decide +kernel
theorem dX5_worked_216 : decode cX5_worked 216 = .ok (.lreturn, 1) := by decide +kernel
def kX5_worked (live : am_E) (Ret : am_R) : am_code := [(0, am_const (.int 0) 1), (1, am_istore 3 7 2), (2, am_const (.int 0) 3), (3, am_istore 4 7 5), (5, am_iload 4 7), (7, am_aload 0 8), (8, am_getI live 5 2 11), (11, am_if2 (fun x y => y ≤ x) 200 14), (14, am_iload 4 16), (16, am_const (.int 50) 18), (18, am_if2 (fun x y => y ≤ x) 200 21), (21, am_aload 0 22), (22, am_getR live 5 1 25), (25, am_iload 4 27), (27, am_ald live 0 28), (28, am_istore 5 7 30), (30, am_iload 5 32), (32, am_if1 (fun x => x < 0) 39 35), (35, am_const (.int 0) 36), (36, am_goto 45), (39, am_iload 5 41), (41, am_i1 (fun x => -x) 42), (42, am_callS live 1 TX5_operands 45), (45, am_istore 6 7 47), (47, am_iload 3 48), (48, am_iload 6 50), (50, am_if2 (fun x y => x < y) 62 53), (53, am_iload 3 54), (54, am_iload 6 56), (56, am_i2 (fun x y => x - y) 57), (57, am_aload 2 58), (58, am_alen live 1 59), (59, am_if2 (fun x y => x < y) 64 62), (62, am_const (.long 0) 63), (63, am_retL Ret), (64, am_iload 3 65), (65, am_iload 6 67), (67, am_i2 (fun x y => x - y) 68), (68, am_istore 3 7 69), (69, am_iload 5 71), (71, am_if1 (fun x => x < 0) 83 74), (74, am_aload 2 75), (75, am_iload 3 76), (76, am_iload 5 78), (78, am_i2l 79), (79, am_last live 1 80), (80, am_goto 191), (83, am_iload 6 85), (85, am_if1 (fun x => x = 0) 88 101), (88, am_aload 2 89), (89, am_iload 3 90), (90, am_aload 1 91), (91, am_iload 5 93), (93, am_i1 (fun x => -x) 94), (94, am_callV live 1 1 TX1_valueOf 97), (97, am_last live 1 98), (98, am_goto 191), (101, am_iload 6 103), (103, am_const (.int 1) 104), (104, am_if2 (fun x y => x = y) 107 141), (107, am_aload 2 108), (108, am_iload 3 109), (109, am_iload 5 111), (111, am_const (.int (-33)) 113), (113, am_if2 (fun x y => x = y) 116 133), (116, am_aload 2 117), (117, am_iload 3 118), (118, am_lald live 1 119), (119, am_const (.long 0) 120), (120, am_lcmp 121), (121, am_if1 (fun x => x = 0) 124 128), (124, am_const (.int 1) 125), (125, am_goto 129), (128, am_const (.int 0) 129), (129, am_i2l 130), (130, am_goto 137), (133, am_aload 2 134), (134, am_iload 3 135), (135, am_lald live 1 136), (136, am_l1 (fun x => -x) 137), (137, am_last live 1 138), (138, am_goto 191), (141, am_iload 6 143), (143, am_const (.int 2) 144), (144, am_if2 (fun x y => x = y) 147 167), (147, am_aload 2 148), (148, am_iload 3 149), (149, am_iload 5 151), (151, am_i1 (fun x => -x) 152), (152, am_aload 2 153), (153, am_iload 3 154), (154, am_lald live 1 155), (155, am_aload 2 156), (156, am_iload 3 157), (157, am_const (.int 1) 158), (158, am_i2 (fun x y => x + y) 159), (159, am_lald live 1 160), (160, am_callS live 3 TX5_joined 163), (163, am_last live 1 164), (164, am_goto 191), (167, am_aload 2 168), (168, am_iload 3 169), (169, am_aload 2 170), (170, am_iload 3 171), (171, am_lald live 1 172), (172, am_const (.long 0) 173), (173, am_lcmp 174), (174, am_if1 (fun x => x = 0) 185 177), (177, am_aload 2 178), (178, am_iload 3 179), (179, am_const (.int 1) 180), (180, am_i2 (fun x y => x + y) 181), (181, am_lald live 1 182), (182, am_goto 190), (185, am_aload 2 186), (186, am_iload 3 187), (187, am_const (.int 2) 188), (188, am_i2 (fun x y => x + y) 189), (189, am_lald live 1 190), (190, am_last live 1 191), (191, am_iinc 3 7 1 194), (194, am_iinc 4 7 1 197), (197, am_goto 5), (200, am_iload 3 201), (201, am_if1 (fun x => x ≤ 0) 215 204), (204, am_aload 2 205), (205, am_alen live 1 206), (206, am_if1 (fun x => x ≤ 0) 215 209), (209, am_aload 2 210), (210, am_const (.int 0) 211), (211, am_lald live 1 212), (212, am_goto 216), (215, am_const (.long 0) 216), (216, am_retL Ret)]
theorem koX5_worked (live : am_E) (Ret : am_R) : ∀ q ∈ kX5_worked live Ret, am_ok RX5 cX5_worked 7 (some .long) 1 24 live Ret q.1 q.2 :=
  am_kc (ak_iconst dX5_worked_0 (by decide +kernel) rfl) <|
  am_kc (ak_istore_n dX5_worked_1 rfl rfl) <|
  am_kc (ak_iconst dX5_worked_2 (by decide +kernel) rfl) <|
  am_kc (ak_istore dX5_worked_3 rfl) <|
  am_kc (ak_iload dX5_worked_5 rfl) <|
  am_kc (ak_aload_n dX5_worked_7 rfl rfl) <|
  am_kc (ak_getI (C := RX5) (T := TX5) (N := 7) rfl inX5w (by decide) rfl rfl rfl wd_170 dX5_worked_8 rfl) <|
  am_kc (ak_icmp_ge dX5_worked_11 (by decide +kernel) rfl) <|
  am_kc (ak_iload dX5_worked_14 rfl) <|
  am_kc (ak_bipush dX5_worked_16 (by decide +kernel) rfl) <|
  am_kc (ak_icmp_ge dX5_worked_18 (by decide +kernel) rfl) <|
  am_kc (ak_aload_n dX5_worked_21 rfl rfl) <|
  am_kc (ak_getR (C := RX5) (T := TX5) (N := 7) rfl inX5w (by decide) rfl rfl rfl wd_169 dX5_worked_22 rfl) <|
  am_kc (ak_iload dX5_worked_25 rfl) <|
  am_kc (ak_iald (t := 0) (fun _ => rfl) rfl dX5_worked_27 rfl) <|
  am_kc (ak_istore dX5_worked_28 rfl) <|
  am_kc (ak_iload dX5_worked_30 rfl) <|
  am_kc (ak_if_lt dX5_worked_32 (by decide +kernel) rfl) <|
  am_kc (ak_iconst dX5_worked_35 (by decide +kernel) rfl) <|
  am_kc (ak_goto dX5_worked_36 (by decide +kernel)) <|
  am_kc (ak_iload dX5_worked_39 rfl) <|
  am_kc (ak_ineg dX5_worked_41 rfl) <|
  am_kc (ak_callS metX5_operands ⟨rfl, by decide +kernel, by decide +kernel, by decide +kernel⟩ (am_w4 wd_596 wd_597 wd_65 wd_598) (by decide) dX5_worked_42 rfl) <|
  am_kc (ak_istore dX5_worked_45 rfl) <|
  am_kc (ak_iload_n dX5_worked_47 rfl rfl) <|
  am_kc (ak_iload dX5_worked_48 rfl) <|
  am_kc (ak_icmp_lt dX5_worked_50 (by decide +kernel) rfl) <|
  am_kc (ak_iload_n dX5_worked_53 rfl rfl) <|
  am_kc (ak_iload dX5_worked_54 rfl) <|
  am_kc (ak_isub dX5_worked_56 rfl) <|
  am_kc (ak_aload_n dX5_worked_57 rfl rfl) <|
  am_kc (ak_alen (t := 1) (fun _ => rfl) dX5_worked_58 rfl) <|
  am_kc (ak_icmp_lt dX5_worked_59 (by decide +kernel) rfl) <|
  am_kc (ak_lconst dX5_worked_62 (by decide +kernel) rfl) <|
  am_kc (ak_retL dX5_worked_63) <|
  am_kc (ak_iload_n dX5_worked_64 rfl rfl) <|
  am_kc (ak_iload dX5_worked_65 rfl) <|
  am_kc (ak_isub dX5_worked_67 rfl) <|
  am_kc (ak_istore_n dX5_worked_68 rfl rfl) <|
  am_kc (ak_iload dX5_worked_69 rfl) <|
  am_kc (ak_if_lt dX5_worked_71 (by decide +kernel) rfl) <|
  am_kc (ak_aload_n dX5_worked_74 rfl rfl) <|
  am_kc (ak_iload_n dX5_worked_75 rfl rfl) <|
  am_kc (ak_iload dX5_worked_76 rfl) <|
  am_kc (ak_i2l dX5_worked_78 rfl) <|
  am_kc (ak_last (t := 1) (fun _ => rfl) rfl dX5_worked_79 rfl) <|
  am_kc (ak_goto dX5_worked_80 (by decide +kernel)) <|
  am_kc (ak_iload dX5_worked_83 rfl) <|
  am_kc (ak_if_ne dX5_worked_85 (by decide +kernel) rfl) <|
  am_kc (ak_aload_n dX5_worked_88 rfl rfl) <|
  am_kc (ak_iload_n dX5_worked_89 rfl rfl) <|
  am_kc (ak_aload_n dX5_worked_90 rfl rfl) <|
  am_kc (ak_iload dX5_worked_91 rfl) <|
  am_kc (ak_ineg dX5_worked_93 rfl) <|
  am_kc (ak_callV (C := RX1) (F := TX1) (N := 7) metX1_valueOf rfl ⟨rfl, by decide +kernel, by decide +kernel, by decide +kernel⟩ (am_w5 wd_599 wd_600 wd_601 wd_66 wd_602) (by decide) dX5_worked_94 rfl) <|
  am_kc (ak_last (t := 1) (fun _ => rfl) rfl dX5_worked_97 rfl) <|
  am_kc (ak_goto dX5_worked_98 (by decide +kernel)) <|
  am_kc (ak_iload dX5_worked_101 rfl) <|
  am_kc (ak_iconst dX5_worked_103 (by decide +kernel) rfl) <|
  am_kc (ak_icmp_ne dX5_worked_104 (by decide +kernel) rfl) <|
  am_kc (ak_aload_n dX5_worked_107 rfl rfl) <|
  am_kc (ak_iload_n dX5_worked_108 rfl rfl) <|
  am_kc (ak_iload dX5_worked_109 rfl) <|
  am_kc (ak_bipush dX5_worked_111 (by decide +kernel) rfl) <|
  am_kc (ak_icmp_ne dX5_worked_113 (by decide +kernel) rfl) <|
  am_kc (ak_aload_n dX5_worked_116 rfl rfl) <|
  am_kc (ak_iload_n dX5_worked_117 rfl rfl) <|
  am_kc (ak_lald (t := 1) (fun _ => rfl) rfl dX5_worked_118 rfl) <|
  am_kc (ak_lconst dX5_worked_119 (by decide +kernel) rfl) <|
  am_kc (ak_lcmp dX5_worked_120 rfl) <|
  am_kc (ak_if_ne dX5_worked_121 (by decide +kernel) rfl) <|
  am_kc (ak_iconst dX5_worked_124 (by decide +kernel) rfl) <|
  am_kc (ak_goto dX5_worked_125 (by decide +kernel)) <|
  am_kc (ak_iconst dX5_worked_128 (by decide +kernel) rfl) <|
  am_kc (ak_i2l dX5_worked_129 rfl) <|
  am_kc (ak_goto dX5_worked_130 (by decide +kernel)) <|
  am_kc (ak_aload_n dX5_worked_133 rfl rfl) <|
  am_kc (ak_iload_n dX5_worked_134 rfl rfl) <|
  am_kc (ak_lald (t := 1) (fun _ => rfl) rfl dX5_worked_135 rfl) <|
  am_kc (ak_lneg dX5_worked_136 rfl) <|
  am_kc (ak_last (t := 1) (fun _ => rfl) rfl dX5_worked_137 rfl) <|
  am_kc (ak_goto dX5_worked_138 (by decide +kernel)) <|
  am_kc (ak_iload dX5_worked_141 rfl) <|
  am_kc (ak_iconst dX5_worked_143 (by decide +kernel) rfl) <|
  am_kc (ak_icmp_ne dX5_worked_144 (by decide +kernel) rfl) <|
  am_kc (ak_aload_n dX5_worked_147 rfl rfl) <|
  am_kc (ak_iload_n dX5_worked_148 rfl rfl) <|
  am_kc (ak_iload dX5_worked_149 rfl) <|
  am_kc (ak_ineg dX5_worked_151 rfl) <|
  am_kc (ak_aload_n dX5_worked_152 rfl rfl) <|
  am_kc (ak_iload_n dX5_worked_153 rfl rfl) <|
  am_kc (ak_lald (t := 1) (fun _ => rfl) rfl dX5_worked_154 rfl) <|
  am_kc (ak_aload_n dX5_worked_155 rfl rfl) <|
  am_kc (ak_iload_n dX5_worked_156 rfl rfl) <|
  am_kc (ak_iconst dX5_worked_157 (by decide +kernel) rfl) <|
  am_kc (ak_iadd dX5_worked_158 rfl) <|
  am_kc (ak_lald (t := 1) (fun _ => rfl) rfl dX5_worked_159 rfl) <|
  am_kc (ak_callS metX5_joined ⟨rfl, by decide +kernel, by decide +kernel, by decide +kernel⟩ (am_w4 wd_603 wd_604 wd_65 wd_605) (by decide) dX5_worked_160 rfl) <|
  am_kc (ak_last (t := 1) (fun _ => rfl) rfl dX5_worked_163 rfl) <|
  am_kc (ak_goto dX5_worked_164 (by decide +kernel)) <|
  am_kc (ak_aload_n dX5_worked_167 rfl rfl) <|
  am_kc (ak_iload_n dX5_worked_168 rfl rfl) <|
  am_kc (ak_aload_n dX5_worked_169 rfl rfl) <|
  am_kc (ak_iload_n dX5_worked_170 rfl rfl) <|
  am_kc (ak_lald (t := 1) (fun _ => rfl) rfl dX5_worked_171 rfl) <|
  am_kc (ak_lconst dX5_worked_172 (by decide +kernel) rfl) <|
  am_kc (ak_lcmp dX5_worked_173 rfl) <|
  am_kc (ak_if_eq dX5_worked_174 (by decide +kernel) rfl) <|
  am_kc (ak_aload_n dX5_worked_177 rfl rfl) <|
  am_kc (ak_iload_n dX5_worked_178 rfl rfl) <|
  am_kc (ak_iconst dX5_worked_179 (by decide +kernel) rfl) <|
  am_kc (ak_iadd dX5_worked_180 rfl) <|
  am_kc (ak_lald (t := 1) (fun _ => rfl) rfl dX5_worked_181 rfl) <|
  am_kc (ak_goto dX5_worked_182 (by decide +kernel)) <|
  am_kc (ak_aload_n dX5_worked_185 rfl rfl) <|
  am_kc (ak_iload_n dX5_worked_186 rfl rfl) <|
  am_kc (ak_iconst dX5_worked_187 (by decide +kernel) rfl) <|
  am_kc (ak_iadd dX5_worked_188 rfl) <|
  am_kc (ak_lald (t := 1) (fun _ => rfl) rfl dX5_worked_189 rfl) <|
  am_kc (ak_last (t := 1) (fun _ => rfl) rfl dX5_worked_190 rfl) <|
  am_kc (ak_iinc dX5_worked_191 (by decide +kernel) rfl) <|
  am_kc (ak_iinc dX5_worked_194 (by decide +kernel) rfl) <|
  am_kc (ak_goto dX5_worked_197 (by decide +kernel)) <|
  am_kc (ak_iload_n dX5_worked_200 rfl rfl) <|
  am_kc (ak_if_le dX5_worked_201 (by decide +kernel) rfl) <|
  am_kc (ak_aload_n dX5_worked_204 rfl rfl) <|
  am_kc (ak_alen (t := 1) (fun _ => rfl) dX5_worked_205 rfl) <|
  am_kc (ak_if_le dX5_worked_206 (by decide +kernel) rfl) <|
  am_kc (ak_aload_n dX5_worked_209 rfl rfl) <|
  am_kc (ak_iconst dX5_worked_210 (by decide +kernel) rfl) <|
  am_kc (ak_lald (t := 1) (fun _ => rfl) rfl dX5_worked_211 rfl) <|
  am_kc (ak_goto dX5_worked_212 (by decide +kernel)) <|
  am_kc (ak_lconst dX5_worked_215 (by decide +kernel) rfl) <|
  am_kc (ak_retL dX5_worked_216) <| am_kn
def am_st (M M' : am_M) : Prop := ∃ _ : Unit, M'.1 = M.1 ∧ ∀ a b, a ≠ 10 → M'.2 a b = M.2 a b
theorem am_st.rf {M : am_M} : am_st M M := ⟨(), rfl, fun _ _ _ => rfl⟩
theorem am_st.w {M M' : am_M} {k : Nat} {v : Int64} (h : am_st M M') : am_st M (am_wJ M' 10 k v) := by
  obtain ⟨-, h1, h2⟩ := h
  refine ⟨(), h1, fun a b q => ?_⟩
  rw [am_wJ_1, if_neg (fun z => q z.1)]
  exact h2 a b q
def TX5_worked : am_T := fun live as M R => match as with
  | [.ref t, .ref l, .ref k] => am_mn live ∧ l = 9 ∧ k = 10 ∧ am_tP live t (fun s c => am_t0 M t ∧ ∀ v M', am_st M M' → R (some (.long v)) M')
  | _ => False
def JX5_worked : am_E → List Value → am_M → am_R → am_inv := fun live as M0 _ pc => match as with
  | [.ref t, .ref l, .ref k] => (match pc with
    | 5 => some ([0, 1, 2, 3, 4], fun w L st M => ∃ p i : Int32, L = [(0, .ref t), (1, .ref 9), (2, .ref 10), (3, .int p), (4, .int i)] ∧ st = [] ∧ w = ((51 - i.toInt).toNat, 0) ∧ 0 ≤ i.toInt ∧ 0 ≤ p.toInt ∧ p.toInt ≤ 50 ∧ am_st M0 M)
    | _ => none)
  | _ => none
theorem am_ops_in (x : Int32) : 0 ≤ (am_ops x).toInt ∧ (am_ops x).toInt ≤ 3 := by
  unfold am_ops
  split
  · decide
  · split
    · decide
    · split <;> decide
set_option maxRecDepth 100000 in
set_option maxHeartbeats 4000000 in
theorem metX5_worked : am_Met yX5_worked cX5_worked 7 (some .long) (1) (24) TX5_worked := by
  refine am_met (own := RX5) (by decide +kernel) rfl kX5_worked koX5_worked 200 JX5_worked ?_ ?_
  · intro live as M Ret h
    unfold TX5_worked at h
    split at h
    · next t l k =>
      refine ⟨Nat.le_of_ble_eq_true rfl, ?_⟩
      change am_wp _ _ _ _ [(0, Value.ref t), (1, Value.ref l), (2, Value.ref k)] _ _
      obtain ⟨⟨i1, i2, rfl⟩, rfl, rfl, h⟩ := h
      have hh := am_tP_mp h
      clear h
      obtain ⟨s, c, h2, h6, hb, h1, h3, h7, h4, h8, h9, h5, h10, hT, h⟩ := hh
      repeat' (first | (with_reducible exact h1) | (with_reducible exact h2) | (with_reducible exact h3) | (with_reducible exact hb) | (with_reducible exact h6) | (with_reducible exact h7) | (refine Exists.intro _ (Exists.intro _ (And.intro h2 (And.intro h6 ?_)))) | (refine Exists.intro _ (And.intro h2 ?_)) | (refine Exists.intro _ (And.intro h6 ?_)) | apply And.intro | exact rfl | intro hx | (refine Exists.intro _ (And.intro rfl ?_)) | ((with_reducible change _ = true); simp only [h1, h2, h3, hb, h6, h7, Bool.true_and]; rfl))
      all_goals try first | (with_reducible change am_tI _ _) | (change Ret _ _) | (change Ret _ _ _) | (change Exists _)
      all_goals try dsimp only at *
      all_goals try exact absurd ‹(1000 : Int64) = 0› (by decide)
      exact ⟨_, _, _, rfl, rfl, rfl, by decide, by decide, by decide, am_st.rf⟩
    · exact h.elim
  · intro live as M0 Ret h k pc I hI L st M hi
    unfold TX5_worked at h
    split at h
    · next t l k =>
      obtain ⟨⟨i1, i2, rfl⟩, rfl, rfl, h⟩ := h
      have hh := am_tP_mp h
      clear h
      obtain ⟨s, c, h2, h6, hb, h1, h3, h7, h4, h8, h9, h5, h10, hT, h⟩ := hh
      change (match pc with | 5 => _ | _ => none) = _ at hI
      split at hI
      · cases hI
        obtain ⟨p, i, rfl, rfl, rfl, e0, e1, e2, e3⟩ := hi
        have hmn : am_mn (am_lv i1 i2, am_q i1 i2) := ⟨i1, i2, rfl⟩
        have l10 : am_len 10 = 50 := rfl
        have hn : (Int32.ofNat (am_len 10)).toInt = 50 := by decide +kernel
        repeat' (first | (with_reducible exact hmn) | (with_reducible exact h1) | (with_reducible exact h2) | (with_reducible exact h3) | (with_reducible exact hb) | (with_reducible exact h6) | (with_reducible exact h7) | (refine Exists.intro _ (Exists.intro _ (And.intro h2 (And.intro h6 ?_)))) | (refine Exists.intro _ (And.intro h2 ?_)) | (refine Exists.intro _ (And.intro h6 ?_)) | apply And.intro | exact rfl | intro hx | (refine Exists.intro _ (And.intro rfl ?_)) | ((with_reducible change _ = true); simp only [h1, h2, h3, hb, h6, h7, Bool.true_and]; rfl))
        all_goals try first | (with_reducible change am_tI _ _) | (change Ret _ _) | (change Ret _ _ _) | (change Exists _)
        all_goals try dsimp only at *
        all_goals try exact absurd ‹(1000 : Int64) = 0› (by decide)
        all_goals try (refine ⟨_, Or.inl ?_, _, i + 1, rfl, rfl, rfl, ?_, ?_, ?_, ?_⟩)
        all_goals first
          | exact h _ _ e3
          | exact e3.w
          | exact e3
          | skip
        all_goals
          have hw := am_ops_in (-M.1 c i.toNatClampNeg)
          generalize am_ops (-M.1 c i.toNatClampNeg) = w at *
          have hs := i_sub (x := p) (y := w) (by omega) (by omega)
          have h1' := i_add (x := p - w) (y := 1) (by simp only [Int32.reduceToInt]; omega) (by simp only [Int32.reduceToInt]; omega)
          have h2' := i_add (x := p - w) (y := 2) (by simp only [Int32.reduceToInt]; omega) (by simp only [Int32.reduceToInt]; omega)
          have h3' := i_add (x := p) (y := 1) (by simp only [Int32.reduceToInt]; omega) (by simp only [Int32.reduceToInt]; omega)
          simp only [i_lt, i_le, i_eq, Int32.reduceToInt, Int32.sub_zero, Int32.toInt_zero, l10, h8, hn] at *
          first
            | omega
            | (have hi := i_add (x := i) (y := 1) (by simp only [Int32.reduceToInt]; omega) (by simp only [Int32.reduceToInt]; omega)
               simp only [Int32.reduceToInt] at hi
               omega)
      · cases hI
    · exact h.elim
