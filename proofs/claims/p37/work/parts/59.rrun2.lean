/-! general: the reference's runs, II -/
theorem hy_X8_rateOf : yX8_rateOf.cls ≠ "java/lang/invoke/MethodHandle" ∧ yX8_rateOf.cls ≠ "java/lang/invoke/VarHandle" ∧ (parseMethodDescriptor yX8_rateOf.desc).map (fun d => d.parameters.length) = some 4 := ⟨by decide +kernel, by decide +kernel, by decide +kernel⟩
set_option maxRecDepth 100000 in
theorem wd_1174 : Cond.methodLink "LearnLoansModel" 205 yX8_rateOf ∈ am_ws := am_wt5 (List.mem_of_getElem? (i := 157) (by rfl)) (by decide +kernel)
set_option maxRecDepth 100000 in
theorem wd_1176 : Cond.instanceMethod yX8_rateOf ∈ am_ws := am_wt5 (List.mem_of_getElem? (i := 159) (by rfl)) (by decide +kernel)
set_option maxRecDepth 100000 in
theorem wd_46 : Cond.selects "LearnLoansModel" yX8_rateOf yX8_rateOf ∈ am_ws := am_wsi (List.mem_of_getElem? (i := 46) (by rfl)) (by decide +kernel)
set_option maxRecDepth 100000 in
theorem wd_1177 : Cond.code yX8_rateOf cX8_rateOf 8 (some .int) ∈ am_ws := am_wt5 (List.mem_of_getElem? (i := 160) (by rfl)) (by decide +kernel)
set_option maxRecDepth 100000 in
theorem wd_1178 : Cond.constantLong "LearnLoansModel" 208 1000000000000 ∈ am_ws := am_wt5 (List.mem_of_getElem? (i := 161) (by rfl)) (by decide +kernel)
def rwX8_begin : List dz_r := [(0, .aload_n 0, 1), (1, .iload_n 1, 1), (2, .iconst 0, 1), (3, .invokevirtual 202, 3), (6, .istore 6, 2), (8, .aload_n 0, 1), (9, .getfield 42, 3), (12, .iload_n 1, 1), (13, .lconst 0, 1), (14, .lastore, 1), (15, .aload_n 0, 1), (16, .getfield 45, 3), (19, .iload_n 1, 1), (20, .lconst 0, 1), (21, .lastore, 1), (22, .aload_n 0, 1), (23, .getfield 33, 3), (26, .iload_n 1, 1), (27, .lconst 0, 1), (28, .lastore, 1), (29, .iload 5, 2), (31, .ifCond .ne 28, 3), (34, .iload_n 2, 1), (35, .aload_n 0, 1), (36, .iload_n 1, 1), (37, .iconst 2, 1), (38, .invokevirtual 202, 3), (41, .isub, 1), (42, .aload_n 0, 1), (43, .aload_n 0, 1), (44, .iload_n 1, 1), (45, .iload_n 2, 1), (46, .invokevirtual 141, 3), (49, .iconst 3, 1), (50, .iload 6, 2), (52, .iload_n 2, 1), (53, .invokevirtual 127, 3), (56, .if_icmp .lt 7, 3), (59, .iconst 1, 1), (60, .goto 4, 3), (63, .iconst 0, 1), (64, .istore 7, 2), (66, .aload_n 0, 1), (67, .getfield 48, 3), (70, .iload_n 1, 1), (71, .baload, 1), (72, .ifCond .ne 34, 3), (75, .iload 7, 2), (77, .ifCond .eq 29, 3), (80, .aload_n 0, 1), (81, .getfield 48, 3), (84, .iload_n 1, 1), (85, .iconst 1, 1), (86, .bastore, 1), (87, .aload_n 0, 1), (88, .getfield 42, 3), (91, .iload_n 1, 1), (92, .aload_n 0, 1), (93, .getfield 30, 3), (96, .iload_n 1, 1), (97, .laload, 1), (98, .lastore, 1), (99, .aload_n 0, 1), (100, .getfield 30, 3), (103, .iload_n 1, 1), (104, .lconst 0, 1), (105, .lastore, 1), (106, .aload_n 0, 1), (107, .getfield 48, 3), (110, .iload_n 1, 1), (111, .baload, 1), (112, .ifCond .ne 156, 3), (115, .aload_n 0, 1), (116, .getfield 30, 3), (119, .iload_n 1, 1), (120, .laload, 1), (121, .aload_n 0, 1), (122, .getfield 30, 3), (125, .iload_n 1, 1), (126, .laload, 1), (127, .aload_n 0, 1), (128, .iload_n 1, 1), (129, .iload_n 2, 1), (130, .iload_n 3, 1), (131, .iload 4, 2), (133, .invokevirtual 205, 3), (136, .i2l, 1), (137, .lmul, 1), (138, .ldc2_w 94, 3), (141, .ldiv, 1), (142, .ladd, 1), (143, .lstore 8, 2), (145, .lload 8, 2), (147, .ldc2_w 208, 3), (150, .lcmp, 1), (151, .ifCond .le 9, 3), (154, .ldc2_w 208, 3), (157, .goto 5, 3), (160, .lload 8, 2), (162, .lstore 8, 2), (164, .aload_n 0, 1), (165, .getfield 45, 3), (168, .iload_n 1, 1), (169, .lload 8, 2), (171, .aload_n 0, 1), (172, .getfield 30, 3), (175, .iload_n 1, 1), (176, .laload, 1), (177, .lsub, 1), (178, .lastore, 1), (179, .aload_n 0, 1), (180, .getfield 30, 3), (183, .iload_n 1, 1), (184, .lload 8, 2), (186, .lastore, 1), (187, .aload_n 0, 1), (188, .getfield 30, 3), (191, .iload_n 1, 1), (192, .dup2, 1), (193, .laload, 1), (194, .aload_n 0, 1), (195, .iload_n 1, 1), (196, .iconst 2, 1), (197, .invokevirtual 202, 3), (200, .iload_n 2, 1), (201, .if_icmp .ne 13, 3), (204, .aload_n 0, 1), (205, .iload_n 1, 1), (206, .iconst 3, 1), (207, .invokevirtual 202, 3), (210, .i2l, 1), (211, .goto 4, 3), (214, .lconst 0, 1), (215, .ladd, 1), (216, .lastore, 1), (217, .aload_n 0, 1), (218, .iload_n 1, 1), (219, .iconst 5, 1), (220, .invokevirtual 202, 3), (223, .iload_n 2, 1), (224, .if_icmp .ne 44, 3), (227, .aload_n 0, 1), (228, .iload_n 1, 1), (229, .iload_n 2, 1), (230, .invokevirtual 134, 3), (233, .i2l, 1), (234, .lstore 10, 2), (236, .aload_n 0, 1), (237, .getfield 30, 3), (240, .iload_n 1, 1), (241, .dup2, 1), (242, .laload, 1), (243, .lload 10, 2), (245, .aload_n 0, 1), (246, .getfield 30, 3), (249, .iload_n 1, 1), (250, .laload, 1), (251, .lcmp, 1), (252, .ifCond .ge 8, 3), (255, .lload 10, 2), (257, .goto 9, 3), (260, .aload_n 0, 1), (261, .getfield 30, 3), (264, .iload_n 1, 1), (265, .laload, 1), (266, .lsub, 1), (267, .lastore, 1), (268, .return_, 1)]
theorem dzX8_begin : dz cX8_begin rwX8_begin := dz_all 0 (by decide +kernel)
def kX8_begin (live : am_E) (Ret : am_R) : am_code := [(0, am_aload 0 1), (1, am_iload 1 2), (2, am_const (.int 0) 3), (3, am_callV live 8 2 TX8_ofLoan 6), (6, am_istore 6 12 8), (8, am_aload 0 9), (9, am_getR live 8 19 12), (12, am_iload 1 13), (13, am_const (.long 0) 14), (14, am_last live 1 15), (15, am_aload 0 16), (16, am_getR live 8 20 19), (19, am_iload 1 20), (20, am_const (.long 0) 21), (21, am_last live 1 22), (22, am_aload 0 23), (23, am_getR live 8 16 26), (26, am_iload 1 27), (27, am_const (.long 0) 28), (28, am_last live 1 29), (29, am_iload 5 31), (31, am_if1 (fun x => x = 0) 34 59), (34, am_iload 2 35), (35, am_aload 0 36), (36, am_iload 1 37), (37, am_const (.int 2) 38), (38, am_callV live 8 2 TX8_ofLoan 41), (41, am_i2 (fun x y => x - y) 42), (42, am_aload 0 43), (43, am_aload 0 44), (44, am_iload 1 45), (45, am_iload 2 46), (46, am_callV live 8 2 TX8_planAt 49), (49, am_const (.int 3) 50), (50, am_iload 6 52), (52, am_iload 2 53), (53, am_callV live 8 4 TX8_inForce 56), (56, am_if2 (fun x y => x < y) 63 59), (59, am_const (.int 1) 60), (60, am_goto 64), (63, am_const (.int 0) 64), (64, am_istore 7 12 66), (66, am_aload 0 67), (67, am_getR live 8 21 70), (70, am_iload 1 71), (71, am_ald live 2 72), (72, am_if1 (fun x => x = 0) 75 106), (75, am_iload 7 77), (77, am_if1 (fun x => x = 0) 106 80), (80, am_aload 0 81), (81, am_getR live 8 21 84), (84, am_iload 1 85), (85, am_const (.int 1) 86), (86, am_zst live 2 87), (87, am_aload 0 88), (88, am_getR live 8 19 91), (91, am_iload 1 92), (92, am_aload 0 93), (93, am_getR live 8 15 96), (96, am_iload 1 97), (97, am_lald live 1 98), (98, am_last live 1 99), (99, am_aload 0 100), (100, am_getR live 8 15 103), (103, am_iload 1 104), (104, am_const (.long 0) 105), (105, am_last live 1 106), (106, am_aload 0 107), (107, am_getR live 8 21 110), (110, am_iload 1 111), (111, am_ald live 2 112), (112, am_if1 (fun x => x = 0) 115 268), (115, am_aload 0 116), (116, am_getR live 8 15 119), (119, am_iload 1 120), (120, am_lald live 1 121), (121, am_aload 0 122), (122, am_getR live 8 15 125), (125, am_iload 1 126), (126, am_lald live 1 127), (127, am_aload 0 128), (128, am_iload 1 129), (129, am_iload 2 130), (130, am_iload 3 131), (131, am_iload 4 133), (133, am_callV live 8 4 TX8_rateOf 136), (136, am_i2l 137), (137, am_l2 (fun x y => x * y) 138), (138, am_const (.long 1000) 141), (141, am_l2z (fun x y => x / y) 142), (142, am_l2 (fun x y => x + y) 143), (143, am_lstore 8 12 145), (145, am_lload 8 147), (147, am_const (.long 1000000000000) 150), (150, am_lcmp 151), (151, am_if1 (fun x => x ≤ 0) 160 154), (154, am_const (.long 1000000000000) 157), (157, am_goto 162), (160, am_lload 8 162), (162, am_lstore 8 12 164), (164, am_aload 0 165), (165, am_getR live 8 20 168), (168, am_iload 1 169), (169, am_lload 8 171), (171, am_aload 0 172), (172, am_getR live 8 15 175), (175, am_iload 1 176), (176, am_lald live 1 177), (177, am_l2 (fun x y => x - y) 178), (178, am_last live 1 179), (179, am_aload 0 180), (180, am_getR live 8 15 183), (183, am_iload 1 184), (184, am_lload 8 186), (186, am_last live 1 187), (187, am_aload 0 188), (188, am_getR live 8 15 191), (191, am_iload 1 192), (192, am_dup2 193), (193, am_lald live 1 194), (194, am_aload 0 195), (195, am_iload 1 196), (196, am_const (.int 2) 197), (197, am_callV live 8 2 TX8_ofLoan 200), (200, am_iload 2 201), (201, am_if2 (fun x y => x = y) 204 214), (204, am_aload 0 205), (205, am_iload 1 206), (206, am_const (.int 3) 207), (207, am_callV live 8 2 TX8_ofLoan 210), (210, am_i2l 211), (211, am_goto 215), (214, am_const (.long 0) 215), (215, am_l2 (fun x y => x + y) 216), (216, am_last live 1 217), (217, am_aload 0 218), (218, am_iload 1 219), (219, am_const (.int 5) 220), (220, am_callV live 8 2 TX8_ofLoan 223), (223, am_iload 2 224), (224, am_if2 (fun x y => x = y) 227 268), (227, am_aload 0 228), (228, am_iload 1 229), (229, am_iload 2 230), (230, am_callV live 8 2 TX8_given 233), (233, am_i2l 234), (234, am_lstore 10 12 236), (236, am_aload 0 237), (237, am_getR live 8 15 240), (240, am_iload 1 241), (241, am_dup2 242), (242, am_lald live 1 243), (243, am_lload 10 245), (245, am_aload 0 246), (246, am_getR live 8 15 249), (249, am_iload 1 250), (250, am_lald live 1 251), (251, am_lcmp 252), (252, am_if1 (fun x => 0 ≤ x) 260 255), (255, am_lload 10 257), (257, am_goto 266), (260, am_aload 0 261), (261, am_getR live 8 15 264), (264, am_iload 1 265), (265, am_lald live 1 266), (266, am_l2 (fun x y => x - y) 267), (267, am_last live 1 268), (268, am_retV Ret)]
theorem koX8_begin (live : am_E) (Ret : am_R) : ∀ q ∈ kX8_begin live Ret, am_ok RX8 cX8_begin 12 none 7 162 live Ret q.1 q.2 :=
  am_kz dzX8_begin <|
  am_kd (fun d => ak_aload_n d rfl rfl) <|
  am_kd (fun d => ak_iload_n d rfl rfl) <|
  am_kd (fun d => ak_iconst d (by decide +kernel) rfl) <|
  am_kd (fun d => ak_callV (C := RX8) (F := TX8) (N := 27) metX8_ofLoan rfl ⟨rfl, hy_X8_ofLoan⟩ (am_w5 wd_1154 wd_1156 wd_41 wd_67 wd_1157) (by decide) d rfl) <|
  am_kd (fun d => ak_istore d rfl) <|
  am_kd (fun d => ak_aload_n d rfl rfl) <|
  am_kd (fun d => ak_getR (C := RX8) (T := TX8) (N := 27) rfl inX8w (by decide) rfl rfl rfl wd_914 d rfl) <|
  am_kd (fun d => ak_iload_n d rfl rfl) <|
  am_kd (fun d => ak_lconst d (by decide +kernel) rfl) <|
  am_kd (fun d => ak_last (t := 1) (fun _ => rfl) rfl d rfl) <|
  am_kd (fun d => ak_aload_n d rfl rfl) <|
  am_kd (fun d => ak_getR (C := RX8) (T := TX8) (N := 27) rfl inX8w (by decide) rfl rfl rfl wd_915 d rfl) <|
  am_kd (fun d => ak_iload_n d rfl rfl) <|
  am_kd (fun d => ak_lconst d (by decide +kernel) rfl) <|
  am_kd (fun d => ak_last (t := 1) (fun _ => rfl) rfl d rfl) <|
  am_kd (fun d => ak_aload_n d rfl rfl) <|
  am_kd (fun d => ak_getR (C := RX8) (T := TX8) (N := 27) rfl inX8w (by decide) rfl rfl rfl wd_911 d rfl) <|
  am_kd (fun d => ak_iload_n d rfl rfl) <|
  am_kd (fun d => ak_lconst d (by decide +kernel) rfl) <|
  am_kd (fun d => ak_last (t := 1) (fun _ => rfl) rfl d rfl) <|
  am_kd (fun d => ak_iload d rfl) <|
  am_kd (fun d => ak_if_ne d (by decide +kernel) rfl) <|
  am_kd (fun d => ak_iload_n d rfl rfl) <|
  am_kd (fun d => ak_aload_n d rfl rfl) <|
  am_kd (fun d => ak_iload_n d rfl rfl) <|
  am_kd (fun d => ak_iconst d (by decide +kernel) rfl) <|
  am_kd (fun d => ak_callV (C := RX8) (F := TX8) (N := 27) metX8_ofLoan rfl ⟨rfl, hy_X8_ofLoan⟩ (am_w5 wd_1154 wd_1156 wd_41 wd_67 wd_1157) (by decide) d rfl) <|
  am_kd (fun d => ak_isub d rfl) <|
  am_kd (fun d => ak_aload_n d rfl rfl) <|
  am_kd (fun d => ak_aload_n d rfl rfl) <|
  am_kd (fun d => ak_iload_n d rfl rfl) <|
  am_kd (fun d => ak_iload_n d rfl rfl) <|
  am_kd (fun d => ak_callV (C := RX8) (F := TX8) (N := 27) metX8_planAt rfl ⟨rfl, hy_X8_planAt⟩ (am_w5 wd_1085 wd_1087 wd_32 wd_67 wd_1088) (by decide) d rfl) <|
  am_kd (fun d => ak_iconst d (by decide +kernel) rfl) <|
  am_kd (fun d => ak_iload d rfl) <|
  am_kd (fun d => ak_iload_n d rfl rfl) <|
  am_kd (fun d => ak_callV (C := RX8) (F := TX8) (N := 27) metX8_inForce rfl ⟨rfl, hy_X8_inForce⟩ (am_w5 wd_1053 wd_1055 wd_29 wd_67 wd_1056) (by decide) d rfl) <|
  am_kd (fun d => ak_icmp_lt d (by decide +kernel) rfl) <|
  am_kd (fun d => ak_iconst d (by decide +kernel) rfl) <|
  am_kd (fun d => ak_goto d (by decide +kernel)) <|
  am_kd (fun d => ak_iconst d (by decide +kernel) rfl) <|
  am_kd (fun d => ak_istore d rfl) <|
  am_kd (fun d => ak_aload_n d rfl rfl) <|
  am_kd (fun d => ak_getR (C := RX8) (T := TX8) (N := 27) rfl inX8w (by decide) rfl rfl rfl wd_916 d rfl) <|
  am_kd (fun d => ak_iload_n d rfl rfl) <|
  am_kd (fun d => ak_zald (t := 2) (fun _ => rfl) rfl d rfl) <|
  am_kd (fun d => ak_if_ne d (by decide +kernel) rfl) <|
  am_kd (fun d => ak_iload d rfl) <|
  am_kd (fun d => ak_if_eq d (by decide +kernel) rfl) <|
  am_kd (fun d => ak_aload_n d rfl rfl) <|
  am_kd (fun d => ak_getR (C := RX8) (T := TX8) (N := 27) rfl inX8w (by decide) rfl rfl rfl wd_916 d rfl) <|
  am_kd (fun d => ak_iload_n d rfl rfl) <|
  am_kd (fun d => ak_iconst d (by decide +kernel) rfl) <|
  am_kd (fun d => ak_zast (t := 2) (fun _ => rfl) rfl d rfl) <|
  am_kd (fun d => ak_aload_n d rfl rfl) <|
  am_kd (fun d => ak_getR (C := RX8) (T := TX8) (N := 27) rfl inX8w (by decide) rfl rfl rfl wd_914 d rfl) <|
  am_kd (fun d => ak_iload_n d rfl rfl) <|
  am_kd (fun d => ak_aload_n d rfl rfl) <|
  am_kd (fun d => ak_getR (C := RX8) (T := TX8) (N := 27) rfl inX8w (by decide) rfl rfl rfl wd_910 d rfl) <|
  am_kd (fun d => ak_iload_n d rfl rfl) <|
  am_kd (fun d => ak_lald (t := 1) (fun _ => rfl) rfl d rfl) <|
  am_kd (fun d => ak_last (t := 1) (fun _ => rfl) rfl d rfl) <|
  am_kd (fun d => ak_aload_n d rfl rfl) <|
  am_kd (fun d => ak_getR (C := RX8) (T := TX8) (N := 27) rfl inX8w (by decide) rfl rfl rfl wd_910 d rfl) <|
  am_kd (fun d => ak_iload_n d rfl rfl) <|
  am_kd (fun d => ak_lconst d (by decide +kernel) rfl) <|
  am_kd (fun d => ak_last (t := 1) (fun _ => rfl) rfl d rfl) <|
  am_kd (fun d => ak_aload_n d rfl rfl) <|
  am_kd (fun d => ak_getR (C := RX8) (T := TX8) (N := 27) rfl inX8w (by decide) rfl rfl rfl wd_916 d rfl) <|
  am_kd (fun d => ak_iload_n d rfl rfl) <|
  am_kd (fun d => ak_zald (t := 2) (fun _ => rfl) rfl d rfl) <|
  am_kd (fun d => ak_if_ne d (by decide +kernel) rfl) <|
  am_kd (fun d => ak_aload_n d rfl rfl) <|
  am_kd (fun d => ak_getR (C := RX8) (T := TX8) (N := 27) rfl inX8w (by decide) rfl rfl rfl wd_910 d rfl) <|
  am_kd (fun d => ak_iload_n d rfl rfl) <|
  am_kd (fun d => ak_lald (t := 1) (fun _ => rfl) rfl d rfl) <|
  am_kd (fun d => ak_aload_n d rfl rfl) <|
  am_kd (fun d => ak_getR (C := RX8) (T := TX8) (N := 27) rfl inX8w (by decide) rfl rfl rfl wd_910 d rfl) <|
  am_kd (fun d => ak_iload_n d rfl rfl) <|
  am_kd (fun d => ak_lald (t := 1) (fun _ => rfl) rfl d rfl) <|
  am_kd (fun d => ak_aload_n d rfl rfl) <|
  am_kd (fun d => ak_iload_n d rfl rfl) <|
  am_kd (fun d => ak_iload_n d rfl rfl) <|
  am_kd (fun d => ak_iload_n d rfl rfl) <|
  am_kd (fun d => ak_iload d rfl) <|
  am_kd (fun d => ak_callV (C := RX8) (F := TX8) (N := 27) metX8_rateOf rfl ⟨rfl, hy_X8_rateOf⟩ (am_w5 wd_1174 wd_1176 wd_46 wd_67 wd_1177) (by decide) d rfl) <|
  am_kd (fun d => ak_i2l d rfl) <|
  am_kd (fun d => ak_lmul d rfl) <|
  am_kd (fun d => ak_ldc2 wd_1045 d rfl) <|
  am_kd (fun d => ak_ldiv d rfl) <|
  am_kd (fun d => ak_ladd d rfl) <|
  am_kd (fun d => ak_lstore d rfl) <|
  am_kd (fun d => ak_lload d rfl) <|
  am_kd (fun d => ak_ldc2 wd_1178 d rfl) <|
  am_kd (fun d => ak_lcmp d rfl) <|
  am_kd (fun d => ak_if_le d (by decide +kernel) rfl) <|
  am_kd (fun d => ak_ldc2 wd_1178 d rfl) <|
  am_kd (fun d => ak_goto d (by decide +kernel)) <|
  am_kd (fun d => ak_lload d rfl) <|
  am_kd (fun d => ak_lstore d rfl) <|
  am_kd (fun d => ak_aload_n d rfl rfl) <|
  am_kd (fun d => ak_getR (C := RX8) (T := TX8) (N := 27) rfl inX8w (by decide) rfl rfl rfl wd_915 d rfl) <|
  am_kd (fun d => ak_iload_n d rfl rfl) <|
  am_kd (fun d => ak_lload d rfl) <|
  am_kd (fun d => ak_aload_n d rfl rfl) <|
  am_kd (fun d => ak_getR (C := RX8) (T := TX8) (N := 27) rfl inX8w (by decide) rfl rfl rfl wd_910 d rfl) <|
  am_kd (fun d => ak_iload_n d rfl rfl) <|
  am_kd (fun d => ak_lald (t := 1) (fun _ => rfl) rfl d rfl) <|
  am_kd (fun d => ak_lsub d rfl) <|
  am_kd (fun d => ak_last (t := 1) (fun _ => rfl) rfl d rfl) <|
  am_kd (fun d => ak_aload_n d rfl rfl) <|
  am_kd (fun d => ak_getR (C := RX8) (T := TX8) (N := 27) rfl inX8w (by decide) rfl rfl rfl wd_910 d rfl) <|
  am_kd (fun d => ak_iload_n d rfl rfl) <|
  am_kd (fun d => ak_lload d rfl) <|
  am_kd (fun d => ak_last (t := 1) (fun _ => rfl) rfl d rfl) <|
  am_kd (fun d => ak_aload_n d rfl rfl) <|
  am_kd (fun d => ak_getR (C := RX8) (T := TX8) (N := 27) rfl inX8w (by decide) rfl rfl rfl wd_910 d rfl) <|
  am_kd (fun d => ak_iload_n d rfl rfl) <|
  am_kd (fun d => ak_dup2 d rfl) <|
  am_kd (fun d => ak_lald (t := 1) (fun _ => rfl) rfl d rfl) <|
  am_kd (fun d => ak_aload_n d rfl rfl) <|
  am_kd (fun d => ak_iload_n d rfl rfl) <|
  am_kd (fun d => ak_iconst d (by decide +kernel) rfl) <|
  am_kd (fun d => ak_callV (C := RX8) (F := TX8) (N := 27) metX8_ofLoan rfl ⟨rfl, hy_X8_ofLoan⟩ (am_w5 wd_1154 wd_1156 wd_41 wd_67 wd_1157) (by decide) d rfl) <|
  am_kd (fun d => ak_iload_n d rfl rfl) <|
  am_kd (fun d => ak_icmp_ne d (by decide +kernel) rfl) <|
  am_kd (fun d => ak_aload_n d rfl rfl) <|
  am_kd (fun d => ak_iload_n d rfl rfl) <|
  am_kd (fun d => ak_iconst d (by decide +kernel) rfl) <|
  am_kd (fun d => ak_callV (C := RX8) (F := TX8) (N := 27) metX8_ofLoan rfl ⟨rfl, hy_X8_ofLoan⟩ (am_w5 wd_1154 wd_1156 wd_41 wd_67 wd_1157) (by decide) d rfl) <|
  am_kd (fun d => ak_i2l d rfl) <|
  am_kd (fun d => ak_goto d (by decide +kernel)) <|
  am_kd (fun d => ak_lconst d (by decide +kernel) rfl) <|
  am_kd (fun d => ak_ladd d rfl) <|
  am_kd (fun d => ak_last (t := 1) (fun _ => rfl) rfl d rfl) <|
  am_kd (fun d => ak_aload_n d rfl rfl) <|
  am_kd (fun d => ak_iload_n d rfl rfl) <|
  am_kd (fun d => ak_iconst d (by decide +kernel) rfl) <|
  am_kd (fun d => ak_callV (C := RX8) (F := TX8) (N := 27) metX8_ofLoan rfl ⟨rfl, hy_X8_ofLoan⟩ (am_w5 wd_1154 wd_1156 wd_41 wd_67 wd_1157) (by decide) d rfl) <|
  am_kd (fun d => ak_iload_n d rfl rfl) <|
  am_kd (fun d => ak_icmp_ne d (by decide +kernel) rfl) <|
  am_kd (fun d => ak_aload_n d rfl rfl) <|
  am_kd (fun d => ak_iload_n d rfl rfl) <|
  am_kd (fun d => ak_iload_n d rfl rfl) <|
  am_kd (fun d => ak_callV (C := RX8) (F := TX8) (N := 27) metX8_given rfl ⟨rfl, hy_X8_given⟩ (am_w5 wd_1073 wd_1075 wd_31 wd_67 wd_1076) (by decide) d rfl) <|
  am_kd (fun d => ak_i2l d rfl) <|
  am_kd (fun d => ak_lstore d rfl) <|
  am_kd (fun d => ak_aload_n d rfl rfl) <|
  am_kd (fun d => ak_getR (C := RX8) (T := TX8) (N := 27) rfl inX8w (by decide) rfl rfl rfl wd_910 d rfl) <|
  am_kd (fun d => ak_iload_n d rfl rfl) <|
  am_kd (fun d => ak_dup2 d rfl) <|
  am_kd (fun d => ak_lald (t := 1) (fun _ => rfl) rfl d rfl) <|
  am_kd (fun d => ak_lload d rfl) <|
  am_kd (fun d => ak_aload_n d rfl rfl) <|
  am_kd (fun d => ak_getR (C := RX8) (T := TX8) (N := 27) rfl inX8w (by decide) rfl rfl rfl wd_910 d rfl) <|
  am_kd (fun d => ak_iload_n d rfl rfl) <|
  am_kd (fun d => ak_lald (t := 1) (fun _ => rfl) rfl d rfl) <|
  am_kd (fun d => ak_lcmp d rfl) <|
  am_kd (fun d => ak_if_ge d (by decide +kernel) rfl) <|
  am_kd (fun d => ak_lload d rfl) <|
  am_kd (fun d => ak_goto d (by decide +kernel)) <|
  am_kd (fun d => ak_aload_n d rfl rfl) <|
  am_kd (fun d => ak_getR (C := RX8) (T := TX8) (N := 27) rfl inX8w (by decide) rfl rfl rfl wd_910 d rfl) <|
  am_kd (fun d => ak_iload_n d rfl rfl) <|
  am_kd (fun d => ak_lald (t := 1) (fun _ => rfl) rfl d rfl) <|
  am_kd (fun d => ak_lsub d rfl) <|
  am_kd (fun d => ak_last (t := 1) (fun _ => rfl) rfl d rfl) <|
  am_kd (fun d => ak_retV d) <| am_kdn
def TX8_begin : am_T := fun live as M R => match as with
  | [.ref n, .int l, .int y, .int e, .int a, .int d] => am_mn live ∧ n = 200 ∧ am_in l 30 ∧ am_in y 40 ∧ r_I M ∧ ∀ M', r_sc M M' → r_I M' → R none M'
  | _ => False
def JX8_begin : am_E → List Value → am_M → am_R → am_inv := fun live as M0 _ pc => match as with
  | [.ref n, .int l, .int y, .int e, .int a, .int d] => (match pc with
    | 66 => some ([0, 1, 2, 3, 4, 7], fun k L st M => ∃ z : Int32, L = [(0, .ref 200), (1, .int l), (2, .int y), (3, .int e), (4, .int a), (7, .int z)] ∧ st = [] ∧ k = (10, 0) ∧ r_sc M0 M ∧ r_I M)
    | 106 => some ([0, 1, 2, 3, 4], fun k L st M => L = [(0, .ref 200), (1, .int l), (2, .int y), (3, .int e), (4, .int a)] ∧ st = [] ∧ k = (9, 0) ∧ r_sc M0 M ∧ r_I M)
    | 187 => some ([0, 1, 2], fun k L st M => L = [(0, .ref 200), (1, .int l), (2, .int y)] ∧ st = [] ∧ k = (8, 0) ∧ r_sc M0 M ∧ r_I M)
    | 217 => some ([0, 1, 2], fun k L st M => L = [(0, .ref 200), (1, .int l), (2, .int y)] ∧ st = [] ∧ k = (7, 0) ∧ r_sc M0 M ∧ r_I M)
    | _ => none)
  | _ => none
set_option maxRecDepth 100000 in
set_option maxHeartbeats 4000000 in
theorem metX8_begin : am_Met yX8_begin cX8_begin 12 none (7) (162) TX8_begin := by
  refine am_met (own := RX8) (by decide +kernel) rfl kX8_begin koX8_begin 150 JX8_begin ?_ ?_
  · intro live as M Ret h
    unfold TX8_begin at h
    split at h
    · next n l y e a d =>
      refine ⟨Nat.le_of_ble_eq_true rfl, ?_⟩
      change am_wp _ _ _ _ [(0, Value.ref n), (1, Value.int l), (2, Value.int y), (3, Value.int e), (4, Value.int a), (5, Value.int d)] _ _
      obtain ⟨hmn, rfl, hl, hy, hR, h⟩ := h
      have hmn2 := hmn
      obtain ⟨i1, i2, rfl⟩ := hmn2
      have hp := r_pers hR hl
      have w0 : 0 ≤ (0 : Int32).toInt ∧ (0 : Int32).toInt ≤ 7 := ⟨by decide, by decide⟩
      have w2 : 0 ≤ (2 : Int32).toInt ∧ (2 : Int32).toInt ≤ 7 := ⟨by decide, by decide⟩
      have l1 := hl.1
      have l2 : l.toInt < ((30 : Nat) : Int) := hl.2
      repeat' (first | (with_reducible exact hmn) | (with_reducible exact hl) | (with_reducible exact hy) | (with_reducible exact hp) | (with_reducible exact w0) | (with_reducible exact w2) | (with_reducible exact hR) | (with_reducible exact l1) | apply And.intro | exact rfl | ((with_reducible change r_I _); (with_reducible assumption)) | (intro hx; exact absurd hx (by decide)) | (intro hx; exact absurd (by decide) hx) | decide | intro hx | (refine Exists.intro _ (And.intro rfl ?_)))
      all_goals try first | (with_reducible change am_tI _ _) | (change Ret _ _) | (change Ret _ _ _) | (change Exists _)
      all_goals try dsimp only at *
      all_goals try (with_reducible exact absurd ‹(1000 : Int64) = 0› am_z1000)
      all_goals first
        | (with_reducible exact l2)
        | exact l2
        | (change r_I _; (repeat' (first | (with_reducible assumption) | ((with_reducible change r_I (am_wJ _ _ _ _)); refine r_I.wJ ?_) | ((with_reducible change r_I (am_wI _ _ _ _)); refine r_I.wI ?_ rfl))))
        | exact ⟨_, _, rfl, rfl, rfl, by (repeat' (first | (with_reducible exact r_sc.rf) | (with_reducible assumption) | ((with_reducible change r_sc _ (am_wI _ _ _ _)); refine r_sc.wI ?_ rfl) | ((with_reducible change r_sc _ (am_wJ _ _ _ _)); refine r_sc.wJ ?_ rfl) | (refine r_sc.tr ?_ (by with_reducible assumption)))), by (repeat' (first | (with_reducible assumption) | ((with_reducible change r_I (am_wJ _ _ _ _)); refine r_I.wJ ?_) | ((with_reducible change r_I (am_wI _ _ _ _)); refine r_I.wI ?_ rfl)))⟩
        | skip
    · exact h.elim
  · intro live as M0 Ret h k pc I hI L st M hi
    unfold TX8_begin at h
    split at h
    · next n l y e a d =>
      obtain ⟨hmn, rfl, hl, hy, hR, h⟩ := h
      have hmn2 := hmn
      obtain ⟨i1, i2, rfl⟩ := hmn2
      have w2 : 0 ≤ (2 : Int32).toInt ∧ (2 : Int32).toInt ≤ 7 := ⟨by decide, by decide⟩
      have w3 : 0 ≤ (3 : Int32).toInt ∧ (3 : Int32).toInt ≤ 7 := ⟨by decide, by decide⟩
      have w5 : 0 ≤ (5 : Int32).toInt ∧ (5 : Int32).toInt ≤ 7 := ⟨by decide, by decide⟩
      have l1 := hl.1
      have l2 : l.toInt < ((30 : Nat) : Int) := hl.2
      change (match pc with | 66 => _ | 106 => _ | 187 => _ | 217 => _ | _ => none) = _ at hI
      split at hI
      · cases hI
        obtain ⟨z, rfl, rfl, rfl, e2, e3⟩ := hi
        repeat' (first | (with_reducible exact hmn) | (with_reducible exact l1) | apply And.intro | exact rfl | (intro hx; exact absurd hx (by decide)) | (intro hx; exact absurd (by decide) hx) | decide | intro hx | (refine Exists.intro _ (And.intro rfl ?_)))
        all_goals try first | (with_reducible change am_tI _ _) | (change Ret _ _) | (change Ret _ _ _) | (change Exists _)
        all_goals try dsimp only at *
        all_goals try (with_reducible exact absurd ‹(1000 : Int64) = 0› am_z1000)
        all_goals first
          | (with_reducible exact l2)
          | exact l2
          | exact ⟨_, am_lt_l (by decide), rfl, rfl, rfl, by (repeat' (first | (with_reducible exact r_sc.rf) | (with_reducible assumption) | ((with_reducible change r_sc _ (am_wI _ _ _ _)); refine r_sc.wI ?_ rfl) | ((with_reducible change r_sc _ (am_wJ _ _ _ _)); refine r_sc.wJ ?_ rfl) | (refine r_sc.tr ?_ (by with_reducible assumption)))), by (repeat' (first | (with_reducible assumption) | ((with_reducible change r_I (am_wJ _ _ _ _)); refine r_I.wJ ?_) | ((with_reducible change r_I (am_wI _ _ _ _)); refine r_I.wI ?_ rfl)))⟩
          | skip
      · cases hI
        obtain ⟨rfl, rfl, rfl, e2, e3⟩ := hi
        repeat' (first | (with_reducible exact hmn) | (with_reducible exact hl) | (with_reducible exact hy) | (with_reducible exact l1) | (with_reducible exact e3) | apply And.intro | exact rfl | ((with_reducible change r_I _); (with_reducible assumption)) | (intro hx; exact absurd hx (by decide)) | (intro hx; exact absurd (by decide) hx) | decide | intro hx | (refine Exists.intro _ (And.intro rfl ?_)))
        all_goals try first | (with_reducible change am_tI _ _) | (change Ret _ _) | (change Ret _ _ _) | (change Exists _)
        all_goals try dsimp only at *
        all_goals try (with_reducible exact absurd ‹(1000 : Int64) = 0› am_z1000)
        all_goals first
          | (with_reducible exact l2)
          | (with_reducible exact h _ e2 e3)
          | exact l2
          | exact h _ e2 e3
          | exact ⟨_, am_lt_l (by decide), rfl, rfl, rfl, by (repeat' (first | (with_reducible exact r_sc.rf) | (with_reducible assumption) | ((with_reducible change r_sc _ (am_wI _ _ _ _)); refine r_sc.wI ?_ rfl) | ((with_reducible change r_sc _ (am_wJ _ _ _ _)); refine r_sc.wJ ?_ rfl) | (refine r_sc.tr ?_ (by with_reducible assumption)))), by (repeat' (first | (with_reducible assumption) | ((with_reducible change r_I (am_wJ _ _ _ _)); refine r_I.wJ ?_) | ((with_reducible change r_I (am_wI _ _ _ _)); refine r_I.wI ?_ rfl)))⟩
          | skip
      · cases hI
        obtain ⟨rfl, rfl, rfl, e2, e3⟩ := hi
        repeat' (first | (with_reducible exact hmn) | (with_reducible exact hl) | (with_reducible exact w2) | (with_reducible exact w3) | (with_reducible exact l1) | (with_reducible exact e3) | apply And.intro | exact rfl | ((with_reducible change r_I _); (with_reducible assumption)) | (intro hx; exact absurd hx (by decide)) | (intro hx; exact absurd (by decide) hx) | decide | intro hx | (refine Exists.intro _ (And.intro rfl ?_)))
        all_goals try first | (with_reducible change am_tI _ _) | (change Ret _ _) | (change Ret _ _ _) | (change Exists _)
        all_goals try dsimp only at *
        all_goals try (with_reducible exact absurd ‹(1000 : Int64) = 0› am_z1000)
        all_goals first
          | (with_reducible exact l2)
          | exact l2
          | exact ⟨_, am_lt_l (by decide), rfl, rfl, rfl, by (repeat' (first | (with_reducible exact r_sc.rf) | (with_reducible assumption) | ((with_reducible change r_sc _ (am_wI _ _ _ _)); refine r_sc.wI ?_ rfl) | ((with_reducible change r_sc _ (am_wJ _ _ _ _)); refine r_sc.wJ ?_ rfl) | (refine r_sc.tr ?_ (by with_reducible assumption)))), by (repeat' (first | (with_reducible assumption) | ((with_reducible change r_I (am_wJ _ _ _ _)); refine r_I.wJ ?_) | ((with_reducible change r_I (am_wI _ _ _ _)); refine r_I.wI ?_ rfl)))⟩
          | skip
      · cases hI
        obtain ⟨rfl, rfl, rfl, e2, e3⟩ := hi
        repeat' (first | (with_reducible exact hmn) | (with_reducible exact hl) | (with_reducible exact w5) | (with_reducible exact l1) | (with_reducible exact e3) | apply And.intro | exact rfl | ((with_reducible change r_I _); (with_reducible assumption)) | (intro hx; exact absurd hx (by decide)) | (intro hx; exact absurd (by decide) hx) | decide | intro hx | (refine Exists.intro _ (And.intro rfl ?_)))
        all_goals try first | (with_reducible change am_tI _ _) | (change Ret _ _) | (change Ret _ _ _) | (change Exists _)
        all_goals try dsimp only at *
        all_goals try (with_reducible exact absurd ‹(1000 : Int64) = 0› am_z1000)
        all_goals first
          | (with_reducible exact l2)
          | exact l2
          | exact h _ (by (repeat' (first | (with_reducible exact r_sc.rf) | (with_reducible assumption) | ((with_reducible change r_sc _ (am_wI _ _ _ _)); refine r_sc.wI ?_ rfl) | ((with_reducible change r_sc _ (am_wJ _ _ _ _)); refine r_sc.wJ ?_ rfl) | (refine r_sc.tr ?_ (by with_reducible assumption))))) (by (repeat' (first | (with_reducible assumption) | ((with_reducible change r_I (am_wJ _ _ _ _)); refine r_I.wJ ?_) | ((with_reducible change r_I (am_wI _ _ _ _)); refine r_I.wI ?_ rfl))))
          | skip
      · cases hI
    · exact h.elim
theorem hy_X8_begin : yX8_begin.cls ≠ "java/lang/invoke/MethodHandle" ∧ yX8_begin.cls ≠ "java/lang/invoke/VarHandle" ∧ (parseMethodDescriptor yX8_begin.desc).map (fun d => d.parameters.length) = some 5 := ⟨by decide +kernel, by decide +kernel, by decide +kernel⟩
set_option maxRecDepth 100000 in
theorem wd_1170 : Cond.methodLink "LearnLoansModel" 210 yX8_begin ∈ am_ws := am_wt5 (List.mem_of_getElem? (i := 153) (by rfl)) (by decide +kernel)
set_option maxRecDepth 100000 in
theorem wd_1172 : Cond.instanceMethod yX8_begin ∈ am_ws := am_wt5 (List.mem_of_getElem? (i := 155) (by rfl)) (by decide +kernel)
set_option maxRecDepth 100000 in
theorem wd_45 : Cond.selects "LearnLoansModel" yX8_begin yX8_begin ∈ am_ws := am_wsi (List.mem_of_getElem? (i := 45) (by rfl)) (by decide +kernel)
set_option maxRecDepth 100000 in
theorem wd_1173 : Cond.code yX8_begin cX8_begin 12 none ∈ am_ws := am_wt5 (List.mem_of_getElem? (i := 156) (by rfl)) (by decide +kernel)
theorem hy_X8_isIn : yX8_isIn.cls ≠ "java/lang/invoke/MethodHandle" ∧ yX8_isIn.cls ≠ "java/lang/invoke/VarHandle" ∧ (parseMethodDescriptor yX8_isIn.desc).map (fun d => d.parameters.length) = some 4 := ⟨by decide +kernel, by decide +kernel, by decide +kernel⟩
set_option maxRecDepth 100000 in
theorem wd_1179 : Cond.methodLink "LearnLoansModel" 214 yX8_isIn ∈ am_ws := am_wt5 (List.mem_of_getElem? (i := 162) (by rfl)) (by decide +kernel)
set_option maxRecDepth 100000 in
theorem wd_1181 : Cond.instanceMethod yX8_isIn ∈ am_ws := am_wt5 (List.mem_of_getElem? (i := 164) (by rfl)) (by decide +kernel)
set_option maxRecDepth 100000 in
theorem wd_47 : Cond.selects "LearnLoansModel" yX8_isIn yX8_isIn ∈ am_ws := am_wsi (List.mem_of_getElem? (i := 47) (by rfl)) (by decide +kernel)
set_option maxRecDepth 100000 in
theorem wd_1182 : Cond.code yX8_isIn cX8_isIn 5 (some .boolean) ∈ am_ws := am_wt5 (List.mem_of_getElem? (i := 165) (by rfl)) (by decide +kernel)
set_option maxRecDepth 100000 in
theorem wd_917 : Cond.fieldLink "LearnLoansModel" 218 "LearnLoansModel" "paid" "J" ∈ am_ws := am_wt4 (List.mem_of_getElem? (i := 140) (by rfl)) (by decide +kernel)
theorem hy_X8_dueOf : yX8_dueOf.cls ≠ "java/lang/invoke/MethodHandle" ∧ yX8_dueOf.cls ≠ "java/lang/invoke/VarHandle" ∧ (parseMethodDescriptor yX8_dueOf.desc).map (fun d => d.parameters.length) = some 4 := ⟨by decide +kernel, by decide +kernel, by decide +kernel⟩
set_option maxRecDepth 100000 in
theorem wd_1183 : Cond.methodLink "LearnLoansModel" 222 yX8_dueOf ∈ am_ws := am_wt5 (List.mem_of_getElem? (i := 166) (by rfl)) (by decide +kernel)
set_option maxRecDepth 100000 in
theorem wd_1185 : Cond.instanceMethod yX8_dueOf ∈ am_ws := am_wt5 (List.mem_of_getElem? (i := 168) (by rfl)) (by decide +kernel)
set_option maxRecDepth 100000 in
theorem wd_48 : Cond.selects "LearnLoansModel" yX8_dueOf yX8_dueOf ∈ am_ws := am_wsi (List.mem_of_getElem? (i := 48) (by rfl)) (by decide +kernel)
set_option maxRecDepth 100000 in
theorem wd_1186 : Cond.code yX8_dueOf cX8_dueOf 9 (some .long) ∈ am_ws := am_wt5 (List.mem_of_getElem? (i := 169) (by rfl)) (by decide +kernel)
def rwX8_stepYear : List dz_r := [(0, .iconst 0, 1), (1, .istore 8, 2), (3, .iload 8, 2), (5, .aload_n 0, 1), (6, .getfield 7, 3), (9, .iconst 1, 1), (10, .iaload, 1), (11, .if_icmp .ge 32, 3), (14, .aload_n 0, 1), (15, .iload 8, 2), (17, .iconst 0, 1), (18, .invokevirtual 202, 3), (21, .iload_n 1, 1), (22, .if_icmp .ne 15, 3), (25, .aload_n 0, 1), (26, .iload 8, 2), (28, .iload_n 2, 1), (29, .iload_n 3, 1), (30, .iload 4, 2), (32, .iload 5, 2), (34, .invokevirtual 210, 3), (37, .iinc 8 1, 3), (40, .goto (-37), 3), (43, .lload 6, 2), (45, .lstore 8, 2), (47, .iconst 0, 1), (48, .istore 10, 2), (50, .iload 10, 2), (52, .bipush 10, 2), (54, .aload_n 0, 1), (55, .getfield 7, 3), (58, .iconst 1, 1), (59, .iaload, 1), (60, .imul, 1), (61, .if_icmp .ge 93, 3), (64, .iload 10, 2), (66, .aload_n 0, 1), (67, .getfield 7, 3), (70, .iconst 1, 1), (71, .iaload, 1), (72, .irem, 1), (73, .istore 11, 2), (75, .lload 8, 2), (77, .lconst 0, 1), (78, .lcmp, 1), (79, .ifCond .le 69, 3), (82, .aload_n 0, 1), (83, .iload 11, 2), (85, .iload_n 1, 1), (86, .iload_n 2, 1), (87, .iload 10, 2), (89, .aload_n 0, 1), (90, .getfield 7, 3), (93, .iconst 1, 1), (94, .iaload, 1), (95, .idiv, 1), (96, .invokevirtual 214, 3), (99, .ifCond .eq 49, 3), (102, .lload 8, 2), (104, .aload_n 0, 1), (105, .getfield 30, 3), (108, .iload 11, 2), (110, .laload, 1), (111, .lcmp, 1), (112, .ifCond .ge 8, 3), (115, .lload 8, 2), (117, .goto 10, 3), (120, .aload_n 0, 1), (121, .getfield 30, 3), (124, .iload 11, 2), (126, .laload, 1), (127, .lstore 12, 2), (129, .aload_n 0, 1), (130, .getfield 30, 3), (133, .iload 11, 2), (135, .dup2, 1), (136, .laload, 1), (137, .lload 12, 2), (139, .lsub, 1), (140, .lastore, 1), (141, .lload 8, 2), (143, .lload 12, 2), (145, .lsub, 1), (146, .lstore 8, 2), (148, .iinc 10 1, 3), (151, .goto (-101), 3), (154, .aload_n 0, 1), (155, .lload 6, 2), (157, .lload 8, 2), (159, .lsub, 1), (160, .putfield 218, 3), (163, .lconst 0, 1), (164, .lstore 10, 2), (166, .iconst 0, 1), (167, .istore 12, 2), (169, .iload 12, 2), (171, .bipush 10, 2), (173, .aload_n 0, 1), (174, .getfield 7, 3), (177, .iconst 1, 1), (178, .iaload, 1), (179, .imul, 1), (180, .if_icmp .ge 192, 3), (183, .iload 12, 2), (185, .aload_n 0, 1), (186, .getfield 7, 3), (189, .iconst 1, 1), (190, .iaload, 1), (191, .irem, 1), (192, .istore 13, 2), (194, .aload_n 0, 1), (195, .iload 13, 2), (197, .iload_n 1, 1), (198, .iload_n 2, 1), (199, .iload 12, 2), (201, .aload_n 0, 1), (202, .getfield 7, 3), (205, .iconst 1, 1), (206, .iaload, 1), (207, .idiv, 1), (208, .invokevirtual 214, 3), (211, .ifCond .eq 155, 3), (214, .aload_n 0, 1), (215, .iload 13, 2), (217, .iload_n 2, 1), (218, .iload_n 3, 1), (219, .iload 4, 2), (221, .invokevirtual 222, 3), (224, .lload 10, 2), (226, .lsub, 1), (227, .lstore 14, 2), (229, .lload 14, 2), (231, .lconst 0, 1), (232, .lcmp, 1), (233, .ifCond .ge 7, 3), (236, .lconst 0, 1), (237, .goto 5, 3), (240, .lload 14, 2), (242, .lstore 14, 2), (244, .aload_n 0, 1), (245, .getfield 33, 3), (248, .iload 13, 2), (250, .lload 14, 2), (252, .aload_n 0, 1), (253, .getfield 30, 3), (256, .iload 13, 2), (258, .laload, 1), (259, .lcmp, 1), (260, .ifCond .ge 8, 3), (263, .lload 14, 2), (265, .goto 10, 3), (268, .aload_n 0, 1), (269, .getfield 30, 3), (272, .iload 13, 2), (274, .laload, 1), (275, .lastore, 1), (276, .aload_n 0, 1), (277, .getfield 30, 3), (280, .iload 13, 2), (282, .dup2, 1), (283, .laload, 1), (284, .aload_n 0, 1), (285, .getfield 33, 3), (288, .iload 13, 2), (290, .laload, 1), (291, .lsub, 1), (292, .lastore, 1), (293, .lload 10, 2), (295, .aload_n 0, 1), (296, .getfield 33, 3), (299, .iload 13, 2), (301, .laload, 1), (302, .ladd, 1), (303, .lstore 10, 2), (305, .aload_n 0, 1), (306, .getfield 36, 3), (309, .iload 13, 2), (311, .dup2, 1), (312, .laload, 1), (313, .aload_n 0, 1), (314, .getfield 33, 3), (317, .iload 13, 2), (319, .laload, 1), (320, .ladd, 1), (321, .lastore, 1), (322, .aload_n 0, 1), (323, .getfield 39, 3), (326, .iload 13, 2), (328, .dup2, 1), (329, .laload, 1), (330, .aload_n 0, 1), (331, .iload 13, 2), (333, .bipush 7, 2), (335, .invokevirtual 202, 3), (338, .ifCond .lt 25, 3), (341, .iload_n 2, 1), (342, .aload_n 0, 1), (343, .iload 13, 2), (345, .bipush 7, 2), (347, .invokevirtual 202, 3), (350, .if_icmp .lt 13, 3), (353, .aload_n 0, 1), (354, .getfield 33, 3), (357, .iload 13, 2), (359, .laload, 1), (360, .goto 4, 3), (363, .lconst 0, 1), (364, .ladd, 1), (365, .lastore, 1), (366, .iinc 12 1, 3), (369, .goto (-200), 3), (372, .return_, 1)]
theorem dzX8_stepYear : dz cX8_stepYear rwX8_stepYear := dz_all 0 (by decide +kernel)
def kX8_stepYear (live : am_E) (Ret : am_R) : am_code := [(0, am_const (.int 0) 1), (1, am_istore 8 16 3), (3, am_iload 8 5), (5, am_aload 0 6), (6, am_getR live 8 0 9), (9, am_const (.int 1) 10), (10, am_ald live 0 11), (11, am_if2 (fun x y => y ≤ x) 43 14), (14, am_aload 0 15), (15, am_iload 8 17), (17, am_const (.int 0) 18), (18, am_callV live 8 2 TX8_ofLoan 21), (21, am_iload 1 22), (22, am_if2 (fun x y => x = y) 25 37), (25, am_aload 0 26), (26, am_iload 8 28), (28, am_iload 2 29), (29, am_iload 3 30), (30, am_iload 4 32), (32, am_iload 5 34), (34, am_callV live 8 5 TX8_begin 37), (37, am_iinc 8 16 1 40), (40, am_goto 3), (43, am_lload 6 45), (45, am_lstore 8 16 47), (47, am_const (.int 0) 48), (48, am_istore 10 16 50), (50, am_iload 10 52), (52, am_const (.int 10) 54), (54, am_aload 0 55), (55, am_getR live 8 0 58), (58, am_const (.int 1) 59), (59, am_ald live 0 60), (60, am_i2 (fun x y => x * y) 61), (61, am_if2 (fun x y => y ≤ x) 154 64), (64, am_iload 10 66), (66, am_aload 0 67), (67, am_getR live 8 0 70), (70, am_const (.int 1) 71), (71, am_ald live 0 72), (72, am_i2z (fun x y => x - x / y * y) 73), (73, am_istore 11 16 75), (75, am_lload 8 77), (77, am_const (.long 0) 78), (78, am_lcmp 79), (79, am_if1 (fun x => x ≤ 0) 148 82), (82, am_aload 0 83), (83, am_iload 11 85), (85, am_iload 1 86), (86, am_iload 2 87), (87, am_iload 10 89), (89, am_aload 0 90), (90, am_getR live 8 0 93), (93, am_const (.int 1) 94), (94, am_ald live 0 95), (95, am_i2z (fun x y => x / y) 96), (96, am_callV live 8 4 TX8_isIn 99), (99, am_if1 (fun x => x = 0) 148 102), (102, am_lload 8 104), (104, am_aload 0 105), (105, am_getR live 8 15 108), (108, am_iload 11 110), (110, am_lald live 1 111), (111, am_lcmp 112), (112, am_if1 (fun x => 0 ≤ x) 120 115), (115, am_lload 8 117), (117, am_goto 127), (120, am_aload 0 121), (121, am_getR live 8 15 124), (124, am_iload 11 126), (126, am_lald live 1 127), (127, am_lstore 12 16 129), (129, am_aload 0 130), (130, am_getR live 8 15 133), (133, am_iload 11 135), (135, am_dup2 136), (136, am_lald live 1 137), (137, am_lload 12 139), (139, am_l2 (fun x y => x - y) 140), (140, am_last live 1 141), (141, am_lload 8 143), (143, am_lload 12 145), (145, am_l2 (fun x y => x - y) 146), (146, am_lstore 8 16 148), (148, am_iinc 10 16 1 151), (151, am_goto 50), (154, am_aload 0 155), (155, am_lload 6 157), (157, am_lload 8 159), (159, am_l2 (fun x y => x - y) 160), (160, am_putJ live 8 22 163), (163, am_const (.long 0) 164), (164, am_lstore 10 16 166), (166, am_const (.int 0) 167), (167, am_istore 12 16 169), (169, am_iload 12 171), (171, am_const (.int 10) 173), (173, am_aload 0 174), (174, am_getR live 8 0 177), (177, am_const (.int 1) 178), (178, am_ald live 0 179), (179, am_i2 (fun x y => x * y) 180), (180, am_if2 (fun x y => y ≤ x) 372 183), (183, am_iload 12 185), (185, am_aload 0 186), (186, am_getR live 8 0 189), (189, am_const (.int 1) 190), (190, am_ald live 0 191), (191, am_i2z (fun x y => x - x / y * y) 192), (192, am_istore 13 16 194), (194, am_aload 0 195), (195, am_iload 13 197), (197, am_iload 1 198), (198, am_iload 2 199), (199, am_iload 12 201), (201, am_aload 0 202), (202, am_getR live 8 0 205), (205, am_const (.int 1) 206), (206, am_ald live 0 207), (207, am_i2z (fun x y => x / y) 208), (208, am_callV live 8 4 TX8_isIn 211), (211, am_if1 (fun x => x = 0) 366 214), (214, am_aload 0 215), (215, am_iload 13 217), (217, am_iload 2 218), (218, am_iload 3 219), (219, am_iload 4 221), (221, am_callV live 8 4 TX8_dueOf 224), (224, am_lload 10 226), (226, am_l2 (fun x y => x - y) 227), (227, am_lstore 14 16 229), (229, am_lload 14 231), (231, am_const (.long 0) 232), (232, am_lcmp 233), (233, am_if1 (fun x => 0 ≤ x) 240 236), (236, am_const (.long 0) 237), (237, am_goto 242), (240, am_lload 14 242), (242, am_lstore 14 16 244), (244, am_aload 0 245), (245, am_getR live 8 16 248), (248, am_iload 13 250), (250, am_lload 14 252), (252, am_aload 0 253), (253, am_getR live 8 15 256), (256, am_iload 13 258), (258, am_lald live 1 259), (259, am_lcmp 260), (260, am_if1 (fun x => 0 ≤ x) 268 263), (263, am_lload 14 265), (265, am_goto 275), (268, am_aload 0 269), (269, am_getR live 8 15 272), (272, am_iload 13 274), (274, am_lald live 1 275), (275, am_last live 1 276), (276, am_aload 0 277), (277, am_getR live 8 15 280), (280, am_iload 13 282), (282, am_dup2 283), (283, am_lald live 1 284), (284, am_aload 0 285), (285, am_getR live 8 16 288), (288, am_iload 13 290), (290, am_lald live 1 291), (291, am_l2 (fun x y => x - y) 292), (292, am_last live 1 293), (293, am_lload 10 295), (295, am_aload 0 296), (296, am_getR live 8 16 299), (299, am_iload 13 301), (301, am_lald live 1 302), (302, am_l2 (fun x y => x + y) 303), (303, am_lstore 10 16 305), (305, am_aload 0 306), (306, am_getR live 8 17 309), (309, am_iload 13 311), (311, am_dup2 312), (312, am_lald live 1 313), (313, am_aload 0 314), (314, am_getR live 8 16 317), (317, am_iload 13 319), (319, am_lald live 1 320), (320, am_l2 (fun x y => x + y) 321), (321, am_last live 1 322), (322, am_aload 0 323), (323, am_getR live 8 18 326), (326, am_iload 13 328), (328, am_dup2 329), (329, am_lald live 1 330), (330, am_aload 0 331), (331, am_iload 13 333), (333, am_const (.int 7) 335), (335, am_callV live 8 2 TX8_ofLoan 338), (338, am_if1 (fun x => x < 0) 363 341), (341, am_iload 2 342), (342, am_aload 0 343), (343, am_iload 13 345), (345, am_const (.int 7) 347), (347, am_callV live 8 2 TX8_ofLoan 350), (350, am_if2 (fun x y => x < y) 363 353), (353, am_aload 0 354), (354, am_getR live 8 16 357), (357, am_iload 13 359), (359, am_lald live 1 360), (360, am_goto 364), (363, am_const (.long 0) 364), (364, am_l2 (fun x y => x + y) 365), (365, am_last live 1 366), (366, am_iinc 12 16 1 369), (369, am_goto 169), (372, am_retV Ret)]
theorem koX8_stepYear (live : am_E) (Ret : am_R) : ∀ q ∈ kX8_stepYear live Ret, am_ok RX8 cX8_stepYear 16 none 8 193 live Ret q.1 q.2 :=
  am_kz dzX8_stepYear <|
  am_kd (fun d => ak_iconst d (by decide +kernel) rfl) <|
  am_kd (fun d => ak_istore d rfl) <|
  am_kd (fun d => ak_iload d rfl) <|
  am_kd (fun d => ak_aload_n d rfl rfl) <|
  am_kd (fun d => ak_getR (C := RX8) (T := TX8) (N := 27) rfl inX8w (by decide) rfl rfl rfl wd_895 d rfl) <|
  am_kd (fun d => ak_iconst d (by decide +kernel) rfl) <|
  am_kd (fun d => ak_iald (t := 0) (fun _ => rfl) rfl d rfl) <|
  am_kd (fun d => ak_icmp_ge d (by decide +kernel) rfl) <|
  am_kd (fun d => ak_aload_n d rfl rfl) <|
  am_kd (fun d => ak_iload d rfl) <|
  am_kd (fun d => ak_iconst d (by decide +kernel) rfl) <|
  am_kd (fun d => ak_callV (C := RX8) (F := TX8) (N := 27) metX8_ofLoan rfl ⟨rfl, hy_X8_ofLoan⟩ (am_w5 wd_1154 wd_1156 wd_41 wd_67 wd_1157) (by decide) d rfl) <|
  am_kd (fun d => ak_iload_n d rfl rfl) <|
  am_kd (fun d => ak_icmp_ne d (by decide +kernel) rfl) <|
  am_kd (fun d => ak_aload_n d rfl rfl) <|
  am_kd (fun d => ak_iload d rfl) <|
  am_kd (fun d => ak_iload_n d rfl rfl) <|
  am_kd (fun d => ak_iload_n d rfl rfl) <|
  am_kd (fun d => ak_iload d rfl) <|
  am_kd (fun d => ak_iload d rfl) <|
  am_kd (fun d => ak_callV (C := RX8) (F := TX8) (N := 27) metX8_begin rfl ⟨rfl, hy_X8_begin⟩ (am_w5 wd_1170 wd_1172 wd_45 wd_67 wd_1173) (by decide) d rfl) <|
  am_kd (fun d => ak_iinc d (by decide +kernel) rfl) <|
  am_kd (fun d => ak_goto d (by decide +kernel)) <|
  am_kd (fun d => ak_lload d rfl) <|
  am_kd (fun d => ak_lstore d rfl) <|
  am_kd (fun d => ak_iconst d (by decide +kernel) rfl) <|
  am_kd (fun d => ak_istore d rfl) <|
  am_kd (fun d => ak_iload d rfl) <|
  am_kd (fun d => ak_bipush d (by decide +kernel) rfl) <|
  am_kd (fun d => ak_aload_n d rfl rfl) <|
  am_kd (fun d => ak_getR (C := RX8) (T := TX8) (N := 27) rfl inX8w (by decide) rfl rfl rfl wd_895 d rfl) <|
  am_kd (fun d => ak_iconst d (by decide +kernel) rfl) <|
  am_kd (fun d => ak_iald (t := 0) (fun _ => rfl) rfl d rfl) <|
  am_kd (fun d => ak_imul d rfl) <|
  am_kd (fun d => ak_icmp_ge d (by decide +kernel) rfl) <|
  am_kd (fun d => ak_iload d rfl) <|
  am_kd (fun d => ak_aload_n d rfl rfl) <|
  am_kd (fun d => ak_getR (C := RX8) (T := TX8) (N := 27) rfl inX8w (by decide) rfl rfl rfl wd_895 d rfl) <|
  am_kd (fun d => ak_iconst d (by decide +kernel) rfl) <|
  am_kd (fun d => ak_iald (t := 0) (fun _ => rfl) rfl d rfl) <|
  am_kd (fun d => ak_irem d rfl) <|
  am_kd (fun d => ak_istore d rfl) <|
  am_kd (fun d => ak_lload d rfl) <|
  am_kd (fun d => ak_lconst d (by decide +kernel) rfl) <|
  am_kd (fun d => ak_lcmp d rfl) <|
  am_kd (fun d => ak_if_le d (by decide +kernel) rfl) <|
  am_kd (fun d => ak_aload_n d rfl rfl) <|
  am_kd (fun d => ak_iload d rfl) <|
  am_kd (fun d => ak_iload_n d rfl rfl) <|
  am_kd (fun d => ak_iload_n d rfl rfl) <|
  am_kd (fun d => ak_iload d rfl) <|
  am_kd (fun d => ak_aload_n d rfl rfl) <|
  am_kd (fun d => ak_getR (C := RX8) (T := TX8) (N := 27) rfl inX8w (by decide) rfl rfl rfl wd_895 d rfl) <|
  am_kd (fun d => ak_iconst d (by decide +kernel) rfl) <|
  am_kd (fun d => ak_iald (t := 0) (fun _ => rfl) rfl d rfl) <|
  am_kd (fun d => ak_idiv d rfl) <|
  am_kd (fun d => ak_callV (C := RX8) (F := TX8) (N := 27) metX8_isIn rfl ⟨rfl, hy_X8_isIn⟩ (am_w5 wd_1179 wd_1181 wd_47 wd_67 wd_1182) (by decide) d rfl) <|
  am_kd (fun d => ak_if_eq d (by decide +kernel) rfl) <|
  am_kd (fun d => ak_lload d rfl) <|
  am_kd (fun d => ak_aload_n d rfl rfl) <|
  am_kd (fun d => ak_getR (C := RX8) (T := TX8) (N := 27) rfl inX8w (by decide) rfl rfl rfl wd_910 d rfl) <|
  am_kd (fun d => ak_iload d rfl) <|
  am_kd (fun d => ak_lald (t := 1) (fun _ => rfl) rfl d rfl) <|
  am_kd (fun d => ak_lcmp d rfl) <|
  am_kd (fun d => ak_if_ge d (by decide +kernel) rfl) <|
  am_kd (fun d => ak_lload d rfl) <|
  am_kd (fun d => ak_goto d (by decide +kernel)) <|
  am_kd (fun d => ak_aload_n d rfl rfl) <|
  am_kd (fun d => ak_getR (C := RX8) (T := TX8) (N := 27) rfl inX8w (by decide) rfl rfl rfl wd_910 d rfl) <|
  am_kd (fun d => ak_iload d rfl) <|
  am_kd (fun d => ak_lald (t := 1) (fun _ => rfl) rfl d rfl) <|
  am_kd (fun d => ak_lstore d rfl) <|
  am_kd (fun d => ak_aload_n d rfl rfl) <|
  am_kd (fun d => ak_getR (C := RX8) (T := TX8) (N := 27) rfl inX8w (by decide) rfl rfl rfl wd_910 d rfl) <|
  am_kd (fun d => ak_iload d rfl) <|
  am_kd (fun d => ak_dup2 d rfl) <|
  am_kd (fun d => ak_lald (t := 1) (fun _ => rfl) rfl d rfl) <|
  am_kd (fun d => ak_lload d rfl) <|
  am_kd (fun d => ak_lsub d rfl) <|
  am_kd (fun d => ak_last (t := 1) (fun _ => rfl) rfl d rfl) <|
  am_kd (fun d => ak_lload d rfl) <|
  am_kd (fun d => ak_lload d rfl) <|
  am_kd (fun d => ak_lsub d rfl) <|
  am_kd (fun d => ak_lstore d rfl) <|
  am_kd (fun d => ak_iinc d (by decide +kernel) rfl) <|
  am_kd (fun d => ak_goto d (by decide +kernel)) <|
  am_kd (fun d => ak_aload_n d rfl rfl) <|
  am_kd (fun d => ak_lload d rfl) <|
  am_kd (fun d => ak_lload d rfl) <|
  am_kd (fun d => ak_lsub d rfl) <|
  am_kd (fun d => ak_putJ (C := RX8) (T := TX8) (N := 27) rfl inX8w tyX8_ok nmX8 (by decide) rfl rfl rfl rfl (by decide +kernel) wd_917 d rfl) <|
  am_kd (fun d => ak_lconst d (by decide +kernel) rfl) <|
  am_kd (fun d => ak_lstore d rfl) <|
  am_kd (fun d => ak_iconst d (by decide +kernel) rfl) <|
  am_kd (fun d => ak_istore d rfl) <|
  am_kd (fun d => ak_iload d rfl) <|
  am_kd (fun d => ak_bipush d (by decide +kernel) rfl) <|
  am_kd (fun d => ak_aload_n d rfl rfl) <|
  am_kd (fun d => ak_getR (C := RX8) (T := TX8) (N := 27) rfl inX8w (by decide) rfl rfl rfl wd_895 d rfl) <|
  am_kd (fun d => ak_iconst d (by decide +kernel) rfl) <|
  am_kd (fun d => ak_iald (t := 0) (fun _ => rfl) rfl d rfl) <|
  am_kd (fun d => ak_imul d rfl) <|
  am_kd (fun d => ak_icmp_ge d (by decide +kernel) rfl) <|
  am_kd (fun d => ak_iload d rfl) <|
  am_kd (fun d => ak_aload_n d rfl rfl) <|
  am_kd (fun d => ak_getR (C := RX8) (T := TX8) (N := 27) rfl inX8w (by decide) rfl rfl rfl wd_895 d rfl) <|
  am_kd (fun d => ak_iconst d (by decide +kernel) rfl) <|
  am_kd (fun d => ak_iald (t := 0) (fun _ => rfl) rfl d rfl) <|
  am_kd (fun d => ak_irem d rfl) <|
  am_kd (fun d => ak_istore d rfl) <|
  am_kd (fun d => ak_aload_n d rfl rfl) <|
  am_kd (fun d => ak_iload d rfl) <|
  am_kd (fun d => ak_iload_n d rfl rfl) <|
  am_kd (fun d => ak_iload_n d rfl rfl) <|
  am_kd (fun d => ak_iload d rfl) <|
  am_kd (fun d => ak_aload_n d rfl rfl) <|
  am_kd (fun d => ak_getR (C := RX8) (T := TX8) (N := 27) rfl inX8w (by decide) rfl rfl rfl wd_895 d rfl) <|
  am_kd (fun d => ak_iconst d (by decide +kernel) rfl) <|
  am_kd (fun d => ak_iald (t := 0) (fun _ => rfl) rfl d rfl) <|
  am_kd (fun d => ak_idiv d rfl) <|
  am_kd (fun d => ak_callV (C := RX8) (F := TX8) (N := 27) metX8_isIn rfl ⟨rfl, hy_X8_isIn⟩ (am_w5 wd_1179 wd_1181 wd_47 wd_67 wd_1182) (by decide) d rfl) <|
  am_kd (fun d => ak_if_eq d (by decide +kernel) rfl) <|
  am_kd (fun d => ak_aload_n d rfl rfl) <|
  am_kd (fun d => ak_iload d rfl) <|
  am_kd (fun d => ak_iload_n d rfl rfl) <|
  am_kd (fun d => ak_iload_n d rfl rfl) <|
  am_kd (fun d => ak_iload d rfl) <|
  am_kd (fun d => ak_callV (C := RX8) (F := TX8) (N := 27) metX8_dueOf rfl ⟨rfl, hy_X8_dueOf⟩ (am_w5 wd_1183 wd_1185 wd_48 wd_67 wd_1186) (by decide) d rfl) <|
  am_kd (fun d => ak_lload d rfl) <|
  am_kd (fun d => ak_lsub d rfl) <|
  am_kd (fun d => ak_lstore d rfl) <|
  am_kd (fun d => ak_lload d rfl) <|
  am_kd (fun d => ak_lconst d (by decide +kernel) rfl) <|
  am_kd (fun d => ak_lcmp d rfl) <|
  am_kd (fun d => ak_if_ge d (by decide +kernel) rfl) <|
  am_kd (fun d => ak_lconst d (by decide +kernel) rfl) <|
  am_kd (fun d => ak_goto d (by decide +kernel)) <|
  am_kd (fun d => ak_lload d rfl) <|
  am_kd (fun d => ak_lstore d rfl) <|
  am_kd (fun d => ak_aload_n d rfl rfl) <|
  am_kd (fun d => ak_getR (C := RX8) (T := TX8) (N := 27) rfl inX8w (by decide) rfl rfl rfl wd_911 d rfl) <|
  am_kd (fun d => ak_iload d rfl) <|
  am_kd (fun d => ak_lload d rfl) <|
  am_kd (fun d => ak_aload_n d rfl rfl) <|
  am_kd (fun d => ak_getR (C := RX8) (T := TX8) (N := 27) rfl inX8w (by decide) rfl rfl rfl wd_910 d rfl) <|
  am_kd (fun d => ak_iload d rfl) <|
  am_kd (fun d => ak_lald (t := 1) (fun _ => rfl) rfl d rfl) <|
  am_kd (fun d => ak_lcmp d rfl) <|
  am_kd (fun d => ak_if_ge d (by decide +kernel) rfl) <|
  am_kd (fun d => ak_lload d rfl) <|
  am_kd (fun d => ak_goto d (by decide +kernel)) <|
  am_kd (fun d => ak_aload_n d rfl rfl) <|
  am_kd (fun d => ak_getR (C := RX8) (T := TX8) (N := 27) rfl inX8w (by decide) rfl rfl rfl wd_910 d rfl) <|
  am_kd (fun d => ak_iload d rfl) <|
  am_kd (fun d => ak_lald (t := 1) (fun _ => rfl) rfl d rfl) <|
  am_kd (fun d => ak_last (t := 1) (fun _ => rfl) rfl d rfl) <|
  am_kd (fun d => ak_aload_n d rfl rfl) <|
  am_kd (fun d => ak_getR (C := RX8) (T := TX8) (N := 27) rfl inX8w (by decide) rfl rfl rfl wd_910 d rfl) <|
  am_kd (fun d => ak_iload d rfl) <|
  am_kd (fun d => ak_dup2 d rfl) <|
  am_kd (fun d => ak_lald (t := 1) (fun _ => rfl) rfl d rfl) <|
  am_kd (fun d => ak_aload_n d rfl rfl) <|
  am_kd (fun d => ak_getR (C := RX8) (T := TX8) (N := 27) rfl inX8w (by decide) rfl rfl rfl wd_911 d rfl) <|
  am_kd (fun d => ak_iload d rfl) <|
  am_kd (fun d => ak_lald (t := 1) (fun _ => rfl) rfl d rfl) <|
  am_kd (fun d => ak_lsub d rfl) <|
  am_kd (fun d => ak_last (t := 1) (fun _ => rfl) rfl d rfl) <|
  am_kd (fun d => ak_lload d rfl) <|
  am_kd (fun d => ak_aload_n d rfl rfl) <|
  am_kd (fun d => ak_getR (C := RX8) (T := TX8) (N := 27) rfl inX8w (by decide) rfl rfl rfl wd_911 d rfl) <|
  am_kd (fun d => ak_iload d rfl) <|
  am_kd (fun d => ak_lald (t := 1) (fun _ => rfl) rfl d rfl) <|
  am_kd (fun d => ak_ladd d rfl) <|
  am_kd (fun d => ak_lstore d rfl) <|
  am_kd (fun d => ak_aload_n d rfl rfl) <|
  am_kd (fun d => ak_getR (C := RX8) (T := TX8) (N := 27) rfl inX8w (by decide) rfl rfl rfl wd_912 d rfl) <|
  am_kd (fun d => ak_iload d rfl) <|
  am_kd (fun d => ak_dup2 d rfl) <|
  am_kd (fun d => ak_lald (t := 1) (fun _ => rfl) rfl d rfl) <|
  am_kd (fun d => ak_aload_n d rfl rfl) <|
  am_kd (fun d => ak_getR (C := RX8) (T := TX8) (N := 27) rfl inX8w (by decide) rfl rfl rfl wd_911 d rfl) <|
  am_kd (fun d => ak_iload d rfl) <|
  am_kd (fun d => ak_lald (t := 1) (fun _ => rfl) rfl d rfl) <|
  am_kd (fun d => ak_ladd d rfl) <|
  am_kd (fun d => ak_last (t := 1) (fun _ => rfl) rfl d rfl) <|
  am_kd (fun d => ak_aload_n d rfl rfl) <|
  am_kd (fun d => ak_getR (C := RX8) (T := TX8) (N := 27) rfl inX8w (by decide) rfl rfl rfl wd_913 d rfl) <|
  am_kd (fun d => ak_iload d rfl) <|
  am_kd (fun d => ak_dup2 d rfl) <|
  am_kd (fun d => ak_lald (t := 1) (fun _ => rfl) rfl d rfl) <|
  am_kd (fun d => ak_aload_n d rfl rfl) <|
  am_kd (fun d => ak_iload d rfl) <|
  am_kd (fun d => ak_bipush d (by decide +kernel) rfl) <|
  am_kd (fun d => ak_callV (C := RX8) (F := TX8) (N := 27) metX8_ofLoan rfl ⟨rfl, hy_X8_ofLoan⟩ (am_w5 wd_1154 wd_1156 wd_41 wd_67 wd_1157) (by decide) d rfl) <|
  am_kd (fun d => ak_if_lt d (by decide +kernel) rfl) <|
  am_kd (fun d => ak_iload_n d rfl rfl) <|
  am_kd (fun d => ak_aload_n d rfl rfl) <|
  am_kd (fun d => ak_iload d rfl) <|
  am_kd (fun d => ak_bipush d (by decide +kernel) rfl) <|
  am_kd (fun d => ak_callV (C := RX8) (F := TX8) (N := 27) metX8_ofLoan rfl ⟨rfl, hy_X8_ofLoan⟩ (am_w5 wd_1154 wd_1156 wd_41 wd_67 wd_1157) (by decide) d rfl) <|
  am_kd (fun d => ak_icmp_lt d (by decide +kernel) rfl) <|
  am_kd (fun d => ak_aload_n d rfl rfl) <|
  am_kd (fun d => ak_getR (C := RX8) (T := TX8) (N := 27) rfl inX8w (by decide) rfl rfl rfl wd_911 d rfl) <|
  am_kd (fun d => ak_iload d rfl) <|
  am_kd (fun d => ak_lald (t := 1) (fun _ => rfl) rfl d rfl) <|
  am_kd (fun d => ak_goto d (by decide +kernel)) <|
  am_kd (fun d => ak_lconst d (by decide +kernel) rfl) <|
  am_kd (fun d => ak_ladd d rfl) <|
  am_kd (fun d => ak_last (t := 1) (fun _ => rfl) rfl d rfl) <|
  am_kd (fun d => ak_iinc d (by decide +kernel) rfl) <|
  am_kd (fun d => ak_goto d (by decide +kernel)) <|
  am_kd (fun d => ak_retV d) <| am_kdn
theorem r_rem {x y : Int32} (hx : 0 ≤ x.toInt) (hy : 0 < y.toInt) : 0 ≤ (x - x / y * y).toInt ∧ (x - x / y * y).toInt < y.toInt := by
  have e := i_div hx hy
  have hh := i_hi x
  have h1 := Int.mul_ediv_add_emod x.toInt y.toInt
  have h2 := Int.emod_nonneg x.toInt (show y.toInt ≠ 0 by omega)
  have h3 := Int.emod_lt_of_pos x.toInt hy
  have h4 : (x.toInt / y.toInt) * y.toInt = y.toInt * (x.toInt / y.toInt) := Int.mul_comm _ _
  have h5 := Int.mul_nonneg (Int.le_of_lt hy) (Int.ediv_nonneg hx (Int.le_of_lt hy))
  have e2 := i_mul (x := x / y) (y := y) (by rw [e, h4]; omega) (by rw [e, h4]; omega)
  rw [e, h4] at e2
  have e3 := i_sub (x := x) (y := x / y * y) (by omega) (by omega)
  omega
def TX8_stepYear : am_T := fun live as M R => match as with
  | [.ref n, .int p, .int y, .int e, .int a, .int d, .long q] => am_mn live ∧ n = 200 ∧ am_in p 12 ∧ am_in y 40 ∧ am_in a 4 ∧ r_I M ∧ ∀ M', r_sc M M' → r_I M' → R none M'
  | _ => False
def JX8_stepYear : am_E → List Value → am_M → am_R → am_inv := fun live as M0 _ pc => match as with
  | [.ref n, .int p, .int y, .int e, .int a, .int d, .long q] => (match pc with
    | 3 => some ([0, 1, 2, 3, 4, 5, 6, 8], fun k L st M => ∃ i : Int32, L = [(0, .ref 200), (1, .int p), (2, .int y), (3, .int e), (4, .int a), (5, .int d), (6, .long q), (8, .int i)] ∧ st = [] ∧ k = (2000 + (31 - i.toInt).toNat, 0) ∧ 0 ≤ i.toInt ∧ r_sc M0 M ∧ r_I M)
    | 50 => some ([0, 1, 2, 3, 4, 6, 8, 10], fun k L st M => ∃ (u : Int64) (i : Int32), L = [(0, .ref 200), (1, .int p), (2, .int y), (3, .int e), (4, .int a), (6, .long q), (8, .long u), (10, .int i)] ∧ st = [] ∧ k = (1000 + (310 - i.toInt).toNat, 0) ∧ 0 ≤ i.toInt ∧ r_sc M0 M ∧ r_I M)
    | 169 => some ([0, 1, 2, 3, 4, 10, 12], fun k L st M => ∃ (u : Int64) (i : Int32), L = [(0, .ref 200), (1, .int p), (2, .int y), (3, .int e), (4, .int a), (10, .long u), (12, .int i)] ∧ st = [] ∧ k = ((310 - i.toInt).toNat, 0) ∧ 0 ≤ i.toInt ∧ r_sc M0 M ∧ r_I M)
    | _ => none)
  | _ => none
set_option maxRecDepth 100000 in
set_option maxHeartbeats 4000000 in
theorem metX8_stepYear : am_Met yX8_stepYear cX8_stepYear 16 none (8) (193) TX8_stepYear := by
  refine am_met (own := RX8) (by decide +kernel) rfl kX8_stepYear koX8_stepYear 150 JX8_stepYear ?_ ?_
  · intro live as M Ret h
    unfold TX8_stepYear at h
    split at h
    · next n p y e a d q =>
      refine ⟨Nat.le_of_ble_eq_true rfl, ?_⟩
      change am_wp _ _ _ _ [(0, Value.ref n), (1, Value.int p), (2, Value.int y), (3, Value.int e), (4, Value.int a), (5, Value.int d), (6, Value.long q)] _ _
      obtain ⟨hmn, rfl, hp, hy, ha, hR, h⟩ := h
      repeat' (first | apply And.intro | exact rfl | intro hx | (refine Exists.intro _ (And.intro rfl ?_)))
      all_goals try first | (with_reducible change am_tI _ _) | (change Ret _ _) | (change Ret _ _ _) | (change Exists _)
      all_goals try dsimp only at *
      all_goals try (with_reducible exact absurd ‹(1000 : Int64) = 0› am_z1000)
      exact ⟨_, _, rfl, rfl, rfl, by decide, r_sc.rf, hR⟩
    · exact h.elim
  · intro live as M0 Ret h k pc I hI L st M hi
    unfold TX8_stepYear at h
    split at h
    · next n p y e a d q =>
      obtain ⟨hmn, rfl, hp, hy, ha, hR, h⟩ := h
      have hmn2 := hmn
      obtain ⟨i1, i2, rfl⟩ := hmn2
      have l201 : am_len 201 = 3760 := rfl
      have w0 : 0 ≤ (0 : Int32).toInt ∧ (0 : Int32).toInt ≤ 7 := ⟨by decide, by decide⟩
      have w7 : 0 ≤ (7 : Int32).toInt ∧ (7 : Int32).toInt ≤ 7 := ⟨by decide, by decide⟩
      have x1l : (1 : Int32).toInt < (am_len 201 : Int) := by rw [l201]; decide
      change (match pc with | 3 => _ | 50 => _ | 169 => _ | _ => none) = _ at hI
      split at hI
      · cases hI
        obtain ⟨i, rfl, rfl, rfl, e1, e2, e3⟩ := hi
        have n1 : 0 ≤ (M.1 201 (Int32.toNatClampNeg 1)).toInt ∧ (M.1 201 (Int32.toNatClampNeg 1)).toInt ≤ 30 := e3.n1
        by_cases hz : M.1 201 (Int32.toNatClampNeg 1) ≤ i
        · skip
          repeat' (first | (with_reducible exact x1l) | apply And.intro | exact rfl | (intro hx; with_reducible exact absurd hz hx) | (intro hx; exact absurd hx (by decide)) | (intro hx; exact absurd (by decide) hx) | decide | intro hx | (refine Exists.intro _ (And.intro rfl ?_)))
          all_goals try first | (with_reducible change am_tI _ _) | (change Ret _ _) | (change Ret _ _ _) | (change Exists _)
          all_goals try dsimp only at *
          all_goals try (with_reducible exact absurd ‹(1000 : Int64) = 0› am_z1000)
          all_goals exact ⟨_, am_lt_l (by simp only [Int32.reduceToInt]; omega), _, _, rfl, rfl, rfl, by decide, e2, e3⟩
        · have hz2 := hz
          simp only [i_le] at hz2
          have hl : am_in i 30 := ⟨e1, by omega⟩
          have hi := i_inc (x := i) (by omega) (by omega)
          repeat' (first | (with_reducible exact x1l) | (with_reducible exact hmn) | (with_reducible exact hl) | (with_reducible exact hy) | (with_reducible exact w0) | (with_reducible exact e3) | apply And.intro | exact rfl | (intro hx; with_reducible exact absurd hx hz) | ((with_reducible change r_I _); (with_reducible assumption)) | (intro hx; exact absurd hx (by decide)) | (intro hx; exact absurd (by decide) hx) | decide | intro hx | (refine Exists.intro _ (And.intro rfl ?_)))
          all_goals try first | (with_reducible change am_tI _ _) | (change Ret _ _) | (change Ret _ _ _) | (change Exists _)
          all_goals try dsimp only at *
          all_goals try (with_reducible exact absurd ‹(1000 : Int64) = 0› am_z1000)
          all_goals exact ⟨_, am_lt_l (by omega), _, rfl, rfl, rfl, by omega, by (repeat' (first | (with_reducible exact r_sc.rf) | (with_reducible assumption) | ((with_reducible change r_sc _ (am_wI _ _ _ _)); refine r_sc.wI ?_ rfl) | ((with_reducible change r_sc _ (am_wJ _ _ _ _)); refine r_sc.wJ ?_ rfl) | (refine r_sc.tr ?_ (by with_reducible assumption)))), by (repeat' (first | (with_reducible assumption) | ((with_reducible change r_I (am_wJ _ _ _ _)); refine r_I.wJ ?_) | ((with_reducible change r_I (am_wI _ _ _ _)); refine r_I.wI ?_ rfl)))⟩
      · cases hI
        obtain ⟨u, i, rfl, rfl, rfl, e1, e2, e3⟩ := hi
        have n1 : 0 ≤ (M.1 201 (Int32.toNatClampNeg 1)).toInt ∧ (M.1 201 (Int32.toNatClampNeg 1)).toInt ≤ 30 := e3.n1
        have e10 := r_mul (c := 10) (x := M.1 201 (Int32.toNatClampNeg 1)) ⟨by decide, by decide⟩ ⟨n1.1, by omega⟩
        simp only [Int32.reduceToInt] at e10
        by_cases hz : 10 * M.1 201 (Int32.toNatClampNeg 1) ≤ i
        · skip
          repeat' (first | (with_reducible exact x1l) | apply And.intro | exact rfl | (intro hx; with_reducible exact absurd hz hx) | (intro hx; exact absurd hx (by decide)) | (intro hx; exact absurd (by decide) hx) | decide | intro hx | (refine Exists.intro _ (And.intro rfl ?_)))
          all_goals try first | (with_reducible change am_tI _ _) | (change Ret _ _) | (change Ret _ _ _) | (change Exists _)
          all_goals try dsimp only at *
          all_goals try (with_reducible exact absurd ‹(1000 : Int64) = 0› am_z1000)
          all_goals exact ⟨_, am_lt_l (by simp only [Int32.reduceToInt]; omega), _, _, rfl, rfl, rfl, by decide, by (repeat' (first | (with_reducible exact r_sc.rf) | (with_reducible assumption) | ((with_reducible change r_sc _ (am_wI _ _ _ _)); refine r_sc.wI ?_ rfl) | ((with_reducible change r_sc _ (am_wJ _ _ _ _)); refine r_sc.wJ ?_ rfl) | (refine r_sc.tr ?_ (by with_reducible assumption)))), by (repeat' (first | (with_reducible assumption) | ((with_reducible change r_I (am_wJ _ _ _ _)); refine r_I.wJ ?_) | ((with_reducible change r_I (am_wI _ _ _ _)); refine r_I.wI ?_ rfl)))⟩
        · have hz2 := hz
          simp only [i_le] at hz2
          have hi := i_inc (x := i) (by omega) (by omega)
          have hc : 0 < (M.1 201 (Int32.toNatClampNeg 1)).toInt := by omega
          have hc0 : ¬ M.1 201 (Int32.toNatClampNeg 1) = 0 := fun z => by rw [z] at hc; exact absurd hc (by decide)
          have hq := r_rem e1 hc
          have hl : am_in (i - i / M.1 201 (Int32.toNatClampNeg 1) * M.1 201 (Int32.toNatClampNeg 1)) 30 := ⟨hq.1, by omega⟩
          have x1 := hl.1
          have x2 : (i - i / M.1 201 (Int32.toNatClampNeg 1) * M.1 201 (Int32.toNatClampNeg 1)).toInt < ((30 : Nat) : Int) := hl.2
          repeat' (first | (with_reducible exact x1l) | (with_reducible exact hmn) | (with_reducible exact hl) | (with_reducible exact hp) | (with_reducible exact e3) | (with_reducible exact x1) | (with_reducible exact hc0) | apply And.intro | exact rfl | (intro hx; with_reducible exact absurd hx hz) | ((with_reducible change r_I _); (with_reducible assumption)) | (intro hx; exact absurd hx (by decide)) | (intro hx; exact absurd (by decide) hx) | decide | intro hx | (refine Exists.intro _ (And.intro rfl ?_)))
          all_goals try first | (with_reducible change am_tI _ _) | (change Ret _ _) | (change Ret _ _ _) | (change Exists _)
          all_goals try dsimp only at *
          all_goals try (with_reducible exact absurd ‹(1000 : Int64) = 0› am_z1000)
          all_goals first
            | (with_reducible exact x2)
            | exact hc0 (by with_reducible assumption)
            | exact x2
            | exact ⟨_, am_lt_l (by omega), _, _, rfl, rfl, rfl, by omega, by (repeat' (first | (with_reducible exact r_sc.rf) | (with_reducible assumption) | ((with_reducible change r_sc _ (am_wI _ _ _ _)); refine r_sc.wI ?_ rfl) | ((with_reducible change r_sc _ (am_wJ _ _ _ _)); refine r_sc.wJ ?_ rfl) | (refine r_sc.tr ?_ (by with_reducible assumption)))), by (repeat' (first | (with_reducible assumption) | ((with_reducible change r_I (am_wJ _ _ _ _)); refine r_I.wJ ?_) | ((with_reducible change r_I (am_wI _ _ _ _)); refine r_I.wI ?_ rfl)))⟩
            | skip
      · cases hI
        obtain ⟨u, i, rfl, rfl, rfl, e1, e2, e3⟩ := hi
        have n1 : 0 ≤ (M.1 201 (Int32.toNatClampNeg 1)).toInt ∧ (M.1 201 (Int32.toNatClampNeg 1)).toInt ≤ 30 := e3.n1
        have e10 := r_mul (c := 10) (x := M.1 201 (Int32.toNatClampNeg 1)) ⟨by decide, by decide⟩ ⟨n1.1, by omega⟩
        simp only [Int32.reduceToInt] at e10
        by_cases hz : 10 * M.1 201 (Int32.toNatClampNeg 1) ≤ i
        · skip
          repeat' (first | (with_reducible exact x1l) | apply And.intro | exact rfl | (intro hx; with_reducible exact absurd hz hx) | (intro hx; exact absurd hx (by decide)) | (intro hx; exact absurd (by decide) hx) | decide | intro hx | (refine Exists.intro _ (And.intro rfl ?_)))
          all_goals try first | (with_reducible change am_tI _ _) | (change Ret _ _) | (change Ret _ _ _) | (change Exists _)
          all_goals try dsimp only at *
          all_goals try (with_reducible exact absurd ‹(1000 : Int64) = 0› am_z1000)
          all_goals exact h _ e2 e3
        · have hz2 := hz
          simp only [i_le] at hz2
          have hi := i_inc (x := i) (by omega) (by omega)
          have hc : 0 < (M.1 201 (Int32.toNatClampNeg 1)).toInt := by omega
          have hc0 : ¬ M.1 201 (Int32.toNatClampNeg 1) = 0 := fun z => by rw [z] at hc; exact absurd hc (by decide)
          have hq := r_rem e1 hc
          have hl : am_in (i - i / M.1 201 (Int32.toNatClampNeg 1) * M.1 201 (Int32.toNatClampNeg 1)) 30 := ⟨hq.1, by omega⟩
          have x1 := hl.1
          have x2 : (i - i / M.1 201 (Int32.toNatClampNeg 1) * M.1 201 (Int32.toNatClampNeg 1)).toInt < ((30 : Nat) : Int) := hl.2
          repeat' (first | (with_reducible exact x1l) | (with_reducible exact hmn) | (with_reducible exact hl) | (with_reducible exact hp) | (with_reducible exact ha) | (with_reducible exact w7) | (with_reducible exact e3) | (with_reducible exact x1) | (with_reducible exact hc0) | apply And.intro | exact rfl | (intro hx; with_reducible exact absurd hx hz) | ((with_reducible change r_I _); (with_reducible assumption)) | (intro hx; exact absurd hx (by decide)) | (intro hx; exact absurd (by decide) hx) | decide | intro hx | (refine Exists.intro _ (And.intro rfl ?_)))
          all_goals try first | (with_reducible change am_tI _ _) | (change Ret _ _) | (change Ret _ _ _) | (change Exists _)
          all_goals try dsimp only at *
          all_goals try (with_reducible exact absurd ‹(1000 : Int64) = 0› am_z1000)
          all_goals first
            | (with_reducible exact x2)
            | exact hc0 (by with_reducible assumption)
            | exact x2
            | exact ⟨_, am_lt_l (by omega), _, _, rfl, rfl, rfl, by omega, by (repeat' (first | (with_reducible exact r_sc.rf) | (with_reducible assumption) | ((with_reducible change r_sc _ (am_wI _ _ _ _)); refine r_sc.wI ?_ rfl) | ((with_reducible change r_sc _ (am_wJ _ _ _ _)); refine r_sc.wJ ?_ rfl) | (refine r_sc.tr ?_ (by with_reducible assumption)))), by (repeat' (first | (with_reducible assumption) | ((with_reducible change r_I (am_wJ _ _ _ _)); refine r_I.wJ ?_) | ((with_reducible change r_I (am_wI _ _ _ _)); refine r_I.wI ?_ rfl)))⟩
            | skip
      · cases hI
    · exact h.elim
theorem hy_X8_beginRun : yX8_beginRun.cls ≠ "java/lang/invoke/MethodHandle" ∧ yX8_beginRun.cls ≠ "java/lang/invoke/VarHandle" ∧ (parseMethodDescriptor yX8_beginRun.desc).map (fun d => d.parameters.length) = some 0 := ⟨by decide +kernel, by decide +kernel, by decide +kernel⟩
set_option maxRecDepth 100000 in
theorem wd_1162 : Cond.methodLink "LearnLoansModel" 226 yX8_beginRun ∈ am_ws := am_wt5 (List.mem_of_getElem? (i := 145) (by rfl)) (by decide +kernel)
set_option maxRecDepth 100000 in
theorem wd_1164 : Cond.instanceMethod yX8_beginRun ∈ am_ws := am_wt5 (List.mem_of_getElem? (i := 147) (by rfl)) (by decide +kernel)
set_option maxRecDepth 100000 in
theorem wd_43 : Cond.selects "LearnLoansModel" yX8_beginRun yX8_beginRun ∈ am_ws := am_wsi (List.mem_of_getElem? (i := 43) (by rfl)) (by decide +kernel)
set_option maxRecDepth 100000 in
theorem wd_1165 : Cond.code yX8_beginRun cX8_beginRun 2 none ∈ am_ws := am_wt5 (List.mem_of_getElem? (i := 148) (by rfl)) (by decide +kernel)
theorem hy_X8_stepYear : yX8_stepYear.cls ≠ "java/lang/invoke/MethodHandle" ∧ yX8_stepYear.cls ≠ "java/lang/invoke/VarHandle" ∧ (parseMethodDescriptor yX8_stepYear.desc).map (fun d => d.parameters.length) = some 6 := ⟨by decide +kernel, by decide +kernel, by decide +kernel⟩
set_option maxRecDepth 100000 in
theorem wd_1166 : Cond.methodLink "LearnLoansModel" 229 yX8_stepYear ∈ am_ws := am_wt5 (List.mem_of_getElem? (i := 149) (by rfl)) (by decide +kernel)
set_option maxRecDepth 100000 in
theorem wd_1168 : Cond.instanceMethod yX8_stepYear ∈ am_ws := am_wt5 (List.mem_of_getElem? (i := 151) (by rfl)) (by decide +kernel)
set_option maxRecDepth 100000 in
theorem wd_44 : Cond.selects "LearnLoansModel" yX8_stepYear yX8_stepYear ∈ am_ws := am_wsi (List.mem_of_getElem? (i := 44) (by rfl)) (by decide +kernel)
set_option maxRecDepth 100000 in
theorem wd_1169 : Cond.code yX8_stepYear cX8_stepYear 16 none ∈ am_ws := am_wt5 (List.mem_of_getElem? (i := 152) (by rfl)) (by decide +kernel)
def rwX8_run : List dz_r := [(0, .aload_n 0, 1), (1, .invokevirtual 226, 3), (4, .iconst 0, 1), (5, .istore 4, 2), (7, .iload 4, 2), (9, .iload_n 2, 1), (10, .if_icmp .gt 68, 3), (13, .aload_n 0, 1), (14, .getfield 7, 3), (17, .bipush 22, 2), (19, .iload_n 1, 1), (20, .iadd, 1), (21, .iaload, 1), (22, .istore 5, 2), (24, .aload_n 0, 1), (25, .iload_n 1, 1), (26, .iload 4, 2), (28, .aload_n 0, 1), (29, .iload_n 1, 1), (30, .iload 4, 2), (32, .iload_n 3, 1), (33, .invokevirtual 89, 3), (36, .aload_n 0, 1), (37, .getfield 7, 3), (40, .bipush 34, 2), (42, .bipush 40, 2), (44, .iload_n 1, 1), (45, .imul, 1), (46, .iadd, 1), (47, .iload 4, 2), (49, .iadd, 1), (50, .iaload, 1), (51, .iload 5, 2), (53, .ifCond .lt 14, 3), (56, .iload 5, 2), (58, .iload 4, 2), (60, .if_icmp .gt 7, 3), (63, .iconst 1, 1), (64, .goto 4, 3), (67, .iconst 0, 1), (68, .lconst 0, 1), (69, .invokevirtual 229, 3), (72, .iinc 4 1, 3), (75, .goto (-68), 3), (78, .return_, 1)]
theorem dzX8_run : dz cX8_run rwX8_run := dz_all 0 (by decide +kernel)
def kX8_run (live : am_E) (Ret : am_R) : am_code := [(0, am_aload 0 1), (1, am_callV live 8 0 TX8_beginRun 4), (4, am_const (.int 0) 5), (5, am_istore 4 6 7), (7, am_iload 4 9), (9, am_iload 2 10), (10, am_if2 (fun x y => y < x) 78 13), (13, am_aload 0 14), (14, am_getR live 8 0 17), (17, am_const (.int 22) 19), (19, am_iload 1 20), (20, am_i2 (fun x y => x + y) 21), (21, am_ald live 0 22), (22, am_istore 5 6 24), (24, am_aload 0 25), (25, am_iload 1 26), (26, am_iload 4 28), (28, am_aload 0 29), (29, am_iload 1 30), (30, am_iload 4 32), (32, am_iload 3 33), (33, am_callV live 8 3 TX8_earningsOf 36), (36, am_aload 0 37), (37, am_getR live 8 0 40), (40, am_const (.int 34) 42), (42, am_const (.int 40) 44), (44, am_iload 1 45), (45, am_i2 (fun x y => x * y) 46), (46, am_i2 (fun x y => x + y) 47), (47, am_iload 4 49), (49, am_i2 (fun x y => x + y) 50), (50, am_ald live 0 51), (51, am_iload 5 53), (53, am_if1 (fun x => x < 0) 67 56), (56, am_iload 5 58), (58, am_iload 4 60), (60, am_if2 (fun x y => y < x) 67 63), (63, am_const (.int 1) 64), (64, am_goto 68), (67, am_const (.int 0) 68), (68, am_const (.long 0) 69), (69, am_callV live 8 6 TX8_stepYear 72), (72, am_iinc 4 6 1 75), (75, am_goto 7), (78, am_retV Ret)]
theorem koX8_run (live : am_E) (Ret : am_R) : ∀ q ∈ kX8_run live Ret, am_ok RX8 cX8_run 6 none 9 228 live Ret q.1 q.2 :=
  am_kz dzX8_run <|
  am_kd (fun d => ak_aload_n d rfl rfl) <|
  am_kd (fun d => ak_callV (C := RX8) (F := TX8) (N := 27) metX8_beginRun rfl ⟨rfl, hy_X8_beginRun⟩ (am_w5 wd_1162 wd_1164 wd_43 wd_67 wd_1165) (by decide) d rfl) <|
  am_kd (fun d => ak_iconst d (by decide +kernel) rfl) <|
  am_kd (fun d => ak_istore d rfl) <|
  am_kd (fun d => ak_iload d rfl) <|
  am_kd (fun d => ak_iload_n d rfl rfl) <|
  am_kd (fun d => ak_icmp_gt d (by decide +kernel) rfl) <|
  am_kd (fun d => ak_aload_n d rfl rfl) <|
  am_kd (fun d => ak_getR (C := RX8) (T := TX8) (N := 27) rfl inX8w (by decide) rfl rfl rfl wd_895 d rfl) <|
  am_kd (fun d => ak_bipush d (by decide +kernel) rfl) <|
  am_kd (fun d => ak_iload_n d rfl rfl) <|
  am_kd (fun d => ak_iadd d rfl) <|
  am_kd (fun d => ak_iald (t := 0) (fun _ => rfl) rfl d rfl) <|
  am_kd (fun d => ak_istore d rfl) <|
  am_kd (fun d => ak_aload_n d rfl rfl) <|
  am_kd (fun d => ak_iload_n d rfl rfl) <|
  am_kd (fun d => ak_iload d rfl) <|
  am_kd (fun d => ak_aload_n d rfl rfl) <|
  am_kd (fun d => ak_iload_n d rfl rfl) <|
  am_kd (fun d => ak_iload d rfl) <|
  am_kd (fun d => ak_iload_n d rfl rfl) <|
  am_kd (fun d => ak_callV (C := RX8) (F := TX8) (N := 27) metX8_earningsOf rfl ⟨rfl, hy_X8_earningsOf⟩ (am_w5 wd_1026 wd_1028 wd_28 wd_67 wd_1029) (by decide) d rfl) <|
  am_kd (fun d => ak_aload_n d rfl rfl) <|
  am_kd (fun d => ak_getR (C := RX8) (T := TX8) (N := 27) rfl inX8w (by decide) rfl rfl rfl wd_895 d rfl) <|
  am_kd (fun d => ak_bipush d (by decide +kernel) rfl) <|
  am_kd (fun d => ak_bipush d (by decide +kernel) rfl) <|
  am_kd (fun d => ak_iload_n d rfl rfl) <|
  am_kd (fun d => ak_imul d rfl) <|
  am_kd (fun d => ak_iadd d rfl) <|
  am_kd (fun d => ak_iload d rfl) <|
  am_kd (fun d => ak_iadd d rfl) <|
  am_kd (fun d => ak_iald (t := 0) (fun _ => rfl) rfl d rfl) <|
  am_kd (fun d => ak_iload d rfl) <|
  am_kd (fun d => ak_if_lt d (by decide +kernel) rfl) <|
  am_kd (fun d => ak_iload d rfl) <|
  am_kd (fun d => ak_iload d rfl) <|
  am_kd (fun d => ak_icmp_gt d (by decide +kernel) rfl) <|
  am_kd (fun d => ak_iconst d (by decide +kernel) rfl) <|
  am_kd (fun d => ak_goto d (by decide +kernel)) <|
  am_kd (fun d => ak_iconst d (by decide +kernel) rfl) <|
  am_kd (fun d => ak_lconst d (by decide +kernel) rfl) <|
  am_kd (fun d => ak_callV (C := RX8) (F := TX8) (N := 27) metX8_stepYear rfl ⟨rfl, hy_X8_stepYear⟩ (am_w5 wd_1166 wd_1168 wd_44 wd_67 wd_1169) (by decide) d rfl) <|
  am_kd (fun d => ak_iinc d (by decide +kernel) rfl) <|
  am_kd (fun d => ak_goto d (by decide +kernel)) <|
  am_kd (fun d => ak_retV d) <| am_kdn
def TX8_run : am_T := fun live as M R => match as with
  | [.ref n, .int p, .int u, .int k] => am_mn live ∧ n = 200 ∧ am_in p 12 ∧ u.toInt ≤ 39 ∧ r_I M ∧ ∀ M', r_sc M M' → r_I M' → R none M'
  | _ => False
def JX8_run : am_E → List Value → am_M → am_R → am_inv := fun live as M0 _ pc => match as with
  | [.ref n, .int p, .int u, .int w] => (match pc with
    | 7 => some ([0, 1, 2, 3, 4], fun k L st M => ∃ i : Int32, L = [(0, .ref 200), (1, .int p), (2, .int u), (3, .int w), (4, .int i)] ∧ st = [] ∧ k = ((41 - i.toInt).toNat, 0) ∧ 0 ≤ i.toInt ∧ r_sc M0 M ∧ r_I M)
    | _ => none)
  | _ => none
set_option maxRecDepth 100000 in
set_option maxHeartbeats 4000000 in
theorem metX8_run : am_Met yX8_run cX8_run 6 none (9) (228) TX8_run := by
  refine am_met (own := RX8) (by decide +kernel) rfl kX8_run koX8_run 100 JX8_run ?_ ?_
  · intro live as M Ret h
    unfold TX8_run at h
    split at h
    · next n p u k =>
      refine ⟨Nat.le_of_ble_eq_true rfl, ?_⟩
      change am_wp _ _ _ _ [(0, Value.ref n), (1, Value.int p), (2, Value.int u), (3, Value.int k)] _ _
      obtain ⟨hmn, rfl, hp, hu, hR, h⟩ := h
      have hmn2 := hmn
      obtain ⟨i1, i2, rfl⟩ := hmn2
      repeat' (first | (with_reducible exact hmn) | (with_reducible exact hR) | apply And.intro | exact rfl | ((with_reducible change r_I _); (with_reducible assumption)) | intro hx | (refine Exists.intro _ (And.intro rfl ?_)))
      all_goals try first | (with_reducible change am_tI _ _) | (change Ret _ _) | (change Ret _ _ _) | (change Exists _)
      all_goals try dsimp only at *
      all_goals try (with_reducible exact absurd ‹(1000 : Int64) = 0› am_z1000)
      exact ⟨_, _, rfl, rfl, rfl, by decide, by (repeat' (first | (with_reducible exact r_sc.rf) | (with_reducible assumption) | ((with_reducible change r_sc _ (am_wI _ _ _ _)); refine r_sc.wI ?_ rfl) | ((with_reducible change r_sc _ (am_wJ _ _ _ _)); refine r_sc.wJ ?_ rfl) | (refine r_sc.tr ?_ (by with_reducible assumption)))), by (repeat' (first | (with_reducible assumption) | ((with_reducible change r_I (am_wJ _ _ _ _)); refine r_I.wJ ?_) | ((with_reducible change r_I (am_wI _ _ _ _)); refine r_I.wI ?_ rfl)))⟩
    · exact h.elim
  · intro live as M0 Ret h k pc I hI L st M hi
    unfold TX8_run at h
    split at h
    · next n p u k =>
      obtain ⟨hmn, rfl, hp, hu, hR, h⟩ := h
      have hmn2 := hmn
      obtain ⟨i1, i2, rfl⟩ := hmn2
      have l201 : am_len 201 = 3760 := rfl
      have p1 := hp.1
      have p2 := hp.2
      change (match pc with | 7 => _ | _ => none) = _ at hI
      split at hI
      · cases hI
        obtain ⟨i, rfl, rfl, rfl, e1, e2, e3⟩ := hi
        by_cases hz : u < i
        · skip
          repeat' (first | apply And.intro | exact rfl | (intro hx; with_reducible exact absurd hz hx) | intro hx | (refine Exists.intro _ (And.intro rfl ?_)))
          all_goals try first | (with_reducible change am_tI _ _) | (change Ret _ _) | (change Ret _ _ _) | (change Exists _)
          all_goals try dsimp only at *
          all_goals try (with_reducible exact absurd ‹(1000 : Int64) = 0› am_z1000)
          exact h _ e2 e3
        · have hz2 := hz
          simp only [i_lt] at hz2
          have hy : am_in i 40 := ⟨e1, by omega⟩
          have hi := i_inc (x := i) (by omega) (by omega)
          have e22 := r_off (c := 22) (x := p) ⟨by decide, by decide⟩ ⟨by omega, by omega⟩
          have e40 := r_mul (c := 40) (x := p) ⟨by decide, by decide⟩ ⟨by omega, by omega⟩
          simp only [Int32.reduceToInt] at e22 e40
          have ea := r_off (c := 34) (x := 40 * p) ⟨by decide, by decide⟩ ⟨by omega, by omega⟩
          simp only [e40, Int32.reduceToInt] at ea
          have eb := r_off (c := 34 + 40 * p) (x := i) ⟨by omega, by omega⟩ ⟨by omega, by omega⟩
          rw [ea] at eb
          have x1 : 0 ≤ (22 + p).toInt := by omega
          have x2 : (22 + p).toInt < (am_len 201 : Int) := by rw [l201]; omega
          have x3 : 0 ≤ (34 + 40 * p + i).toInt := by omega
          have x4 : (34 + 40 * p + i).toInt < (am_len 201 : Int) := by rw [l201]; omega
          have hla : am_in (M.1 201 (34 + 40 * p + i).toNatClampNeg) 4 := by
            have c1 := i_clamp (x := 34 + 40 * p + i) x3
            have c2 := i_clamp (x := p) p1
            have c3 := i_clamp (x := i) e1
            rw [show (34 + 40 * p + i).toNatClampNeg = 34 + (40 * p.toNatClampNeg + i.toNatClampNeg) by omega]
            exact e3.ld (by omega)
          repeat' (first | (with_reducible exact x1) | (with_reducible exact x2) | (with_reducible exact x3) | (with_reducible exact x4) | (with_reducible exact hmn) | (with_reducible exact hp) | (with_reducible exact hy) | (with_reducible exact hla) | (with_reducible exact e3) | apply And.intro | exact rfl | (intro hx; with_reducible exact absurd hx hz) | ((with_reducible change r_I _); (with_reducible assumption)) | (intro hx; exact absurd hx (by decide)) | (intro hx; exact absurd (by decide) hx) | decide | intro hx | (refine Exists.intro _ (And.intro rfl ?_)))
          all_goals try first | (with_reducible change am_tI _ _) | (change Ret _ _) | (change Ret _ _ _) | (change Exists _)
          all_goals try dsimp only at *
          all_goals try (with_reducible exact absurd ‹(1000 : Int64) = 0› am_z1000)
          all_goals first
            | exact ⟨_, am_lt_l (by omega), _, rfl, rfl, rfl, by omega, by (repeat' (first | (with_reducible exact r_sc.rf) | (with_reducible assumption) | ((with_reducible change r_sc _ (am_wI _ _ _ _)); refine r_sc.wI ?_ rfl) | ((with_reducible change r_sc _ (am_wJ _ _ _ _)); refine r_sc.wJ ?_ rfl) | (refine r_sc.tr ?_ (by with_reducible assumption)))), by (repeat' (first | (with_reducible assumption) | ((with_reducible change r_I (am_wJ _ _ _ _)); refine r_I.wJ ?_) | ((with_reducible change r_I (am_wI _ _ _ _)); refine r_I.wI ?_ rfl)))⟩
            | skip
      · cases hI
    · exact h.elim
