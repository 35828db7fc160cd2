/-! Text: worked -/
theorem hy_X1_valueOf : yX1_valueOf.cls ≠ "java/lang/invoke/MethodHandle" ∧ yX1_valueOf.cls ≠ "java/lang/invoke/VarHandle" ∧ (parseMethodDescriptor yX1_valueOf.desc).map (fun d => d.parameters.length) = some 1 := ⟨by decide +kernel, by decide +kernel, by decide +kernel⟩
set_option maxRecDepth 100000 in
theorem wd_599 : Cond.methodLink "LearnLoans$Text" 86 yX1_valueOf ∈ am_ws := am_wt3 (List.mem_of_getElem? (i := 62) (by rfl)) (by decide +kernel)
set_option maxRecDepth 100000 in
theorem wd_600 : Cond.instanceMethod yX1_valueOf ∈ am_ws := am_wt3 (List.mem_of_getElem? (i := 63) (by rfl)) (by decide +kernel)
set_option maxRecDepth 100000 in
theorem wd_601 : Cond.selects "LearnLoans$Letters" yX1_valueOf yX1_valueOf ∈ am_ws := am_wt3 (List.mem_of_getElem? (i := 64) (by rfl)) (by decide +kernel)
set_option maxRecDepth 100000 in
theorem wd_66 : Cond.initialized "LearnLoans$Letters" ∈ am_ws := am_wt1 (List.mem_of_getElem? (i := 9) (by rfl)) (by decide +kernel)
set_option maxRecDepth 100000 in
theorem wd_602 : Cond.code yX1_valueOf cX1_valueOf 2 (some .long) ∈ am_ws := am_wt3 (List.mem_of_getElem? (i := 65) (by rfl)) (by decide +kernel)
theorem hy_X5_joined : yX5_joined.cls ≠ "java/lang/invoke/MethodHandle" ∧ yX5_joined.cls ≠ "java/lang/invoke/VarHandle" ∧ (parseMethodDescriptor yX5_joined.desc).map (fun d => d.parameters.length) = some 3 := ⟨by decide +kernel, by decide +kernel, by decide +kernel⟩
set_option maxRecDepth 100000 in
theorem wd_603 : Cond.methodLink "LearnLoans$Text" 92 yX5_joined ∈ am_ws := am_wt3 (List.mem_of_getElem? (i := 66) (by rfl)) (by decide +kernel)
set_option maxRecDepth 100000 in
theorem wd_604 : Cond.static yX5_joined ∈ am_ws := am_wt3 (List.mem_of_getElem? (i := 67) (by rfl)) (by decide +kernel)
set_option maxRecDepth 100000 in
theorem wd_605 : Cond.code yX5_joined cX5_joined 5 (some .long) ∈ am_ws := am_wt3 (List.mem_of_getElem? (i := 68) (by rfl)) (by decide +kernel)
def rwX5_worked : List dz_r := [(0, .iconst 0, 1), (1, .istore_n 3, 1), (2, .iconst 0, 1), (3, .istore 4, 2), (5, .iload 4, 2), (7, .aload_n 0, 1), (8, .getfield 25, 3), (11, .if_icmp .ge 189, 3), (14, .iload 4, 2), (16, .bipush 50, 2), (18, .if_icmp .ge 182, 3), (21, .aload_n 0, 1), (22, .getfield 15, 3), (25, .iload 4, 2), (27, .iaload, 1), (28, .istore 5, 2), (30, .iload 5, 2), (32, .ifCond .lt 7, 3), (35, .iconst 0, 1), (36, .goto 9, 3), (39, .iload 5, 2), (41, .ineg, 1), (42, .invokestatic 83, 3), (45, .istore 6, 2), (47, .iload_n 3, 1), (48, .iload 6, 2), (50, .if_icmp .lt 12, 3), (53, .iload_n 3, 1), (54, .iload 6, 2), (56, .isub, 1), (57, .aload_n 2, 1), (58, .arraylength, 1), (59, .if_icmp .lt 5, 3), (62, .lconst 0, 1), (63, .lreturn, 1), (64, .iload_n 3, 1), (65, .iload 6, 2), (67, .isub, 1), (68, .istore_n 3, 1), (69, .iload 5, 2), (71, .ifCond .lt 12, 3), (74, .aload_n 2, 1), (75, .iload_n 3, 1), (76, .iload 5, 2), (78, .i2l, 1), (79, .lastore, 1), (80, .goto 111, 3), (83, .iload 6, 2), (85, .ifCond .ne 16, 3), (88, .aload_n 2, 1), (89, .iload_n 3, 1), (90, .aload_n 1, 1), (91, .iload 5, 2), (93, .ineg, 1), (94, .invokevirtual 86, 3), (97, .lastore, 1), (98, .goto 93, 3), (101, .iload 6, 2), (103, .iconst 1, 1), (104, .if_icmp .ne 37, 3), (107, .aload_n 2, 1), (108, .iload_n 3, 1), (109, .iload 5, 2), (111, .bipush (-33), 2), (113, .if_icmp .ne 20, 3), (116, .aload_n 2, 1), (117, .iload_n 3, 1), (118, .laload, 1), (119, .lconst 0, 1), (120, .lcmp, 1), (121, .ifCond .ne 7, 3), (124, .iconst 1, 1), (125, .goto 4, 3), (128, .iconst 0, 1), (129, .i2l, 1), (130, .goto 7, 3), (133, .aload_n 2, 1), (134, .iload_n 3, 1), (135, .laload, 1), (136, .lneg, 1), (137, .lastore, 1), (138, .goto 53, 3), (141, .iload 6, 2), (143, .iconst 2, 1), (144, .if_icmp .ne 23, 3), (147, .aload_n 2, 1), (148, .iload_n 3, 1), (149, .iload 5, 2), (151, .ineg, 1), (152, .aload_n 2, 1), (153, .iload_n 3, 1), (154, .laload, 1), (155, .aload_n 2, 1), (156, .iload_n 3, 1), (157, .iconst 1, 1), (158, .iadd, 1), (159, .laload, 1), (160, .invokestatic 92, 3), (163, .lastore, 1), (164, .goto 27, 3), (167, .aload_n 2, 1), (168, .iload_n 3, 1), (169, .aload_n 2, 1), (170, .iload_n 3, 1), (171, .laload, 1), (172, .lconst 0, 1), (173, .lcmp, 1), (174, .ifCond .eq 11, 3), (177, .aload_n 2, 1), (178, .iload_n 3, 1), (179, .iconst 1, 1), (180, .iadd, 1), (181, .laload, 1), (182, .goto 8, 3), (185, .aload_n 2, 1), (186, .iload_n 3, 1), (187, .iconst 2, 1), (188, .iadd, 1), (189, .laload, 1), (190, .lastore, 1), (191, .iinc 3 1, 3), (194, .iinc 4 1, 3), (197, .goto (-192), 3), (200, .iload_n 3, 1), (201, .ifCond .le 14, 3), (204, .aload_n 2, 1), (205, .arraylength, 1), (206, .ifCond .le 9, 3), (209, .aload_n 2, 1), (210, .iconst 0, 1), (211, .laload, 1), (212, .goto 4, 3), (215, .lconst 0, 1), (216, .lreturn, 1)]
theorem dzX5_worked : dz cX5_worked rwX5_worked := dz_all 0 (by decide +kernel)
def kX5_worked (live : am_E) (Ret : am_R) : am_code := [(0, am_const (.int 0) 1), (1, am_istore 3 7 2), (2, am_const (.int 0) 3), (3, am_istore 4 7 5), (5, am_iload 4 7), (7, am_aload 0 8), (8, am_getI live 5 2 11), (11, am_if2 (fun x y => y ≤ x) 200 14), (14, am_iload 4 16), (16, am_const (.int 50) 18), (18, am_if2 (fun x y => y ≤ x) 200 21), (21, am_aload 0 22), (22, am_getR live 5 1 25), (25, am_iload 4 27), (27, am_ald live 0 28), (28, am_istore 5 7 30), (30, am_iload 5 32), (32, am_if1 (fun x => x < 0) 39 35), (35, am_const (.int 0) 36), (36, am_goto 45), (39, am_iload 5 41), (41, am_i1 (fun x => -x) 42), (42, am_callS live 1 TX5_operands 45), (45, am_istore 6 7 47), (47, am_iload 3 48), (48, am_iload 6 50), (50, am_if2 (fun x y => x < y) 62 53), (53, am_iload 3 54), (54, am_iload 6 56), (56, am_i2 (fun x y => x - y) 57), (57, am_aload 2 58), (58, am_alen live 1 59), (59, am_if2 (fun x y => x < y) 64 62), (62, am_const (.long 0) 63), (63, am_retL Ret), (64, am_iload 3 65), (65, am_iload 6 67), (67, am_i2 (fun x y => x - y) 68), (68, am_istore 3 7 69), (69, am_iload 5 71), (71, am_if1 (fun x => x < 0) 83 74), (74, am_aload 2 75), (75, am_iload 3 76), (76, am_iload 5 78), (78, am_i2l 79), (79, am_last live 1 80), (80, am_goto 191), (83, am_iload 6 85), (85, am_if1 (fun x => x = 0) 88 101), (88, am_aload 2 89), (89, am_iload 3 90), (90, am_aload 1 91), (91, am_iload 5 93), (93, am_i1 (fun x => -x) 94), (94, am_callV live 1 1 TX1_valueOf 97), (97, am_last live 1 98), (98, am_goto 191), (101, am_iload 6 103), (103, am_const (.int 1) 104), (104, am_if2 (fun x y => x = y) 107 141), (107, am_aload 2 108), (108, am_iload 3 109), (109, am_iload 5 111), (111, am_const (.int (-33)) 113), (113, am_if2 (fun x y => x = y) 116 133), (116, am_aload 2 117), (117, am_iload 3 118), (118, am_lald live 1 119), (119, am_const (.long 0) 120), (120, am_lcmp 121), (121, am_if1 (fun x => x = 0) 124 128), (124, am_const (.int 1) 125), (125, am_goto 129), (128, am_const (.int 0) 129), (129, am_i2l 130), (130, am_goto 137), (133, am_aload 2 134), (134, am_iload 3 135), (135, am_lald live 1 136), (136, am_l1 (fun x => -x) 137), (137, am_last live 1 138), (138, am_goto 191), (141, am_iload 6 143), (143, am_const (.int 2) 144), (144, am_if2 (fun x y => x = y) 147 167), (147, am_aload 2 148), (148, am_iload 3 149), (149, am_iload 5 151), (151, am_i1 (fun x => -x) 152), (152, am_aload 2 153), (153, am_iload 3 154), (154, am_lald live 1 155), (155, am_aload 2 156), (156, am_iload 3 157), (157, am_const (.int 1) 158), (158, am_i2 (fun x y => x + y) 159), (159, am_lald live 1 160), (160, am_callS live 3 TX5_joined 163), (163, am_last live 1 164), (164, am_goto 191), (167, am_aload 2 168), (168, am_iload 3 169), (169, am_aload 2 170), (170, am_iload 3 171), (171, am_lald live 1 172), (172, am_const (.long 0) 173), (173, am_lcmp 174), (174, am_if1 (fun x => x = 0) 185 177), (177, am_aload 2 178), (178, am_iload 3 179), (179, am_const (.int 1) 180), (180, am_i2 (fun x y => x + y) 181), (181, am_lald live 1 182), (182, am_goto 190), (185, am_aload 2 186), (186, am_iload 3 187), (187, am_const (.int 2) 188), (188, am_i2 (fun x y => x + y) 189), (189, am_lald live 1 190), (190, am_last live 1 191), (191, am_iinc 3 7 1 194), (194, am_iinc 4 7 1 197), (197, am_goto 5), (200, am_iload 3 201), (201, am_if1 (fun x => x ≤ 0) 215 204), (204, am_aload 2 205), (205, am_alen live 1 206), (206, am_if1 (fun x => x ≤ 0) 215 209), (209, am_aload 2 210), (210, am_const (.int 0) 211), (211, am_lald live 1 212), (212, am_goto 216), (215, am_const (.long 0) 216), (216, am_retL Ret)]
theorem koX5_worked (live : am_E) (Ret : am_R) : ∀ q ∈ kX5_worked live Ret, am_ok RX5 cX5_worked 7 (some .long) 1 24 live Ret q.1 q.2 :=
  am_kz dzX5_worked <|
  am_kd (fun d => ak_iconst d (by decide +kernel) rfl) <|
  am_kd (fun d => ak_istore_n d rfl rfl) <|
  am_kd (fun d => ak_iconst d (by decide +kernel) rfl) <|
  am_kd (fun d => ak_istore d rfl) <|
  am_kd (fun d => ak_iload d rfl) <|
  am_kd (fun d => ak_aload_n d rfl rfl) <|
  am_kd (fun d => ak_getI (C := RX5) (T := TX5) (N := 7) rfl inX5w (by decide) rfl rfl rfl wd_170 d rfl) <|
  am_kd (fun d => ak_icmp_ge d (by decide +kernel) rfl) <|
  am_kd (fun d => ak_iload d rfl) <|
  am_kd (fun d => ak_bipush d (by decide +kernel) rfl) <|
  am_kd (fun d => ak_icmp_ge d (by decide +kernel) rfl) <|
  am_kd (fun d => ak_aload_n d rfl rfl) <|
  am_kd (fun d => ak_getR (C := RX5) (T := TX5) (N := 7) rfl inX5w (by decide) rfl rfl rfl wd_169 d rfl) <|
  am_kd (fun d => ak_iload d rfl) <|
  am_kd (fun d => ak_iald (t := 0) (fun _ => rfl) rfl d rfl) <|
  am_kd (fun d => ak_istore d rfl) <|
  am_kd (fun d => ak_iload d rfl) <|
  am_kd (fun d => ak_if_lt d (by decide +kernel) rfl) <|
  am_kd (fun d => ak_iconst d (by decide +kernel) rfl) <|
  am_kd (fun d => ak_goto d (by decide +kernel)) <|
  am_kd (fun d => ak_iload d rfl) <|
  am_kd (fun d => ak_ineg d rfl) <|
  am_kd (fun d => ak_callS metX5_operands ⟨rfl, hy_X5_operands⟩ (am_w4 wd_596 wd_597 wd_65 wd_598) (by decide) d rfl) <|
  am_kd (fun d => ak_istore d rfl) <|
  am_kd (fun d => ak_iload_n d rfl rfl) <|
  am_kd (fun d => ak_iload d rfl) <|
  am_kd (fun d => ak_icmp_lt d (by decide +kernel) rfl) <|
  am_kd (fun d => ak_iload_n d rfl rfl) <|
  am_kd (fun d => ak_iload d rfl) <|
  am_kd (fun d => ak_isub d rfl) <|
  am_kd (fun d => ak_aload_n d rfl rfl) <|
  am_kd (fun d => ak_alen (t := 1) (fun _ => rfl) d rfl) <|
  am_kd (fun d => ak_icmp_lt d (by decide +kernel) rfl) <|
  am_kd (fun d => ak_lconst d (by decide +kernel) rfl) <|
  am_kd (fun d => ak_retL d) <|
  am_kd (fun d => ak_iload_n d rfl rfl) <|
  am_kd (fun d => ak_iload d rfl) <|
  am_kd (fun d => ak_isub d rfl) <|
  am_kd (fun d => ak_istore_n d rfl rfl) <|
  am_kd (fun d => ak_iload d rfl) <|
  am_kd (fun d => ak_if_lt d (by decide +kernel) rfl) <|
  am_kd (fun d => ak_aload_n d rfl rfl) <|
  am_kd (fun d => ak_iload_n d rfl rfl) <|
  am_kd (fun d => ak_iload d rfl) <|
  am_kd (fun d => ak_i2l d rfl) <|
  am_kd (fun d => ak_last (t := 1) (fun _ => rfl) rfl d rfl) <|
  am_kd (fun d => ak_goto d (by decide +kernel)) <|
  am_kd (fun d => ak_iload d rfl) <|
  am_kd (fun d => ak_if_ne d (by decide +kernel) rfl) <|
  am_kd (fun d => ak_aload_n d rfl rfl) <|
  am_kd (fun d => ak_iload_n d rfl rfl) <|
  am_kd (fun d => ak_aload_n d rfl rfl) <|
  am_kd (fun d => ak_iload d rfl) <|
  am_kd (fun d => ak_ineg d rfl) <|
  am_kd (fun d => ak_callV (C := RX1) (F := TX1) (N := 7) metX1_valueOf rfl ⟨rfl, hy_X1_valueOf⟩ (am_w5 wd_599 wd_600 wd_601 wd_66 wd_602) (by decide) d rfl) <|
  am_kd (fun d => ak_last (t := 1) (fun _ => rfl) rfl d rfl) <|
  am_kd (fun d => ak_goto d (by decide +kernel)) <|
  am_kd (fun d => ak_iload d rfl) <|
  am_kd (fun d => ak_iconst d (by decide +kernel) rfl) <|
  am_kd (fun d => ak_icmp_ne d (by decide +kernel) rfl) <|
  am_kd (fun d => ak_aload_n d rfl rfl) <|
  am_kd (fun d => ak_iload_n d rfl rfl) <|
  am_kd (fun d => ak_iload d rfl) <|
  am_kd (fun d => ak_bipush d (by decide +kernel) rfl) <|
  am_kd (fun d => ak_icmp_ne d (by decide +kernel) rfl) <|
  am_kd (fun d => ak_aload_n d rfl rfl) <|
  am_kd (fun d => ak_iload_n d rfl rfl) <|
  am_kd (fun d => ak_lald (t := 1) (fun _ => rfl) rfl d rfl) <|
  am_kd (fun d => ak_lconst d (by decide +kernel) rfl) <|
  am_kd (fun d => ak_lcmp d rfl) <|
  am_kd (fun d => ak_if_ne d (by decide +kernel) rfl) <|
  am_kd (fun d => ak_iconst d (by decide +kernel) rfl) <|
  am_kd (fun d => ak_goto d (by decide +kernel)) <|
  am_kd (fun d => ak_iconst d (by decide +kernel) rfl) <|
  am_kd (fun d => ak_i2l d rfl) <|
  am_kd (fun d => ak_goto d (by decide +kernel)) <|
  am_kd (fun d => ak_aload_n d rfl rfl) <|
  am_kd (fun d => ak_iload_n d rfl rfl) <|
  am_kd (fun d => ak_lald (t := 1) (fun _ => rfl) rfl d rfl) <|
  am_kd (fun d => ak_lneg d rfl) <|
  am_kd (fun d => ak_last (t := 1) (fun _ => rfl) rfl d rfl) <|
  am_kd (fun d => ak_goto d (by decide +kernel)) <|
  am_kd (fun d => ak_iload d rfl) <|
  am_kd (fun d => ak_iconst d (by decide +kernel) rfl) <|
  am_kd (fun d => ak_icmp_ne d (by decide +kernel) rfl) <|
  am_kd (fun d => ak_aload_n d rfl rfl) <|
  am_kd (fun d => ak_iload_n d rfl rfl) <|
  am_kd (fun d => ak_iload d rfl) <|
  am_kd (fun d => ak_ineg d rfl) <|
  am_kd (fun d => ak_aload_n d rfl rfl) <|
  am_kd (fun d => ak_iload_n d rfl rfl) <|
  am_kd (fun d => ak_lald (t := 1) (fun _ => rfl) rfl d rfl) <|
  am_kd (fun d => ak_aload_n d rfl rfl) <|
  am_kd (fun d => ak_iload_n d rfl rfl) <|
  am_kd (fun d => ak_iconst d (by decide +kernel) rfl) <|
  am_kd (fun d => ak_iadd d rfl) <|
  am_kd (fun d => ak_lald (t := 1) (fun _ => rfl) rfl d rfl) <|
  am_kd (fun d => ak_callS metX5_joined ⟨rfl, hy_X5_joined⟩ (am_w4 wd_603 wd_604 wd_65 wd_605) (by decide) d rfl) <|
  am_kd (fun d => ak_last (t := 1) (fun _ => rfl) rfl d rfl) <|
  am_kd (fun d => ak_goto d (by decide +kernel)) <|
  am_kd (fun d => ak_aload_n d rfl rfl) <|
  am_kd (fun d => ak_iload_n d rfl rfl) <|
  am_kd (fun d => ak_aload_n d rfl rfl) <|
  am_kd (fun d => ak_iload_n d rfl rfl) <|
  am_kd (fun d => ak_lald (t := 1) (fun _ => rfl) rfl d rfl) <|
  am_kd (fun d => ak_lconst d (by decide +kernel) rfl) <|
  am_kd (fun d => ak_lcmp d rfl) <|
  am_kd (fun d => ak_if_eq d (by decide +kernel) rfl) <|
  am_kd (fun d => ak_aload_n d rfl rfl) <|
  am_kd (fun d => ak_iload_n d rfl rfl) <|
  am_kd (fun d => ak_iconst d (by decide +kernel) rfl) <|
  am_kd (fun d => ak_iadd d rfl) <|
  am_kd (fun d => ak_lald (t := 1) (fun _ => rfl) rfl d rfl) <|
  am_kd (fun d => ak_goto d (by decide +kernel)) <|
  am_kd (fun d => ak_aload_n d rfl rfl) <|
  am_kd (fun d => ak_iload_n d rfl rfl) <|
  am_kd (fun d => ak_iconst d (by decide +kernel) rfl) <|
  am_kd (fun d => ak_iadd d rfl) <|
  am_kd (fun d => ak_lald (t := 1) (fun _ => rfl) rfl d rfl) <|
  am_kd (fun d => ak_last (t := 1) (fun _ => rfl) rfl d rfl) <|
  am_kd (fun d => ak_iinc d (by decide +kernel) rfl) <|
  am_kd (fun d => ak_iinc d (by decide +kernel) rfl) <|
  am_kd (fun d => ak_goto d (by decide +kernel)) <|
  am_kd (fun d => ak_iload_n d rfl rfl) <|
  am_kd (fun d => ak_if_le d (by decide +kernel) rfl) <|
  am_kd (fun d => ak_aload_n d rfl rfl) <|
  am_kd (fun d => ak_alen (t := 1) (fun _ => rfl) d rfl) <|
  am_kd (fun d => ak_if_le d (by decide +kernel) rfl) <|
  am_kd (fun d => ak_aload_n d rfl rfl) <|
  am_kd (fun d => ak_iconst d (by decide +kernel) rfl) <|
  am_kd (fun d => ak_lald (t := 1) (fun _ => rfl) rfl d rfl) <|
  am_kd (fun d => ak_goto d (by decide +kernel)) <|
  am_kd (fun d => ak_lconst d (by decide +kernel) rfl) <|
  am_kd (fun d => ak_retL d) <| am_kdn
def am_st (M M' : am_M) : Prop := ∃ _ : Unit, M'.1 = M.1 ∧ ∀ a b, a ≠ 10 → M'.2 a b = M.2 a b
theorem am_st.rf {M : am_M} : am_st M M := ⟨(), rfl, fun _ _ _ => rfl⟩
theorem am_st.w {M M' : am_M} {k : Nat} {v : Int64} (h : am_st M M') : am_st M (am_wJ M' 10 k v) := by
  obtain ⟨-, h1, h2⟩ := h
  refine ⟨(), h1, fun a b q => ?_⟩
  rw [am_wJ_1, if_neg (fun z => q z.1)]
  exact h2 a b q
def TX5_worked : am_T := fun live as M R => match as with
  | [.ref t, .ref l, .ref k] => am_mn live ∧ l = 9 ∧ k = 10 ∧ am_tP live t (fun s c => am_t0 M t ∧ ∀ v M', am_st M M' → R (some (.long v)) M')
  | _ => False
def JX5_worked : am_E → List Value → am_M → am_R → am_inv := fun live as M0 _ pc => match as with
  | [.ref t, .ref l, .ref k] => (match pc with
    | 5 => some ([0, 1, 2, 3, 4], fun w L st M => ∃ p i : Int32, L = [(0, .ref t), (1, .ref 9), (2, .ref 10), (3, .int p), (4, .int i)] ∧ st = [] ∧ w = ((51 - i.toInt).toNat, 0) ∧ 0 ≤ i.toInt ∧ 0 ≤ p.toInt ∧ p.toInt ≤ 50 ∧ am_st M0 M)
    | _ => none)
  | _ => none
theorem am_ops_in (x : Int32) : 0 ≤ (am_ops x).toInt ∧ (am_ops x).toInt ≤ 3 := by
  unfold am_ops
  split
  · decide
  · split
    · decide
    · split <;> decide
set_option maxRecDepth 100000 in
set_option maxHeartbeats 4000000 in
theorem metX5_worked : am_Met yX5_worked cX5_worked 7 (some .long) (1) (24) TX5_worked := by
  refine am_met (own := RX5) (by decide +kernel) rfl kX5_worked koX5_worked 200 JX5_worked ?_ ?_
  · intro live as M Ret h
    unfold TX5_worked at h
    split at h
    · next t l k =>
      refine ⟨Nat.le_of_ble_eq_true rfl, ?_⟩
      change am_wp _ _ _ _ [(0, Value.ref t), (1, Value.ref l), (2, Value.ref k)] _ _
      obtain ⟨⟨i1, i2, rfl⟩, rfl, rfl, h⟩ := h
      have hh := am_tP_mp h
      clear h
      obtain ⟨s, c, h2, h6, hb, h1, h3, h7, h4, h8, h9, h5, h10, hT, h⟩ := hh
      repeat' (first | (with_reducible exact h1) | (with_reducible exact h2) | (with_reducible exact h3) | (with_reducible exact hb) | (with_reducible exact h6) | (with_reducible exact h7) | (refine Exists.intro _ (Exists.intro _ (And.intro h2 (And.intro h6 ?_)))) | (refine Exists.intro _ (And.intro h2 ?_)) | (refine Exists.intro _ (And.intro h6 ?_)) | apply And.intro | exact rfl | intro hx | (refine Exists.intro _ (And.intro rfl ?_)) | ((with_reducible change _ = true); simp only [h1, h2, h3, hb, h6, h7, Bool.true_and]; rfl))
      all_goals try first | (with_reducible change am_tI _ _) | (change Ret _ _) | (change Ret _ _ _) | (change Exists _)
      all_goals try dsimp only at *
      all_goals try (with_reducible exact absurd ‹(1000 : Int64) = 0› am_z1000)
      exact ⟨_, _, _, rfl, rfl, rfl, by decide, by decide, by decide, am_st.rf⟩
    · exact h.elim
  · intro live as M0 Ret h k pc I hI L st M hi
    unfold TX5_worked at h
    split at h
    · next t l k =>
      obtain ⟨⟨i1, i2, rfl⟩, rfl, rfl, h⟩ := h
      have hh := am_tP_mp h
      clear h
      obtain ⟨s, c, h2, h6, hb, h1, h3, h7, h4, h8, h9, h5, h10, hT, h⟩ := hh
      change (match pc with | 5 => _ | _ => none) = _ at hI
      split at hI
      · cases hI
        obtain ⟨p, i, rfl, rfl, rfl, e0, e1, e2, e3⟩ := hi
        have hmn : am_mn (am_lv i1 i2, am_q i1 i2) := ⟨i1, i2, rfl⟩
        have l10 : am_len 10 = 50 := rfl
        have hn : (Int32.ofNat (am_len 10)).toInt = 50 := by decide +kernel
        repeat' (first | (with_reducible exact hmn) | (with_reducible exact h1) | (with_reducible exact h2) | (with_reducible exact h3) | (with_reducible exact hb) | (with_reducible exact h6) | (with_reducible exact h7) | (refine Exists.intro _ (Exists.intro _ (And.intro h2 (And.intro h6 ?_)))) | (refine Exists.intro _ (And.intro h2 ?_)) | (refine Exists.intro _ (And.intro h6 ?_)) | apply And.intro | exact rfl | intro hx | (refine Exists.intro _ (And.intro rfl ?_)) | ((with_reducible change _ = true); simp only [h1, h2, h3, hb, h6, h7, Bool.true_and]; rfl))
        all_goals try first | (with_reducible change am_tI _ _) | (change Ret _ _) | (change Ret _ _ _) | (change Exists _)
        all_goals try dsimp only at *
        all_goals try (with_reducible exact absurd ‹(1000 : Int64) = 0› am_z1000)
        all_goals try (refine ⟨_, Or.inl ?_, _, i + 1, rfl, rfl, rfl, ?_, ?_, ?_, ?_⟩)
        all_goals first
          | (with_reducible exact h _ _ e3)
          | (with_reducible exact e3.w)
          | (with_reducible exact e3)
          | exact h _ _ e3
          | exact e3.w
          | exact e3
          | skip
        all_goals
          have hw := am_ops_in (-M.1 c i.toNatClampNeg)
          generalize am_ops (-M.1 c i.toNatClampNeg) = w at *
          have hs := i_sub (x := p) (y := w) (by omega) (by omega)
          have h1' := i_add (x := p - w) (y := 1) (by simp only [Int32.reduceToInt]; omega) (by simp only [Int32.reduceToInt]; omega)
          have h2' := i_add (x := p - w) (y := 2) (by simp only [Int32.reduceToInt]; omega) (by simp only [Int32.reduceToInt]; omega)
          have h3' := i_add (x := p) (y := 1) (by simp only [Int32.reduceToInt]; omega) (by simp only [Int32.reduceToInt]; omega)
          simp only [i_lt, i_le, i_eq, Int32.reduceToInt, Int32.sub_zero, Int32.toInt_zero, l10, h8, hn] at *
          first
            | omega
            | (have hi := i_add (x := i) (y := 1) (by simp only [Int32.reduceToInt]; omega) (by simp only [Int32.reduceToInt]; omega)
               simp only [Int32.reduceToInt] at hi
               omega)
      · cases hI
    · exact h.elim
