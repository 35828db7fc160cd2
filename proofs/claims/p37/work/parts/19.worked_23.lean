-- part 19.worked.lean.txt
section
/-! Text: worked -/
theorem hy_X1_valueOf : yX1_valueOf.cls ≠ "java/lang/invoke/MethodHandle" ∧ yX1_valueOf.cls ≠ "java/lang/invoke/VarHandle" ∧ (parseMethodDescriptor yX1_valueOf.desc).map (fun d => d.parameters.length) = some 1 := ⟨by decide +kernel, by decide +kernel, by decide +kernel⟩
set_option maxRecDepth 100000 in
theorem wd_599 : Cond.methodLink "LearnLoans$Text" 86 yX1_valueOf ∈ am_ws := am_wt3 (List.mem_of_getElem? (i := 62) (by rfl)) (by decide +kernel)
set_option maxRecDepth 100000 in
theorem wd_600 : Cond.instanceMethod yX1_valueOf ∈ am_ws := am_wt3 (List.mem_of_getElem? (i := 63) (by rfl)) (by decide +kernel)
set_option maxRecDepth 100000 in
theorem wd_601 : Cond.selects "LearnLoans$Letters" yX1_valueOf yX1_valueOf ∈ am_ws := am_wt3 (List.mem_of_getElem? (i := 64) (by rfl)) (by decide +kernel)
set_option maxRecDepth 100000 in
theorem wd_66 : Cond.initialized "LearnLoans$Letters" ∈ am_ws := am_wt1 (List.mem_of_getElem? (i := 9) (by rfl)) (by decide +kernel)
set_option maxRecDepth 100000 in
theorem wd_602 : Cond.code yX1_valueOf cX1_valueOf 2 (some .long) ∈ am_ws := am_wt3 (List.mem_of_getElem? (i := 65) (by rfl)) (by decide +kernel)
theorem hy_X5_joined : yX5_joined.cls ≠ "java/lang/invoke/MethodHandle" ∧ yX5_joined.cls ≠ "java/lang/invoke/VarHandle" ∧ (parseMethodDescriptor yX5_joined.desc).map (fun d => d.parameters.length) = some 3 := ⟨by decide +kernel, by decide +kernel, by decide +kernel⟩
set_option maxRecDepth 100000 in
theorem wd_603 : Cond.methodLink "LearnLoans$Text" 92 yX5_joined ∈ am_ws := am_wt3 (List.mem_of_getElem? (i := 66) (by rfl)) (by decide +kernel)
set_option maxRecDepth 100000 in
theorem wd_604 : Cond.static yX5_joined ∈ am_ws := am_wt3 (List.mem_of_getElem? (i := 67) (by rfl)) (by decide +kernel)
set_option maxRecDepth 100000 in
theorem wd_605 : Cond.code yX5_joined cX5_joined 5 (some .long) ∈ am_ws := am_wt3 (List.mem_of_getElem? (i := 68) (by rfl)) (by decide +kernel)
def rwX5_worked : List dz_r := [(0, .iconst 0, 1), (1, .istore_n 3, 1), (2, .iconst 0, 1), (3, .istore 4, 2), (5, .iload 4, 2), (7, .aload_n 0, 1), (8, .getfield 25, 3), (11, .if_icmp .ge 189, 3), (14, .iload 4, 2), (16, .bipush 50, 2), (18, .if_icmp .ge 182, 3), (21, .aload_n 0, 1), (22, .getfield 15, 3), (25, .iload 4, 2), (27, .iaload, 1), (28, .istore 5, 2), (30, .iload 5, 2), (32, .ifCond .lt 7, 3), (35, .iconst 0, 1), (36, .goto 9, 3), (39, .iload 5, 2), (41, .ineg, 1), (42, .invokestatic 83, 3), (45, .istore 6, 2), (47, .iload_n 3, 1), (48, .iload 6, 2), (50, .if_icmp .lt 12, 3), (53, .iload_n 3, 1), (54, .iload 6, 2), (56, .isub, 1), (57, .aload_n 2, 1), (58, .arraylength, 1), (59, .if_icmp .lt 5, 3), (62, .lconst 0, 1), (63, .lreturn, 1), (64, .iload_n 3, 1), (65, .iload 6, 2), (67, .isub, 1), (68, .istore_n 3, 1), (69, .iload 5, 2), (71, .ifCond .lt 12, 3), (74, .aload_n 2, 1), (75, .iload_n 3, 1), (76, .iload 5, 2), (78, .i2l, 1), (79, .lastore, 1), (80, .goto 111, 3), (83, .iload 6, 2), (85, .ifCond .ne 16, 3), (88, .aload_n 2, 1), (89, .iload_n 3, 1), (90, .aload_n 1, 1), (91, .iload 5, 2), (93, .ineg, 1), (94, .invokevirtual 86, 3), (97, .lastore, 1), (98, .goto 93, 3), (101, .iload 6, 2), (103, .iconst 1, 1), (104, .if_icmp .ne 37, 3), (107, .aload_n 2, 1), (108, .iload_n 3, 1), (109, .iload 5, 2), (111, .bipush (-33), 2), (113, .if_icmp .ne 20, 3), (116, .aload_n 2, 1), (117, .iload_n 3, 1), (118, .laload, 1), (119, .lconst 0, 1), (120, .lcmp, 1), (121, .ifCond .ne 7, 3), (124, .iconst 1, 1), (125, .goto 4, 3), (128, .iconst 0, 1), (129, .i2l, 1), (130, .goto 7, 3), (133, .aload_n 2, 1), (134, .iload_n 3, 1), (135, .laload, 1), (136, .lneg, 1), (137, .lastore, 1), (138, .goto 53, 3), (141, .iload 6, 2), (143, .iconst 2, 1), (144, .if_icmp .ne 23, 3), (147, .aload_n 2, 1), (148, .iload_n 3, 1), (149, .iload 5, 2), (151, .ineg, 1), (152, .aload_n 2, 1), (153, .iload_n 3, 1), (154, .laload, 1), (155, .aload_n 2, 1), (156, .iload_n 3, 1), (157, .iconst 1, 1), (158, .iadd, 1), (159, .laload, 1), (160, .invokestatic 92, 3), (163, .lastore, 1), (164, .goto 27, 3), (167, .aload_n 2, 1), (168, .iload_n 3, 1), (169, .aload_n 2, 1), (170, .iload_n 3, 1), (171, .laload, 1), (172, .lconst 0, 1), (173, .lcmp, 1), (174, .ifCond .eq 11, 3), (177, .aload_n 2, 1), (178, .iload_n 3, 1), (179, .iconst 1, 1), (180, .iadd, 1), (181, .laload, 1), (182, .goto 8, 3), (185, .aload_n 2, 1), (186, .iload_n 3, 1), (187, .iconst 2, 1), (188, .iadd, 1), (189, .laload, 1), (190, .lastore, 1), (191, .iinc 3 1, 3), (194, .iinc 4 1, 3), (197, .goto (-192), 3), (200, .iload_n 3, 1), (201, .ifCond .le 14, 3), (204, .aload_n 2, 1), (205, .arraylength, 1), (206, .ifCond .le 9, 3), (209, .aload_n 2, 1), (210, .iconst 0, 1), (211, .laload, 1), (212, .goto 4, 3), (215, .lconst 0, 1), (216, .lreturn, 1)]
theorem dzX5_worked : dz cX5_worked rwX5_worked := dz_all 0 (by decide +kernel)
def kX5_worked (live : am_E) (Ret : am_R) : am_code := [(0, am_const (.int 0) 1), (1, am_istore 3 7 2), (2, am_const (.int 0) 3), (3, am_istore 4 7 5), (5, am_iload 4 7), (7, am_aload 0 8), (8, am_getI live 5 2 11), (11, am_if2 (fun x y => y ≤ x) 200 14), (14, am_iload 4 16), (16, am_const (.int 50) 18), (18, am_if2 (fun x y => y ≤ x) 200 21), (21, am_aload 0 22), (22, am_getR live 5 1 25), (25, am_iload 4 27), (27, am_ald live 0 28), (28, am_istore 5 7 30), (30, am_iload 5 32), (32, am_if1 (fun x => x < 0) 39 35), (35, am_const (.int 0) 36), (36, am_goto 45), (39, am_iload 5 41), (41, am_i1 (fun x => -x) 42), (42, am_callS live 1 TX5_operands 45), (45, am_istore 6 7 47), (47, am_iload 3 48), (48, am_iload 6 50), (50, am_if2 (fun x y => x < y) 62 53), (53, am_iload 3 54), (54, am_iload 6 56), (56, am_i2 (fun x y => x - y) 57), (57, am_aload 2 58), (58, am_alen live 1 59), (59, am_if2 (fun x y => x < y) 64 62), (62, am_const (.long 0) 63), (63, am_retL Ret), (64, am_iload 3 65), (65, am_iload 6 67), (67, am_i2 (fun x y => x - y) 68), (68, am_istore 3 7 69), (69, am_iload 5 71), (71, am_if1 (fun x => x < 0) 83 74), (74, am_aload 2 75), (75, am_iload 3 76), (76, am_iload 5 78), (78, am_i2l 79), (79, am_last live 1 80), (80, am_goto 191), (83, am_iload 6 85), (85, am_if1 (fun x => x = 0) 88 101), (88, am_aload 2 89), (89, am_iload 3 90), (90, am_aload 1 91), (91, am_iload 5 93), (93, am_i1 (fun x => -x) 94), (94, am_callV live 1 1 TX1_valueOf 97), (97, am_last live 1 98), (98, am_goto 191), (101, am_iload 6 103), (103, am_const (.int 1) 104), (104, am_if2 (fun x y => x = y) 107 141), (107, am_aload 2 108), (108, am_iload 3 109), (109, am_iload 5 111), (111, am_const (.int (-33)) 113), (113, am_if2 (fun x y => x = y) 116 133), (116, am_aload 2 117), (117, am_iload 3 118), (118, am_lald live 1 119), (119, am_const (.long 0) 120), (120, am_lcmp 121), (121, am_if1 (fun x => x = 0) 124 128), (124, am_const (.int 1) 125), (125, am_goto 129), (128, am_const (.int 0) 129), (129, am_i2l 130), (130, am_goto 137), (133, am_aload 2 134), (134, am_iload 3 135), (135, am_lald live 1 136), (136, am_l1 (fun x => -x) 137), (137, am_last live 1 138), (138, am_goto 191), (141, am_iload 6 143), (143, am_const (.int 2) 144), (144, am_if2 (fun x y => x = y) 147 167), (147, am_aload 2 148), (148, am_iload 3 149), (149, am_iload 5 151), (151, am_i1 (fun x => -x) 152), (152, am_aload 2 153), (153, am_iload 3 154), (154, am_lald live 1 155), (155, am_aload 2 156), (156, am_iload 3 157), (157, am_const (.int 1) 158), (158, am_i2 (fun x y => x + y) 159), (159, am_lald live 1 160), (160, am_callS live 3 TX5_joined 163), (163, am_last live 1 164), (164, am_goto 191), (167, am_aload 2 168), (168, am_iload 3 169), (169, am_aload 2 170), (170, am_iload 3 171), (171, am_lald live 1 172), (172, am_const (.long 0) 173), (173, am_lcmp 174), (174, am_if1 (fun x => x = 0) 185 177), (177, am_aload 2 178), (178, am_iload 3 179), (179, am_const (.int 1) 180), (180, am_i2 (fun x y => x + y) 181), (181, am_lald live 1 182), (182, am_goto 190), (185, am_aload 2 186), (186, am_iload 3 187), (187, am_const (.int 2) 188), (188, am_i2 (fun x y => x + y) 189), (189, am_lald live 1 190), (190, am_last live 1 191), (191, am_iinc 3 7 1 194), (194, am_iinc 4 7 1 197), (197, am_goto 5), (200, am_iload 3 201), (201, am_if1 (fun x => x ≤ 0) 215 204), (204, am_aload 2 205), (205, am_alen live 1 206), (206, am_if1 (fun x => x ≤ 0) 215 209), (209, am_aload 2 210), (210, am_const (.int 0) 211), (211, am_lald live 1 212), (212, am_goto 216), (215, am_const (.long 0) 216), (216, am_retL Ret)]
theorem koX5_worked (live : am_E) (Ret : am_R) : ∀ q ∈ kX5_worked live Ret, am_ok RX5 cX5_worked 7 (some .long) 1 24 live Ret q.1 q.2 :=
  am_kz dzX5_worked <|
  am_kd (fun d => ak_iconst d (by decide +kernel) rfl) <|
  am_kd (fun d => ak_istore_n d rfl rfl) <|
  am_kd (fun d => ak_iconst d (by decide +kernel) rfl) <|
  am_kd (fun d => ak_istore d rfl) <|
  am_kd (fun d => ak_iload d rfl) <|
  am_kd (fun d => ak_aload_n d rfl rfl) <|
  am_kd (fun d => ak_getI (C := RX5) (T := TX5) (N := 7) rfl inX5w (by decide) rfl rfl rfl wd_170 d rfl) <|
  am_kd (fun d => ak_icmp_ge d (by decide +kernel) rfl) <|
  am_kd (fun d => ak_iload d rfl) <|
  am_kd (fun d => ak_bipush d (by decide +kernel) rfl) <|
  am_kd (fun d => ak_icmp_ge d (by decide +kernel) rfl) <|
  am_kd (fun d => ak_aload_n d rfl rfl) <|
  am_kd (fun d => ak_getR (C := RX5) (T := TX5) (N := 7) rfl inX5w (by decide) rfl rfl rfl wd_169 d rfl) <|
  am_kd (fun d => ak_iload d rfl) <|
  am_kd (fun d => ak_iald (t := 0) (fun _ => rfl) rfl d rfl) <|
  am_kd (fun d => ak_istore d rfl) <|
  am_kd (fun d => ak_iload d rfl) <|
  am_kd (fun d => ak_if_lt d (by decide +kernel) rfl) <|
  am_kd (fun d => ak_iconst d (by decide +kernel) rfl) <|
  am_kd (fun d => ak_goto d (by decide +kernel)) <|
  am_kd (fun d => ak_iload d rfl) <|
  am_kd (fun d => ak_ineg d rfl) <|
  am_kd (fun d => ak_callS metX5_operands ⟨rfl, hy_X5_operands⟩ (am_w4 wd_596 wd_597 wd_65 wd_598) (by decide) d rfl) <|
  am_kd (fun d => ak_istore d rfl) <|
  am_kd (fun d => ak_iload_n d rfl rfl) <|
  am_kd (fun d => ak_iload d rfl) <|
  am_kd (fun d => ak_icmp_lt d (by decide +kernel) rfl) <|
  am_kd (fun d => ak_iload_n d rfl rfl) <|
  am_kd (fun d => ak_iload d rfl) <|
  am_kd (fun d => ak_isub d rfl) <|
  am_kd (fun d => ak_aload_n d rfl rfl) <|
  am_kd (fun d => ak_alen (t := 1) (fun _ => rfl) d rfl) <|
  am_kd (fun d => ak_icmp_lt d (by decide +kernel) rfl) <|
  am_kd (fun d => ak_lconst d (by decide +kernel) rfl) <|
  am_kd (fun d => ak_retL d) <|
  am_kd (fun d => ak_iload_n d rfl rfl) <|
  am_kd (fun d => ak_iload d rfl) <|
  am_kd (fun d => ak_isub d rfl) <|
  am_kd (fun d => ak_istore_n d rfl rfl) <|
  am_kd (fun d => ak_iload d rfl) <|
  am_kd (fun d => ak_if_lt d (by decide +kernel) rfl) <|
  am_kd (fun d => ak_aload_n d rfl rfl) <|
  am_kd (fun d => ak_iload_n d rfl rfl) <|
  am_kd (fun d => ak_iload d rfl) <|
  am_kd (fun d => ak_i2l d rfl) <|
  am_kd (fun d => ak_last (t := 1) (fun _ => rfl) rfl d rfl) <|
  am_kd (fun d => ak_goto d (by decide +kernel)) <|
  am_kd (fun d => ak_iload d rfl) <|
  am_kd (fun d => ak_if_ne d (by decide +kernel) rfl) <|
  am_kd (fun d => ak_aload_n d rfl rfl) <|
  am_kd (fun d => ak_iload_n d rfl rfl) <|
  am_kd (fun d => ak_aload_n d rfl rfl) <|
  am_kd (fun d => ak_iload d rfl) <|
  am_kd (fun d => ak_ineg d rfl) <|
  am_kd (fun d => ak_callV (C := RX1) (F := TX1) (N := 7) metX1_valueOf rfl ⟨rfl, hy_X1_valueOf⟩ (am_w5 wd_599 wd_600 wd_601 wd_66 wd_602) (by decide) d rfl) <|
  am_kd (fun d => ak_last (t := 1) (fun _ => rfl) rfl d rfl) <|
  am_kd (fun d => ak_goto d (by decide +kernel)) <|
  am_kd (fun d => ak_iload d rfl) <|
  am_kd (fun d => ak_iconst d (by decide +kernel) rfl) <|
  am_kd (fun d => ak_icmp_ne d (by decide +kernel) rfl) <|
  am_kd (fun d => ak_aload_n d rfl rfl) <|
  am_kd (fun d => ak_iload_n d rfl rfl) <|
  am_kd (fun d => ak_iload d rfl) <|
  am_kd (fun d => ak_bipush d (by decide +kernel) rfl) <|
  am_kd (fun d => ak_icmp_ne d (by decide +kernel) rfl) <|
  am_kd (fun d => ak_aload_n d rfl rfl) <|
  am_kd (fun d => ak_iload_n d rfl rfl) <|
  am_kd (fun d => ak_lald (t := 1) (fun _ => rfl) rfl d rfl) <|
  am_kd (fun d => ak_lconst d (by decide +kernel) rfl) <|
  am_kd (fun d => ak_lcmp d rfl) <|
  am_kd (fun d => ak_if_ne d (by decide +kernel) rfl) <|
  am_kd (fun d => ak_iconst d (by decide +kernel) rfl) <|
  am_kd (fun d => ak_goto d (by decide +kernel)) <|
  am_kd (fun d => ak_iconst d (by decide +kernel) rfl) <|
  am_kd (fun d => ak_i2l d rfl) <|
  am_kd (fun d => ak_goto d (by decide +kernel)) <|
  am_kd (fun d => ak_aload_n d rfl rfl) <|
  am_kd (fun d => ak_iload_n d rfl rfl) <|
  am_kd (fun d => ak_lald (t := 1) (fun _ => rfl) rfl d rfl) <|
  am_kd (fun d => ak_lneg d rfl) <|
  am_kd (fun d => ak_last (t := 1) (fun _ => rfl) rfl d rfl) <|
  am_kd (fun d => ak_goto d (by decide +kernel)) <|
  am_kd (fun d => ak_iload d rfl) <|
  am_kd (fun d => ak_iconst d (by decide +kernel) rfl) <|
  am_kd (fun d => ak_icmp_ne d (by decide +kernel) rfl) <|
  am_kd (fun d => ak_aload_n d rfl rfl) <|
  am_kd (fun d => ak_iload_n d rfl rfl) <|
  am_kd (fun d => ak_iload d rfl) <|
  am_kd (fun d => ak_ineg d rfl) <|
  am_kd (fun d => ak_aload_n d rfl rfl) <|
  am_kd (fun d => ak_iload_n d rfl rfl) <|
  am_kd (fun d => ak_lald (t := 1) (fun _ => rfl) rfl d rfl) <|
  am_kd (fun d => ak_aload_n d rfl rfl) <|
  am_kd (fun d => ak_iload_n d rfl rfl) <|
  am_kd (fun d => ak_iconst d (by decide +kernel) rfl) <|
  am_kd (fun d => ak_iadd d rfl) <|
  am_kd (fun d => ak_lald (t := 1) (fun _ => rfl) rfl d rfl) <|
  am_kd (fun d => ak_callS metX5_joined ⟨rfl, hy_X5_joined⟩ (am_w4 wd_603 wd_604 wd_65 wd_605) (by decide) d rfl) <|
  am_kd (fun d => ak_last (t := 1) (fun _ => rfl) rfl d rfl) <|
  am_kd (fun d => ak_goto d (by decide +kernel)) <|
  am_kd (fun d => ak_aload_n d rfl rfl) <|
  am_kd (fun d => ak_iload_n d rfl rfl) <|
  am_kd (fun d => ak_aload_n d rfl rfl) <|
  am_kd (fun d => ak_iload_n d rfl rfl) <|
  am_kd (fun d => ak_lald (t := 1) (fun _ => rfl) rfl d rfl) <|
  am_kd (fun d => ak_lconst d (by decide +kernel) rfl) <|
  am_kd (fun d => ak_lcmp d rfl) <|
  am_kd (fun d => ak_if_eq d (by decide +kernel) rfl) <|
  am_kd (fun d => ak_aload_n d rfl rfl) <|
  am_kd (fun d => ak_iload_n d rfl rfl) <|
  am_kd (fun d => ak_iconst d (by decide +kernel) rfl) <|
  am_kd (fun d => ak_iadd d rfl) <|
  am_kd (fun d => ak_lald (t := 1) (fun _ => rfl) rfl d rfl) <|
  am_kd (fun d => ak_goto d (by decide +kernel)) <|
  am_kd (fun d => ak_aload_n d rfl rfl) <|
  am_kd (fun d => ak_iload_n d rfl rfl) <|
  am_kd (fun d => ak_iconst d (by decide +kernel) rfl) <|
  am_kd (fun d => ak_iadd d rfl) <|
  am_kd (fun d => ak_lald (t := 1) (fun _ => rfl) rfl d rfl) <|
  am_kd (fun d => ak_last (t := 1) (fun _ => rfl) rfl d rfl) <|
  am_kd (fun d => ak_iinc d (by decide +kernel) rfl) <|
  am_kd (fun d => ak_iinc d (by decide +kernel) rfl) <|
  am_kd (fun d => ak_goto d (by decide +kernel)) <|
  am_kd (fun d => ak_iload_n d rfl rfl) <|
  am_kd (fun d => ak_if_le d (by decide +kernel) rfl) <|
  am_kd (fun d => ak_aload_n d rfl rfl) <|
  am_kd (fun d => ak_alen (t := 1) (fun _ => rfl) d rfl) <|
  am_kd (fun d => ak_if_le d (by decide +kernel) rfl) <|
  am_kd (fun d => ak_aload_n d rfl rfl) <|
  am_kd (fun d => ak_iconst d (by decide +kernel) rfl) <|
  am_kd (fun d => ak_lald (t := 1) (fun _ => rfl) rfl d rfl) <|
  am_kd (fun d => ak_goto d (by decide +kernel)) <|
  am_kd (fun d => ak_lconst d (by decide +kernel) rfl) <|
  am_kd (fun d => ak_retL d) <| am_kdn
def am_st (M M' : am_M) : Prop := ∃ _ : Unit, M'.1 = M.1 ∧ ∀ a b, a ≠ 10 → M'.2 a b = M.2 a b
theorem am_st.rf {M : am_M} : am_st M M := ⟨(), rfl, fun _ _ _ => rfl⟩
theorem am_st.w {M M' : am_M} {k : Nat} {v : Int64} (h : am_st M M') : am_st M (am_wJ M' 10 k v) := by
  obtain ⟨-, h1, h2⟩ := h
  refine ⟨(), h1, fun a b q => ?_⟩
  rw [am_wJ_1, if_neg (fun z => q z.1)]
  exact h2 a b q
def TX5_worked : am_T := fun live as M R => match as with
  | [.ref t, .ref l, .ref k] => am_mn live ∧ l = 9 ∧ k = 10 ∧ am_tP live t (fun s c => am_t0 M t ∧ ∀ v M', am_st M M' → R (some (.long v)) M')
  | _ => False
def JX5_worked : am_E → List Value → am_M → am_R → am_inv := fun live as M0 _ pc => match as with
  | [.ref t, .ref l, .ref k] => (match pc with
    | 5 => some ([0, 1, 2, 3, 4], fun w L st M => ∃ p i : Int32, L = [(0, .ref t), (1, .ref 9), (2, .ref 10), (3, .int p), (4, .int i)] ∧ st = [] ∧ w = ((51 - i.toInt).toNat, 0) ∧ 0 ≤ i.toInt ∧ 0 ≤ p.toInt ∧ p.toInt ≤ 50 ∧ am_st M0 M)
    | _ => none)
  | _ => none
theorem am_ops_in (x : Int32) : 0 ≤ (am_ops x).toInt ∧ (am_ops x).toInt ≤ 3 := by
  unfold am_ops
  split
  · decide
  · split
    · decide
    · split <;> decide
set_option maxRecDepth 100000 in
set_option maxHeartbeats 4000000 in
theorem metX5_worked : am_Met yX5_worked cX5_worked 7 (some .long) (1) (24) TX5_worked := by
  refine am_met (own := RX5) (by decide +kernel) rfl kX5_worked koX5_worked 200 JX5_worked ?_ ?_
  · intro live as M Ret h
    unfold TX5_worked at h
    split at h
    · next t l k =>
      refine ⟨Nat.le_of_ble_eq_true rfl, ?_⟩
      change am_wp _ _ _ _ [(0, Value.ref t), (1, Value.ref l), (2, Value.ref k)] _ _
      obtain ⟨⟨i1, i2, rfl⟩, rfl, rfl, h⟩ := h
      have hh := am_tP_mp h
      clear h
      obtain ⟨s, c, h2, h6, hb, h1, h3, h7, h4, h8, h9, h5, h10, hT, h⟩ := hh
      repeat' (first | (with_reducible exact h1) | (with_reducible exact h2) | (with_reducible exact h3) | (with_reducible exact hb) | (with_reducible exact h6) | (with_reducible exact h7) | (refine Exists.intro _ (Exists.intro _ (And.intro h2 (And.intro h6 ?_)))) | (refine Exists.intro _ (And.intro h2 ?_)) | (refine Exists.intro _ (And.intro h6 ?_)) | apply And.intro | exact rfl | intro hx | (refine Exists.intro _ (And.intro rfl ?_)) | ((with_reducible change _ = true); simp only [h1, h2, h3, hb, h6, h7, Bool.true_and]; rfl))
      all_goals try first | (with_reducible change am_tI _ _) | (change Ret _ _) | (change Ret _ _ _) | (change Exists _)
      all_goals try dsimp only at *
      all_goals try (with_reducible exact absurd ‹(1000 : Int64) = 0› am_z1000)
      exact ⟨_, _, _, rfl, rfl, rfl, by decide, by decide, by decide, am_st.rf⟩
    · exact h.elim
  · intro live as M0 Ret h k pc I hI L st M hi
    unfold TX5_worked at h
    split at h
    · next t l k =>
      obtain ⟨⟨i1, i2, rfl⟩, rfl, rfl, h⟩ := h
      have hh := am_tP_mp h
      clear h
      obtain ⟨s, c, h2, h6, hb, h1, h3, h7, h4, h8, h9, h5, h10, hT, h⟩ := hh
      change (match pc with | 5 => _ | _ => none) = _ at hI
      split at hI
      · cases hI
        obtain ⟨p, i, rfl, rfl, rfl, e0, e1, e2, e3⟩ := hi
        have hmn : am_mn (am_lv i1 i2, am_q i1 i2) := ⟨i1, i2, rfl⟩
        have l10 : am_len 10 = 50 := rfl
        have hn : (Int32.ofNat (am_len 10)).toInt = 50 := by decide +kernel
        repeat' (first | (with_reducible exact hmn) | (with_reducible exact h1) | (with_reducible exact h2) | (with_reducible exact h3) | (with_reducible exact hb) | (with_reducible exact h6) | (with_reducible exact h7) | (refine Exists.intro _ (Exists.intro _ (And.intro h2 (And.intro h6 ?_)))) | (refine Exists.intro _ (And.intro h2 ?_)) | (refine Exists.intro _ (And.intro h6 ?_)) | apply And.intro | exact rfl | intro hx | (refine Exists.intro _ (And.intro rfl ?_)) | ((with_reducible change _ = true); simp only [h1, h2, h3, hb, h6, h7, Bool.true_and]; rfl))
        all_goals try first | (with_reducible change am_tI _ _) | (change Ret _ _) | (change Ret _ _ _) | (change Exists _)
        all_goals try dsimp only at *
        all_goals try (with_reducible exact absurd ‹(1000 : Int64) = 0› am_z1000)
        all_goals try (refine ⟨_, Or.inl ?_, _, i + 1, rfl, rfl, rfl, ?_, ?_, ?_, ?_⟩)
        all_goals first
          | (with_reducible exact h _ _ e3)
          | (with_reducible exact e3.w)
          | (with_reducible exact e3)
          | exact h _ _ e3
          | exact e3.w
          | exact e3
          | skip
        all_goals
          have hw := am_ops_in (-M.1 c i.toNatClampNeg)
          generalize am_ops (-M.1 c i.toNatClampNeg) = w at *
          have hs := i_sub (x := p) (y := w) (by omega) (by omega)
          have h1' := i_add (x := p - w) (y := 1) (by simp only [Int32.reduceToInt]; omega) (by simp only [Int32.reduceToInt]; omega)
          have h2' := i_add (x := p - w) (y := 2) (by simp only [Int32.reduceToInt]; omega) (by simp only [Int32.reduceToInt]; omega)
          have h3' := i_add (x := p) (y := 1) (by simp only [Int32.reduceToInt]; omega) (by simp only [Int32.reduceToInt]; omega)
          simp only [i_lt, i_le, i_eq, Int32.reduceToInt, Int32.sub_zero, Int32.toInt_zero, l10, h8, hn] at *
          first
            | omega
            | (have hi := i_add (x := i) (y := 1) (by simp only [Int32.reduceToInt]; omega) (by simp only [Int32.reduceToInt]; omega)
               simp only [Int32.reduceToInt] at hi
               omega)
      · cases hI
    · exact h.elim
end
-- part 20.run1.lean.txt
section
/-! Run: small methods -/
set_option maxRecDepth 100000 in
theorem wd_313 : Cond.fieldLink "LearnLoans$Run" 140 "LearnLoans$Run" "earned" "I" ∈ am_ws := am_wt2 (List.mem_of_getElem? (i := 16) (by rfl)) (by decide +kernel)
set_option maxRecDepth 100000 in
theorem wd_314 : Cond.fieldLink "LearnLoans$Run" 142 "LearnLoans$Run" "land" "I" ∈ am_ws := am_wt2 (List.mem_of_getElem? (i := 17) (by rfl)) (by decide +kernel)
set_option maxRecDepth 100000 in
theorem wd_315 : Cond.fieldLink "LearnLoans$Run" 145 "LearnLoans$Run" "dead" "Z" ∈ am_ws := am_wt2 (List.mem_of_getElem? (i := 18) (by rfl)) (by decide +kernel)
def rwX4_suppose : List dz_r := [(0, .aload_n 0, 1), (1, .iload_n 1, 1), (2, .putfield 140, 3), (5, .aload_n 0, 1), (6, .iload_n 2, 1), (7, .putfield 142, 3), (10, .aload_n 0, 1), (11, .iload_n 3, 1), (12, .putfield 145, 3), (15, .return_, 1)]
theorem dzX4_suppose : dz cX4_suppose rwX4_suppose := dz_all 0 (by decide +kernel)
def kX4_suppose (live : am_E) (Ret : am_R) : am_code := [(0, am_aload 0 1), (1, am_iload 1 2), (2, am_putI live 4 16 5), (5, am_aload 0 6), (6, am_iload 2 7), (7, am_putI live 4 17 10), (10, am_aload 0 11), (11, am_iload 3 12), (12, am_putZ live 4 18 15), (15, am_retV Ret)]
theorem koX4_suppose (live : am_E) (Ret : am_R) : ∀ q ∈ kX4_suppose live Ret, am_ok RX4 cX4_suppose 4 none 0 0 live Ret q.1 q.2 :=
  am_kz dzX4_suppose <|
  am_kd (fun d => ak_aload_n d rfl rfl) <|
  am_kd (fun d => ak_iload_n d rfl rfl) <|
  am_kd (fun d => ak_putI (C := RX4) (T := TX4) (N := 19) rfl inX4w tyX4_ok nmX4 (by decide) rfl rfl rfl rfl (by decide +kernel) wd_313 d rfl) <|
  am_kd (fun d => ak_aload_n d rfl rfl) <|
  am_kd (fun d => ak_iload_n d rfl rfl) <|
  am_kd (fun d => ak_putI (C := RX4) (T := TX4) (N := 19) rfl inX4w tyX4_ok nmX4 (by decide) rfl rfl rfl rfl (by decide +kernel) wd_314 d rfl) <|
  am_kd (fun d => ak_aload_n d rfl rfl) <|
  am_kd (fun d => ak_iload_n d rfl rfl) <|
  am_kd (fun d => ak_putZ (C := RX4) (T := TX4) (N := 19) rfl inX4w tyX4_ok nmX4 (by decide) rfl rfl rfl rfl (by decide +kernel) wd_315 d rfl) <|
  am_kd (fun d => ak_retV d) <| am_kdn
def TX4_suppose : am_T := fun live as M R => match as with
  | [.ref n, .int a, .int b, .int d] => am_mn live ∧ n = 4 ∧ (d = 0 ∨ d = 1) ∧ R none (am_wI (am_wI (am_wI M 4 16 a) 4 17 b) 4 18 d)
  | _ => False
set_option maxRecDepth 100000 in
set_option maxHeartbeats 4000000 in
theorem metX4_suppose : am_Met yX4_suppose cX4_suppose 4 none (0) (0) TX4_suppose := by
  refine am_met (own := RX4) (by decide +kernel) rfl kX4_suppose koX4_suppose 60 (fun _ _ _ _ _ => none) (fun live as M Ret h => ?_) (fun _ _ _ _ _ _ _ _ hI => by cases hI)
  unfold TX4_suppose at h
  split at h
  · next n a b d =>
    refine ⟨Nat.le_of_ble_eq_true rfl, ?_⟩
    change am_wp _ _ _ _ [(0, Value.ref n), (1, Value.int a), (2, Value.int b), (3, Value.int d)] _ _
    obtain ⟨⟨i1, i2, rfl⟩, rfl, hd, h⟩ := h
    repeat' (first | apply And.intro | exact rfl | intro hx | (refine Exists.intro _ (And.intro rfl ?_)))
    all_goals try first | (with_reducible change am_tI _ _) | (change Ret _ _) | (change Ret _ _ _) | (change Exists _)
    all_goals try dsimp only at *
    all_goals try (with_reducible exact absurd ‹(1000 : Int64) = 0› am_z1000)
    · exact hd
    · exact h
  · exact h.elim
set_option maxRecDepth 100000 in
theorem wd_307 : Cond.fieldLink "LearnLoans$Run" 74 "LearnLoans$Run" "life" "I" ∈ am_ws := am_wt2 (List.mem_of_getElem? (i := 10) (by rfl)) (by decide +kernel)
set_option maxRecDepth 100000 in
theorem wd_308 : Cond.fieldLink "LearnLoans$Run" 77 "LearnLoans$Run" "plan" "I" ∈ am_ws := am_wt2 (List.mem_of_getElem? (i := 11) (by rfl)) (by decide +kernel)
set_option maxRecDepth 100000 in
theorem wd_291 : Cond.fieldLink "LearnLoans$Run" 12 "LearnLoans$Run" "house" "LLearnLoans$House;" ∈ am_ws := am_wt1 (List.mem_of_getElem? (i := 234) (by rfl)) (by decide +kernel)
set_option maxRecDepth 100000 in
theorem wd_195 : Cond.fieldLink "LearnLoans$Run" 80 "LearnLoans$House" "people" "LLearnLoans$People;" ∈ am_ws := am_wt1 (List.mem_of_getElem? (i := 138) (by rfl)) (by decide +kernel)
set_option maxRecDepth 100000 in
theorem wd_304 : Cond.fieldLink "LearnLoans$Run" 42 "LearnLoans$Run" "person" "I" ∈ am_ws := am_wt2 (List.mem_of_getElem? (i := 7) (by rfl)) (by decide +kernel)
set_option maxRecDepth 100000 in
theorem wd_306 : Cond.fieldLink "LearnLoans$Run" 49 "LearnLoans$Run" "nextYea\x72" "I" ∈ am_ws := am_wt2 (List.mem_of_getElem? (i := 9) (by rfl)) (by decide +kernel)
theorem hy_X2_isDead : yX2_isDead.cls ≠ "java/lang/invoke/MethodHandle" ∧ yX2_isDead.cls ≠ "java/lang/invoke/VarHandle" ∧ (parseMethodDescriptor yX2_isDead.desc).map (fun d => d.parameters.length) = some 2 := ⟨by decide +kernel, by decide +kernel, by decide +kernel⟩
set_option maxRecDepth 100000 in
theorem wd_554 : Cond.methodLink "LearnLoans$Run" 84 yX2_isDead ∈ am_ws := am_wt3 (List.mem_of_getElem? (i := 17) (by rfl)) (by decide +kernel)
set_option maxRecDepth 100000 in
theorem wd_555 : Cond.instanceMethod yX2_isDead ∈ am_ws := am_wt3 (List.mem_of_getElem? (i := 18) (by rfl)) (by decide +kernel)
set_option maxRecDepth 100000 in
theorem wd_556 : Cond.selects "LearnLoans$People" yX2_isDead yX2_isDead ∈ am_ws := am_wt3 (List.mem_of_getElem? (i := 19) (by rfl)) (by decide +kernel)
set_option maxRecDepth 100000 in
theorem wd_62 : Cond.initialized "LearnLoans$People" ∈ am_ws := am_wt1 (List.mem_of_getElem? (i := 5) (by rfl)) (by decide +kernel)
set_option maxRecDepth 100000 in
theorem wd_557 : Cond.code yX2_isDead cX2_isDead 3 (some .boolean) ∈ am_ws := am_wt3 (List.mem_of_getElem? (i := 20) (by rfl)) (by decide +kernel)
set_option maxRecDepth 100000 in
theorem wd_309 : Cond.fieldLink "LearnLoans$Run" 90 "LearnLoans$Run" "deadAhead" "Z" ∈ am_ws := am_wt2 (List.mem_of_getElem? (i := 12) (by rfl)) (by decide +kernel)
set_option maxRecDepth 100000 in
theorem wd_310 : Cond.fieldLink "LearnLoans$Run" 94 "LearnLoans$Run" "due" "J" ∈ am_ws := am_wt2 (List.mem_of_getElem? (i := 13) (by rfl)) (by decide +kernel)
set_option maxRecDepth 100000 in
theorem wd_311 : Cond.fieldLink "LearnLoans$Run" 98 "LearnLoans$Run" "paid" "J" ∈ am_ws := am_wt2 (List.mem_of_getElem? (i := 14) (by rfl)) (by decide +kernel)
def rwX4_turnTo : List dz_r := [(0, .aload_n 0, 1), (1, .iload_n 1, 1), (2, .putfield 74, 3), (5, .aload_n 0, 1), (6, .iload_n 2, 1), (7, .putfield 77, 3), (10, .aload_n 0, 1), (11, .aload_n 0, 1), (12, .getfield 12, 3), (15, .getfield 80, 3), (18, .aload_n 0, 1), (19, .getfield 42, 3), (22, .aload_n 0, 1), (23, .getfield 49, 3), (26, .iconst 1, 1), (27, .isub, 1), (28, .invokevirtual 84, 3), (31, .putfield 90, 3), (34, .aload_n 0, 1), (35, .lload_n 3, 1), (36, .putfield 94, 3), (39, .aload_n 0, 1), (40, .lconst 0, 1), (41, .putfield 98, 3), (44, .return_, 1)]
theorem dzX4_turnTo : dz cX4_turnTo rwX4_turnTo := dz_all 0 (by decide +kernel)
def kX4_turnTo (live : am_E) (Ret : am_R) : am_code := [(0, am_aload 0 1), (1, am_iload 1 2), (2, am_putI live 4 11 5), (5, am_aload 0 6), (6, am_iload 2 7), (7, am_putI live 4 12 10), (10, am_aload 0 11), (11, am_aload 0 12), (12, am_getR live 4 0 15), (15, am_getR live 0 0 18), (18, am_aload 0 19), (19, am_getI live 4 8 22), (22, am_aload 0 23), (23, am_getI live 4 10 26), (26, am_const (.int 1) 27), (27, am_i2 (fun x y => x - y) 28), (28, am_callV live 2 2 TX2_isDead 31), (31, am_putZ live 4 13 34), (34, am_aload 0 35), (35, am_lload 3 36), (36, am_putJ live 4 14 39), (39, am_aload 0 40), (40, am_const (.long 0) 41), (41, am_putJ live 4 15 44), (44, am_retV Ret)]
theorem koX4_turnTo (live : am_E) (Ret : am_R) : ∀ q ∈ kX4_turnTo live Ret, am_ok RX4 cX4_turnTo 5 none 1 22 live Ret q.1 q.2 :=
  am_kz dzX4_turnTo <|
  am_kd (fun d => ak_aload_n d rfl rfl) <|
  am_kd (fun d => ak_iload_n d rfl rfl) <|
  am_kd (fun d => ak_putI (C := RX4) (T := TX4) (N := 19) rfl inX4w tyX4_ok nmX4 (by decide) rfl rfl rfl rfl (by decide +kernel) wd_307 d rfl) <|
  am_kd (fun d => ak_aload_n d rfl rfl) <|
  am_kd (fun d => ak_iload_n d rfl rfl) <|
  am_kd (fun d => ak_putI (C := RX4) (T := TX4) (N := 19) rfl inX4w tyX4_ok nmX4 (by decide) rfl rfl rfl rfl (by decide +kernel) wd_308 d rfl) <|
  am_kd (fun d => ak_aload_n d rfl rfl) <|
  am_kd (fun d => ak_aload_n d rfl rfl) <|
  am_kd (fun d => ak_getR (C := RX4) (T := TX4) (N := 19) rfl inX4w (by decide) rfl rfl rfl wd_291 d rfl) <|
  am_kd (fun d => ak_getR (C := RX0) (T := TX0) (N := 13) rfl inX0w (by decide) rfl rfl rfl wd_195 d rfl) <|
  am_kd (fun d => ak_aload_n d rfl rfl) <|
  am_kd (fun d => ak_getI (C := RX4) (T := TX4) (N := 19) rfl inX4w (by decide) rfl rfl rfl wd_304 d rfl) <|
  am_kd (fun d => ak_aload_n d rfl rfl) <|
  am_kd (fun d => ak_getI (C := RX4) (T := TX4) (N := 19) rfl inX4w (by decide) rfl rfl rfl wd_306 d rfl) <|
  am_kd (fun d => ak_iconst d (by decide +kernel) rfl) <|
  am_kd (fun d => ak_isub d rfl) <|
  am_kd (fun d => ak_callV (C := RX2) (F := TX2) (N := 8) metX2_isDead rfl ⟨rfl, hy_X2_isDead⟩ (am_w5 wd_554 wd_555 wd_556 wd_62 wd_557) (by decide) d rfl) <|
  am_kd (fun d => ak_putZ (C := RX4) (T := TX4) (N := 19) rfl inX4w tyX4_ok nmX4 (by decide) rfl rfl rfl rfl (by decide +kernel) wd_309 d rfl) <|
  am_kd (fun d => ak_aload_n d rfl rfl) <|
  am_kd (fun d => ak_lload_n d rfl rfl) <|
  am_kd (fun d => ak_putJ (C := RX4) (T := TX4) (N := 19) rfl inX4w tyX4_ok nmX4 (by decide) rfl rfl rfl rfl (by decide +kernel) wd_310 d rfl) <|
  am_kd (fun d => ak_aload_n d rfl rfl) <|
  am_kd (fun d => ak_lconst d (by decide +kernel) rfl) <|
  am_kd (fun d => ak_putJ (C := RX4) (T := TX4) (N := 19) rfl inX4w tyX4_ok nmX4 (by decide) rfl rfl rfl rfl (by decide +kernel) wd_311 d rfl) <|
  am_kd (fun d => ak_retV d) <| am_kdn
def TX4_turnTo : am_T := fun live as M R => match as with
  | [.ref n, .int a, .int b, .long d] => am_mn live ∧ n = 4 ∧ am_in (M.1 4 8) 12 ∧ R none (am_wJ (am_wJ (am_wI (am_wI (am_wI M 4 11 a) 4 12 b) 4 13 (if M.1 23 (M.1 4 8).toNatClampNeg ≠ -1 ∧ M.1 23 (M.1 4 8).toNatClampNeg ≤ M.1 4 10 - 1 then 1 else 0)) 4 14 d) 4 15 0)
  | _ => False
set_option maxRecDepth 100000 in
set_option maxHeartbeats 4000000 in
theorem metX4_turnTo : am_Met yX4_turnTo cX4_turnTo 5 none (1) (22) TX4_turnTo := by
  refine am_met (own := RX4) (by decide +kernel) rfl kX4_turnTo koX4_turnTo 60 (fun _ _ _ _ _ => none) (fun live as M Ret h => ?_) (fun _ _ _ _ _ _ _ _ hI => by cases hI)
  unfold TX4_turnTo at h
  split at h
  · next n a b d =>
    refine ⟨Nat.le_of_ble_eq_true rfl, ?_⟩
    change am_wp _ _ _ _ [(0, Value.ref n), (1, Value.int a), (2, Value.int b), (3, Value.long d)] _ _
    obtain ⟨hmn, rfl, hp, h⟩ := h
    have hmn2 := hmn
    obtain ⟨i1, i2, rfl⟩ := hmn2
    repeat' (first | (with_reducible exact hmn) | (with_reducible exact hp) | apply And.intro | exact rfl | intro hx | (refine Exists.intro _ (And.intro rfl ?_)))
    all_goals try first | (with_reducible change am_tI _ _) | (change Ret _ _) | (change Ret _ _ _) | (change Exists _)
    all_goals try dsimp only at *
    all_goals try (with_reducible exact absurd ‹(1000 : Int64) = 0› am_z1000)
    all_goals first | (with_reducible exact hp.1) | (with_reducible exact hp.2) | (with_reducible exact h) | (split <;> first | exact Or.inl rfl | exact Or.inr rfl) | exact hp.1 | exact hp.2 | exact h | skip
  · exact h.elim
set_option maxRecDepth 100000 in
theorem wd_212 : Cond.fieldLink "LearnLoans$Run" 187 "LearnLoans$House" "planAt" "[I" ∈ am_ws := am_wt1 (List.mem_of_getElem? (i := 155) (by rfl)) (by decide +kernel)
def rwX4_planIn : List dz_r := [(0, .aload_n 0, 1), (1, .getfield 77, 3), (4, .iconst (-1), 1), (5, .if_icmp .eq 10, 3), (8, .aload_n 0, 1), (9, .getfield 77, 3), (12, .goto 17, 3), (15, .aload_n 0, 1), (16, .getfield 12, 3), (19, .getfield 187, 3), (22, .iload_n 1, 1), (23, .bipush 40, 2), (25, .imul, 1), (26, .iload_n 2, 1), (27, .iadd, 1), (28, .iaload, 1), (29, .ireturn, 1)]
theorem dzX4_planIn : dz cX4_planIn rwX4_planIn := dz_all 0 (by decide +kernel)
def kX4_planIn (live : am_E) (Ret : am_R) : am_code := [(0, am_aload 0 1), (1, am_getI live 4 12 4), (4, am_const (.int (-1)) 5), (5, am_if2 (fun x y => x = y) 15 8), (8, am_aload 0 9), (9, am_getI live 4 12 12), (12, am_goto 29), (15, am_aload 0 16), (16, am_getR live 4 0 19), (19, am_getR live 0 6 22), (22, am_iload 1 23), (23, am_const (.int 40) 25), (25, am_i2 (fun x y => x * y) 26), (26, am_iload 2 27), (27, am_i2 (fun x y => x + y) 28), (28, am_ald live 0 29), (29, am_retI Ret)]
theorem koX4_planIn (live : am_E) (Ret : am_R) : ∀ q ∈ kX4_planIn live Ret, am_ok RX4 cX4_planIn 3 (some .int) 0 0 live Ret q.1 q.2 :=
  am_kz dzX4_planIn <|
  am_kd (fun d => ak_aload_n d rfl rfl) <|
  am_kd (fun d => ak_getI (C := RX4) (T := TX4) (N := 19) rfl inX4w (by decide) rfl rfl rfl wd_308 d rfl) <|
  am_kd (fun d => ak_iconst d (by decide +kernel) rfl) <|
  am_kd (fun d => ak_icmp_eq d (by decide +kernel) rfl) <|
  am_kd (fun d => ak_aload_n d rfl rfl) <|
  am_kd (fun d => ak_getI (C := RX4) (T := TX4) (N := 19) rfl inX4w (by decide) rfl rfl rfl wd_308 d rfl) <|
  am_kd (fun d => ak_goto d (by decide +kernel)) <|
  am_kd (fun d => ak_aload_n d rfl rfl) <|
  am_kd (fun d => ak_getR (C := RX4) (T := TX4) (N := 19) rfl inX4w (by decide) rfl rfl rfl wd_291 d rfl) <|
  am_kd (fun d => ak_getR (C := RX0) (T := TX0) (N := 13) rfl inX0w (by decide) rfl rfl rfl wd_212 d rfl) <|
  am_kd (fun d => ak_iload_n d rfl rfl) <|
  am_kd (fun d => ak_bipush d (by decide +kernel) rfl) <|
  am_kd (fun d => ak_imul d rfl) <|
  am_kd (fun d => ak_iload_n d rfl rfl) <|
  am_kd (fun d => ak_iadd d rfl) <|
  am_kd (fun d => ak_iald (t := 0) (fun _ => rfl) rfl d rfl) <|
  am_kd (fun d => ak_retI d) <| am_kdn
def am_pln (M : am_M) (l y : Int32) : Int32 := if M.1 4 12 = -1 then M.1 37 (l * 40 + y).toNatClampNeg else M.1 4 12
theorem am_lny {l y : Int32} (h1 : am_in l 30) (h2 : am_in y 40) : (l * 40 + y).toInt = l.toInt * 40 + y.toInt := by
  obtain ⟨a1, a2⟩ := h1
  obtain ⟨b1, b2⟩ := h2
  have e := i_mul (x := l) (y := 40) (by simp only [Int32.reduceToInt]; omega) (by simp only [Int32.reduceToInt]; omega)
  simp only [Int32.reduceToInt] at e
  rw [i_add (by rw [e]; omega) (by rw [e]; omega), e]
def TX4_planIn : am_T := fun live as M R => match as with
  | [.ref n, .int l, .int y] => am_mn live ∧ n = 4 ∧ am_in l 30 ∧ am_in y 40 ∧ R (some (.int (am_pln M l y))) M
  | _ => False
set_option maxRecDepth 100000 in
set_option maxHeartbeats 4000000 in
theorem metX4_planIn : am_Met yX4_planIn cX4_planIn 3 (some .int) (0) (0) TX4_planIn := by
  refine am_met (own := RX4) (by decide +kernel) rfl kX4_planIn koX4_planIn 60 (fun _ _ _ _ _ => none) (fun live as M Ret h => ?_) (fun _ _ _ _ _ _ _ _ hI => by cases hI)
  unfold TX4_planIn at h
  split at h
  · next n l y =>
    refine ⟨Nat.le_of_ble_eq_true rfl, ?_⟩
    change am_wp _ _ _ _ [(0, Value.ref n), (1, Value.int l), (2, Value.int y)] _ _
    obtain ⟨⟨i1, i2, rfl⟩, rfl, hl, hy, h⟩ := h
    have e := am_lny hl hy
    have l37 : am_len 37 = 1200 := rfl
    obtain ⟨a1, a2⟩ := hl
    obtain ⟨b1, b2⟩ := hy
    repeat' (first | apply And.intro | exact rfl | intro hx | (refine Exists.intro _ (And.intro rfl ?_)))
    all_goals try first | (with_reducible change am_tI _ _) | (change Ret _ _) | (change Ret _ _ _) | (change Exists _)
    all_goals try dsimp only at *
    all_goals try (with_reducible exact absurd ‹(1000 : Int64) = 0› am_z1000)
    all_goals first
      | (rw [am_pln, if_pos (by with_reducible assumption)] at h; exact h)
      | (rw [am_pln, if_neg (by with_reducible assumption)] at h; exact h)
      | (rw [e]; omega)
      | (rw [e, l37]; omega)
  · exact h.elim
theorem hy_X4_planIn : yX4_planIn.cls ≠ "java/lang/invoke/MethodHandle" ∧ yX4_planIn.cls ≠ "java/lang/invoke/VarHandle" ∧ (parseMethodDescriptor yX4_planIn.desc).map (fun d => d.parameters.length) = some 2 := ⟨by decide +kernel, by decide +kernel, by decide +kernel⟩
set_option maxRecDepth 100000 in
theorem wd_584 : Cond.methodLink "LearnLoans$Run" 190 yX4_planIn ∈ am_ws := am_wt3 (List.mem_of_getElem? (i := 47) (by rfl)) (by decide +kernel)
set_option maxRecDepth 100000 in
theorem wd_586 : Cond.instanceMethod yX4_planIn ∈ am_ws := am_wt3 (List.mem_of_getElem? (i := 49) (by rfl)) (by decide +kernel)
set_option maxRecDepth 100000 in
theorem wd_5 : Cond.selects "LearnLoans$Run" yX4_planIn yX4_planIn ∈ am_ws := am_wsi (List.mem_of_getElem? (i := 5) (by rfl)) (by decide +kernel)
set_option maxRecDepth 100000 in
theorem wd_60 : Cond.initialized "LearnLoans$Run" ∈ am_ws := am_wt1 (List.mem_of_getElem? (i := 3) (by rfl)) (by decide +kernel)
set_option maxRecDepth 100000 in
theorem wd_587 : Cond.code yX4_planIn cX4_planIn 3 (some .int) ∈ am_ws := am_wt3 (List.mem_of_getElem? (i := 50) (by rfl)) (by decide +kernel)
def rwX4_cellOf : List dz_r := [(0, .iload_n 2, 1), (1, .iconst 5, 1), (2, .imul, 1), (3, .aload_n 0, 1), (4, .iload_n 1, 1), (5, .iload_n 2, 1), (6, .invokevirtual 190, 3), (9, .iadd, 1), (10, .bipush 6, 2), (12, .imul, 1), (13, .ireturn, 1)]
theorem dzX4_cellOf : dz cX4_cellOf rwX4_cellOf := dz_all 0 (by decide +kernel)
def kX4_cellOf (live : am_E) (Ret : am_R) : am_code := [(0, am_iload 2 1), (1, am_const (.int 5) 2), (2, am_i2 (fun x y => x * y) 3), (3, am_aload 0 4), (4, am_iload 1 5), (5, am_iload 2 6), (6, am_callV live 4 2 TX4_planIn 9), (9, am_i2 (fun x y => x + y) 10), (10, am_const (.int 6) 12), (12, am_i2 (fun x y => x * y) 13), (13, am_retI Ret)]
theorem koX4_cellOf (live : am_E) (Ret : am_R) : ∀ q ∈ kX4_cellOf live Ret, am_ok RX4 cX4_cellOf 3 (some .int) 1 22 live Ret q.1 q.2 :=
  am_kz dzX4_cellOf <|
  am_kd (fun d => ak_iload_n d rfl rfl) <|
  am_kd (fun d => ak_iconst d (by decide +kernel) rfl) <|
  am_kd (fun d => ak_imul d rfl) <|
  am_kd (fun d => ak_aload_n d rfl rfl) <|
  am_kd (fun d => ak_iload_n d rfl rfl) <|
  am_kd (fun d => ak_iload_n d rfl rfl) <|
  am_kd (fun d => ak_callV (C := RX4) (F := TX4) (N := 19) metX4_planIn rfl ⟨rfl, hy_X4_planIn⟩ (am_w5 wd_584 wd_586 wd_5 wd_60 wd_587) (by decide) d rfl) <|
  am_kd (fun d => ak_iadd d rfl) <|
  am_kd (fun d => ak_bipush d (by decide +kernel) rfl) <|
  am_kd (fun d => ak_imul d rfl) <|
  am_kd (fun d => ak_retI d) <| am_kdn
def TX4_cellOf : am_T := fun live as M R => match as with
  | [.ref n, .int l, .int y] => am_mn live ∧ n = 4 ∧ am_in l 30 ∧ am_in y 40 ∧ R (some (.int ((y * 5 + am_pln M l y) * 6))) M
  | _ => False
set_option maxRecDepth 100000 in
set_option maxHeartbeats 4000000 in
theorem metX4_cellOf : am_Met yX4_cellOf cX4_cellOf 3 (some .int) (1) (22) TX4_cellOf := by
  refine am_met (own := RX4) (by decide +kernel) rfl kX4_cellOf koX4_cellOf 60 (fun _ _ _ _ _ => none) (fun live as M Ret h => ?_) (fun _ _ _ _ _ _ _ _ hI => by cases hI)
  unfold TX4_cellOf at h
  split at h
  · next n l y =>
    refine ⟨Nat.le_of_ble_eq_true rfl, ?_⟩
    change am_wp _ _ _ _ [(0, Value.ref n), (1, Value.int l), (2, Value.int y)] _ _
    obtain ⟨hmn, rfl, hl, hy, h⟩ := h
    have hmn2 := hmn
    obtain ⟨i1, i2, rfl⟩ := hmn2
    repeat' (first | (with_reducible exact hmn) | (with_reducible exact hl) | (with_reducible exact hy) | apply And.intro | exact rfl | intro hx | (refine Exists.intro _ (And.intro rfl ?_)))
    all_goals try first | (with_reducible change am_tI _ _) | (change Ret _ _) | (change Ret _ _ _) | (change Exists _)
    all_goals try dsimp only at *
    all_goals try (with_reducible exact absurd ‹(1000 : Int64) = 0› am_z1000)
    all_goals first
      | (with_reducible exact hl.1)
      | (with_reducible exact hl.2)
      | (with_reducible exact hy.1)
      | (with_reducible exact hy.2)
      | (with_reducible exact h)
      | exact hl.1
      | exact hl.2
      | exact hy.1
      | exact hy.2
      | exact h
  · exact h.elim
set_option maxRecDepth 100000 in
theorem wd_206 : Cond.fieldLink "LearnLoans$Run" 59 "LearnLoans$House" "loans" "LLearnLoans$Rows;" ∈ am_ws := am_wt1 (List.mem_of_getElem? (i := 149) (by rfl)) (by decide +kernel)
set_option maxRecDepth 100000 in
theorem wd_502 : Cond.methodLink "LearnLoans$Run" 66 yX3_at ∈ am_ws := am_wt2 (List.mem_of_getElem? (i := 205) (by rfl)) (by decide +kernel)
set_option maxRecDepth 100000 in
theorem wd_294 : Cond.fieldLink "LearnLoans$Run" 18 "LearnLoans$Run" "numbers" "[I" ∈ am_ws := am_wt1 (List.mem_of_getElem? (i := 237) (by rfl)) (by decide +kernel)
theorem hy_X4_cellOf : yX4_cellOf.cls ≠ "java/lang/invoke/MethodHandle" ∧ yX4_cellOf.cls ≠ "java/lang/invoke/VarHandle" ∧ (parseMethodDescriptor yX4_cellOf.desc).map (fun d => d.parameters.length) = some 2 := ⟨by decide +kernel, by decide +kernel, by decide +kernel⟩
set_option maxRecDepth 100000 in
theorem wd_580 : Cond.methodLink "LearnLoans$Run" 170 yX4_cellOf ∈ am_ws := am_wt3 (List.mem_of_getElem? (i := 43) (by rfl)) (by decide +kernel)
set_option maxRecDepth 100000 in
theorem wd_582 : Cond.instanceMethod yX4_cellOf ∈ am_ws := am_wt3 (List.mem_of_getElem? (i := 45) (by rfl)) (by decide +kernel)
set_option maxRecDepth 100000 in
theorem wd_4 : Cond.selects "LearnLoans$Run" yX4_cellOf yX4_cellOf ∈ am_ws := am_wsi (List.mem_of_getElem? (i := 4) (by rfl)) (by decide +kernel)
set_option maxRecDepth 100000 in
theorem wd_583 : Cond.code yX4_cellOf cX4_cellOf 3 (some .int) ∈ am_ws := am_wt3 (List.mem_of_getElem? (i := 46) (by rfl)) (by decide +kernel)
def rwX4_isStruck : List dz_r := [(0, .iload_n 2, 1), (1, .aload_n 0, 1), (2, .getfield 12, 3), (5, .getfield 59, 3), (8, .iload_n 1, 1), (9, .iconst 2, 1), (10, .invokevirtual 66, 3), (13, .isub, 1), (14, .istore_n 3, 1), (15, .aload_n 0, 1), (16, .getfield 145, 3), (19, .ifCond .ne 20, 3), (22, .iload_n 3, 1), (23, .aload_n 0, 1), (24, .getfield 18, 3), (27, .aload_n 0, 1), (28, .iload_n 1, 1), (29, .iload_n 2, 1), (30, .invokevirtual 170, 3), (33, .iconst 3, 1), (34, .iadd, 1), (35, .iaload, 1), (36, .if_icmp .lt 7, 3), (39, .iconst 1, 1), (40, .goto 4, 3), (43, .iconst 0, 1), (44, .ireturn, 1)]
theorem dzX4_isStruck : dz cX4_isStruck rwX4_isStruck := dz_all 0 (by decide +kernel)
def kX4_isStruck (live : am_E) (Ret : am_R) : am_code := [(0, am_iload 2 1), (1, am_aload 0 2), (2, am_getR live 4 0 5), (5, am_getR live 0 4 8), (8, am_iload 1 9), (9, am_const (.int 2) 10), (10, am_callV live 3 2 TX3_at 13), (13, am_i2 (fun x y => x - y) 14), (14, am_istore 3 4 15), (15, am_aload 0 16), (16, am_getI live 4 18 19), (19, am_if1 (fun x => x = 0) 22 39), (22, am_iload 3 23), (23, am_aload 0 24), (24, am_getR live 4 1 27), (27, am_aload 0 28), (28, am_iload 1 29), (29, am_iload 2 30), (30, am_callV live 4 2 TX4_cellOf 33), (33, am_const (.int 3) 34), (34, am_i2 (fun x y => x + y) 35), (35, am_ald live 0 36), (36, am_if2 (fun x y => x < y) 43 39), (39, am_const (.int 1) 40), (40, am_goto 44), (43, am_const (.int 0) 44), (44, am_retZ Ret)]
theorem koX4_isStruck (live : am_E) (Ret : am_R) : ∀ q ∈ kX4_isStruck live Ret, am_ok RX4 cX4_isStruck 4 (some .boolean) 2 44 live Ret q.1 q.2 :=
  am_kz dzX4_isStruck <|
  am_kd (fun d => ak_iload_n d rfl rfl) <|
  am_kd (fun d => ak_aload_n d rfl rfl) <|
  am_kd (fun d => ak_getR (C := RX4) (T := TX4) (N := 19) rfl inX4w (by decide) rfl rfl rfl wd_291 d rfl) <|
  am_kd (fun d => ak_getR (C := RX0) (T := TX0) (N := 13) rfl inX0w (by decide) rfl rfl rfl wd_206 d rfl) <|
  am_kd (fun d => ak_iload_n d rfl rfl) <|
  am_kd (fun d => ak_iconst d (by decide +kernel) rfl) <|
  am_kd (fun d => ak_callV (C := RX3) (F := TX3) (N := 3) metX3_at rfl ⟨rfl, hy_X3_at⟩ (am_w5 wd_502 wd_503 wd_504 wd_64 wd_505) (by decide) d rfl) <|
  am_kd (fun d => ak_isub d rfl) <|
  am_kd (fun d => ak_istore_n d rfl rfl) <|
  am_kd (fun d => ak_aload_n d rfl rfl) <|
  am_kd (fun d => ak_getI (C := RX4) (T := TX4) (N := 19) rfl inX4w (by decide) rfl rfl rfl wd_315 d rfl) <|
  am_kd (fun d => ak_if_ne d (by decide +kernel) rfl) <|
  am_kd (fun d => ak_iload_n d rfl rfl) <|
  am_kd (fun d => ak_aload_n d rfl rfl) <|
  am_kd (fun d => ak_getR (C := RX4) (T := TX4) (N := 19) rfl inX4w (by decide) rfl rfl rfl wd_294 d rfl) <|
  am_kd (fun d => ak_aload_n d rfl rfl) <|
  am_kd (fun d => ak_iload_n d rfl rfl) <|
  am_kd (fun d => ak_iload_n d rfl rfl) <|
  am_kd (fun d => ak_callV (C := RX4) (F := TX4) (N := 19) metX4_cellOf rfl ⟨rfl, hy_X4_cellOf⟩ (am_w5 wd_580 wd_582 wd_4 wd_60 wd_583) (by decide) d rfl) <|
  am_kd (fun d => ak_iconst d (by decide +kernel) rfl) <|
  am_kd (fun d => ak_iadd d rfl) <|
  am_kd (fun d => ak_iald (t := 0) (fun _ => rfl) rfl d rfl) <|
  am_kd (fun d => ak_icmp_lt d (by decide +kernel) rfl) <|
  am_kd (fun d => ak_iconst d (by decide +kernel) rfl) <|
  am_kd (fun d => ak_goto d (by decide +kernel)) <|
  am_kd (fun d => ak_iconst d (by decide +kernel) rfl) <|
  am_kd (fun d => ak_retZ d) <| am_kdn
def am_cell (M : am_M) (l y k : Int32) : Int32 := M.1 5 ((y * 5 + am_pln M l y) * 6 + k).toNatClampNeg
def am_isStr (M : am_M) (l y : Int32) : Prop := ¬ M.1 4 18 = 0 ∨ ¬ (y - am_loanAt M l 2 < am_cell M l y 3)
theorem am_celly {y p k : Int32} (h2 : am_in y 40) (h3 : am_in p 5) (h4 : am_in k 6) : ((y * 5 + p) * 6 + k).toInt = (y.toInt * 5 + p.toInt) * 6 + k.toInt := by
  obtain ⟨b1, b2⟩ := h2
  obtain ⟨c1, c2⟩ := h3
  obtain ⟨d1, d2⟩ := h4
  have e := i_mul (x := y) (y := 5) (by simp only [Int32.reduceToInt]; omega) (by simp only [Int32.reduceToInt]; omega)
  simp only [Int32.reduceToInt] at e
  have e2 := i_add (x := y * 5) (y := p) (by rw [e]; omega) (by rw [e]; omega)
  have e3 := i_mul (x := y * 5 + p) (y := 6) (by simp only [Int32.reduceToInt]; omega) (by simp only [Int32.reduceToInt]; omega)
  simp only [Int32.reduceToInt] at e3
  rw [i_add (by omega) (by omega)]
  omega
def TX4_isStruck : am_T := fun live as M R => match as with
  | [.ref n, .int l, .int y] => am_mn live ∧ n = 4 ∧ am_in l 30 ∧ am_in y 40 ∧ am_in (am_pln M l y) 5 ∧ (am_isStr M l y → R (some (.int 1)) M) ∧ (¬ am_isStr M l y → R (some (.int 0)) M)
  | _ => False
set_option maxRecDepth 100000 in
set_option maxHeartbeats 4000000 in
theorem metX4_isStruck : am_Met yX4_isStruck cX4_isStruck 4 (some .boolean) (2) (44) TX4_isStruck := by
  refine am_met (own := RX4) (by decide +kernel) rfl kX4_isStruck koX4_isStruck 100 (fun _ _ _ _ _ => none) (fun live as M Ret h => ?_) (fun _ _ _ _ _ _ _ _ hI => by cases hI)
  unfold TX4_isStruck at h
  split at h
  · next n l y =>
    refine ⟨Nat.le_of_ble_eq_true rfl, ?_⟩
    change am_wp _ _ _ _ [(0, Value.ref n), (1, Value.int l), (2, Value.int y)] _ _
    obtain ⟨hmn, rfl, hl, hy, hp, h, hh⟩ := h
    have hmn2 := hmn
    obtain ⟨i1, i2, rfl⟩ := hmn2
    have e := am_celly hy hp (k := 3) ⟨by decide, by decide⟩
    have l5 : am_len 5 = 1200 := rfl
    have l34 : am_len 34 = 240 := rfl
    have k3 : Int32.toInt 3 = 3 := rfl
    obtain ⟨b1, b2⟩ := hy
    obtain ⟨c1, c2⟩ := hp
    repeat' (first | (with_reducible exact hmn) | (with_reducible exact hl) | apply And.intro | exact rfl | intro hx | (refine Exists.intro _ (And.intro rfl ?_)))
    all_goals try first | (with_reducible change am_tI _ _) | (change Ret _ _) | (change Ret _ _ _) | (change Exists _)
    all_goals try dsimp only at *
    all_goals try (with_reducible exact absurd ‹(1000 : Int64) = 0› am_z1000)
    all_goals first
      | (left; rfl)
      | (right; rfl)
      | exact hl.1
      | exact hl.2
      | omega
      | (rw [l5]; omega)
      | exact h (Or.inl hx)
      | exact h (Or.inr hx)
      | (refine hh (fun q => ?_)
         rcases q with q | q
         · exact q (by with_reducible assumption)
         · exact q hx)
  · exact h.elim
end
-- part 21.run2.lean.txt
section
/-! Run: growing, sums together -/
set_option maxRecDepth 100000 in
theorem wd_296 : Cond.fieldLink "LearnLoans$Run" 22 "LearnLoans$Run" "sums" "[J" ∈ am_ws := am_wt1 (List.mem_of_getElem? (i := 239) (by rfl)) (by decide +kernel)
set_option maxRecDepth 100000 in
theorem wd_617 : Cond.constantLong "LearnLoans$Run" 173 1000 ∈ am_ws := am_wt3 (List.mem_of_getElem? (i := 80) (by rfl)) (by decide +kernel)
set_option maxRecDepth 100000 in
theorem wd_618 : Cond.constantLong "LearnLoans$Run" 175 1000000000000 ∈ am_ws := am_wt3 (List.mem_of_getElem? (i := 81) (by rfl)) (by decide +kernel)
set_option maxRecDepth 100000 in
theorem wd_607 : Cond.methodLink "LearnLoans$Run" 177 Lib.MathLoose.min_long.x ∈ am_ws := am_wt3 (List.mem_of_getElem? (i := 70) (by rfl)) (by decide +kernel)
set_option maxRecDepth 100000 in
theorem wd_608 : Cond.static Lib.MathLoose.min_long.x ∈ am_ws := am_wt3 (List.mem_of_getElem? (i := 71) (by rfl)) (by decide +kernel)
set_option maxRecDepth 100000 in
theorem wd_609 : Cond.code Lib.MathLoose.min_long.x Lib.MathLoose.min_long.code 4 (some .long) ∈ am_ws := am_wt3 (List.mem_of_getElem? (i := 72) (by rfl)) (by decide +kernel)
def rwX4_grow : List dz_r := [(0, .aload_n 0, 1), (1, .getfield 22, 3), (4, .iconst 0, 1), (5, .iload_n 1, 1), (6, .iadd, 1), (7, .laload, 1), (8, .lstore_n 3, 1), (9, .lload_n 3, 1), (10, .iload_n 2, 1), (11, .i2l, 1), (12, .lmul, 1), (13, .ldc2_w 173, 3), (16, .ldiv, 1), (17, .ldc2_w 175, 3), (20, .lload_n 3, 1), (21, .lsub, 1), (22, .invokestatic 177, 3), (25, .lstore 5, 2), (27, .aload_n 0, 1), (28, .getfield 22, 3), (31, .bipush 120, 2), (33, .iload_n 1, 1), (34, .iadd, 1), (35, .lload 5, 2), (37, .lastore, 1), (38, .aload_n 0, 1), (39, .getfield 22, 3), (42, .iconst 0, 1), (43, .iload_n 1, 1), (44, .iadd, 1), (45, .lload_n 3, 1), (46, .lload 5, 2), (48, .ladd, 1), (49, .lastore, 1), (50, .return_, 1)]
theorem dzX4_grow : dz cX4_grow rwX4_grow := dz_all 0 (by decide +kernel)
def kX4_grow (live : am_E) (Ret : am_R) : am_code := [(0, am_aload 0 1), (1, am_getR live 4 2 4), (4, am_const (.int 0) 5), (5, am_iload 1 6), (6, am_i2 (fun x y => x + y) 7), (7, am_lald live 1 8), (8, am_lstore 3 7 9), (9, am_lload 3 10), (10, am_iload 2 11), (11, am_i2l 12), (12, am_l2 (fun x y => x * y) 13), (13, am_const (.long 1000) 16), (16, am_l2z (fun x y => x / y) 17), (17, am_const (.long 1000000000000) 20), (20, am_lload 3 21), (21, am_l2 (fun x y => x - y) 22), (22, am_mathl (fun x y => if y < x then y else x) 23 25), (25, am_lstore 5 7 27), (27, am_aload 0 28), (28, am_getR live 4 2 31), (31, am_const (.int 120) 33), (33, am_iload 1 34), (34, am_i2 (fun x y => x + y) 35), (35, am_lload 5 37), (37, am_last live 1 38), (38, am_aload 0 39), (39, am_getR live 4 2 42), (42, am_const (.int 0) 43), (43, am_iload 1 44), (44, am_i2 (fun x y => x + y) 45), (45, am_lload 3 46), (46, am_lload 5 48), (48, am_l2 (fun x y => x + y) 49), (49, am_last live 1 50), (50, am_retV Ret)]
theorem koX4_grow (live : am_E) (Ret : am_R) : ∀ q ∈ kX4_grow live Ret, am_ok RX4 cX4_grow 7 none 1 23 live Ret q.1 q.2 :=
  am_kz dzX4_grow <|
  am_kd (fun d => ak_aload_n d rfl rfl) <|
  am_kd (fun d => ak_getR (C := RX4) (T := TX4) (N := 19) rfl inX4w (by decide) rfl rfl rfl wd_296 d rfl) <|
  am_kd (fun d => ak_iconst d (by decide +kernel) rfl) <|
  am_kd (fun d => ak_iload_n d rfl rfl) <|
  am_kd (fun d => ak_iadd d rfl) <|
  am_kd (fun d => ak_lald (t := 1) (fun _ => rfl) rfl d rfl) <|
  am_kd (fun d => ak_lstore_n d rfl rfl) <|
  am_kd (fun d => ak_lload_n d rfl rfl) <|
  am_kd (fun d => ak_iload_n d rfl rfl) <|
  am_kd (fun d => ak_i2l d rfl) <|
  am_kd (fun d => ak_lmul d rfl) <|
  am_kd (fun d => ak_ldc2 wd_617 d rfl) <|
  am_kd (fun d => ak_ldiv d rfl) <|
  am_kd (fun d => ak_ldc2 wd_618 d rfl) <|
  am_kd (fun d => ak_lload_n d rfl rfl) <|
  am_kd (fun d => ak_lsub d rfl) <|
  am_kd (fun d => ak_lmin (am_w4 wd_607 wd_608 wd_68 wd_609) (by decide) d rfl) <|
  am_kd (fun d => ak_lstore d rfl) <|
  am_kd (fun d => ak_aload_n d rfl rfl) <|
  am_kd (fun d => ak_getR (C := RX4) (T := TX4) (N := 19) rfl inX4w (by decide) rfl rfl rfl wd_296 d rfl) <|
  am_kd (fun d => ak_bipush d (by decide +kernel) rfl) <|
  am_kd (fun d => ak_iload_n d rfl rfl) <|
  am_kd (fun d => ak_iadd d rfl) <|
  am_kd (fun d => ak_lload d rfl) <|
  am_kd (fun d => ak_last (t := 1) (fun _ => rfl) rfl d rfl) <|
  am_kd (fun d => ak_aload_n d rfl rfl) <|
  am_kd (fun d => ak_getR (C := RX4) (T := TX4) (N := 19) rfl inX4w (by decide) rfl rfl rfl wd_296 d rfl) <|
  am_kd (fun d => ak_iconst d (by decide +kernel) rfl) <|
  am_kd (fun d => ak_iload_n d rfl rfl) <|
  am_kd (fun d => ak_iadd d rfl) <|
  am_kd (fun d => ak_lload_n d rfl rfl) <|
  am_kd (fun d => ak_lload d rfl) <|
  am_kd (fun d => ak_ladd d rfl) <|
  am_kd (fun d => ak_last (t := 1) (fun _ => rfl) rfl d rfl) <|
  am_kd (fun d => ak_retV d) <| am_kdn
def am_grown (o : Int64) (r : Int32) : Int64 := if 1000000000000 - o < o * r.toInt64 / 1000 then 1000000000000 - o else o * r.toInt64 / 1000
theorem am_ix0 {l : Int32} : (0 + l).toNatClampNeg = l.toNatClampNeg := by rw [Int32.zero_add]
theorem am_ixk {l k : Int32} {n : Nat} (h : am_in l 30) (hk : k.toInt = (n : Int)) (hn : n ≤ 1000) : (k + l).toInt = (n : Int) + l.toInt ∧ (k + l).toNatClampNeg = n + l.toNatClampNeg := by
  obtain ⟨a1, a2⟩ := h
  have e := i_add (x := k) (y := l) (by rw [hk]; omega) (by rw [hk]; omega)
  rw [hk] at e
  have e2 := i_clamp (x := k + l) (by rw [e]; omega)
  have e3 := i_clamp (x := l) a1
  exact ⟨e, by omega⟩
def TX4_grow : am_T := fun live as M R => match as with
  | [.ref n, .int l, .int r] => am_mn live ∧ n = 4 ∧ am_in l 30 ∧ R none (am_wJ (am_wJ M 6 (120 + l.toNatClampNeg) (am_grown (M.2 6 l.toNatClampNeg) r)) 6 l.toNatClampNeg (M.2 6 l.toNatClampNeg + am_grown (M.2 6 l.toNatClampNeg) r))
  | _ => False
set_option maxRecDepth 100000 in
set_option maxHeartbeats 4000000 in
theorem metX4_grow : am_Met yX4_grow cX4_grow 7 none (1) (23) TX4_grow := by
  refine am_met (own := RX4) (by decide +kernel) rfl kX4_grow koX4_grow 100 (fun _ _ _ _ _ => none) (fun live as M Ret h => ?_) (fun _ _ _ _ _ _ _ _ hI => by cases hI)
  unfold TX4_grow at h
  split at h
  · next n l r =>
    refine ⟨Nat.le_of_ble_eq_true rfl, ?_⟩
    change am_wp _ _ _ _ [(0, Value.ref n), (1, Value.int l), (2, Value.int r)] _ _
    obtain ⟨hmn, rfl, hl, h⟩ := h
    obtain ⟨i1, i2, rfl⟩ := hmn
    have l6 : am_len 6 = 180 := rfl
    have e0 := am_ixk hl (k := 0) (n := 0) rfl (by decide)
    have e4 := am_ixk hl (k := 120) (n := 120) rfl (by decide)
    obtain ⟨a1, a2⟩ := hl
    repeat' (first | apply And.intro | exact rfl | intro hx | (refine Exists.intro _ (And.intro rfl ?_)))
    all_goals try first | (with_reducible change am_tI _ _) | (change Ret _ _) | (change Ret _ _ _) | (change Exists _)
    all_goals try dsimp only at *
    all_goals try (with_reducible exact absurd ‹(1000 : Int64) = 0› am_z1000)
    all_goals first
      | (rw [e0.1]; omega)
      | (rw [e0.1, l6]; omega)
      | (rw [e4.1]; omega)
      | (rw [e4.1, l6]; omega)
      | skip
    simp only [e4.2, am_ix0]
    exact h
  · exact h.elim
end
-- part 22.inv.lean.txt
section
/-! general: what holds of the told cells of the main house, and of the run's own -/
def am_rg (x : Int32) (n : Nat) : Prop := ∃ _ : Unit, 0 ≤ x.toInt ∧ x.toInt ≤ (n : Int)
def g_in (j : Int32) (N : Nat) : Prop := ∃ _ : Unit, am_in j N
theorem g_in.i {j : Int32} {N : Nat} (h : g_in j N) : am_in j N := by obtain ⟨-, h⟩ := h; exact h
theorem g_in.o {j : Int32} {N : Nat} (h : am_in j N) : g_in j N := ⟨(), h⟩
theorem am_rg.i {x : Int32} {n : Nat} (h : am_rg x n) : 0 ≤ x.toInt ∧ x.toInt ≤ (n : Int) := by obtain ⟨-, h⟩ := h; exact h
theorem am_rg.o {x : Int32} {n : Nat} (h1 : 0 ≤ x.toInt) (h2 : x.toInt ≤ (n : Int)) : am_rg x n := ⟨(), h1, h2⟩
/-- told: plans, lands, texts -/
def g_tI (M : am_M) : Prop := ∃ _ : Unit, (∀ k, k < 1200 → am_in (M.1 37 k) 5) ∧ (∀ k, k < 480 → am_in (M.1 24 k) 4) ∧ (am_t0 M 39 ∧ am_t0 M 42 ∧ am_t0 M 45 ∧ am_t0 M 48 ∧ am_t0 M 51)
/-- the run's own -/
def g_sI (M : am_M) : Prop := ∃ _ : Unit, am_rg (M.1 4 7) 30 ∧ (∀ k, k < 30 → am_in (M.1 7 k) 30) ∧ (∀ k, k < 30 → am_in (M.1 8 k) 30) ∧ am_in (M.1 4 8) 12 ∧ 0 ≤ (M.1 4 10).toInt ∧ (M.1 4 11 = -1 ∨ am_in (M.1 4 11) 4) ∧ (M.1 4 12 = -1 ∨ am_in (M.1 4 12) 5) ∧ am_in (M.1 4 17) 4 ∧ am_in (M.1 4 13) 2
def g_rI (M : am_M) : Prop := ∃ _ : Unit, g_tI M ∧ g_sI M
def g_b (n : Nat) : Bool := Nat.ble 4 n && Nat.ble n 10
theorem g_b_of {n : Nat} (h : g_b n = true) : 4 ≤ n ∧ n ≤ 10 := by
  unfold g_b at h
  rw [Bool.and_eq_true] at h
  exact ⟨Nat.le_of_ble_eq_true h.1, Nat.le_of_ble_eq_true h.2⟩
/-- nothing but the run's own has changed -/
def g_sc (M M' : am_M) : Prop := ∃ _ : Unit, ∀ a b, (a < 4 ∨ 11 ≤ a) → M'.1 a b = M.1 a b ∧ M'.2 a b = M.2 a b
theorem g_sc.rf {M : am_M} : g_sc M M := ⟨(), fun _ _ _ => ⟨rfl, rfl⟩⟩
theorem g_sc.tr {M M' M'' : am_M} (h : g_sc M M') (h2 : g_sc M' M'') : g_sc M M'' := by
  obtain ⟨-, h⟩ := h
  obtain ⟨-, h2⟩ := h2
  exact ⟨(), fun a b z => ⟨(h2 a b z).1.trans (h a b z).1, (h2 a b z).2.trans (h a b z).2⟩⟩
theorem g_sc.wI {M M' : am_M} {n k : Nat} {v : Int32} (h : g_sc M M') (hn : g_b n = true) : g_sc M (am_wI M' n k v) := by
  obtain ⟨-, h⟩ := h
  have h1 := (g_b_of hn).1
  have h2 := (g_b_of hn).2
  refine ⟨(), fun a b z => ⟨?_, (h a b z).2⟩⟩
  rw [am_wI_1, if_neg (fun q => by omega)]
  exact (h a b z).1
theorem g_sc.wJ {M M' : am_M} {n k : Nat} {v : Int64} (h : g_sc M M') (hn : g_b n = true) : g_sc M (am_wJ M' n k v) := by
  obtain ⟨-, h⟩ := h
  have h1 := (g_b_of hn).1
  have h2 := (g_b_of hn).2
  refine ⟨(), fun a b z => ⟨(h a b z).1, ?_⟩⟩
  rw [am_wJ_1, if_neg (fun q => by omega)]
  exact (h a b z).2
theorem g_sc.cI {M M' : am_M} {n : Nat} {f : Nat → Int32} (h : g_sc M M') (hn : g_b n = true) : g_sc M (am_cI M' n f) := by
  obtain ⟨-, h⟩ := h
  have h1 := (g_b_of hn).1
  have h2 := (g_b_of hn).2
  refine ⟨(), fun a b z => ⟨?_, (h a b z).2⟩⟩
  rw [am_cI_1, if_neg (fun q => by omega)]
  exact (h a b z).1
theorem g_sc.cJ {M M' : am_M} {n : Nat} {f : Nat → Int64} (h : g_sc M M') (hn : g_b n = true) : g_sc M (am_cJ M' n f) := by
  obtain ⟨-, h⟩ := h
  have h1 := (g_b_of hn).1
  have h2 := (g_b_of hn).2
  refine ⟨(), fun a b z => ⟨(h a b z).1, ?_⟩⟩
  show (if a = n then f b else M'.2 a b) = _
  rw [if_neg (fun q => by omega)]
  exact (h a b z).2
theorem g_sc.st {M M' M'' : am_M} (h : g_sc M M') (h2 : am_st M' M'') : g_sc M M'' := by
  obtain ⟨-, h⟩ := h
  obtain ⟨-, h2, h3⟩ := h2
  refine ⟨(), fun a b z => ⟨?_, ?_⟩⟩
  · rw [h2]; exact (h a b z).1
  · rw [h3 a b (by omega)]; exact (h a b z).2
theorem g_sc.i {M M' : am_M} (h : g_sc M M') {a : Nat} (b : Nat) (ha : 11 ≤ a) : M'.1 a b = M.1 a b := by
  obtain ⟨-, h⟩ := h
  exact (h a b (Or.inr ha)).1
theorem g_sc.i2 {M M' : am_M} (h : g_sc M M') {a : Nat} (b : Nat) (ha : a < 4) : M'.1 a b = M.1 a b := by
  obtain ⟨-, h⟩ := h
  exact (h a b (Or.inl ha)).1
theorem g_rI.t {M : am_M} (h : g_rI M) : g_tI M := by obtain ⟨-, h, -⟩ := h; exact h
theorem g_rI.s {M : am_M} (h : g_rI M) : g_sI M := by obtain ⟨-, -, h⟩ := h; exact h
theorem g_tI.pl {M : am_M} (h : g_tI M) {k : Nat} (hk : k < 1200) : am_in (M.1 37 k) 5 := by obtain ⟨-, h, -⟩ := h; exact h k hk
theorem g_tI.ld {M : am_M} (h : g_tI M) {k : Nat} (hk : k < 480) : am_in (M.1 24 k) 4 := by obtain ⟨-, -, h, -⟩ := h; exact h k hk
theorem g_tI.tx {M : am_M} (h : g_tI M) : am_t0 M 39 ∧ am_t0 M 42 ∧ am_t0 M 45 ∧ am_t0 M 48 ∧ am_t0 M 51 := by obtain ⟨-, -, -, h⟩ := h; exact h
theorem g_tI.sc {M M' : am_M} (h : g_tI M) (c : g_sc M M') : g_tI M' := by
  obtain ⟨-, h1, h2, h3, h4, h5, h6, h7⟩ := h
  have ht : ∀ t, 11 ≤ t → am_t0 M t → am_t0 M' t := fun t ht z => by
    obtain ⟨-, z1, z2⟩ := z
    refine ⟨(), ?_, ?_⟩
    · rw [c.i 2 ht]; exact z1
    · rw [c.i 5 ht]; exact z2
  refine ⟨(), fun k hk => ?_, fun k hk => ?_, ht _ (by decide) h3, ht _ (by decide) h4, ht _ (by decide) h5, ht _ (by decide) h6, ht _ (by decide) h7⟩
  · rw [c.i k (by decide)]; exact h1 k hk
  · rw [c.i k (by decide)]; exact h2 k hk
theorem g_sI.sz {M : am_M} (h : g_sI M) : 0 ≤ (M.1 4 7).toInt ∧ (M.1 4 7).toInt ≤ 30 := by obtain ⟨-, h, -⟩ := h; exact h.i
theorem g_sI.mi {M : am_M} (h : g_sI M) {k : Nat} (hk : k < 30) : am_in (M.1 7 k) 30 := by obtain ⟨-, -, h, -⟩ := h; exact h k hk
theorem g_sI.qu {M : am_M} (h : g_sI M) {k : Nat} (hk : k < 30) : am_in (M.1 8 k) 30 := by obtain ⟨-, -, -, h, -⟩ := h; exact h k hk
theorem g_sI.pe {M : am_M} (h : g_sI M) : am_in (M.1 4 8) 12 := by obtain ⟨-, -, -, -, h, -⟩ := h; exact h
theorem g_sI.ny {M : am_M} (h : g_sI M) : 0 ≤ (M.1 4 10).toInt := by obtain ⟨-, -, -, -, -, h, -⟩ := h; exact h
theorem g_sI.li {M : am_M} (h : g_sI M) : M.1 4 11 = -1 ∨ am_in (M.1 4 11) 4 := by obtain ⟨-, -, -, -, -, -, h, -⟩ := h; exact h
theorem g_sI.pn {M : am_M} (h : g_sI M) : M.1 4 12 = -1 ∨ am_in (M.1 4 12) 5 := by obtain ⟨-, -, -, -, -, -, -, h, -⟩ := h; exact h
theorem g_sI.la {M : am_M} (h : g_sI M) : am_in (M.1 4 17) 4 := by obtain ⟨-, -, -, -, -, -, -, -, h, -⟩ := h; exact h
theorem g_sI.da {M : am_M} (h : g_sI M) : am_in (M.1 4 13) 2 := by obtain ⟨-, -, -, -, -, -, -, -, -, h⟩ := h; exact h
/-- a number of the run is written: what must hold of it -/
def g_fld (n k : Nat) (v : Int32) : Prop := (n = 4 → k = 7 → am_rg v 30) ∧ (n = 4 → k = 8 → am_in v 12) ∧ (n = 4 → k = 10 → 0 ≤ v.toInt) ∧ (n = 4 → k = 11 → v = -1 ∨ am_in v 4) ∧ (n = 4 → k = 12 → v = -1 ∨ am_in v 5) ∧ (n = 4 → k = 17 → am_in v 4) ∧ (n = 4 → k = 13 → am_in v 2) ∧ (n = 7 → am_in v 30) ∧ (n = 8 → am_in v 30)
theorem g_sI.wI {M : am_M} {n k : Nat} {v : Int32} (h : g_sI M) (hv : g_fld n k v) : g_sI (am_wI M n k v) := by
  obtain ⟨-, h1, h2, h3, h4, h5, h6, h7, h8, h9⟩ := h
  obtain ⟨v1, v2, v3, v4, v5, v6, v9, v7, v8⟩ := hv
  refine ⟨(), ?_, fun j hj => ?_, fun j hj => ?_, ?_, ?_, ?_, ?_, ?_, ?_⟩
  all_goals
    rw [am_wI_1]
    split
    · next q => first | exact v1 q.1.symm q.2.symm | exact v2 q.1.symm q.2.symm | exact v3 q.1.symm q.2.symm | exact v4 q.1.symm q.2.symm | exact v5 q.1.symm q.2.symm | exact v6 q.1.symm q.2.symm | exact v9 q.1.symm q.2.symm | exact v7 q.1.symm | exact v8 q.1.symm
    · first | assumption | exact h2 j hj | exact h3 j hj
theorem g_rI.wI {M : am_M} {n k : Nat} {v : Int32} (h : g_rI M) (hn : g_b n = true) (hv : g_fld n k v) : g_rI (am_wI M n k v) := by
  obtain ⟨-, h1, h2⟩ := h
  exact ⟨(), h1.sc (g_sc.rf.wI hn), h2.wI hv⟩
theorem g_rI.eI {M M' : am_M} (h : g_rI M) (e : ∀ a b, M'.1 a b = M.1 a b) : g_rI M' := by
  obtain ⟨-, h1, h2⟩ := h
  have e' : M'.1 = M.1 := funext fun a => funext fun b => e a b
  obtain ⟨-, a1, a2, a3, a4, a5, a6, a7⟩ := h1
  obtain ⟨-, b1, b2, b3, b4, b5, b6, b7, b8⟩ := h2
  have ht : ∀ t, am_t0 M t → am_t0 M' t := fun t z => by
    obtain ⟨-, z1, z2⟩ := z
    rw [← e'] at z1 z2
    exact ⟨(), z1, z2⟩
  rw [← e'] at a1 a2 b1 b2 b3 b4 b5 b6 b7 b8
  exact ⟨(), ⟨(), a1, a2, ht _ a3, ht _ a4, ht _ a5, ht _ a6, ht _ a7⟩, ⟨(), b1, b2, b3, b4, b5, b6, b7, b8⟩⟩
theorem g_rI.wJ {M : am_M} {n k : Nat} {v : Int64} (h : g_rI M) : g_rI (am_wJ M n k v) := h.eI (fun _ _ => rfl)
theorem g_rI.cJ {M : am_M} {n : Nat} {f : Nat → Int64} (h : g_rI M) : g_rI (am_cJ M n f) := h.eI (fun _ _ => rfl)
theorem g_rI.st {M M' : am_M} (h : g_rI M) (h2 : am_st M M') : g_rI M' := by
  obtain ⟨-, h2, -⟩ := h2
  exact h.eI (fun a b => by rw [h2])
theorem g_rI.c5 {M : am_M} {f : Nat → Int32} (h : g_rI M) : g_rI (am_cI M 5 f) := by
  obtain ⟨-, h1, h2⟩ := h
  refine ⟨(), h1.sc (g_sc.rf.cI rfl), ?_⟩
  obtain ⟨-, b1, b2, b3, b4, b5, b6, b7, b8⟩ := h2
  exact ⟨(), b1, b2, b3, b4, b5, b6, b7, b8⟩
/-- fields and cells of which nothing is asked -/
def g_fre (n k : Nat) : Bool := g_b n && !(Nat.beq n 7) && !(Nat.beq n 8) && !(Nat.beq n 4 && (Nat.beq k 7 || Nat.beq k 8 || Nat.beq k 10 || Nat.beq k 11 || Nat.beq k 12 || Nat.beq k 17 || Nat.beq k 13))
theorem g_fre_fld {n k : Nat} {v : Int32} (h : g_fre n k = true) : g_fld n k v := by
  refine ⟨?_, ?_, ?_, ?_, ?_, ?_, ?_, ?_, ?_⟩
  all_goals
    intros
    subst_vars
    first | (exact absurd h (by decide)) | (simp [g_fre] at h)
theorem g_rI.wF {M : am_M} {n k : Nat} {v : Int32} (h : g_rI M) (hf : g_fre n k = true) : g_rI (am_wI M n k v) := by
  have h2 := hf
  unfold g_fre at h2
  simp only [Bool.and_eq_true] at h2
  exact h.wI h2.1.1.1 (g_fre_fld hf)
/-- a number of the layout: the cell is no literal -/
theorem g_rI.w5 {M : am_M} {k : Nat} {v : Int32} (h : g_rI M) : g_rI (am_wI M 5 k v) := h.wI rfl (by
  refine ⟨?_, ?_, ?_, ?_, ?_, ?_, ?_, ?_, ?_⟩
  all_goals intro q; exact absurd q (by decide))
theorem g_rI.w7 {M : am_M} {k : Nat} {v : Int32} (h : g_rI M) (hv : am_in v 30) : g_rI (am_wI M 7 k v) := h.wI rfl (by
  refine ⟨?_, ?_, ?_, ?_, ?_, ?_, ?_, fun _ => hv, fun _ => hv⟩
  all_goals intro q; exact absurd q (by decide))
theorem g_rI.w8 {M : am_M} {k : Nat} {v : Int32} (h : g_rI M) (hv : am_in v 30) : g_rI (am_wI M 8 k v) := h.wI rfl (by
  refine ⟨?_, ?_, ?_, ?_, ?_, ?_, ?_, fun _ => hv, fun _ => hv⟩
  all_goals intro q; exact absurd q (by decide))
theorem g_4 {k : Nat} {v : Int32} (h7 : k = 7 → am_rg v 30) (h8 : k = 8 → am_in v 12) (h10 : k = 10 → 0 ≤ v.toInt) (h11 : k = 11 → v = -1 ∨ am_in v 4) (h12 : k = 12 → v = -1 ∨ am_in v 5) (h17 : k = 17 → am_in v 4) (h13 : k = 13 → am_in v 2 := by exact fun q => absurd q (by decide)) : g_fld 4 k v :=
  ⟨fun _ => h7, fun _ => h8, fun _ => h10, fun _ => h11, fun _ => h12, fun _ => h17, fun _ => h13, fun q => absurd q (by decide), fun q => absurd q (by decide)⟩
theorem g_rI.w47 {M : am_M} {v : Int32} (h : g_rI M) (hv : am_rg v 30) : g_rI (am_wI M 4 7 v) := h.wI rfl (g_4 (fun _ => hv) (fun q => absurd q (by decide)) (fun q => absurd q (by decide)) (fun q => absurd q (by decide)) (fun q => absurd q (by decide)) (fun q => absurd q (by decide)))
theorem g_rI.w48 {M : am_M} {v : Int32} (h : g_rI M) (hv : am_in v 12) : g_rI (am_wI M 4 8 v) := h.wI rfl (g_4 (fun q => absurd q (by decide)) (fun _ => hv) (fun q => absurd q (by decide)) (fun q => absurd q (by decide)) (fun q => absurd q (by decide)) (fun q => absurd q (by decide)))
theorem g_rI.w410 {M : am_M} {v : Int32} (h : g_rI M) (hv : 0 ≤ v.toInt) : g_rI (am_wI M 4 10 v) := h.wI rfl (g_4 (fun q => absurd q (by decide)) (fun q => absurd q (by decide)) (fun _ => hv) (fun q => absurd q (by decide)) (fun q => absurd q (by decide)) (fun q => absurd q (by decide)))
theorem g_rI.w411 {M : am_M} {v : Int32} (h : g_rI M) (hv : v = -1 ∨ am_in v 4) : g_rI (am_wI M 4 11 v) := h.wI rfl (g_4 (fun q => absurd q (by decide)) (fun q => absurd q (by decide)) (fun q => absurd q (by decide)) (fun _ => hv) (fun q => absurd q (by decide)) (fun q => absurd q (by decide)))
theorem g_rI.w412 {M : am_M} {v : Int32} (h : g_rI M) (hv : v = -1 ∨ am_in v 5) : g_rI (am_wI M 4 12 v) := h.wI rfl (g_4 (fun q => absurd q (by decide)) (fun q => absurd q (by decide)) (fun q => absurd q (by decide)) (fun q => absurd q (by decide)) (fun _ => hv) (fun q => absurd q (by decide)))
theorem g_rI.w417 {M : am_M} {v : Int32} (h : g_rI M) (hv : am_in v 4) : g_rI (am_wI M 4 17 v) := h.wI rfl (g_4 (fun q => absurd q (by decide)) (fun q => absurd q (by decide)) (fun q => absurd q (by decide)) (fun q => absurd q (by decide)) (fun q => absurd q (by decide)) (fun _ => hv))
theorem g_i2 (q : Prop) [Decidable q] : am_in (if q then (1 : Int32) else 0) 2 := by
  split
  · exact ⟨by decide, by decide⟩
  · exact ⟨by decide, by decide⟩
theorem g_rI.w413 {M : am_M} {v : Int32} (h : g_rI M) (hv : am_in v 2) : g_rI (am_wI M 4 13 v) := h.wI rfl (g_4 (fun q => absurd q (by decide)) (fun q => absurd q (by decide)) (fun q => absurd q (by decide)) (fun q => absurd q (by decide)) (fun q => absurd q (by decide)) (fun q => absurd q (by decide)) (fun _ => hv))
/-- the plan that counts is one -/
theorem g_rI.pln {M : am_M} (h : g_rI M) {l y : Int32} (hl : am_in l 30) (hy : am_in y 40) : am_in (am_pln M l y) 5 := by
  have e := am_lny hl hy
  unfold am_pln
  split
  · refine h.t.pl ?_
    have e2 := i_clamp (x := l * 40 + y) (by obtain ⟨a1, a2⟩ := hl; obtain ⟨b1, b2⟩ := hy; omega)
    obtain ⟨a1, a2⟩ := hl; obtain ⟨b1, b2⟩ := hy
    omega
  · next q => exact h.s.pn.resolve_left q
theorem g_cl {x : Int32} {n : Nat} (h : am_in x n) : x.toNatClampNeg < n := by
  obtain ⟨a1, a2⟩ := h
  have := i_clamp a1
  omega
theorem i_inc {x : Int32} (h1 : -1 ≤ x.toInt) (h2 : x.toInt < 2000000000) : (x + 1).toInt = x.toInt + 1 := by
  have hi := i_add (x := x) (y := 1) (by simp only [Int32.reduceToInt]; omega) (by simp only [Int32.reduceToInt]; omega)
  simp only [Int32.reduceToInt] at hi
  exact hi
/-- the place of what is counted of a loan -/
theorem g_ix {l : Int32} (h : am_in l 30) (k : Int32) (n : Nat) (hk : k.toInt = (n : Int)) (hn : n ≤ 150) : 0 ≤ (k + l).toInt ∧ (k + l).toInt < 180 ∧ (k + l).toNatClampNeg = n + l.toNatClampNeg := by
  have e := am_ixk h hk (by omega)
  obtain ⟨a1, a2⟩ := h
  exact ⟨by omega, by omega, e.2⟩
/-- a text stands at its plan -/
theorem g_txt {live : am_E} (hmn : am_mn live) {p : Int32} (hp : am_in p 5) : ∃ t s c : Nat, live.2 38 p.toNatClampNeg = some t ∧ live.2 t 0 = some s ∧ live.2 t 1 = some c ∧ am_tc live t s c = true ∧ am_isO live 5 t = true ∧ (11 ≤ t ∧ t < 60) ∧ t = 39 + 3 * p.toNatClampNeg ∧ s = 40 + 3 * p.toNatClampNeg ∧ c = 41 + 3 * p.toNatClampNeg ∧ ∀ M, g_tI M → am_t0 M t := by
  obtain ⟨i1, i2, rfl⟩ := hmn
  have h := g_cl hp
  generalize p.toNatClampNeg = k at h ⊢
  match k, h with
  | 0, _ => exact ⟨39, 40, 41, rfl, rfl, rfl, rfl, rfl, ⟨by decide, by decide⟩, rfl, rfl, rfl, fun M z => z.tx.1⟩
  | 1, _ => exact ⟨42, 43, 44, rfl, rfl, rfl, rfl, rfl, ⟨by decide, by decide⟩, rfl, rfl, rfl, fun M z => z.tx.2.1⟩
  | 2, _ => exact ⟨45, 46, 47, rfl, rfl, rfl, rfl, rfl, ⟨by decide, by decide⟩, rfl, rfl, rfl, fun M z => z.tx.2.2.1⟩
  | 3, _ => exact ⟨48, 49, 50, rfl, rfl, rfl, rfl, rfl, ⟨by decide, by decide⟩, rfl, rfl, rfl, fun M z => z.tx.2.2.2.1⟩
  | 4, _ => exact ⟨51, 52, 53, rfl, rfl, rfl, rfl, rfl, ⟨by decide, by decide⟩, rfl, rfl, rfl, fun M z => z.tx.2.2.2.2⟩
  | k + 5, h => exact absurd h (by omega)
theorem am_lt_r {x a b : Nat} (h : a < b) : am_lt (x, a) (x, b) := Or.inr ⟨rfl, h⟩
theorem am_lt_l {x y a b : Nat} (h : x < y) : am_lt (x, a) (y, b) := Or.inl h
/-- what the ways change: the run's own, the ways' longs, what was owed ahead -/
def g_sw (M M' : am_M) : Prop := ∃ _ : Unit, ∀ a b, ((a < 4 ∨ 11 ≤ a) → M'.1 a b = M.1 a b) ∧ (11 ≤ a → M'.2 a b = M.2 a b)
def g_we (M M' : am_M) : Prop := ∃ _ : Unit, M'.1 = M.1 ∧ ∀ a b, a ≠ 2 → M'.2 a b = M.2 a b
theorem g_sw.rf {M : am_M} : g_sw M M := ⟨(), fun _ _ => ⟨fun _ => rfl, fun _ => rfl⟩⟩
theorem g_sw.tr {M M' M'' : am_M} (h : g_sw M M') (h2 : g_sw M' M'') : g_sw M M'' := by
  obtain ⟨-, h⟩ := h
  obtain ⟨-, h2⟩ := h2
  exact ⟨(), fun a b => ⟨fun z => ((h2 a b).1 z).trans ((h a b).1 z), fun z => ((h2 a b).2 z).trans ((h a b).2 z)⟩⟩
theorem g_sw.sc {M M' M'' : am_M} (h : g_sw M M') (h2 : g_sc M' M'') : g_sw M M'' := by
  obtain ⟨-, h2⟩ := h2
  exact h.tr ⟨(), fun a b => ⟨fun z => (h2 a b z).1, fun z => (h2 a b (Or.inr z)).2⟩⟩
theorem g_sw.we {M M' M'' : am_M} (h : g_sw M M') (h2 : g_we M' M'') : g_sw M M'' := by
  obtain ⟨-, h2, h3⟩ := h2
  exact h.tr ⟨(), fun a b => ⟨fun z => by rw [h2], fun z => h3 a b (by omega)⟩⟩
def g_b2 (n : Nat) : Bool := Nat.ble 2 n && Nat.ble n 10
theorem g_b2_of {n : Nat} (h : g_b2 n = true) : 2 ≤ n ∧ n ≤ 10 := by
  unfold g_b2 at h
  rw [Bool.and_eq_true] at h
  exact ⟨Nat.le_of_ble_eq_true h.1, Nat.le_of_ble_eq_true h.2⟩
theorem g_sw.wI {M M' : am_M} {n k : Nat} {v : Int32} (h : g_sw M M') (hn : g_b n = true) : g_sw M (am_wI M' n k v) := h.sc (g_sc.rf.wI hn)
theorem g_sw.wJ {M M' : am_M} {n k : Nat} {v : Int64} (h : g_sw M M') (hn : g_b2 n = true) : g_sw M (am_wJ M' n k v) := by
  have h1 := g_b2_of hn
  refine h.tr ⟨(), fun a b => ⟨fun z => rfl, fun z => ?_⟩⟩
  rw [am_wJ_1, if_neg (fun q => by omega)]
theorem g_sw.cJ {M M' : am_M} {n : Nat} {f : Nat → Int64} (h : g_sw M M') (hn : g_b2 n = true) : g_sw M (am_cJ M' n f) := by
  have h1 := g_b2_of hn
  refine h.tr ⟨(), fun a b => ⟨fun z => rfl, fun z => ?_⟩⟩
  show (if a = n then f b else M'.2 a b) = _
  rw [if_neg (fun q => by omega)]
theorem g_rI.cg {M M' : am_M} (h : g_rI M) (e : ∀ a b, 4 ≤ a → M'.1 a b = M.1 a b) : g_rI M' := by
  obtain ⟨-, h1, h2⟩ := h
  obtain ⟨-, a1, a2, a3, a4, a5, a6, a7⟩ := h1
  obtain ⟨-, b1, b2, b3, b4, b5, b6, b7, b8, b9⟩ := h2
  have ht : ∀ t, 4 ≤ t → am_t0 M t → am_t0 M' t := fun t ht z => by
    obtain ⟨-, z1, z2⟩ := z
    refine ⟨(), ?_, ?_⟩
    · rw [e t 2 ht]; exact z1
    · rw [e t 5 ht]; exact z2
  refine ⟨(), ⟨(), fun k hk => ?_, fun k hk => ?_, ht _ (by decide) a3, ht _ (by decide) a4, ht _ (by decide) a5, ht _ (by decide) a6, ht _ (by decide) a7⟩, ⟨(), ?_, fun k hk => ?_, fun k hk => ?_, ?_, ?_, ?_, ?_, ?_, ?_⟩⟩
  all_goals rw [e _ _ (by decide)]
  · exact a1 k hk
  · exact a2 k hk
  · exact b1
  · exact b2 k hk
  · exact b3 k hk
  · exact b4
  · exact b5
  · exact b6
  · exact b7
  · exact b8
  · exact b9
theorem g_rI.we {M M' : am_M} (h : g_rI M) (h2 : g_we M M') : g_rI M' := by
  obtain ⟨-, h2, -⟩ := h2
  exact h.eI (fun a b => by rw [h2])
/-- the ways' own numbers -/
def g_wI (M : am_M) (p : Int32) : Prop := ∃ _ : Unit, (0 ≤ p.toInt ∧ p.toInt < (M.1 2 3).toInt) ∧ (M.1 2 3).toInt ≤ 5 ∧ 0 ≤ (M.1 2 2).toInt ∧ (M.1 2 2).toInt + (M.1 2 3).toInt ≤ 40
theorem g_wI.sw {M M' : am_M} {p : Int32} (h : g_wI M p) (c : g_sw M M') : g_wI M' p := by
  obtain ⟨-, h1, h2, h3, h4⟩ := h
  obtain ⟨-, c⟩ := c
  have e3 := (c 2 3).1 (Or.inl (by decide))
  have e2 := (c 2 2).1 (Or.inl (by decide))
  rw [← e3] at h1 h2 h4
  rw [← e2] at h3 h4
  exact ⟨(), h1, h2, h3, h4⟩
/-- all that is told stays -/
def g_sv (M M' : am_M) : Prop := ∃ _ : Unit, ∀ a b, 11 ≤ a → M'.1 a b = M.1 a b ∧ M'.2 a b = M.2 a b
theorem g_sw.v {M M' : am_M} (h : g_sw M M') : g_sv M M' := by
  obtain ⟨-, h⟩ := h
  exact ⟨(), fun a b z => ⟨(h a b).1 (Or.inr z), (h a b).2 z⟩⟩
theorem g_sc.v {M M' : am_M} (h : g_sc M M') : g_sv M M' := (g_sw.rf.sc h).v
theorem g_sv.tr {M M' M'' : am_M} (h : g_sv M M') (h2 : g_sv M' M'') : g_sv M M'' := by
  obtain ⟨-, h⟩ := h
  obtain ⟨-, h2⟩ := h2
  exact ⟨(), fun a b z => ⟨(h2 a b z).1.trans (h a b z).1, (h2 a b z).2.trans (h a b z).2⟩⟩
theorem g_sv.w2 {M M' : am_M} {k : Nat} {v : Int32} (h : g_sv M M') : g_sv M (am_wI M' 2 k v) := h.tr ⟨(), fun a b z => ⟨by rw [am_wI_1, if_neg (fun q => by omega)], rfl⟩⟩
theorem g_sv.w2J {M M' : am_M} {k : Nat} {v : Int64} (h : g_sv M M') : g_sv M (am_wJ M' 2 k v) := h.tr ⟨(), fun a b z => ⟨rfl, by rw [am_wJ_1, if_neg (fun q => by omega)]⟩⟩
theorem g_rI.w2 {M : am_M} {k : Nat} {v : Int32} (h : g_rI M) : g_rI (am_wI M 2 k v) := h.cg (fun a b z => by rw [am_wI_1, if_neg (fun q => by omega)])
theorem g_sv.rf {M : am_M} : g_sv M M := ⟨(), fun _ _ _ => ⟨rfl, rfl⟩⟩
end
-- part 23.run3.lean.txt
section
/-! Run: what is safe of it, I -/
theorem hy_X0_givenBack : yX0_givenBack.cls ≠ "java/lang/invoke/MethodHandle" ∧ yX0_givenBack.cls ≠ "java/lang/invoke/VarHandle" ∧ (parseMethodDescriptor yX0_givenBack.desc).map (fun d => d.parameters.length) = some 1 := ⟨by decide +kernel, by decide +kernel, by decide +kernel⟩
set_option maxRecDepth 100000 in
theorem wd_623 : Cond.methodLink "LearnLoans$Run" 183 yX0_givenBack ∈ am_ws := am_wt3 (List.mem_of_getElem? (i := 86) (by rfl)) (by decide +kernel)
set_option maxRecDepth 100000 in
theorem wd_526 : Cond.instanceMethod yX0_givenBack ∈ am_ws := am_wt2 (List.mem_of_getElem? (i := 229) (by rfl)) (by decide +kernel)
set_option maxRecDepth 100000 in
theorem wd_527 : Cond.selects "LearnLoans$House" yX0_givenBack yX0_givenBack ∈ am_ws := am_wt2 (List.mem_of_getElem? (i := 230) (by rfl)) (by decide +kernel)
set_option maxRecDepth 100000 in
theorem wd_61 : Cond.initialized "LearnLoans$House" ∈ am_ws := am_wt1 (List.mem_of_getElem? (i := 4) (by rfl)) (by decide +kernel)
set_option maxRecDepth 100000 in
theorem wd_528 : Cond.code yX0_givenBack cX0_givenBack 5 (some .long) ∈ am_ws := am_wt2 (List.mem_of_getElem? (i := 231) (by rfl)) (by decide +kernel)
def rwX4_draw : List dz_r := [(0, .aload_n 0, 1), (1, .getfield 22, 3), (4, .iconst 0, 1), (5, .iload_n 1, 1), (6, .iadd, 1), (7, .laload, 1), (8, .lstore_n 3, 1), (9, .iload_n 2, 1), (10, .aload_n 0, 1), (11, .getfield 12, 3), (14, .getfield 59, 3), (17, .iload_n 1, 1), (18, .iconst 2, 1), (19, .invokevirtual 66, 3), (22, .if_icmp .ne 19, 3), (25, .lload_n 3, 1), (26, .aload_n 0, 1), (27, .getfield 12, 3), (30, .getfield 59, 3), (33, .iload_n 1, 1), (34, .iconst 3, 1), (35, .invokevirtual 66, 3), (38, .i2l, 1), (39, .ladd, 1), (40, .lstore_n 3, 1), (41, .iload_n 2, 1), (42, .aload_n 0, 1), (43, .getfield 12, 3), (46, .getfield 59, 3), (49, .iload_n 1, 1), (50, .iconst 5, 1), (51, .invokevirtual 66, 3), (54, .if_icmp .ne 18, 3), (57, .lload_n 3, 1), (58, .lload_n 3, 1), (59, .aload_n 0, 1), (60, .getfield 12, 3), (63, .iload_n 1, 1), (64, .invokevirtual 183, 3), (67, .invokestatic 177, 3), (70, .lsub, 1), (71, .lstore_n 3, 1), (72, .aload_n 0, 1), (73, .getfield 22, 3), (76, .iconst 0, 1), (77, .iload_n 1, 1), (78, .iadd, 1), (79, .lload_n 3, 1), (80, .lastore, 1), (81, .return_, 1)]
theorem dzX4_draw : dz cX4_draw rwX4_draw := dz_all 0 (by decide +kernel)
def kX4_draw (live : am_E) (Ret : am_R) : am_code := [(0, am_aload 0 1), (1, am_getR live 4 2 4), (4, am_const (.int 0) 5), (5, am_iload 1 6), (6, am_i2 (fun x y => x + y) 7), (7, am_lald live 1 8), (8, am_lstore 3 5 9), (9, am_iload 2 10), (10, am_aload 0 11), (11, am_getR live 4 0 14), (14, am_getR live 0 4 17), (17, am_iload 1 18), (18, am_const (.int 2) 19), (19, am_callV live 3 2 TX3_at 22), (22, am_if2 (fun x y => x = y) 25 41), (25, am_lload 3 26), (26, am_aload 0 27), (27, am_getR live 4 0 30), (30, am_getR live 0 4 33), (33, am_iload 1 34), (34, am_const (.int 3) 35), (35, am_callV live 3 2 TX3_at 38), (38, am_i2l 39), (39, am_l2 (fun x y => x + y) 40), (40, am_lstore 3 5 41), (41, am_iload 2 42), (42, am_aload 0 43), (43, am_getR live 4 0 46), (46, am_getR live 0 4 49), (49, am_iload 1 50), (50, am_const (.int 5) 51), (51, am_callV live 3 2 TX3_at 54), (54, am_if2 (fun x y => x = y) 57 72), (57, am_lload 3 58), (58, am_lload 3 59), (59, am_aload 0 60), (60, am_getR live 4 0 63), (63, am_iload 1 64), (64, am_callV live 0 1 TX0_givenBack 67), (67, am_mathl (fun x y => if y < x then y else x) 47 70), (70, am_l2 (fun x y => x - y) 71), (71, am_lstore 3 5 72), (72, am_aload 0 73), (73, am_getR live 4 2 76), (76, am_const (.int 0) 77), (77, am_iload 1 78), (78, am_i2 (fun x y => x + y) 79), (79, am_lload 3 80), (80, am_last live 1 81), (81, am_retV Ret)]
theorem koX4_draw (live : am_E) (Ret : am_R) : ∀ q ∈ kX4_draw live Ret, am_ok RX4 cX4_draw 5 none 2 47 live Ret q.1 q.2 :=
  am_kz dzX4_draw <|
  am_kd (fun d => ak_aload_n d rfl rfl) <|
  am_kd (fun d => ak_getR (C := RX4) (T := TX4) (N := 19) rfl inX4w (by decide) rfl rfl rfl wd_296 d rfl) <|
  am_kd (fun d => ak_iconst d (by decide +kernel) rfl) <|
  am_kd (fun d => ak_iload_n d rfl rfl) <|
  am_kd (fun d => ak_iadd d rfl) <|
  am_kd (fun d => ak_lald (t := 1) (fun _ => rfl) rfl d rfl) <|
  am_kd (fun d => ak_lstore_n d rfl rfl) <|
  am_kd (fun d => ak_iload_n d rfl rfl) <|
  am_kd (fun d => ak_aload_n d rfl rfl) <|
  am_kd (fun d => ak_getR (C := RX4) (T := TX4) (N := 19) rfl inX4w (by decide) rfl rfl rfl wd_291 d rfl) <|
  am_kd (fun d => ak_getR (C := RX0) (T := TX0) (N := 13) rfl inX0w (by decide) rfl rfl rfl wd_206 d rfl) <|
  am_kd (fun d => ak_iload_n d rfl rfl) <|
  am_kd (fun d => ak_iconst d (by decide +kernel) rfl) <|
  am_kd (fun d => ak_callV (C := RX3) (F := TX3) (N := 3) metX3_at rfl ⟨rfl, hy_X3_at⟩ (am_w5 wd_502 wd_503 wd_504 wd_64 wd_505) (by decide) d rfl) <|
  am_kd (fun d => ak_icmp_ne d (by decide +kernel) rfl) <|
  am_kd (fun d => ak_lload_n d rfl rfl) <|
  am_kd (fun d => ak_aload_n d rfl rfl) <|
  am_kd (fun d => ak_getR (C := RX4) (T := TX4) (N := 19) rfl inX4w (by decide) rfl rfl rfl wd_291 d rfl) <|
  am_kd (fun d => ak_getR (C := RX0) (T := TX0) (N := 13) rfl inX0w (by decide) rfl rfl rfl wd_206 d rfl) <|
  am_kd (fun d => ak_iload_n d rfl rfl) <|
  am_kd (fun d => ak_iconst d (by decide +kernel) rfl) <|
  am_kd (fun d => ak_callV (C := RX3) (F := TX3) (N := 3) metX3_at rfl ⟨rfl, hy_X3_at⟩ (am_w5 wd_502 wd_503 wd_504 wd_64 wd_505) (by decide) d rfl) <|
  am_kd (fun d => ak_i2l d rfl) <|
  am_kd (fun d => ak_ladd d rfl) <|
  am_kd (fun d => ak_lstore_n d rfl rfl) <|
  am_kd (fun d => ak_iload_n d rfl rfl) <|
  am_kd (fun d => ak_aload_n d rfl rfl) <|
  am_kd (fun d => ak_getR (C := RX4) (T := TX4) (N := 19) rfl inX4w (by decide) rfl rfl rfl wd_291 d rfl) <|
  am_kd (fun d => ak_getR (C := RX0) (T := TX0) (N := 13) rfl inX0w (by decide) rfl rfl rfl wd_206 d rfl) <|
  am_kd (fun d => ak_iload_n d rfl rfl) <|
  am_kd (fun d => ak_iconst d (by decide +kernel) rfl) <|
  am_kd (fun d => ak_callV (C := RX3) (F := TX3) (N := 3) metX3_at rfl ⟨rfl, hy_X3_at⟩ (am_w5 wd_502 wd_503 wd_504 wd_64 wd_505) (by decide) d rfl) <|
  am_kd (fun d => ak_icmp_ne d (by decide +kernel) rfl) <|
  am_kd (fun d => ak_lload_n d rfl rfl) <|
  am_kd (fun d => ak_lload_n d rfl rfl) <|
  am_kd (fun d => ak_aload_n d rfl rfl) <|
  am_kd (fun d => ak_getR (C := RX4) (T := TX4) (N := 19) rfl inX4w (by decide) rfl rfl rfl wd_291 d rfl) <|
  am_kd (fun d => ak_iload_n d rfl rfl) <|
  am_kd (fun d => ak_callV (C := RX0) (F := TX0) (N := 13) metX0_givenBack rfl ⟨rfl, hy_X0_givenBack⟩ (am_w5 wd_623 wd_526 wd_527 wd_61 wd_528) (by decide) d rfl) <|
  am_kd (fun d => ak_lmin (am_w4 wd_607 wd_608 wd_68 wd_609) (by decide) d rfl) <|
  am_kd (fun d => ak_lsub d rfl) <|
  am_kd (fun d => ak_lstore_n d rfl rfl) <|
  am_kd (fun d => ak_aload_n d rfl rfl) <|
  am_kd (fun d => ak_getR (C := RX4) (T := TX4) (N := 19) rfl inX4w (by decide) rfl rfl rfl wd_296 d rfl) <|
  am_kd (fun d => ak_iconst d (by decide +kernel) rfl) <|
  am_kd (fun d => ak_iload_n d rfl rfl) <|
  am_kd (fun d => ak_iadd d rfl) <|
  am_kd (fun d => ak_lload_n d rfl rfl) <|
  am_kd (fun d => ak_last (t := 1) (fun _ => rfl) rfl d rfl) <|
  am_kd (fun d => ak_retV d) <| am_kdn
def TX4_draw : am_T := fun live as M R => match as with
  | [.ref n, .int l, .int y] => am_mn live ∧ n = 4 ∧ am_in l 30 ∧ ∀ k v, R none (am_wJ M 6 k v)
  | _ => False
set_option maxRecDepth 100000 in
set_option maxHeartbeats 4000000 in
theorem metX4_draw : am_Met yX4_draw cX4_draw 5 none (2) (47) TX4_draw := by
  refine am_met (own := RX4) (by decide +kernel) rfl kX4_draw koX4_draw 100 (fun _ _ _ _ _ => none) (fun live as M Ret h => ?_) (fun _ _ _ _ _ _ _ _ hI => by cases hI)
  unfold TX4_draw at h
  split at h
  · next n l y =>
    refine ⟨Nat.le_of_ble_eq_true rfl, ?_⟩
    change am_wp _ _ _ _ [(0, Value.ref n), (1, Value.int l), (2, Value.int y)] _ _
    obtain ⟨hmn, rfl, hl, h⟩ := h
    have hmn2 := hmn
    obtain ⟨i1, i2, rfl⟩ := hmn2
    have l6 : am_len 6 = 180 := rfl
    have e0 := g_ix hl 0 0 rfl (by decide)
    repeat' (first | (with_reducible exact hmn) | apply And.intro | exact rfl | intro hx | (refine Exists.intro _ (And.intro rfl ?_)))
    all_goals try first | (with_reducible change am_tI _ _) | (change Ret _ _) | (change Ret _ _ _) | (change Exists _)
    all_goals try dsimp only at *
    all_goals try (with_reducible exact absurd ‹(1000 : Int64) = 0› am_z1000)
    all_goals first
      | (with_reducible exact e0.1)
      | (rw [l6]; exact e0.2.1)
      | (with_reducible exact h _ _)
      | exact e0.1
      | exact h _ _
  · exact h.elim
set_option maxRecDepth 100000 in
theorem wd_198 : Cond.fieldLink "LearnLoans$Run" 238 "LearnLoans$House" "scales" "[I" ∈ am_ws := am_wt1 (List.mem_of_getElem? (i := 141) (by rfl)) (by decide +kernel)
set_option maxRecDepth 100000 in
theorem wd_610 : Cond.methodLink "LearnLoans$Run" 229 Lib.MathLoose.max_long.x ∈ am_ws := am_wt3 (List.mem_of_getElem? (i := 73) (by rfl)) (by decide +kernel)
set_option maxRecDepth 100000 in
theorem wd_611 : Cond.static Lib.MathLoose.max_long.x ∈ am_ws := am_wt3 (List.mem_of_getElem? (i := 74) (by rfl)) (by decide +kernel)
set_option maxRecDepth 100000 in
theorem wd_612 : Cond.code Lib.MathLoose.max_long.x Lib.MathLoose.max_long.code 4 (some .long) ∈ am_ws := am_wt3 (List.mem_of_getElem? (i := 75) (by rfl)) (by decide +kernel)
def rwX4_asked : List dz_r := [(0, .aload_n 0, 1), (1, .getfield 140, 3), (4, .iconst (-1), 1), (5, .if_icmp .ne 24, 3), (8, .aload_n 0, 1), (9, .getfield 142, 3), (12, .ifCond .ne 7, 3), (15, .lconst 0, 1), (16, .goto 12, 3), (19, .aload_n 0, 1), (20, .getfield 18, 3), (23, .iload_n 1, 1), (24, .iconst 5, 1), (25, .iadd, 1), (26, .iaload, 1), (27, .i2l, 1), (28, .lreturn, 1), (29, .aload_n 0, 1), (30, .getfield 18, 3), (33, .iload_n 1, 1), (34, .iconst 0, 1), (35, .iadd, 1), (36, .iaload, 1), (37, .i2l, 1), (38, .lstore_n 2, 1), (39, .aload_n 0, 1), (40, .getfield 142, 3), (43, .ifCond .eq 23, 3), (46, .lload_n 2, 1), (47, .aload_n 0, 1), (48, .getfield 12, 3), (51, .getfield 238, 3), (54, .aload_n 0, 1), (55, .getfield 142, 3), (58, .iaload, 1), (59, .i2l, 1), (60, .lmul, 1), (61, .ldc2_w 173, 3), (64, .ldiv, 1), (65, .lstore_n 2, 1), (66, .lconst 0, 1), (67, .aload_n 0, 1), (68, .getfield 140, 3), (71, .i2l, 1), (72, .lload_n 2, 1), (73, .lsub, 1), (74, .invokestatic 229, 3), (77, .aload_n 0, 1), (78, .getfield 18, 3), (81, .iload_n 1, 1), (82, .iconst 1, 1), (83, .iadd, 1), (84, .iaload, 1), (85, .i2l, 1), (86, .lmul, 1), (87, .ldc2_w 173, 3), (90, .ldiv, 1), (91, .lreturn, 1)]
theorem dzX4_asked : dz cX4_asked rwX4_asked := dz_all 0 (by decide +kernel)
def kX4_asked (live : am_E) (Ret : am_R) : am_code := [(0, am_aload 0 1), (1, am_getI live 4 16 4), (4, am_const (.int (-1)) 5), (5, am_if2 (fun x y => x = y) 8 29), (8, am_aload 0 9), (9, am_getI live 4 17 12), (12, am_if1 (fun x => x = 0) 15 19), (15, am_const (.long 0) 16), (16, am_goto 28), (19, am_aload 0 20), (20, am_getR live 4 1 23), (23, am_iload 1 24), (24, am_const (.int 5) 25), (25, am_i2 (fun x y => x + y) 26), (26, am_ald live 0 27), (27, am_i2l 28), (28, am_retL Ret), (29, am_aload 0 30), (30, am_getR live 4 1 33), (33, am_iload 1 34), (34, am_const (.int 0) 35), (35, am_i2 (fun x y => x + y) 36), (36, am_ald live 0 37), (37, am_i2l 38), (38, am_lstore 2 4 39), (39, am_aload 0 40), (40, am_getI live 4 17 43), (43, am_if1 (fun x => x = 0) 66 46), (46, am_lload 2 47), (47, am_aload 0 48), (48, am_getR live 4 0 51), (51, am_getR live 0 1 54), (54, am_aload 0 55), (55, am_getI live 4 17 58), (58, am_ald live 0 59), (59, am_i2l 60), (60, am_l2 (fun x y => x * y) 61), (61, am_const (.long 1000) 64), (64, am_l2z (fun x y => x / y) 65), (65, am_lstore 2 4 66), (66, am_const (.long 0) 67), (67, am_aload 0 68), (68, am_getI live 4 16 71), (71, am_i2l 72), (72, am_lload 2 73), (73, am_l2 (fun x y => x - y) 74), (74, am_mathl (fun x y => if y < x then x else y) 23 77), (77, am_aload 0 78), (78, am_getR live 4 1 81), (81, am_iload 1 82), (82, am_const (.int 1) 83), (83, am_i2 (fun x y => x + y) 84), (84, am_ald live 0 85), (85, am_i2l 86), (86, am_l2 (fun x y => x * y) 87), (87, am_const (.long 1000) 90), (90, am_l2z (fun x y => x / y) 91), (91, am_retL Ret)]
theorem koX4_asked (live : am_E) (Ret : am_R) : ∀ q ∈ kX4_asked live Ret, am_ok RX4 cX4_asked 4 (some .long) 1 23 live Ret q.1 q.2 :=
  am_kz dzX4_asked <|
  am_kd (fun d => ak_aload_n d rfl rfl) <|
  am_kd (fun d => ak_getI (C := RX4) (T := TX4) (N := 19) rfl inX4w (by decide) rfl rfl rfl wd_313 d rfl) <|
  am_kd (fun d => ak_iconst d (by decide +kernel) rfl) <|
  am_kd (fun d => ak_icmp_ne d (by decide +kernel) rfl) <|
  am_kd (fun d => ak_aload_n d rfl rfl) <|
  am_kd (fun d => ak_getI (C := RX4) (T := TX4) (N := 19) rfl inX4w (by decide) rfl rfl rfl wd_314 d rfl) <|
  am_kd (fun d => ak_if_ne d (by decide +kernel) rfl) <|
  am_kd (fun d => ak_lconst d (by decide +kernel) rfl) <|
  am_kd (fun d => ak_goto d (by decide +kernel)) <|
  am_kd (fun d => ak_aload_n d rfl rfl) <|
  am_kd (fun d => ak_getR (C := RX4) (T := TX4) (N := 19) rfl inX4w (by decide) rfl rfl rfl wd_294 d rfl) <|
  am_kd (fun d => ak_iload_n d rfl rfl) <|
  am_kd (fun d => ak_iconst d (by decide +kernel) rfl) <|
  am_kd (fun d => ak_iadd d rfl) <|
  am_kd (fun d => ak_iald (t := 0) (fun _ => rfl) rfl d rfl) <|
  am_kd (fun d => ak_i2l d rfl) <|
  am_kd (fun d => ak_retL d) <|
  am_kd (fun d => ak_aload_n d rfl rfl) <|
  am_kd (fun d => ak_getR (C := RX4) (T := TX4) (N := 19) rfl inX4w (by decide) rfl rfl rfl wd_294 d rfl) <|
  am_kd (fun d => ak_iload_n d rfl rfl) <|
  am_kd (fun d => ak_iconst d (by decide +kernel) rfl) <|
  am_kd (fun d => ak_iadd d rfl) <|
  am_kd (fun d => ak_iald (t := 0) (fun _ => rfl) rfl d rfl) <|
  am_kd (fun d => ak_i2l d rfl) <|
  am_kd (fun d => ak_lstore_n d rfl rfl) <|
  am_kd (fun d => ak_aload_n d rfl rfl) <|
  am_kd (fun d => ak_getI (C := RX4) (T := TX4) (N := 19) rfl inX4w (by decide) rfl rfl rfl wd_314 d rfl) <|
  am_kd (fun d => ak_if_eq d (by decide +kernel) rfl) <|
  am_kd (fun d => ak_lload_n d rfl rfl) <|
  am_kd (fun d => ak_aload_n d rfl rfl) <|
  am_kd (fun d => ak_getR (C := RX4) (T := TX4) (N := 19) rfl inX4w (by decide) rfl rfl rfl wd_291 d rfl) <|
  am_kd (fun d => ak_getR (C := RX0) (T := TX0) (N := 13) rfl inX0w (by decide) rfl rfl rfl wd_198 d rfl) <|
  am_kd (fun d => ak_aload_n d rfl rfl) <|
  am_kd (fun d => ak_getI (C := RX4) (T := TX4) (N := 19) rfl inX4w (by decide) rfl rfl rfl wd_314 d rfl) <|
  am_kd (fun d => ak_iald (t := 0) (fun _ => rfl) rfl d rfl) <|
  am_kd (fun d => ak_i2l d rfl) <|
  am_kd (fun d => ak_lmul d rfl) <|
  am_kd (fun d => ak_ldc2 wd_617 d rfl) <|
  am_kd (fun d => ak_ldiv d rfl) <|
  am_kd (fun d => ak_lstore_n d rfl rfl) <|
  am_kd (fun d => ak_lconst d (by decide +kernel) rfl) <|
  am_kd (fun d => ak_aload_n d rfl rfl) <|
  am_kd (fun d => ak_getI (C := RX4) (T := TX4) (N := 19) rfl inX4w (by decide) rfl rfl rfl wd_313 d rfl) <|
  am_kd (fun d => ak_i2l d rfl) <|
  am_kd (fun d => ak_lload_n d rfl rfl) <|
  am_kd (fun d => ak_lsub d rfl) <|
  am_kd (fun d => ak_lmax (am_w4 wd_610 wd_611 wd_68 wd_612) (by decide) d rfl) <|
  am_kd (fun d => ak_aload_n d rfl rfl) <|
  am_kd (fun d => ak_getR (C := RX4) (T := TX4) (N := 19) rfl inX4w (by decide) rfl rfl rfl wd_294 d rfl) <|
  am_kd (fun d => ak_iload_n d rfl rfl) <|
  am_kd (fun d => ak_iconst d (by decide +kernel) rfl) <|
  am_kd (fun d => ak_iadd d rfl) <|
  am_kd (fun d => ak_iald (t := 0) (fun _ => rfl) rfl d rfl) <|
  am_kd (fun d => ak_i2l d rfl) <|
  am_kd (fun d => ak_lmul d rfl) <|
  am_kd (fun d => ak_ldc2 wd_617 d rfl) <|
  am_kd (fun d => ak_ldiv d rfl) <|
  am_kd (fun d => ak_retL d) <| am_kdn
def am_asked (M : am_M) (c : Int32) : Int64 := if M.1 4 16 = -1 then (if M.1 4 17 = 0 then 0 else (M.1 5 (c + 5).toNatClampNeg).toInt64) else (fun e : Int64 => (if e < 0 then 0 else e) * (M.1 5 (c + 1).toNatClampNeg).toInt64 / 1000) ((M.1 4 16).toInt64 - (if M.1 4 17 = 0 then (M.1 5 (c + 0).toNatClampNeg).toInt64 else (M.1 5 (c + 0).toNatClampNeg).toInt64 * (M.1 29 (M.1 4 17).toNatClampNeg).toInt64 / 1000))
def TX4_asked : am_T := fun live as M R => match as with
  | [.ref n, .int c] => am_mn live ∧ n = 4 ∧ (0 ≤ c.toInt ∧ c.toInt ≤ 1194) ∧ am_in (M.1 4 17) 4 ∧ R (some (.long (am_asked M c))) M
  | _ => False
set_option maxRecDepth 100000 in
set_option maxHeartbeats 4000000 in
theorem metX4_asked : am_Met yX4_asked cX4_asked 4 (some .long) (1) (23) TX4_asked := by
  refine am_met (own := RX4) (by decide +kernel) rfl kX4_asked koX4_asked 100 (fun _ _ _ _ _ => none) (fun live as M Ret h => ?_) (fun _ _ _ _ _ _ _ _ hI => by cases hI)
  unfold TX4_asked at h
  split at h
  · next n c =>
    refine ⟨Nat.le_of_ble_eq_true rfl, ?_⟩
    change am_wp _ _ _ _ [(0, Value.ref n), (1, Value.int c)] _ _
    obtain ⟨⟨i1, i2, rfl⟩, rfl, ⟨c1, c2⟩, ⟨d1, d2⟩, h⟩ := h
    have l5 : am_len 5 = 1200 := rfl
    have l29 : am_len 29 = 4 := rfl
    have f0 := i_add (x := c) (y := 0) (by simp only [Int32.reduceToInt]; omega) (by simp only [Int32.reduceToInt]; omega)
    have f1 := i_add (x := c) (y := 1) (by simp only [Int32.reduceToInt]; omega) (by simp only [Int32.reduceToInt]; omega)
    have f5 := i_add (x := c) (y := 5) (by simp only [Int32.reduceToInt]; omega) (by simp only [Int32.reduceToInt]; omega)
    simp only [Int32.reduceToInt] at f0 f1 f5
    repeat' (first | apply And.intro | exact rfl | intro hx | (refine Exists.intro _ (And.intro rfl ?_)))
    all_goals try first | (with_reducible change am_tI _ _) | (change Ret _ _) | (change Ret _ _ _) | (change Exists _)
    all_goals try dsimp only at *
    all_goals try (with_reducible exact absurd ‹(1000 : Int64) = 0› am_z1000)
    all_goals first
      | (rw [f0]; omega)
      | (rw [f1]; omega)
      | (rw [f5]; omega)
      | (rw [f0, l5]; omega)
      | (rw [f1, l5]; omega)
      | (rw [f5, l5]; omega)
      | (rw [l29]; omega)
      | omega
      | skip
    all_goals
      simp only [am_asked] at *
      simp_all
  · exact h.elim
set_option maxRecDepth 100000 in
theorem wd_203 : Cond.fieldLink "LearnLoans$Run" 116 "LearnLoans$House" "acts" "LLearnLoans$Rows;" ∈ am_ws := am_wt1 (List.mem_of_getElem? (i := 146) (by rfl)) (by decide +kernel)
def rwX4_layAct : List dz_r := [(0, .aload_n 0, 1), (1, .getfield 12, 3), (4, .getfield 116, 3), (7, .astore 4, 2), (9, .iload_n 3, 1), (10, .aload 4, 2), (12, .iload_n 1, 1), (13, .iconst 4, 1), (14, .invokevirtual 66, 3), (17, .if_icmp .lt 67, 3), (20, .iload_n 3, 1), (21, .aload 4, 2), (23, .iload_n 1, 1), (24, .iconst 5, 1), (25, .invokevirtual 66, 3), (28, .if_icmp .gt 56, 3), (31, .iload_n 2, 1), (32, .iconst 5, 1), (33, .imul, 1), (34, .aload 4, 2), (36, .iload_n 1, 1), (37, .iconst 0, 1), (38, .invokevirtual 66, 3), (41, .iadd, 1), (42, .bipush 6, 2), (44, .imul, 1), (45, .aload 4, 2), (47, .iload_n 1, 1), (48, .iconst 1, 1), (49, .invokevirtual 66, 3), (52, .iadd, 1), (53, .istore 5, 2), (55, .iload 5, 2), (57, .ifCond .lt 27, 3), (60, .iload 5, 2), (62, .aload_n 0, 1), (63, .getfield 18, 3), (66, .arraylength, 1), (67, .if_icmp .ge 17, 3), (70, .aload_n 0, 1), (71, .getfield 18, 3), (74, .iload 5, 2), (76, .aload 4, 2), (78, .iload_n 1, 1), (79, .iconst 2, 1), (80, .invokevirtual 66, 3), (83, .iastore, 1), (84, .return_, 1)]
theorem dzX4_layAct : dz cX4_layAct rwX4_layAct := dz_all 0 (by decide +kernel)
def kX4_layAct (live : am_E) (Ret : am_R) : am_code := [(0, am_aload 0 1), (1, am_getR live 4 0 4), (4, am_getR live 0 3 7), (7, am_astore 4 6 9), (9, am_iload 3 10), (10, am_aload 4 12), (12, am_iload 1 13), (13, am_const (.int 4) 14), (14, am_callV live 3 2 TX3_at 17), (17, am_if2 (fun x y => x < y) 84 20), (20, am_iload 3 21), (21, am_aload 4 23), (23, am_iload 1 24), (24, am_const (.int 5) 25), (25, am_callV live 3 2 TX3_at 28), (28, am_if2 (fun x y => y < x) 84 31), (31, am_iload 2 32), (32, am_const (.int 5) 33), (33, am_i2 (fun x y => x * y) 34), (34, am_aload 4 36), (36, am_iload 1 37), (37, am_const (.int 0) 38), (38, am_callV live 3 2 TX3_at 41), (41, am_i2 (fun x y => x + y) 42), (42, am_const (.int 6) 44), (44, am_i2 (fun x y => x * y) 45), (45, am_aload 4 47), (47, am_iload 1 48), (48, am_const (.int 1) 49), (49, am_callV live 3 2 TX3_at 52), (52, am_i2 (fun x y => x + y) 53), (53, am_istore 5 6 55), (55, am_iload 5 57), (57, am_if1 (fun x => x < 0) 84 60), (60, am_iload 5 62), (62, am_aload 0 63), (63, am_getR live 4 1 66), (66, am_alen live 0 67), (67, am_if2 (fun x y => y ≤ x) 84 70), (70, am_aload 0 71), (71, am_getR live 4 1 74), (74, am_iload 5 76), (76, am_aload 4 78), (78, am_iload 1 79), (79, am_const (.int 2) 80), (80, am_callV live 3 2 TX3_at 83), (83, am_ast live 0 84), (84, am_retV Ret)]
theorem koX4_layAct (live : am_E) (Ret : am_R) : ∀ q ∈ kX4_layAct live Ret, am_ok RX4 cX4_layAct 6 none 1 23 live Ret q.1 q.2 :=
  am_kz dzX4_layAct <|
  am_kd (fun d => ak_aload_n d rfl rfl) <|
  am_kd (fun d => ak_getR (C := RX4) (T := TX4) (N := 19) rfl inX4w (by decide) rfl rfl rfl wd_291 d rfl) <|
  am_kd (fun d => ak_getR (C := RX0) (T := TX0) (N := 13) rfl inX0w (by decide) rfl rfl rfl wd_203 d rfl) <|
  am_kd (fun d => ak_astore d rfl) <|
  am_kd (fun d => ak_iload_n d rfl rfl) <|
  am_kd (fun d => ak_aload d rfl) <|
  am_kd (fun d => ak_iload_n d rfl rfl) <|
  am_kd (fun d => ak_iconst d (by decide +kernel) rfl) <|
  am_kd (fun d => ak_callV (C := RX3) (F := TX3) (N := 3) metX3_at rfl ⟨rfl, hy_X3_at⟩ (am_w5 wd_502 wd_503 wd_504 wd_64 wd_505) (by decide) d rfl) <|
  am_kd (fun d => ak_icmp_lt d (by decide +kernel) rfl) <|
  am_kd (fun d => ak_iload_n d rfl rfl) <|
  am_kd (fun d => ak_aload d rfl) <|
  am_kd (fun d => ak_iload_n d rfl rfl) <|
  am_kd (fun d => ak_iconst d (by decide +kernel) rfl) <|
  am_kd (fun d => ak_callV (C := RX3) (F := TX3) (N := 3) metX3_at rfl ⟨rfl, hy_X3_at⟩ (am_w5 wd_502 wd_503 wd_504 wd_64 wd_505) (by decide) d rfl) <|
  am_kd (fun d => ak_icmp_gt d (by decide +kernel) rfl) <|
  am_kd (fun d => ak_iload_n d rfl rfl) <|
  am_kd (fun d => ak_iconst d (by decide +kernel) rfl) <|
  am_kd (fun d => ak_imul d rfl) <|
  am_kd (fun d => ak_aload d rfl) <|
  am_kd (fun d => ak_iload_n d rfl rfl) <|
  am_kd (fun d => ak_iconst d (by decide +kernel) rfl) <|
  am_kd (fun d => ak_callV (C := RX3) (F := TX3) (N := 3) metX3_at rfl ⟨rfl, hy_X3_at⟩ (am_w5 wd_502 wd_503 wd_504 wd_64 wd_505) (by decide) d rfl) <|
  am_kd (fun d => ak_iadd d rfl) <|
  am_kd (fun d => ak_bipush d (by decide +kernel) rfl) <|
  am_kd (fun d => ak_imul d rfl) <|
  am_kd (fun d => ak_aload d rfl) <|
  am_kd (fun d => ak_iload_n d rfl rfl) <|
  am_kd (fun d => ak_iconst d (by decide +kernel) rfl) <|
  am_kd (fun d => ak_callV (C := RX3) (F := TX3) (N := 3) metX3_at rfl ⟨rfl, hy_X3_at⟩ (am_w5 wd_502 wd_503 wd_504 wd_64 wd_505) (by decide) d rfl) <|
  am_kd (fun d => ak_iadd d rfl) <|
  am_kd (fun d => ak_istore d rfl) <|
  am_kd (fun d => ak_iload d rfl) <|
  am_kd (fun d => ak_if_lt d (by decide +kernel) rfl) <|
  am_kd (fun d => ak_iload d rfl) <|
  am_kd (fun d => ak_aload_n d rfl rfl) <|
  am_kd (fun d => ak_getR (C := RX4) (T := TX4) (N := 19) rfl inX4w (by decide) rfl rfl rfl wd_294 d rfl) <|
  am_kd (fun d => ak_alen (t := 0) (fun _ => rfl) d rfl) <|
  am_kd (fun d => ak_icmp_ge d (by decide +kernel) rfl) <|
  am_kd (fun d => ak_aload_n d rfl rfl) <|
  am_kd (fun d => ak_getR (C := RX4) (T := TX4) (N := 19) rfl inX4w (by decide) rfl rfl rfl wd_294 d rfl) <|
  am_kd (fun d => ak_iload d rfl) <|
  am_kd (fun d => ak_aload d rfl) <|
  am_kd (fun d => ak_iload_n d rfl rfl) <|
  am_kd (fun d => ak_iconst d (by decide +kernel) rfl) <|
  am_kd (fun d => ak_callV (C := RX3) (F := TX3) (N := 3) metX3_at rfl ⟨rfl, hy_X3_at⟩ (am_w5 wd_502 wd_503 wd_504 wd_64 wd_505) (by decide) d rfl) <|
  am_kd (fun d => ak_iast (t := 0) (fun _ => rfl) rfl d rfl) <|
  am_kd (fun d => ak_retV d) <| am_kdn
def TX4_layAct : am_T := fun live as M R => match as with
  | [.ref n, .int a, .int y, .int b] => am_mn live ∧ n = 4 ∧ g_rI M ∧ ∀ M', g_sc M M' → g_rI M' → R none M'
  | _ => False
set_option maxRecDepth 100000 in
set_option maxHeartbeats 4000000 in
theorem metX4_layAct : am_Met yX4_layAct cX4_layAct 6 none (1) (23) TX4_layAct := by
  refine am_met (own := RX4) (by decide +kernel) rfl kX4_layAct koX4_layAct 100 (fun _ _ _ _ _ => none) (fun live as M Ret h => ?_) (fun _ _ _ _ _ _ _ _ hI => by cases hI)
  unfold TX4_layAct at h
  split at h
  · next n a y b =>
    refine ⟨Nat.le_of_ble_eq_true rfl, ?_⟩
    change am_wp _ _ _ _ [(0, Value.ref n), (1, Value.int a), (2, Value.int y), (3, Value.int b)] _ _
    obtain ⟨hmn, rfl, hr, h⟩ := h
    have hmn2 := hmn
    obtain ⟨i1, i2, rfl⟩ := hmn2
    repeat' (first | (with_reducible exact hmn) | apply And.intro | exact rfl | intro hx | (refine Exists.intro _ (And.intro rfl ?_)))
    all_goals try first | (with_reducible change am_tI _ _) | (change Ret _ _) | (change Ret _ _ _) | (change Exists _)
    all_goals try dsimp only at *
    all_goals try (with_reducible exact absurd ‹(1000 : Int64) = 0› am_z1000)
    all_goals first
      | (with_reducible exact h _ g_sc.rf hr)
      | exact h _ (g_sc.rf.wI rfl) hr.w5
      | (simp only [i_lt, i_le, Int32.reduceToInt] at *; omega)
      | exact h _ g_sc.rf hr
      | skip
    · have hn : (Int32.ofNat (am_len 5)).toInt = 1200 := by decide +kernel
      have l5 : am_len 5 = 1200 := rfl
      simp only [i_le, hn] at hx
      rw [l5]
      omega
  · exact h.elim
set_option maxRecDepth 100000 in
theorem wd_303 : Cond.fieldLink "LearnLoans$Run" 56 "LearnLoans$Run" "size" "I" ∈ am_ws := am_wt2 (List.mem_of_getElem? (i := 6) (by rfl)) (by decide +kernel)
set_option maxRecDepth 100000 in
theorem wd_300 : Cond.fieldLink "LearnLoans$Run" 29 "LearnLoans$Run" "queue" "[I" ∈ am_ws := am_wt2 (List.mem_of_getElem? (i := 3) (by rfl)) (by decide +kernel)
def rwX4_payAhead : List dz_r := [(0, .iconst 0, 1), (1, .istore_n 1, 1), (2, .iload_n 1, 1), (3, .aload_n 0, 1), (4, .getfield 56, 3), (7, .if_icmp .ge 62, 3), (10, .iconst 0, 1), (11, .aload_n 0, 1), (12, .getfield 29, 3), (15, .iload_n 1, 1), (16, .iaload, 1), (17, .iadd, 1), (18, .istore_n 2, 1), (19, .aload_n 0, 1), (20, .getfield 94, 3), (23, .aload_n 0, 1), (24, .getfield 22, 3), (27, .iload_n 2, 1), (28, .laload, 1), (29, .invokestatic 177, 3), (32, .lstore_n 3, 1), (33, .aload_n 0, 1), (34, .getfield 22, 3), (37, .iload_n 2, 1), (38, .dup2, 1), (39, .laload, 1), (40, .lload_n 3, 1), (41, .lsub, 1), (42, .lastore, 1), (43, .aload_n 0, 1), (44, .dup, 1), (45, .getfield 94, 3), (48, .lload_n 3, 1), (49, .lsub, 1), (50, .putfield 94, 3), (53, .aload_n 0, 1), (54, .dup, 1), (55, .getfield 98, 3), (58, .lload_n 3, 1), (59, .ladd, 1), (60, .putfield 98, 3), (63, .iinc 1 1, 3), (66, .goto (-64), 3), (69, .aload_n 0, 1), (70, .lconst 0, 1), (71, .putfield 94, 3), (74, .return_, 1)]
theorem dzX4_payAhead : dz cX4_payAhead rwX4_payAhead := dz_all 0 (by decide +kernel)
def kX4_payAhead (live : am_E) (Ret : am_R) : am_code := [(0, am_const (.int 0) 1), (1, am_istore 1 5 2), (2, am_iload 1 3), (3, am_aload 0 4), (4, am_getI live 4 7 7), (7, am_if2 (fun x y => y ≤ x) 69 10), (10, am_const (.int 0) 11), (11, am_aload 0 12), (12, am_getR live 4 4 15), (15, am_iload 1 16), (16, am_ald live 0 17), (17, am_i2 (fun x y => x + y) 18), (18, am_istore 2 5 19), (19, am_aload 0 20), (20, am_getJ live 4 14 23), (23, am_aload 0 24), (24, am_getR live 4 2 27), (27, am_iload 2 28), (28, am_lald live 1 29), (29, am_mathl (fun x y => if y < x then y else x) 23 32), (32, am_lstore 3 5 33), (33, am_aload 0 34), (34, am_getR live 4 2 37), (37, am_iload 2 38), (38, am_dup2 39), (39, am_lald live 1 40), (40, am_lload 3 41), (41, am_l2 (fun x y => x - y) 42), (42, am_last live 1 43), (43, am_aload 0 44), (44, am_dup 45), (45, am_getJ live 4 14 48), (48, am_lload 3 49), (49, am_l2 (fun x y => x - y) 50), (50, am_putJ live 4 14 53), (53, am_aload 0 54), (54, am_dup 55), (55, am_getJ live 4 15 58), (58, am_lload 3 59), (59, am_l2 (fun x y => x + y) 60), (60, am_putJ live 4 15 63), (63, am_iinc 1 5 1 66), (66, am_goto 2), (69, am_aload 0 70), (70, am_const (.long 0) 71), (71, am_putJ live 4 14 74), (74, am_retV Ret)]
theorem koX4_payAhead (live : am_E) (Ret : am_R) : ∀ q ∈ kX4_payAhead live Ret, am_ok RX4 cX4_payAhead 5 none 1 23 live Ret q.1 q.2 :=
  am_kz dzX4_payAhead <|
  am_kd (fun d => ak_iconst d (by decide +kernel) rfl) <|
  am_kd (fun d => ak_istore_n d rfl rfl) <|
  am_kd (fun d => ak_iload_n d rfl rfl) <|
  am_kd (fun d => ak_aload_n d rfl rfl) <|
  am_kd (fun d => ak_getI (C := RX4) (T := TX4) (N := 19) rfl inX4w (by decide) rfl rfl rfl wd_303 d rfl) <|
  am_kd (fun d => ak_icmp_ge d (by decide +kernel) rfl) <|
  am_kd (fun d => ak_iconst d (by decide +kernel) rfl) <|
  am_kd (fun d => ak_aload_n d rfl rfl) <|
  am_kd (fun d => ak_getR (C := RX4) (T := TX4) (N := 19) rfl inX4w (by decide) rfl rfl rfl wd_300 d rfl) <|
  am_kd (fun d => ak_iload_n d rfl rfl) <|
  am_kd (fun d => ak_iald (t := 0) (fun _ => rfl) rfl d rfl) <|
  am_kd (fun d => ak_iadd d rfl) <|
  am_kd (fun d => ak_istore_n d rfl rfl) <|
  am_kd (fun d => ak_aload_n d rfl rfl) <|
  am_kd (fun d => ak_getJ (C := RX4) (T := TX4) (N := 19) rfl inX4w (by decide) rfl rfl rfl wd_310 d rfl) <|
  am_kd (fun d => ak_aload_n d rfl rfl) <|
  am_kd (fun d => ak_getR (C := RX4) (T := TX4) (N := 19) rfl inX4w (by decide) rfl rfl rfl wd_296 d rfl) <|
  am_kd (fun d => ak_iload_n d rfl rfl) <|
  am_kd (fun d => ak_lald (t := 1) (fun _ => rfl) rfl d rfl) <|
  am_kd (fun d => ak_lmin (am_w4 wd_607 wd_608 wd_68 wd_609) (by decide) d rfl) <|
  am_kd (fun d => ak_lstore_n d rfl rfl) <|
  am_kd (fun d => ak_aload_n d rfl rfl) <|
  am_kd (fun d => ak_getR (C := RX4) (T := TX4) (N := 19) rfl inX4w (by decide) rfl rfl rfl wd_296 d rfl) <|
  am_kd (fun d => ak_iload_n d rfl rfl) <|
  am_kd (fun d => ak_dup2 d rfl) <|
  am_kd (fun d => ak_lald (t := 1) (fun _ => rfl) rfl d rfl) <|
  am_kd (fun d => ak_lload_n d rfl rfl) <|
  am_kd (fun d => ak_lsub d rfl) <|
  am_kd (fun d => ak_last (t := 1) (fun _ => rfl) rfl d rfl) <|
  am_kd (fun d => ak_aload_n d rfl rfl) <|
  am_kd (fun d => ak_dup d rfl) <|
  am_kd (fun d => ak_getJ (C := RX4) (T := TX4) (N := 19) rfl inX4w (by decide) rfl rfl rfl wd_310 d rfl) <|
  am_kd (fun d => ak_lload_n d rfl rfl) <|
  am_kd (fun d => ak_lsub d rfl) <|
  am_kd (fun d => ak_putJ (C := RX4) (T := TX4) (N := 19) rfl inX4w tyX4_ok nmX4 (by decide) rfl rfl rfl rfl (by decide +kernel) wd_310 d rfl) <|
  am_kd (fun d => ak_aload_n d rfl rfl) <|
  am_kd (fun d => ak_dup d rfl) <|
  am_kd (fun d => ak_getJ (C := RX4) (T := TX4) (N := 19) rfl inX4w (by decide) rfl rfl rfl wd_311 d rfl) <|
  am_kd (fun d => ak_lload_n d rfl rfl) <|
  am_kd (fun d => ak_ladd d rfl) <|
  am_kd (fun d => ak_putJ (C := RX4) (T := TX4) (N := 19) rfl inX4w tyX4_ok nmX4 (by decide) rfl rfl rfl rfl (by decide +kernel) wd_311 d rfl) <|
  am_kd (fun d => ak_iinc d (by decide +kernel) rfl) <|
  am_kd (fun d => ak_goto d (by decide +kernel)) <|
  am_kd (fun d => ak_aload_n d rfl rfl) <|
  am_kd (fun d => ak_lconst d (by decide +kernel) rfl) <|
  am_kd (fun d => ak_putJ (C := RX4) (T := TX4) (N := 19) rfl inX4w tyX4_ok nmX4 (by decide) rfl rfl rfl rfl (by decide +kernel) wd_310 d rfl) <|
  am_kd (fun d => ak_retV d) <| am_kdn
def TX4_payAhead : am_T := fun live as M R => match as with
  | [.ref n] => am_mn live ∧ n = 4 ∧ g_rI M ∧ ∀ M', g_sc M M' → g_rI M' → R none M'
  | _ => False
def JX4_payAhead : am_E → List Value → am_M → am_R → am_inv := fun live as M0 _ pc => match as with
  | [.ref n] => (match pc with
    | 2 => some ([0, 1], fun k L st M => ∃ i : Int32, L = [(0, .ref 4), (1, .int i)] ∧ st = [] ∧ k = ((31 - i.toInt).toNat, 0) ∧ 0 ≤ i.toInt ∧ g_sc M0 M ∧ g_rI M)
    | _ => none)
  | _ => none
set_option maxRecDepth 100000 in
set_option maxHeartbeats 4000000 in
theorem metX4_payAhead : am_Met yX4_payAhead cX4_payAhead 5 none (1) (23) TX4_payAhead := by
  refine am_met (own := RX4) (by decide +kernel) rfl kX4_payAhead koX4_payAhead 100 JX4_payAhead ?_ ?_
  · intro live as M Ret h
    unfold TX4_payAhead at h
    split at h
    · next n =>
      refine ⟨Nat.le_of_ble_eq_true rfl, ?_⟩
      change am_wp _ _ _ _ [(0, Value.ref n)] _ _
      obtain ⟨hmn, rfl, hr, h⟩ := h
      repeat' (first | apply And.intro | exact rfl | intro hx | (refine Exists.intro _ (And.intro rfl ?_)))
      all_goals try first | (with_reducible change am_tI _ _) | (change Ret _ _) | (change Ret _ _ _) | (change Exists _)
      all_goals try dsimp only at *
      all_goals try (with_reducible exact absurd ‹(1000 : Int64) = 0› am_z1000)
      exact ⟨_, _, rfl, rfl, rfl, by decide, g_sc.rf, hr⟩
    · exact h.elim
  · intro live as M0 Ret h k pc I hI L st M hi
    unfold TX4_payAhead at h
    split at h
    · next n =>
      obtain ⟨hmn, rfl, hr, h⟩ := h
      obtain ⟨i1, i2, rfl⟩ := hmn
      change (match pc with | 2 => _ | _ => none) = _ at hI
      split at hI
      · cases hI
        obtain ⟨i, rfl, rfl, rfl, e1, e2, e3⟩ := hi
        by_cases hz : M.1 4 7 ≤ i
        · clear hr
          repeat' (first | apply And.intro | exact rfl | (intro hx; with_reducible exact absurd hz hx) | intro hx | (refine Exists.intro _ (And.intro rfl ?_)))
          all_goals try first | (with_reducible change am_tI _ _) | (change Ret _ _) | (change Ret _ _ _) | (change Exists _)
          all_goals try dsimp only at *
          all_goals try (with_reducible exact absurd ‹(1000 : Int64) = 0› am_z1000)
          exact h _ (e2.wJ rfl) e3.wJ
        · have q := e3.s.sz
          have hz2 := hz
          simp only [i_le] at hz2
          have ha : am_in i 30 := ⟨e1, by omega⟩
          have hb := e3.s.qu (g_cl ha)
          have e0 := g_ix hb 0 0 rfl (by decide)
          have l6 : am_len 6 = 180 := rfl
          have l8 : am_len 8 = 30 := rfl
          have hi := i_inc (x := i) (by omega) (by omega)
          repeat' (first | apply And.intro | exact rfl | (intro hx; with_reducible exact absurd hx hz) | intro hx | (refine Exists.intro _ (And.intro rfl ?_)))
          all_goals try first | (with_reducible change am_tI _ _) | (change Ret _ _) | (change Ret _ _ _) | (change Exists _)
          all_goals try dsimp only at *
          all_goals try (with_reducible exact absurd ‹(1000 : Int64) = 0› am_z1000)
          all_goals first
            | omega
            | (with_reducible exact e0.1)
            | (rw [l6]; exact e0.2.1)
            | (rw [l8]; exact ha.2)
            | exact e0.1
            | skip
          exact ⟨_, am_lt_l (by omega), i + 1, rfl, rfl, rfl, by omega, (((e2.wJ rfl).wJ rfl).wJ rfl), ((e3.wJ).wJ).wJ⟩
      · cases hI
    · exact h.elim
set_option maxRecDepth 100000 in
theorem wd_299 : Cond.fieldLink "LearnLoans$Run" 26 "LearnLoans$Run" "mine" "[I" ∈ am_ws := am_wt2 (List.mem_of_getElem? (i := 2) (by rfl)) (by decide +kernel)
def rwX4_together : List dz_r := [(0, .lconst 0, 1), (1, .lstore_n 2, 1), (2, .iconst 0, 1), (3, .istore 4, 2), (5, .iload 4, 2), (7, .aload_n 0, 1), (8, .getfield 56, 3), (11, .if_icmp .ge 29, 3), (14, .lload_n 2, 1), (15, .aload_n 0, 1), (16, .getfield 22, 3), (19, .iload_n 1, 1), (20, .bipush 30, 2), (22, .imul, 1), (23, .aload_n 0, 1), (24, .getfield 26, 3), (27, .iload 4, 2), (29, .iaload, 1), (30, .iadd, 1), (31, .laload, 1), (32, .ladd, 1), (33, .lstore_n 2, 1), (34, .iinc 4 1, 3), (37, .goto (-32), 3), (40, .lload_n 2, 1), (41, .lreturn, 1)]
theorem dzX4_together : dz cX4_together rwX4_together := dz_all 0 (by decide +kernel)
def kX4_together (live : am_E) (Ret : am_R) : am_code := [(0, am_const (.long 0) 1), (1, am_lstore 2 5 2), (2, am_const (.int 0) 3), (3, am_istore 4 5 5), (5, am_iload 4 7), (7, am_aload 0 8), (8, am_getI live 4 7 11), (11, am_if2 (fun x y => y ≤ x) 40 14), (14, am_lload 2 15), (15, am_aload 0 16), (16, am_getR live 4 2 19), (19, am_iload 1 20), (20, am_const (.int 30) 22), (22, am_i2 (fun x y => x * y) 23), (23, am_aload 0 24), (24, am_getR live 4 3 27), (27, am_iload 4 29), (29, am_ald live 0 30), (30, am_i2 (fun x y => x + y) 31), (31, am_lald live 1 32), (32, am_l2 (fun x y => x + y) 33), (33, am_lstore 2 5 34), (34, am_iinc 4 5 1 37), (37, am_goto 5), (40, am_lload 2 41), (41, am_retL Ret)]
theorem koX4_together (live : am_E) (Ret : am_R) : ∀ q ∈ kX4_together live Ret, am_ok RX4 cX4_together 5 (some .long) 0 0 live Ret q.1 q.2 :=
  am_kz dzX4_together <|
  am_kd (fun d => ak_lconst d (by decide +kernel) rfl) <|
  am_kd (fun d => ak_lstore_n d rfl rfl) <|
  am_kd (fun d => ak_iconst d (by decide +kernel) rfl) <|
  am_kd (fun d => ak_istore d rfl) <|
  am_kd (fun d => ak_iload d rfl) <|
  am_kd (fun d => ak_aload_n d rfl rfl) <|
  am_kd (fun d => ak_getI (C := RX4) (T := TX4) (N := 19) rfl inX4w (by decide) rfl rfl rfl wd_303 d rfl) <|
  am_kd (fun d => ak_icmp_ge d (by decide +kernel) rfl) <|
  am_kd (fun d => ak_lload_n d rfl rfl) <|
  am_kd (fun d => ak_aload_n d rfl rfl) <|
  am_kd (fun d => ak_getR (C := RX4) (T := TX4) (N := 19) rfl inX4w (by decide) rfl rfl rfl wd_296 d rfl) <|
  am_kd (fun d => ak_iload_n d rfl rfl) <|
  am_kd (fun d => ak_bipush d (by decide +kernel) rfl) <|
  am_kd (fun d => ak_imul d rfl) <|
  am_kd (fun d => ak_aload_n d rfl rfl) <|
  am_kd (fun d => ak_getR (C := RX4) (T := TX4) (N := 19) rfl inX4w (by decide) rfl rfl rfl wd_299 d rfl) <|
  am_kd (fun d => ak_iload d rfl) <|
  am_kd (fun d => ak_iald (t := 0) (fun _ => rfl) rfl d rfl) <|
  am_kd (fun d => ak_iadd d rfl) <|
  am_kd (fun d => ak_lald (t := 1) (fun _ => rfl) rfl d rfl) <|
  am_kd (fun d => ak_ladd d rfl) <|
  am_kd (fun d => ak_lstore_n d rfl rfl) <|
  am_kd (fun d => ak_iinc d (by decide +kernel) rfl) <|
  am_kd (fun d => ak_goto d (by decide +kernel)) <|
  am_kd (fun d => ak_lload_n d rfl rfl) <|
  am_kd (fun d => ak_retL d) <| am_kdn
def TX4_together : am_T := fun live as M R => match as with
  | [.ref n, .int w] => am_mn live ∧ n = 4 ∧ am_in w 6 ∧ g_rI M ∧ ∀ v, R (some (.long v)) M
  | _ => False
def JX4_together : am_E → List Value → am_M → am_R → am_inv := fun live as M0 _ pc => match as with
  | [.ref n, .int w] => (match pc with
    | 5 => some ([0, 1, 2, 4], fun k L st M => ∃ (v : Int64) (i : Int32), L = [(0, .ref 4), (1, .int w), (2, .long v), (4, .int i)] ∧ st = [] ∧ k = ((31 - i.toInt).toNat, 0) ∧ 0 ≤ i.toInt ∧ M = M0)
    | _ => none)
  | _ => none
set_option maxRecDepth 100000 in
set_option maxHeartbeats 4000000 in
theorem metX4_together : am_Met yX4_together cX4_together 5 (some .long) (0) (0) TX4_together := by
  refine am_met (own := RX4) (by decide +kernel) rfl kX4_together koX4_together 100 JX4_together ?_ ?_
  · intro live as M Ret h
    unfold TX4_together at h
    split at h
    · next n w =>
      refine ⟨Nat.le_of_ble_eq_true rfl, ?_⟩
      change am_wp _ _ _ _ [(0, Value.ref n), (1, Value.int w)] _ _
      obtain ⟨hmn, rfl, hw, hr, h⟩ := h
      repeat' (first | apply And.intro | exact rfl | intro hx | (refine Exists.intro _ (And.intro rfl ?_)))
      all_goals try first | (with_reducible change am_tI _ _) | (change Ret _ _) | (change Ret _ _ _) | (change Exists _)
      all_goals try dsimp only at *
      all_goals try (with_reducible exact absurd ‹(1000 : Int64) = 0› am_z1000)
      exact ⟨_, _, _, rfl, rfl, rfl, by decide, rfl⟩
    · exact h.elim
  · intro live as M0 Ret h k pc I hI L st M hi
    unfold TX4_together at h
    split at h
    · next n w =>
      obtain ⟨hmn, rfl, hw, hr, h⟩ := h
      obtain ⟨i1, i2, rfl⟩ := hmn
      change (match pc with | 5 => _ | _ => none) = _ at hI
      split at hI
      · cases hI
        obtain ⟨v, i, rfl, rfl, rfl, e1, rfl⟩ := hi
        by_cases hz : M.1 4 7 ≤ i
        · skip
          repeat' (first | apply And.intro | exact rfl | (intro hx; with_reducible exact absurd hz hx) | intro hx | (refine Exists.intro _ (And.intro rfl ?_)))
          all_goals try first | (with_reducible change am_tI _ _) | (change Ret _ _) | (change Ret _ _ _) | (change Exists _)
          all_goals try dsimp only at *
          all_goals try (with_reducible exact absurd ‹(1000 : Int64) = 0› am_z1000)
          exact h _
        · have q := hr.s.sz
          have hz2 := hz
          simp only [i_le] at hz2
          have ha : am_in i 30 := ⟨e1, by omega⟩
          have hb := hr.s.mi (g_cl ha)
          have l6 : am_len 6 = 180 := rfl
          have l7 : am_len 7 = 30 := rfl
          have hi := i_inc (x := i) (by omega) (by omega)
          have e30 := i_mul (x := w) (y := 30) (by simp only [Int32.reduceToInt]; have := hw.1; have := hw.2; omega) (by simp only [Int32.reduceToInt]; have := hw.1; have := hw.2; omega)
          simp only [Int32.reduceToInt] at e30
          have hw1 := hw.1
          have hw2 := hw.2
          have hb1 := hb.1
          have hb2 := hb.2
          have e := i_add (x := w * 30) (y := M.1 7 i.toNatClampNeg) (by rw [e30]; omega) (by rw [e30]; omega)
          repeat' (first | apply And.intro | exact rfl | (intro hx; with_reducible exact absurd hx hz) | intro hx | (refine Exists.intro _ (And.intro rfl ?_)))
          all_goals try first | (with_reducible change am_tI _ _) | (change Ret _ _) | (change Ret _ _ _) | (change Exists _)
          all_goals try dsimp only at *
          all_goals try (with_reducible exact absurd ‹(1000 : Int64) = 0› am_z1000)
          all_goals first
            | omega
            | (rw [l7]; exact ha.2)
            | (rw [l6]; omega)
            | skip
          exact ⟨_, am_lt_l (by omega), _, i + 1, rfl, rfl, rfl, by omega, rfl⟩
      · cases hI
    · exact h.elim
end
