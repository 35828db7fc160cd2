/-! general: the reference's runs, I -/
theorem r_pers {M : am_M} (hR : r_I M) {l : Int32} (hl : am_in l 30) : am_in (M.1 201 (2838 + 8 * l + 0).toNatClampNeg) 12 := by
  have e := r_lcol hl (w := 0) ⟨by decide, by decide⟩
  simp only [Int32.reduceToInt] at e
  have l1 := hl.1
  have l2 := hl.2
  have c1 := i_clamp (x := 2838 + 8 * l + 0) (by omega)
  have c2 := i_clamp (x := l) l1
  rw [show (2838 + 8 * l + 0).toNatClampNeg = 2838 + 8 * l.toNatClampNeg by omega]
  exact (hR.lo (g_cl hl)).1
theorem r_in5 {v : Int32} {c : Int32} (h : am_in v 5) (hc : 0 ≤ c.toInt ∧ c.toInt ≤ 3700) : 0 ≤ (c + v).toInt ∧ (c + v).toInt < (am_len 201 : Int) := by
  have h1 := h.1
  have h2 := h.2
  have e := r_off (c := c) (x := v) ⟨hc.1, by omega⟩ ⟨by omega, by omega⟩
  have l201 : am_len 201 = 3760 := rfl
  rw [l201]
  omega
theorem r_in40 {v : Int32} {c : Int32} (h : am_in v 40) (hc : 0 ≤ c.toInt ∧ c.toInt ≤ 3700) : 0 ≤ (c + v).toInt ∧ (c + v).toInt < (am_len 201 : Int) := by
  have h1 := h.1
  have h2 := h.2
  have e := r_off (c := c) (x := v) ⟨hc.1, by omega⟩ ⟨by omega, by omega⟩
  have l201 : am_len 201 = 3760 := rfl
  rw [l201]
  omega
theorem hy_X8_planAt : yX8_planAt.cls ≠ "java/lang/invoke/MethodHandle" ∧ yX8_planAt.cls ≠ "java/lang/invoke/VarHandle" ∧ (parseMethodDescriptor yX8_planAt.desc).map (fun d => d.parameters.length) = some 2 := ⟨by decide +kernel, by decide +kernel, by decide +kernel⟩
set_option maxRecDepth 100000 in
theorem wd_1085 : Cond.methodLink "LearnLoansModel" 141 yX8_planAt ∈ am_ws := am_wt5 (List.mem_of_getElem? (i := 68) (by rfl)) (by decide +kernel)
set_option maxRecDepth 100000 in
theorem wd_1087 : Cond.instanceMethod yX8_planAt ∈ am_ws := am_wt5 (List.mem_of_getElem? (i := 70) (by rfl)) (by decide +kernel)
set_option maxRecDepth 100000 in
theorem wd_32 : Cond.selects "LearnLoansModel" yX8_planAt yX8_planAt ∈ am_ws := am_wsi (List.mem_of_getElem? (i := 32) (by rfl)) (by decide +kernel)
set_option maxRecDepth 100000 in
theorem wd_1088 : Cond.code yX8_planAt cX8_planAt 5 (some .int) ∈ am_ws := am_wt5 (List.mem_of_getElem? (i := 71) (by rfl)) (by decide +kernel)
theorem hy_X8_inForce : yX8_inForce.cls ≠ "java/lang/invoke/MethodHandle" ∧ yX8_inForce.cls ≠ "java/lang/invoke/VarHandle" ∧ (parseMethodDescriptor yX8_inForce.desc).map (fun d => d.parameters.length) = some 4 := ⟨by decide +kernel, by decide +kernel, by decide +kernel⟩
set_option maxRecDepth 100000 in
theorem wd_1053 : Cond.methodLink "LearnLoansModel" 127 yX8_inForce ∈ am_ws := am_wt5 (List.mem_of_getElem? (i := 36) (by rfl)) (by decide +kernel)
set_option maxRecDepth 100000 in
theorem wd_1055 : Cond.instanceMethod yX8_inForce ∈ am_ws := am_wt5 (List.mem_of_getElem? (i := 38) (by rfl)) (by decide +kernel)
set_option maxRecDepth 100000 in
theorem wd_29 : Cond.selects "LearnLoansModel" yX8_inForce yX8_inForce ∈ am_ws := am_wsi (List.mem_of_getElem? (i := 29) (by rfl)) (by decide +kernel)
set_option maxRecDepth 100000 in
theorem wd_1056 : Cond.code yX8_inForce cX8_inForce 9 (some .int) ∈ am_ws := am_wt5 (List.mem_of_getElem? (i := 39) (by rfl)) (by decide +kernel)
def rwX8_rateOf : List dz_r := [(0, .aload_n 0, 1), (1, .iload_n 1, 1), (2, .iconst 0, 1), (3, .invokevirtual 202, 3), (6, .istore 5, 2), (8, .aload_n 0, 1), (9, .iload_n 1, 1), (10, .iload_n 2, 1), (11, .invokevirtual 141, 3), (14, .istore 6, 2), (16, .aload_n 0, 1), (17, .iload 6, 2), (19, .iconst 2, 1), (20, .iload 5, 2), (22, .iload_n 2, 1), (23, .invokevirtual 127, 3), (26, .istore 7, 2), (28, .aload_n 0, 1), (29, .getfield 7, 3), (32, .sipush 3508, 3), (35, .iload 6, 2), (37, .iadd, 1), (38, .iaload, 1), (39, .ifCond .ne 6, 3), (42, .iload 7, 2), (44, .ireturn, 1), (45, .aload_n 0, 1), (46, .getfield 27, 3), (49, .iconst 0, 1), (50, .iload 7, 2), (52, .i2l, 1), (53, .lastore, 1), (54, .aload_n 0, 1), (55, .getfield 27, 3), (58, .iconst 1, 1), (59, .aload_n 0, 1), (60, .getfield 7, 3), (63, .sipush 518, 3), (66, .iload_n 2, 1), (67, .iadd, 1), (68, .iaload, 1), (69, .i2l, 1), (70, .lastore, 1), (71, .aload_n 0, 1), (72, .getfield 27, 3), (75, .iconst 2, 1), (76, .iload_n 3, 1), (77, .i2l, 1), (78, .lastore, 1), (79, .aload_n 0, 1), (80, .getfield 27, 3), (83, .iconst 3, 1), (84, .aload_n 0, 1), (85, .iload 6, 2), (87, .iconst 0, 1), (88, .iload 5, 2), (90, .iload_n 2, 1), (91, .invokevirtual 127, 3), (94, .i2l, 1), (95, .lastore, 1), (96, .aload_n 0, 1), (97, .getfield 27, 3), (100, .iconst 4, 1), (101, .iload_n 2, 1), (102, .aload_n 0, 1), (103, .iload_n 1, 1), (104, .iconst 2, 1), (105, .invokevirtual 202, 3), (108, .isub, 1), (109, .i2l, 1), (110, .lastore, 1), (111, .aload_n 0, 1), (112, .getfield 27, 3), (115, .iconst 5, 1), (116, .aload_n 0, 1), (117, .getfield 30, 3), (120, .iload_n 1, 1), (121, .laload, 1), (122, .lastore, 1), (123, .aload_n 0, 1), (124, .getfield 27, 3), (127, .bipush 6, 2), (129, .iload 4, 2), (131, .i2l, 1), (132, .lastore, 1), (133, .aload_n 0, 1), (134, .iload 6, 2), (136, .invokevirtual 199, 3), (139, .ifCond .ne 6, 3), (142, .iload 7, 2), (144, .ireturn, 1), (145, .aload_n 0, 1), (146, .getfield 23, 3), (149, .iconst 0, 1), (150, .laload, 1), (151, .lconst 0, 1), (152, .lcmp, 1), (153, .ifCond .ge 7, 3), (156, .iconst 0, 1), (157, .goto 29, 3), (160, .aload_n 0, 1), (161, .getfield 23, 3), (164, .iconst 0, 1), (165, .laload, 1), (166, .ldc2_w 85, 3), (169, .lcmp, 1), (170, .ifCond .le 9, 3), (173, .sipush 500, 3), (176, .goto 10, 3), (179, .aload_n 0, 1), (180, .getfield 23, 3), (183, .iconst 0, 1), (184, .laload, 1), (185, .l2i, 1), (186, .ireturn, 1)]
theorem dzX8_rateOf : dz cX8_rateOf rwX8_rateOf := dz_all 0 (by decide +kernel)
def kX8_rateOf (live : am_E) (Ret : am_R) : am_code := [(0, am_aload 0 1), (1, am_iload 1 2), (2, am_const (.int 0) 3), (3, am_callV live 8 2 TX8_ofLoan 6), (6, am_istore 5 8 8), (8, am_aload 0 9), (9, am_iload 1 10), (10, am_iload 2 11), (11, am_callV live 8 2 TX8_planAt 14), (14, am_istore 6 8 16), (16, am_aload 0 17), (17, am_iload 6 19), (19, am_const (.int 2) 20), (20, am_iload 5 22), (22, am_iload 2 23), (23, am_callV live 8 4 TX8_inForce 26), (26, am_istore 7 8 28), (28, am_aload 0 29), (29, am_getR live 8 0 32), (32, am_const (.int 3508) 35), (35, am_iload 6 37), (37, am_i2 (fun x y => x + y) 38), (38, am_ald live 0 39), (39, am_if1 (fun x => x = 0) 42 45), (42, am_iload 7 44), (44, am_retI Ret), (45, am_aload 0 46), (46, am_getR live 8 13 49), (49, am_const (.int 0) 50), (50, am_iload 7 52), (52, am_i2l 53), (53, am_last live 1 54), (54, am_aload 0 55), (55, am_getR live 8 13 58), (58, am_const (.int 1) 59), (59, am_aload 0 60), (60, am_getR live 8 0 63), (63, am_const (.int 518) 66), (66, am_iload 2 67), (67, am_i2 (fun x y => x + y) 68), (68, am_ald live 0 69), (69, am_i2l 70), (70, am_last live 1 71), (71, am_aload 0 72), (72, am_getR live 8 13 75), (75, am_const (.int 2) 76), (76, am_iload 3 77), (77, am_i2l 78), (78, am_last live 1 79), (79, am_aload 0 80), (80, am_getR live 8 13 83), (83, am_const (.int 3) 84), (84, am_aload 0 85), (85, am_iload 6 87), (87, am_const (.int 0) 88), (88, am_iload 5 90), (90, am_iload 2 91), (91, am_callV live 8 4 TX8_inForce 94), (94, am_i2l 95), (95, am_last live 1 96), (96, am_aload 0 97), (97, am_getR live 8 13 100), (100, am_const (.int 4) 101), (101, am_iload 2 102), (102, am_aload 0 103), (103, am_iload 1 104), (104, am_const (.int 2) 105), (105, am_callV live 8 2 TX8_ofLoan 108), (108, am_i2 (fun x y => x - y) 109), (109, am_i2l 110), (110, am_last live 1 111), (111, am_aload 0 112), (112, am_getR live 8 13 115), (115, am_const (.int 5) 116), (116, am_aload 0 117), (117, am_getR live 8 15 120), (120, am_iload 1 121), (121, am_lald live 1 122), (122, am_last live 1 123), (123, am_aload 0 124), (124, am_getR live 8 13 127), (127, am_const (.int 6) 129), (129, am_iload 4 131), (131, am_i2l 132), (132, am_last live 1 133), (133, am_aload 0 134), (134, am_iload 6 136), (136, am_callV live 8 1 TX8_work 139), (139, am_if1 (fun x => x = 0) 142 145), (142, am_iload 7 144), (144, am_retI Ret), (145, am_aload 0 146), (146, am_getR live 8 10 149), (149, am_const (.int 0) 150), (150, am_lald live 1 151), (151, am_const (.long 0) 152), (152, am_lcmp 153), (153, am_if1 (fun x => 0 ≤ x) 160 156), (156, am_const (.int 0) 157), (157, am_goto 186), (160, am_aload 0 161), (161, am_getR live 8 10 164), (164, am_const (.int 0) 165), (165, am_lald live 1 166), (166, am_const (.long 500) 169), (169, am_lcmp 170), (170, am_if1 (fun x => x ≤ 0) 179 173), (173, am_const (.int 500) 176), (176, am_goto 186), (179, am_aload 0 180), (180, am_getR live 8 10 183), (183, am_const (.int 0) 184), (184, am_lald live 1 185), (185, am_l2i 186), (186, am_retI Ret)]
theorem koX8_rateOf (live : am_E) (Ret : am_R) : ∀ q ∈ kX8_rateOf live Ret, am_ok RX8 cX8_rateOf 8 (some .int) 6 135 live Ret q.1 q.2 :=
  am_kz dzX8_rateOf <|
  am_kd (fun d => ak_aload_n d rfl rfl) <|
  am_kd (fun d => ak_iload_n d rfl rfl) <|
  am_kd (fun d => ak_iconst d (by decide +kernel) rfl) <|
  am_kd (fun d => ak_callV (C := RX8) (F := TX8) (N := 27) metX8_ofLoan rfl ⟨rfl, hy_X8_ofLoan⟩ (am_w5 wd_1154 wd_1156 wd_41 wd_67 wd_1157) (by decide) d rfl) <|
  am_kd (fun d => ak_istore d rfl) <|
  am_kd (fun d => ak_aload_n d rfl rfl) <|
  am_kd (fun d => ak_iload_n d rfl rfl) <|
  am_kd (fun d => ak_iload_n d rfl rfl) <|
  am_kd (fun d => ak_callV (C := RX8) (F := TX8) (N := 27) metX8_planAt rfl ⟨rfl, hy_X8_planAt⟩ (am_w5 wd_1085 wd_1087 wd_32 wd_67 wd_1088) (by decide) d rfl) <|
  am_kd (fun d => ak_istore d rfl) <|
  am_kd (fun d => ak_aload_n d rfl rfl) <|
  am_kd (fun d => ak_iload d rfl) <|
  am_kd (fun d => ak_iconst d (by decide +kernel) rfl) <|
  am_kd (fun d => ak_iload d rfl) <|
  am_kd (fun d => ak_iload_n d rfl rfl) <|
  am_kd (fun d => ak_callV (C := RX8) (F := TX8) (N := 27) metX8_inForce rfl ⟨rfl, hy_X8_inForce⟩ (am_w5 wd_1053 wd_1055 wd_29 wd_67 wd_1056) (by decide) d rfl) <|
  am_kd (fun d => ak_istore d rfl) <|
  am_kd (fun d => ak_aload_n d rfl rfl) <|
  am_kd (fun d => ak_getR (C := RX8) (T := TX8) (N := 27) rfl inX8w (by decide) rfl rfl rfl wd_895 d rfl) <|
  am_kd (fun d => ak_sipush d (by decide +kernel) rfl) <|
  am_kd (fun d => ak_iload d rfl) <|
  am_kd (fun d => ak_iadd d rfl) <|
  am_kd (fun d => ak_iald (t := 0) (fun _ => rfl) rfl d rfl) <|
  am_kd (fun d => ak_if_ne d (by decide +kernel) rfl) <|
  am_kd (fun d => ak_iload d rfl) <|
  am_kd (fun d => ak_retI d) <|
  am_kd (fun d => ak_aload_n d rfl rfl) <|
  am_kd (fun d => ak_getR (C := RX8) (T := TX8) (N := 27) rfl inX8w (by decide) rfl rfl rfl wd_908 d rfl) <|
  am_kd (fun d => ak_iconst d (by decide +kernel) rfl) <|
  am_kd (fun d => ak_iload d rfl) <|
  am_kd (fun d => ak_i2l d rfl) <|
  am_kd (fun d => ak_last (t := 1) (fun _ => rfl) rfl d rfl) <|
  am_kd (fun d => ak_aload_n d rfl rfl) <|
  am_kd (fun d => ak_getR (C := RX8) (T := TX8) (N := 27) rfl inX8w (by decide) rfl rfl rfl wd_908 d rfl) <|
  am_kd (fun d => ak_iconst d (by decide +kernel) rfl) <|
  am_kd (fun d => ak_aload_n d rfl rfl) <|
  am_kd (fun d => ak_getR (C := RX8) (T := TX8) (N := 27) rfl inX8w (by decide) rfl rfl rfl wd_895 d rfl) <|
  am_kd (fun d => ak_sipush d (by decide +kernel) rfl) <|
  am_kd (fun d => ak_iload_n d rfl rfl) <|
  am_kd (fun d => ak_iadd d rfl) <|
  am_kd (fun d => ak_iald (t := 0) (fun _ => rfl) rfl d rfl) <|
  am_kd (fun d => ak_i2l d rfl) <|
  am_kd (fun d => ak_last (t := 1) (fun _ => rfl) rfl d rfl) <|
  am_kd (fun d => ak_aload_n d rfl rfl) <|
  am_kd (fun d => ak_getR (C := RX8) (T := TX8) (N := 27) rfl inX8w (by decide) rfl rfl rfl wd_908 d rfl) <|
  am_kd (fun d => ak_iconst d (by decide +kernel) rfl) <|
  am_kd (fun d => ak_iload_n d rfl rfl) <|
  am_kd (fun d => ak_i2l d rfl) <|
  am_kd (fun d => ak_last (t := 1) (fun _ => rfl) rfl d rfl) <|
  am_kd (fun d => ak_aload_n d rfl rfl) <|
  am_kd (fun d => ak_getR (C := RX8) (T := TX8) (N := 27) rfl inX8w (by decide) rfl rfl rfl wd_908 d rfl) <|
  am_kd (fun d => ak_iconst d (by decide +kernel) rfl) <|
  am_kd (fun d => ak_aload_n d rfl rfl) <|
  am_kd (fun d => ak_iload d rfl) <|
  am_kd (fun d => ak_iconst d (by decide +kernel) rfl) <|
  am_kd (fun d => ak_iload d rfl) <|
  am_kd (fun d => ak_iload_n d rfl rfl) <|
  am_kd (fun d => ak_callV (C := RX8) (F := TX8) (N := 27) metX8_inForce rfl ⟨rfl, hy_X8_inForce⟩ (am_w5 wd_1053 wd_1055 wd_29 wd_67 wd_1056) (by decide) d rfl) <|
  am_kd (fun d => ak_i2l d rfl) <|
  am_kd (fun d => ak_last (t := 1) (fun _ => rfl) rfl d rfl) <|
  am_kd (fun d => ak_aload_n d rfl rfl) <|
  am_kd (fun d => ak_getR (C := RX8) (T := TX8) (N := 27) rfl inX8w (by decide) rfl rfl rfl wd_908 d rfl) <|
  am_kd (fun d => ak_iconst d (by decide +kernel) rfl) <|
  am_kd (fun d => ak_iload_n d rfl rfl) <|
  am_kd (fun d => ak_aload_n d rfl rfl) <|
  am_kd (fun d => ak_iload_n d rfl rfl) <|
  am_kd (fun d => ak_iconst d (by decide +kernel) rfl) <|
  am_kd (fun d => ak_callV (C := RX8) (F := TX8) (N := 27) metX8_ofLoan rfl ⟨rfl, hy_X8_ofLoan⟩ (am_w5 wd_1154 wd_1156 wd_41 wd_67 wd_1157) (by decide) d rfl) <|
  am_kd (fun d => ak_isub d rfl) <|
  am_kd (fun d => ak_i2l d rfl) <|
  am_kd (fun d => ak_last (t := 1) (fun _ => rfl) rfl d rfl) <|
  am_kd (fun d => ak_aload_n d rfl rfl) <|
  am_kd (fun d => ak_getR (C := RX8) (T := TX8) (N := 27) rfl inX8w (by decide) rfl rfl rfl wd_908 d rfl) <|
  am_kd (fun d => ak_iconst d (by decide +kernel) rfl) <|
  am_kd (fun d => ak_aload_n d rfl rfl) <|
  am_kd (fun d => ak_getR (C := RX8) (T := TX8) (N := 27) rfl inX8w (by decide) rfl rfl rfl wd_910 d rfl) <|
  am_kd (fun d => ak_iload_n d rfl rfl) <|
  am_kd (fun d => ak_lald (t := 1) (fun _ => rfl) rfl d rfl) <|
  am_kd (fun d => ak_last (t := 1) (fun _ => rfl) rfl d rfl) <|
  am_kd (fun d => ak_aload_n d rfl rfl) <|
  am_kd (fun d => ak_getR (C := RX8) (T := TX8) (N := 27) rfl inX8w (by decide) rfl rfl rfl wd_908 d rfl) <|
  am_kd (fun d => ak_bipush d (by decide +kernel) rfl) <|
  am_kd (fun d => ak_iload d rfl) <|
  am_kd (fun d => ak_i2l d rfl) <|
  am_kd (fun d => ak_last (t := 1) (fun _ => rfl) rfl d rfl) <|
  am_kd (fun d => ak_aload_n d rfl rfl) <|
  am_kd (fun d => ak_iload d rfl) <|
  am_kd (fun d => ak_callV (C := RX8) (F := TX8) (N := 27) metX8_work rfl ⟨rfl, hy_X8_work⟩ (am_w5 wd_1102 wd_1104 wd_33 wd_67 wd_1105) (by decide) d rfl) <|
  am_kd (fun d => ak_if_ne d (by decide +kernel) rfl) <|
  am_kd (fun d => ak_iload d rfl) <|
  am_kd (fun d => ak_retI d) <|
  am_kd (fun d => ak_aload_n d rfl rfl) <|
  am_kd (fun d => ak_getR (C := RX8) (T := TX8) (N := 27) rfl inX8w (by decide) rfl rfl rfl wd_905 d rfl) <|
  am_kd (fun d => ak_iconst d (by decide +kernel) rfl) <|
  am_kd (fun d => ak_lald (t := 1) (fun _ => rfl) rfl d rfl) <|
  am_kd (fun d => ak_lconst d (by decide +kernel) rfl) <|
  am_kd (fun d => ak_lcmp d rfl) <|
  am_kd (fun d => ak_if_ge d (by decide +kernel) rfl) <|
  am_kd (fun d => ak_iconst d (by decide +kernel) rfl) <|
  am_kd (fun d => ak_goto d (by decide +kernel)) <|
  am_kd (fun d => ak_aload_n d rfl rfl) <|
  am_kd (fun d => ak_getR (C := RX8) (T := TX8) (N := 27) rfl inX8w (by decide) rfl rfl rfl wd_905 d rfl) <|
  am_kd (fun d => ak_iconst d (by decide +kernel) rfl) <|
  am_kd (fun d => ak_lald (t := 1) (fun _ => rfl) rfl d rfl) <|
  am_kd (fun d => ak_ldc2 wd_1008 d rfl) <|
  am_kd (fun d => ak_lcmp d rfl) <|
  am_kd (fun d => ak_if_le d (by decide +kernel) rfl) <|
  am_kd (fun d => ak_sipush d (by decide +kernel) rfl) <|
  am_kd (fun d => ak_goto d (by decide +kernel)) <|
  am_kd (fun d => ak_aload_n d rfl rfl) <|
  am_kd (fun d => ak_getR (C := RX8) (T := TX8) (N := 27) rfl inX8w (by decide) rfl rfl rfl wd_905 d rfl) <|
  am_kd (fun d => ak_iconst d (by decide +kernel) rfl) <|
  am_kd (fun d => ak_lald (t := 1) (fun _ => rfl) rfl d rfl) <|
  am_kd (fun d => ak_l2i d rfl) <|
  am_kd (fun d => ak_retI d) <| am_kdn
def TX8_rateOf : am_T := fun live as M R => match as with
  | [.ref n, .int l, .int y, .int e, .int a] => am_mn live ∧ n = 200 ∧ am_in l 30 ∧ am_in y 40 ∧ r_I M ∧ ∀ v M', r_sc M M' → r_I M' → R (some (.int v)) M'
  | _ => False
set_option maxRecDepth 100000 in
set_option maxHeartbeats 4000000 in
theorem metX8_rateOf : am_Met yX8_rateOf cX8_rateOf 8 (some .int) (6) (135) TX8_rateOf := by
  refine am_met (own := RX8) (by decide +kernel) rfl kX8_rateOf koX8_rateOf 200 (fun _ _ _ _ _ => none) (fun live as M Ret h => ?_) (fun _ _ _ _ _ _ _ _ hI => by cases hI)
  unfold TX8_rateOf at h
  split at h
  · next n l y e a =>
    refine ⟨Nat.le_of_ble_eq_true rfl, ?_⟩
    change am_wp _ _ _ _ [(0, Value.ref n), (1, Value.int l), (2, Value.int y), (3, Value.int e), (4, Value.int a)] _ _
    obtain ⟨hmn, rfl, hl, hy, hR, h⟩ := h
    have hmn2 := hmn
    obtain ⟨i1, i2, rfl⟩ := hmn2
    have hp := r_pers hR hl
    have w0 : 0 ≤ (0 : Int32).toInt ∧ (0 : Int32).toInt ≤ 7 := ⟨by decide, by decide⟩
    have w2 : 0 ≤ (2 : Int32).toInt ∧ (2 : Int32).toInt ≤ 7 := ⟨by decide, by decide⟩
    have l207 : am_len 207 = 30 := rfl
    have y518 := r_in40 hy (c := 518) ⟨by decide, by decide⟩
    have x1 := y518.1
    have x2 := y518.2
    have l1 := hl.1
    have l2 := hl.2
    repeat' (first | (with_reducible exact hmn) | (with_reducible exact hl) | (with_reducible exact hp) | (with_reducible exact w0) | (with_reducible exact w2) | (with_reducible exact hR) | (with_reducible exact x1) | (with_reducible exact x2) | (with_reducible exact l1) | apply And.intro | exact rfl | ((with_reducible change r_I _); (with_reducible assumption)) | (intro hx; exact absurd hx (by decide)) | (intro hx; exact absurd (by decide) hx) | decide | intro hx | (refine Exists.intro _ (And.intro rfl ?_)))
    all_goals try first | (with_reducible change am_tI _ _) | (change Ret _ _) | (change Ret _ _ _) | (change Exists _)
    all_goals try dsimp only at *
    all_goals try (with_reducible exact absurd ‹(1000 : Int64) = 0› am_z1000)
    all_goals first
      | exact (r_in5 (by with_reducible assumption) ⟨by decide, by decide⟩).1
      | exact (r_in5 (by with_reducible assumption) ⟨by decide, by decide⟩).2
      | exact (show am_in _ 5 by with_reducible assumption).1
      | exact (show am_in _ 5 by with_reducible assumption).2
      | decide
      | (rw [l207]; exact hl.2)
      | (change r_I _; (repeat' (first | (with_reducible assumption) | ((with_reducible change r_I (am_wJ _ _ _ _)); refine r_I.wJ ?_) | ((with_reducible change r_I (am_wI _ _ _ _)); refine r_I.wI ?_ rfl))))
      | ((with_reducible change Ret _ _); exact h _ _ (by (repeat' (first | (with_reducible exact r_sc.rf) | (with_reducible assumption) | ((with_reducible change r_sc _ (am_wI _ _ _ _)); refine r_sc.wI ?_ rfl) | ((with_reducible change r_sc _ (am_wJ _ _ _ _)); refine r_sc.wJ ?_ rfl) | (refine r_sc.tr ?_ (by with_reducible assumption))))) (by (repeat' (first | (with_reducible assumption) | ((with_reducible change r_I (am_wJ _ _ _ _)); refine r_I.wJ ?_) | ((with_reducible change r_I (am_wI _ _ _ _)); refine r_I.wI ?_ rfl)))))
      | skip
  · exact h.elim
theorem dX8_runOf_0 : decode cX8_runOf 0 = .ok (.iload_n 2, 1) := by decide +kernel
theorem dX8_runOf_1 : decode cX8_runOf 1 = .ok (.tableswitch 59 0 3 #[31, 38, 45, 52], 31) := by decide +kernel
theorem dX8_runOf_32 : decode cX8_runOf 32 = .ok (.aload_n 0, 1) := by decide +kernel
theorem dX8_runOf_33 : decode cX8_runOf 33 = .ok (.getfield 30, 3) := by decide +kernel
theorem dX8_runOf_36 : decode cX8_runOf 36 = .ok (.iload_n 1, 1) := by decide +kernel
theorem dX8_runOf_37 : decode cX8_runOf 37 = .ok (.laload, 1) := by decide +kernel
theorem dX8_runOf_38 : decode cX8_runOf 38 = .ok (.lreturn, 1) := by decide +kernel
theorem dX8_runOf_39 : decode cX8_runOf 39 = .ok (.aload_n 0, 1) := by decide +kernel
theorem dX8_runOf_40 : decode cX8_runOf 40 = .ok (.getfield 33, 3) := by decide +kernel
theorem dX8_runOf_43 : decode cX8_runOf 43 = .ok (.iload_n 1, 1) := by decide +kernel
theorem dX8_runOf_44 : decode cX8_runOf 44 = .ok (.laload, 1) := by decide +kernel
theorem dX8_runOf_45 : decode cX8_runOf 45 = .ok (.lreturn, 1) := by decide +kernel
theorem dX8_runOf_46 : decode cX8_runOf 46 = .ok (.aload_n 0, 1) := by decide +kernel
theorem dX8_runOf_47 : decode cX8_runOf 47 = .ok (.getfield 42, 3) := by decide +kernel
theorem dX8_runOf_50 : decode cX8_runOf 50 = .ok (.iload_n 1, 1) := by decide +kernel
theorem dX8_runOf_51 : decode cX8_runOf 51 = .ok (.laload, 1) := by decide +kernel
theorem dX8_runOf_52 : decode cX8_runOf 52 = .ok (.lreturn, 1) := by decide +kernel
theorem dX8_runOf_53 : decode cX8_runOf 53 = .ok (.aload_n 0, 1) := by decide +kernel
theorem dX8_runOf_54 : decode cX8_runOf 54 = .ok (.getfield 36, 3) := by decide +kernel
theorem dX8_runOf_57 : decode cX8_runOf 57 = .ok (.iload_n 1, 1) := by decide +kernel
theorem dX8_runOf_58 : decode cX8_runOf 58 = .ok (.laload, 1) := by decide +kernel
theorem dX8_runOf_59 : decode cX8_runOf 59 = .ok (.lreturn, 1) := by decide +kernel
theorem dX8_runOf_60 : decode cX8_runOf 60 = .ok (.aload_n 0, 1) := by decide +kernel
theorem dX8_runOf_61 : decode cX8_runOf 61 = .ok (.getfield 45, 3) := by decide +kernel
theorem dX8_runOf_64 : decode cX8_runOf 64 = .ok (.iload_n 1, 1) := by decide +kernel
theorem dX8_runOf_65 : decode cX8_runOf 65 = .ok (.laload, 1) := by decide +kernel
theorem dX8_runOf_66 : decode cX8_runOf 66 = .ok (.lreturn, 1) := by decide +kernel
def kX8_runOf (live : am_E) (Ret : am_R) : am_code := [(0, am_iload 2 1), (1, am_switch [(0, 32), (1, 39), (2, 46), (3, 53)] 60), (32, am_aload 0 33), (33, am_getR live 8 15 36), (36, am_iload 1 37), (37, am_lald live 1 38), (38, am_retL Ret), (39, am_aload 0 40), (40, am_getR live 8 16 43), (43, am_iload 1 44), (44, am_lald live 1 45), (45, am_retL Ret), (46, am_aload 0 47), (47, am_getR live 8 19 50), (50, am_iload 1 51), (51, am_lald live 1 52), (52, am_retL Ret), (53, am_aload 0 54), (54, am_getR live 8 17 57), (57, am_iload 1 58), (58, am_lald live 1 59), (59, am_retL Ret), (60, am_aload 0 61), (61, am_getR live 8 20 64), (64, am_iload 1 65), (65, am_lald live 1 66), (66, am_retL Ret)]
theorem koX8_runOf (live : am_E) (Ret : am_R) : ∀ q ∈ kX8_runOf live Ret, am_ok RX8 cX8_runOf 3 (some .long) 0 0 live Ret q.1 q.2 :=
  am_kc (ak_iload_n dX8_runOf_0 rfl rfl) <|
  am_kc (ak_tswitch dX8_runOf_1 (by decide +kernel) (by decide +kernel) (by decide +kernel) (by decide +kernel) (by decide +kernel) (by decide +kernel)) <|
  am_kc (ak_aload_n dX8_runOf_32 rfl rfl) <|
  am_kc (ak_getR (C := RX8) (T := TX8) (N := 27) rfl inX8w (by decide) rfl rfl rfl wd_910 dX8_runOf_33 rfl) <|
  am_kc (ak_iload_n dX8_runOf_36 rfl rfl) <|
  am_kc (ak_lald (t := 1) (fun _ => rfl) rfl dX8_runOf_37 rfl) <|
  am_kc (ak_retL dX8_runOf_38) <|
  am_kc (ak_aload_n dX8_runOf_39 rfl rfl) <|
  am_kc (ak_getR (C := RX8) (T := TX8) (N := 27) rfl inX8w (by decide) rfl rfl rfl wd_911 dX8_runOf_40 rfl) <|
  am_kc (ak_iload_n dX8_runOf_43 rfl rfl) <|
  am_kc (ak_lald (t := 1) (fun _ => rfl) rfl dX8_runOf_44 rfl) <|
  am_kc (ak_retL dX8_runOf_45) <|
  am_kc (ak_aload_n dX8_runOf_46 rfl rfl) <|
  am_kc (ak_getR (C := RX8) (T := TX8) (N := 27) rfl inX8w (by decide) rfl rfl rfl wd_914 dX8_runOf_47 rfl) <|
  am_kc (ak_iload_n dX8_runOf_50 rfl rfl) <|
  am_kc (ak_lald (t := 1) (fun _ => rfl) rfl dX8_runOf_51 rfl) <|
  am_kc (ak_retL dX8_runOf_52) <|
  am_kc (ak_aload_n dX8_runOf_53 rfl rfl) <|
  am_kc (ak_getR (C := RX8) (T := TX8) (N := 27) rfl inX8w (by decide) rfl rfl rfl wd_912 dX8_runOf_54 rfl) <|
  am_kc (ak_iload_n dX8_runOf_57 rfl rfl) <|
  am_kc (ak_lald (t := 1) (fun _ => rfl) rfl dX8_runOf_58 rfl) <|
  am_kc (ak_retL dX8_runOf_59) <|
  am_kc (ak_aload_n dX8_runOf_60 rfl rfl) <|
  am_kc (ak_getR (C := RX8) (T := TX8) (N := 27) rfl inX8w (by decide) rfl rfl rfl wd_915 dX8_runOf_61 rfl) <|
  am_kc (ak_iload_n dX8_runOf_64 rfl rfl) <|
  am_kc (ak_lald (t := 1) (fun _ => rfl) rfl dX8_runOf_65 rfl) <|
  am_kc (ak_retL dX8_runOf_66) <| am_kn
def TX8_runOf : am_T := fun live as M R => match as with
  | [.ref n, .int l, .int w] => am_mn live ∧ n = 200 ∧ am_in l 30 ∧ ∀ v, R (some (.long v)) M
  | _ => False
set_option maxRecDepth 100000 in
set_option maxHeartbeats 4000000 in
theorem metX8_runOf : am_Met yX8_runOf cX8_runOf 3 (some .long) (0) (0) TX8_runOf := by
  refine am_met (own := RX8) (by decide +kernel) rfl kX8_runOf koX8_runOf 100 (fun _ _ _ _ _ => none) (fun live as M Ret h => ?_) (fun _ _ _ _ _ _ _ _ hI => by cases hI)
  unfold TX8_runOf at h
  split at h
  · next n l w =>
    refine ⟨Nat.le_of_ble_eq_true rfl, ?_⟩
    change am_wp _ _ _ _ [(0, Value.ref n), (1, Value.int l), (2, Value.int w)] _ _
    obtain ⟨⟨i1, i2, rfl⟩, rfl, hl, h⟩ := h
    repeat' (first | apply And.intro | exact rfl | intro hx | (refine Exists.intro _ (And.intro rfl ?_)))
    all_goals try first | (with_reducible change am_tI _ _) | (change Ret _ _) | (change Ret _ _ _) | (change Exists _)
    all_goals try dsimp only at *
    all_goals try (with_reducible exact absurd ‹(1000 : Int64) = 0› am_z1000)
    all_goals first
      | (with_reducible exact h _)
      | (with_reducible exact hl.1)
      | (with_reducible exact hl.2)
      | exact h _
      | exact hl.1
      | exact hl.2
  · exact h.elim
theorem hy_X8_runOf : yX8_runOf.cls ≠ "java/lang/invoke/MethodHandle" ∧ yX8_runOf.cls ≠ "java/lang/invoke/VarHandle" ∧ (parseMethodDescriptor yX8_runOf.desc).map (fun d => d.parameters.length) = some 2 := ⟨by decide +kernel, by decide +kernel, by decide +kernel⟩
set_option maxRecDepth 100000 in
theorem wd_1187 : Cond.methodLink "LearnLoansModel" 233 yX8_runOf ∈ am_ws := am_wt5 (List.mem_of_getElem? (i := 170) (by rfl)) (by decide +kernel)
set_option maxRecDepth 100000 in
theorem wd_1189 : Cond.instanceMethod yX8_runOf ∈ am_ws := am_wt5 (List.mem_of_getElem? (i := 172) (by rfl)) (by decide +kernel)
set_option maxRecDepth 100000 in
theorem wd_49 : Cond.selects "LearnLoansModel" yX8_runOf yX8_runOf ∈ am_ws := am_wsi (List.mem_of_getElem? (i := 49) (by rfl)) (by decide +kernel)
set_option maxRecDepth 100000 in
theorem wd_1190 : Cond.code yX8_runOf cX8_runOf 3 (some .long) ∈ am_ws := am_wt5 (List.mem_of_getElem? (i := 173) (by rfl)) (by decide +kernel)
def rwX8_allOf : List dz_r := [(0, .lconst 0, 1), (1, .lstore_n 3, 1), (2, .iconst 0, 1), (3, .istore 5, 2), (5, .iload 5, 2), (7, .aload_n 0, 1), (8, .getfield 7, 3), (11, .iconst 1, 1), (12, .iaload, 1), (13, .if_icmp .ge 34, 3), (16, .lload_n 3, 1), (17, .aload_n 0, 1), (18, .iload 5, 2), (20, .iconst 0, 1), (21, .invokevirtual 202, 3), (24, .iload_n 1, 1), (25, .if_icmp .ne 13, 3), (28, .aload_n 0, 1), (29, .iload 5, 2), (31, .iload_n 2, 1), (32, .invokevirtual 233, 3), (35, .goto 4, 3), (38, .lconst 0, 1), (39, .ladd, 1), (40, .lstore_n 3, 1), (41, .iinc 5 1, 3), (44, .goto (-39), 3), (47, .lload_n 3, 1), (48, .lreturn, 1)]
theorem dzX8_allOf : dz cX8_allOf rwX8_allOf := dz_all 0 (by decide +kernel)
def kX8_allOf (live : am_E) (Ret : am_R) : am_code := [(0, am_const (.long 0) 1), (1, am_lstore 3 6 2), (2, am_const (.int 0) 3), (3, am_istore 5 6 5), (5, am_iload 5 7), (7, am_aload 0 8), (8, am_getR live 8 0 11), (11, am_const (.int 1) 12), (12, am_ald live 0 13), (13, am_if2 (fun x y => y ≤ x) 47 16), (16, am_lload 3 17), (17, am_aload 0 18), (18, am_iload 5 20), (20, am_const (.int 0) 21), (21, am_callV live 8 2 TX8_ofLoan 24), (24, am_iload 1 25), (25, am_if2 (fun x y => x = y) 28 38), (28, am_aload 0 29), (29, am_iload 5 31), (31, am_iload 2 32), (32, am_callV live 8 2 TX8_runOf 35), (35, am_goto 39), (38, am_const (.long 0) 39), (39, am_l2 (fun x y => x + y) 40), (40, am_lstore 3 6 41), (41, am_iinc 5 6 1 44), (44, am_goto 5), (47, am_lload 3 48), (48, am_retL Ret)]
theorem koX8_allOf (live : am_E) (Ret : am_R) : ∀ q ∈ kX8_allOf live Ret, am_ok RX8 cX8_allOf 6 (some .long) 1 22 live Ret q.1 q.2 :=
  am_kz dzX8_allOf <|
  am_kd (fun d => ak_lconst d (by decide +kernel) rfl) <|
  am_kd (fun d => ak_lstore_n d rfl rfl) <|
  am_kd (fun d => ak_iconst d (by decide +kernel) rfl) <|
  am_kd (fun d => ak_istore d rfl) <|
  am_kd (fun d => ak_iload d rfl) <|
  am_kd (fun d => ak_aload_n d rfl rfl) <|
  am_kd (fun d => ak_getR (C := RX8) (T := TX8) (N := 27) rfl inX8w (by decide) rfl rfl rfl wd_895 d rfl) <|
  am_kd (fun d => ak_iconst d (by decide +kernel) rfl) <|
  am_kd (fun d => ak_iald (t := 0) (fun _ => rfl) rfl d rfl) <|
  am_kd (fun d => ak_icmp_ge d (by decide +kernel) rfl) <|
  am_kd (fun d => ak_lload_n d rfl rfl) <|
  am_kd (fun d => ak_aload_n d rfl rfl) <|
  am_kd (fun d => ak_iload d rfl) <|
  am_kd (fun d => ak_iconst d (by decide +kernel) rfl) <|
  am_kd (fun d => ak_callV (C := RX8) (F := TX8) (N := 27) metX8_ofLoan rfl ⟨rfl, hy_X8_ofLoan⟩ (am_w5 wd_1154 wd_1156 wd_41 wd_67 wd_1157) (by decide) d rfl) <|
  am_kd (fun d => ak_iload_n d rfl rfl) <|
  am_kd (fun d => ak_icmp_ne d (by decide +kernel) rfl) <|
  am_kd (fun d => ak_aload_n d rfl rfl) <|
  am_kd (fun d => ak_iload d rfl) <|
  am_kd (fun d => ak_iload_n d rfl rfl) <|
  am_kd (fun d => ak_callV (C := RX8) (F := TX8) (N := 27) metX8_runOf rfl ⟨rfl, hy_X8_runOf⟩ (am_w5 wd_1187 wd_1189 wd_49 wd_67 wd_1190) (by decide) d rfl) <|
  am_kd (fun d => ak_goto d (by decide +kernel)) <|
  am_kd (fun d => ak_lconst d (by decide +kernel) rfl) <|
  am_kd (fun d => ak_ladd d rfl) <|
  am_kd (fun d => ak_lstore_n d rfl rfl) <|
  am_kd (fun d => ak_iinc d (by decide +kernel) rfl) <|
  am_kd (fun d => ak_goto d (by decide +kernel)) <|
  am_kd (fun d => ak_lload_n d rfl rfl) <|
  am_kd (fun d => ak_retL d) <| am_kdn
def TX8_allOf : am_T := fun live as M R => match as with
  | [.ref n, .int p, .int w] => am_mn live ∧ n = 200 ∧ r_I M ∧ ∀ v, R (some (.long v)) M
  | _ => False
def JX8_allOf : am_E → List Value → am_M → am_R → am_inv := fun live as M0 _ pc => match as with
  | [.ref n, .int p, .int w] => (match pc with
    | 5 => some ([0, 1, 2, 3, 5], fun k L st M => ∃ (v : Int64) (i : Int32), L = [(0, .ref 200), (1, .int p), (2, .int w), (3, .long v), (5, .int i)] ∧ st = [] ∧ k = ((31 - i.toInt).toNat, 0) ∧ 0 ≤ i.toInt ∧ M = M0)
    | _ => none)
  | _ => none
set_option maxRecDepth 100000 in
set_option maxHeartbeats 4000000 in
theorem metX8_allOf : am_Met yX8_allOf cX8_allOf 6 (some .long) (1) (22) TX8_allOf := by
  refine am_met (own := RX8) (by decide +kernel) rfl kX8_allOf koX8_allOf 100 JX8_allOf ?_ ?_
  · intro live as M Ret h
    unfold TX8_allOf at h
    split at h
    · next n p w =>
      refine ⟨Nat.le_of_ble_eq_true rfl, ?_⟩
      change am_wp _ _ _ _ [(0, Value.ref n), (1, Value.int p), (2, Value.int w)] _ _
      obtain ⟨hmn, rfl, hR, h⟩ := h
      repeat' (first | apply And.intro | exact rfl | intro hx | (refine Exists.intro _ (And.intro rfl ?_)))
      all_goals try first | (with_reducible change am_tI _ _) | (change Ret _ _) | (change Ret _ _ _) | (change Exists _)
      all_goals try dsimp only at *
      all_goals try (with_reducible exact absurd ‹(1000 : Int64) = 0› am_z1000)
      exact ⟨_, _, _, rfl, rfl, rfl, by decide, rfl⟩
    · exact h.elim
  · intro live as M0 Ret h k pc I hI L st M hi
    unfold TX8_allOf at h
    split at h
    · next n p w =>
      obtain ⟨hmn, rfl, hR, h⟩ := h
      have hmn2 := hmn
      obtain ⟨i1, i2, rfl⟩ := hmn2
      have l201 : am_len 201 = 3760 := rfl
      have w0 : 0 ≤ (0 : Int32).toInt ∧ (0 : Int32).toInt ≤ 7 := ⟨by decide, by decide⟩
      have n1 : 0 ≤ (M0.1 201 (Int32.toNatClampNeg 1)).toInt ∧ (M0.1 201 (Int32.toNatClampNeg 1)).toInt ≤ 30 := hR.n1
      change (match pc with | 5 => _ | _ => none) = _ at hI
      split at hI
      · cases hI
        obtain ⟨v, i, rfl, rfl, rfl, e1, rfl⟩ := hi
        by_cases hz : M.1 201 (Int32.toNatClampNeg 1) ≤ i
        · skip
          repeat' (first | apply And.intro | exact rfl | (intro hx; with_reducible exact absurd hz hx) | (intro hx; exact absurd hx (by decide)) | (intro hx; exact absurd (by decide) hx) | decide | intro hx | (refine Exists.intro _ (And.intro rfl ?_)))
          all_goals try first | (with_reducible change am_tI _ _) | (change Ret _ _) | (change Ret _ _ _) | (change Exists _)
          all_goals try dsimp only at *
          all_goals try (with_reducible exact absurd ‹(1000 : Int64) = 0› am_z1000)
          all_goals first
            | (with_reducible exact h _)
            | (show _ < _; simp only [l201]; decide)
            | exact h _
        · have hz2 := hz
          simp only [i_le] at hz2
          have hl : am_in i 30 := ⟨e1, by omega⟩
          have hi := i_inc (x := i) (by omega) (by omega)
          repeat' (first | (with_reducible exact hmn) | (with_reducible exact hl) | (with_reducible exact w0) | apply And.intro | exact rfl | (intro hx; with_reducible exact absurd hx hz) | (intro hx; exact absurd hx (by decide)) | (intro hx; exact absurd (by decide) hx) | decide | intro hx | (refine Exists.intro _ (And.intro rfl ?_)))
          all_goals try first | (with_reducible change am_tI _ _) | (change Ret _ _) | (change Ret _ _ _) | (change Exists _)
          all_goals try dsimp only at *
          all_goals try (with_reducible exact absurd ‹(1000 : Int64) = 0› am_z1000)
          all_goals first
            | (show _ < _; simp only [l201]; decide)
            | exact ⟨_, am_lt_l (by omega), _, _, rfl, rfl, rfl, by omega, rfl⟩
            | skip
      · cases hI
    · exact h.elim
def rwX8_dueOf : List dz_r := [(0, .aload_n 0, 1), (1, .iload_n 1, 1), (2, .iconst 0, 1), (3, .invokevirtual 202, 3), (6, .istore 5, 2), (8, .aload_n 0, 1), (9, .iload_n 1, 1), (10, .iload_n 2, 1), (11, .invokevirtual 141, 3), (14, .istore 6, 2), (16, .iload_n 3, 1), (17, .ifCond .ge 24, 3), (20, .iload 4, 2), (22, .ifCond .ne 7, 3), (25, .lconst 0, 1), (26, .goto 14, 3), (29, .aload_n 0, 1), (30, .iload 6, 2), (32, .iconst 5, 1), (33, .iload 5, 2), (35, .iload_n 2, 1), (36, .invokevirtual 127, 3), (39, .i2l, 1), (40, .lreturn, 1), (41, .aload_n 0, 1), (42, .iload 6, 2), (44, .iconst 0, 1), (45, .iload 5, 2), (47, .iload_n 2, 1), (48, .invokevirtual 127, 3), (51, .i2l, 1), (52, .lstore 7, 2), (54, .iload 4, 2), (56, .ifCond .ne 8, 3), (59, .lload 7, 2), (61, .goto 22, 3), (64, .lload 7, 2), (66, .aload_n 0, 1), (67, .getfield 7, 3), (70, .sipush 514, 3), (73, .iload 4, 2), (75, .iadd, 1), (76, .iaload, 1), (77, .i2l, 1), (78, .lmul, 1), (79, .ldc2_w 94, 3), (82, .ldiv, 1), (83, .lstore 7, 2), (85, .iload_n 3, 1), (86, .i2l, 1), (87, .lload 7, 2), (89, .lcmp, 1), (90, .ifCond .le 27, 3), (93, .iload_n 3, 1), (94, .i2l, 1), (95, .lload 7, 2), (97, .lsub, 1), (98, .aload_n 0, 1), (99, .iload 6, 2), (101, .iconst 1, 1), (102, .iload 5, 2), (104, .iload_n 2, 1), (105, .invokevirtual 127, 3), (108, .i2l, 1), (109, .lmul, 1), (110, .ldc2_w 94, 3), (113, .ldiv, 1), (114, .goto 4, 3), (117, .lconst 0, 1), (118, .lreturn, 1)]
theorem dzX8_dueOf : dz cX8_dueOf rwX8_dueOf := dz_all 0 (by decide +kernel)
def kX8_dueOf (live : am_E) (Ret : am_R) : am_code := [(0, am_aload 0 1), (1, am_iload 1 2), (2, am_const (.int 0) 3), (3, am_callV live 8 2 TX8_ofLoan 6), (6, am_istore 5 9 8), (8, am_aload 0 9), (9, am_iload 1 10), (10, am_iload 2 11), (11, am_callV live 8 2 TX8_planAt 14), (14, am_istore 6 9 16), (16, am_iload 3 17), (17, am_if1 (fun x => 0 ≤ x) 41 20), (20, am_iload 4 22), (22, am_if1 (fun x => x = 0) 25 29), (25, am_const (.long 0) 26), (26, am_goto 40), (29, am_aload 0 30), (30, am_iload 6 32), (32, am_const (.int 5) 33), (33, am_iload 5 35), (35, am_iload 2 36), (36, am_callV live 8 4 TX8_inForce 39), (39, am_i2l 40), (40, am_retL Ret), (41, am_aload 0 42), (42, am_iload 6 44), (44, am_const (.int 0) 45), (45, am_iload 5 47), (47, am_iload 2 48), (48, am_callV live 8 4 TX8_inForce 51), (51, am_i2l 52), (52, am_lstore 7 9 54), (54, am_iload 4 56), (56, am_if1 (fun x => x = 0) 59 64), (59, am_lload 7 61), (61, am_goto 83), (64, am_lload 7 66), (66, am_aload 0 67), (67, am_getR live 8 0 70), (70, am_const (.int 514) 73), (73, am_iload 4 75), (75, am_i2 (fun x y => x + y) 76), (76, am_ald live 0 77), (77, am_i2l 78), (78, am_l2 (fun x y => x * y) 79), (79, am_const (.long 1000) 82), (82, am_l2z (fun x y => x / y) 83), (83, am_lstore 7 9 85), (85, am_iload 3 86), (86, am_i2l 87), (87, am_lload 7 89), (89, am_lcmp 90), (90, am_if1 (fun x => x ≤ 0) 117 93), (93, am_iload 3 94), (94, am_i2l 95), (95, am_lload 7 97), (97, am_l2 (fun x y => x - y) 98), (98, am_aload 0 99), (99, am_iload 6 101), (101, am_const (.int 1) 102), (102, am_iload 5 104), (104, am_iload 2 105), (105, am_callV live 8 4 TX8_inForce 108), (108, am_i2l 109), (109, am_l2 (fun x y => x * y) 110), (110, am_const (.long 1000) 113), (113, am_l2z (fun x y => x / y) 114), (114, am_goto 118), (117, am_const (.long 0) 118), (118, am_retL Ret)]
theorem koX8_dueOf (live : am_E) (Ret : am_R) : ∀ q ∈ kX8_dueOf live Ret, am_ok RX8 cX8_dueOf 9 (some .long) 2 53 live Ret q.1 q.2 :=
  am_kz dzX8_dueOf <|
  am_kd (fun d => ak_aload_n d rfl rfl) <|
  am_kd (fun d => ak_iload_n d rfl rfl) <|
  am_kd (fun d => ak_iconst d (by decide +kernel) rfl) <|
  am_kd (fun d => ak_callV (C := RX8) (F := TX8) (N := 27) metX8_ofLoan rfl ⟨rfl, hy_X8_ofLoan⟩ (am_w5 wd_1154 wd_1156 wd_41 wd_67 wd_1157) (by decide) d rfl) <|
  am_kd (fun d => ak_istore d rfl) <|
  am_kd (fun d => ak_aload_n d rfl rfl) <|
  am_kd (fun d => ak_iload_n d rfl rfl) <|
  am_kd (fun d => ak_iload_n d rfl rfl) <|
  am_kd (fun d => ak_callV (C := RX8) (F := TX8) (N := 27) metX8_planAt rfl ⟨rfl, hy_X8_planAt⟩ (am_w5 wd_1085 wd_1087 wd_32 wd_67 wd_1088) (by decide) d rfl) <|
  am_kd (fun d => ak_istore d rfl) <|
  am_kd (fun d => ak_iload_n d rfl rfl) <|
  am_kd (fun d => ak_if_ge d (by decide +kernel) rfl) <|
  am_kd (fun d => ak_iload d rfl) <|
  am_kd (fun d => ak_if_ne d (by decide +kernel) rfl) <|
  am_kd (fun d => ak_lconst d (by decide +kernel) rfl) <|
  am_kd (fun d => ak_goto d (by decide +kernel)) <|
  am_kd (fun d => ak_aload_n d rfl rfl) <|
  am_kd (fun d => ak_iload d rfl) <|
  am_kd (fun d => ak_iconst d (by decide +kernel) rfl) <|
  am_kd (fun d => ak_iload d rfl) <|
  am_kd (fun d => ak_iload_n d rfl rfl) <|
  am_kd (fun d => ak_callV (C := RX8) (F := TX8) (N := 27) metX8_inForce rfl ⟨rfl, hy_X8_inForce⟩ (am_w5 wd_1053 wd_1055 wd_29 wd_67 wd_1056) (by decide) d rfl) <|
  am_kd (fun d => ak_i2l d rfl) <|
  am_kd (fun d => ak_retL d) <|
  am_kd (fun d => ak_aload_n d rfl rfl) <|
  am_kd (fun d => ak_iload d rfl) <|
  am_kd (fun d => ak_iconst d (by decide +kernel) rfl) <|
  am_kd (fun d => ak_iload d rfl) <|
  am_kd (fun d => ak_iload_n d rfl rfl) <|
  am_kd (fun d => ak_callV (C := RX8) (F := TX8) (N := 27) metX8_inForce rfl ⟨rfl, hy_X8_inForce⟩ (am_w5 wd_1053 wd_1055 wd_29 wd_67 wd_1056) (by decide) d rfl) <|
  am_kd (fun d => ak_i2l d rfl) <|
  am_kd (fun d => ak_lstore d rfl) <|
  am_kd (fun d => ak_iload d rfl) <|
  am_kd (fun d => ak_if_ne d (by decide +kernel) rfl) <|
  am_kd (fun d => ak_lload d rfl) <|
  am_kd (fun d => ak_goto d (by decide +kernel)) <|
  am_kd (fun d => ak_lload d rfl) <|
  am_kd (fun d => ak_aload_n d rfl rfl) <|
  am_kd (fun d => ak_getR (C := RX8) (T := TX8) (N := 27) rfl inX8w (by decide) rfl rfl rfl wd_895 d rfl) <|
  am_kd (fun d => ak_sipush d (by decide +kernel) rfl) <|
  am_kd (fun d => ak_iload d rfl) <|
  am_kd (fun d => ak_iadd d rfl) <|
  am_kd (fun d => ak_iald (t := 0) (fun _ => rfl) rfl d rfl) <|
  am_kd (fun d => ak_i2l d rfl) <|
  am_kd (fun d => ak_lmul d rfl) <|
  am_kd (fun d => ak_ldc2 wd_1045 d rfl) <|
  am_kd (fun d => ak_ldiv d rfl) <|
  am_kd (fun d => ak_lstore d rfl) <|
  am_kd (fun d => ak_iload_n d rfl rfl) <|
  am_kd (fun d => ak_i2l d rfl) <|
  am_kd (fun d => ak_lload d rfl) <|
  am_kd (fun d => ak_lcmp d rfl) <|
  am_kd (fun d => ak_if_le d (by decide +kernel) rfl) <|
  am_kd (fun d => ak_iload_n d rfl rfl) <|
  am_kd (fun d => ak_i2l d rfl) <|
  am_kd (fun d => ak_lload d rfl) <|
  am_kd (fun d => ak_lsub d rfl) <|
  am_kd (fun d => ak_aload_n d rfl rfl) <|
  am_kd (fun d => ak_iload d rfl) <|
  am_kd (fun d => ak_iconst d (by decide +kernel) rfl) <|
  am_kd (fun d => ak_iload d rfl) <|
  am_kd (fun d => ak_iload_n d rfl rfl) <|
  am_kd (fun d => ak_callV (C := RX8) (F := TX8) (N := 27) metX8_inForce rfl ⟨rfl, hy_X8_inForce⟩ (am_w5 wd_1053 wd_1055 wd_29 wd_67 wd_1056) (by decide) d rfl) <|
  am_kd (fun d => ak_i2l d rfl) <|
  am_kd (fun d => ak_lmul d rfl) <|
  am_kd (fun d => ak_ldc2 wd_1045 d rfl) <|
  am_kd (fun d => ak_ldiv d rfl) <|
  am_kd (fun d => ak_goto d (by decide +kernel)) <|
  am_kd (fun d => ak_lconst d (by decide +kernel) rfl) <|
  am_kd (fun d => ak_retL d) <| am_kdn
def TX8_dueOf : am_T := fun live as M R => match as with
  | [.ref n, .int l, .int y, .int e, .int a] => am_mn live ∧ n = 200 ∧ am_in l 30 ∧ am_in a 4 ∧ r_I M ∧ ∀ v, R (some (.long v)) M
  | _ => False
set_option maxRecDepth 100000 in
set_option maxHeartbeats 4000000 in
theorem metX8_dueOf : am_Met yX8_dueOf cX8_dueOf 9 (some .long) (2) (53) TX8_dueOf := by
  refine am_met (own := RX8) (by decide +kernel) rfl kX8_dueOf koX8_dueOf 150 (fun _ _ _ _ _ => none) (fun live as M Ret h => ?_) (fun _ _ _ _ _ _ _ _ hI => by cases hI)
  unfold TX8_dueOf at h
  split at h
  · next n l y e a =>
    refine ⟨Nat.le_of_ble_eq_true rfl, ?_⟩
    change am_wp _ _ _ _ [(0, Value.ref n), (1, Value.int l), (2, Value.int y), (3, Value.int e), (4, Value.int a)] _ _
    obtain ⟨hmn, rfl, hl, ha, hR, h⟩ := h
    have hmn2 := hmn
    obtain ⟨i1, i2, rfl⟩ := hmn2
    have hp := r_pers hR hl
    have w0 : 0 ≤ (0 : Int32).toInt ∧ (0 : Int32).toInt ≤ 7 := ⟨by decide, by decide⟩
    have a40 : am_in a 40 := ⟨ha.1, by have := ha.2; omega⟩
    have y514 := r_in40 a40 (c := 514) ⟨by decide, by decide⟩
    have x1 := y514.1
    have x2 := y514.2
    repeat' (first | (with_reducible exact hmn) | (with_reducible exact hl) | (with_reducible exact hp) | (with_reducible exact w0) | (with_reducible exact hR) | (with_reducible exact x1) | (with_reducible exact x2) | apply And.intro | exact rfl | ((with_reducible change r_I _); (with_reducible assumption)) | (intro hx; exact absurd hx (by decide)) | (intro hx; exact absurd (by decide) hx) | decide | intro hx | (refine Exists.intro _ (And.intro rfl ?_)))
    all_goals try first | (with_reducible change am_tI _ _) | (change Ret _ _) | (change Ret _ _ _) | (change Exists _)
    all_goals try dsimp only at *
    all_goals try (with_reducible exact absurd ‹(1000 : Int64) = 0› am_z1000)
    all_goals first
      | (with_reducible exact h _)
      | decide
      | exact h _
      | skip
  · exact h.elim
def rwX8_isIn : List dz_r := [(0, .aload_n 0, 1), (1, .iload_n 1, 1), (2, .iconst 0, 1), (3, .invokevirtual 202, 3), (6, .iload_n 2, 1), (7, .if_icmp .ne 34, 3), (10, .aload_n 0, 1), (11, .getfield 48, 3), (14, .iload_n 1, 1), (15, .baload, 1), (16, .ifCond .ne 25, 3), (19, .aload_n 0, 1), (20, .aload_n 0, 1), (21, .iload_n 1, 1), (22, .iload_n 3, 1), (23, .invokevirtual 141, 3), (26, .iconst 4, 1), (27, .iload_n 2, 1), (28, .iload_n 3, 1), (29, .invokevirtual 127, 3), (32, .iload 4, 2), (34, .if_icmp .ne 7, 3), (37, .iconst 1, 1), (38, .goto 4, 3), (41, .iconst 0, 1), (42, .ireturn, 1)]
theorem dzX8_isIn : dz cX8_isIn rwX8_isIn := dz_all 0 (by decide +kernel)
def kX8_isIn (live : am_E) (Ret : am_R) : am_code := [(0, am_aload 0 1), (1, am_iload 1 2), (2, am_const (.int 0) 3), (3, am_callV live 8 2 TX8_ofLoan 6), (6, am_iload 2 7), (7, am_if2 (fun x y => x = y) 10 41), (10, am_aload 0 11), (11, am_getR live 8 21 14), (14, am_iload 1 15), (15, am_ald live 2 16), (16, am_if1 (fun x => x = 0) 19 41), (19, am_aload 0 20), (20, am_aload 0 21), (21, am_iload 1 22), (22, am_iload 3 23), (23, am_callV live 8 2 TX8_planAt 26), (26, am_const (.int 4) 27), (27, am_iload 2 28), (28, am_iload 3 29), (29, am_callV live 8 4 TX8_inForce 32), (32, am_iload 4 34), (34, am_if2 (fun x y => x = y) 37 41), (37, am_const (.int 1) 38), (38, am_goto 42), (41, am_const (.int 0) 42), (42, am_retZ Ret)]
theorem koX8_isIn (live : am_E) (Ret : am_R) : ∀ q ∈ kX8_isIn live Ret, am_ok RX8 cX8_isIn 5 (some .boolean) 2 53 live Ret q.1 q.2 :=
  am_kz dzX8_isIn <|
  am_kd (fun d => ak_aload_n d rfl rfl) <|
  am_kd (fun d => ak_iload_n d rfl rfl) <|
  am_kd (fun d => ak_iconst d (by decide +kernel) rfl) <|
  am_kd (fun d => ak_callV (C := RX8) (F := TX8) (N := 27) metX8_ofLoan rfl ⟨rfl, hy_X8_ofLoan⟩ (am_w5 wd_1154 wd_1156 wd_41 wd_67 wd_1157) (by decide) d rfl) <|
  am_kd (fun d => ak_iload_n d rfl rfl) <|
  am_kd (fun d => ak_icmp_ne d (by decide +kernel) rfl) <|
  am_kd (fun d => ak_aload_n d rfl rfl) <|
  am_kd (fun d => ak_getR (C := RX8) (T := TX8) (N := 27) rfl inX8w (by decide) rfl rfl rfl wd_916 d rfl) <|
  am_kd (fun d => ak_iload_n d rfl rfl) <|
  am_kd (fun d => ak_zald (t := 2) (fun _ => rfl) rfl d rfl) <|
  am_kd (fun d => ak_if_ne d (by decide +kernel) rfl) <|
  am_kd (fun d => ak_aload_n d rfl rfl) <|
  am_kd (fun d => ak_aload_n d rfl rfl) <|
  am_kd (fun d => ak_iload_n d rfl rfl) <|
  am_kd (fun d => ak_iload_n d rfl rfl) <|
  am_kd (fun d => ak_callV (C := RX8) (F := TX8) (N := 27) metX8_planAt rfl ⟨rfl, hy_X8_planAt⟩ (am_w5 wd_1085 wd_1087 wd_32 wd_67 wd_1088) (by decide) d rfl) <|
  am_kd (fun d => ak_iconst d (by decide +kernel) rfl) <|
  am_kd (fun d => ak_iload_n d rfl rfl) <|
  am_kd (fun d => ak_iload_n d rfl rfl) <|
  am_kd (fun d => ak_callV (C := RX8) (F := TX8) (N := 27) metX8_inForce rfl ⟨rfl, hy_X8_inForce⟩ (am_w5 wd_1053 wd_1055 wd_29 wd_67 wd_1056) (by decide) d rfl) <|
  am_kd (fun d => ak_iload d rfl) <|
  am_kd (fun d => ak_icmp_ne d (by decide +kernel) rfl) <|
  am_kd (fun d => ak_iconst d (by decide +kernel) rfl) <|
  am_kd (fun d => ak_goto d (by decide +kernel)) <|
  am_kd (fun d => ak_iconst d (by decide +kernel) rfl) <|
  am_kd (fun d => ak_retZ d) <| am_kdn
def TX8_isIn : am_T := fun live as M R => match as with
  | [.ref n, .int l, .int p, .int y, .int o] => am_mn live ∧ n = 200 ∧ am_in l 30 ∧ am_in p 12 ∧ r_I M ∧ R (some (.int 0)) M ∧ R (some (.int 1)) M
  | _ => False
set_option maxRecDepth 100000 in
set_option maxHeartbeats 4000000 in
theorem metX8_isIn : am_Met yX8_isIn cX8_isIn 5 (some .boolean) (2) (53) TX8_isIn := by
  refine am_met (own := RX8) (by decide +kernel) rfl kX8_isIn koX8_isIn 150 (fun _ _ _ _ _ => none) (fun live as M Ret h => ?_) (fun _ _ _ _ _ _ _ _ hI => by cases hI)
  unfold TX8_isIn at h
  split at h
  · next n l p y o =>
    refine ⟨Nat.le_of_ble_eq_true rfl, ?_⟩
    change am_wp _ _ _ _ [(0, Value.ref n), (1, Value.int l), (2, Value.int p), (3, Value.int y), (4, Value.int o)] _ _
    obtain ⟨hmn, rfl, hl, hp, hR, h0, h1⟩ := h
    have hmn2 := hmn
    obtain ⟨i1, i2, rfl⟩ := hmn2
    have w0 : 0 ≤ (0 : Int32).toInt ∧ (0 : Int32).toInt ≤ 7 := ⟨by decide, by decide⟩
    have l213 : am_len 213 = 30 := rfl
    have l1 := hl.1
    repeat' (first | (with_reducible exact hmn) | (with_reducible exact hl) | (with_reducible exact hp) | (with_reducible exact w0) | (with_reducible exact hR) | (with_reducible exact h0) | (with_reducible exact h1) | (with_reducible exact l1) | apply And.intro | exact rfl | ((with_reducible change r_I _); (with_reducible assumption)) | (intro hx; exact absurd hx (by decide)) | (intro hx; exact absurd (by decide) hx) | decide | intro hx | (refine Exists.intro _ (And.intro rfl ?_)))
    all_goals try first | (with_reducible change am_tI _ _) | (change Ret _ _) | (change Ret _ _ _) | (change Exists _)
    all_goals try dsimp only at *
    all_goals try (with_reducible exact absurd ‹(1000 : Int64) = 0› am_z1000)
    all_goals first
      | (left; rfl)
      | (right; rfl)
      | (with_reducible exact h0)
      | (with_reducible exact h1)
      | (rw [l213]; exact hl.2)
      | exact h0
      | exact h1
      | skip
  · exact h.elim
def rwX8_beginRun : List dz_r := [(0, .iconst 0, 1), (1, .istore_n 1, 1), (2, .iload_n 1, 1), (3, .bipush 30, 2), (5, .if_icmp .ge 58, 3), (8, .aload_n 0, 1), (9, .getfield 30, 3), (12, .iload_n 1, 1), (13, .lconst 0, 1), (14, .lastore, 1), (15, .aload_n 0, 1), (16, .getfield 33, 3), (19, .iload_n 1, 1), (20, .lconst 0, 1), (21, .lastore, 1), (22, .aload_n 0, 1), (23, .getfield 36, 3), (26, .iload_n 1, 1), (27, .lconst 0, 1), (28, .lastore, 1), (29, .aload_n 0, 1), (30, .getfield 39, 3), (33, .iload_n 1, 1), (34, .lconst 0, 1), (35, .lastore, 1), (36, .aload_n 0, 1), (37, .getfield 42, 3), (40, .iload_n 1, 1), (41, .lconst 0, 1), (42, .lastore, 1), (43, .aload_n 0, 1), (44, .getfield 45, 3), (47, .iload_n 1, 1), (48, .lconst 0, 1), (49, .lastore, 1), (50, .aload_n 0, 1), (51, .getfield 48, 3), (54, .iload_n 1, 1), (55, .iconst 0, 1), (56, .bastore, 1), (57, .iinc 1 1, 3), (60, .goto (-58), 3), (63, .return_, 1)]
theorem dzX8_beginRun : dz cX8_beginRun rwX8_beginRun := dz_all 0 (by decide +kernel)
def kX8_beginRun (live : am_E) (Ret : am_R) : am_code := [(0, am_const (.int 0) 1), (1, am_istore 1 2 2), (2, am_iload 1 3), (3, am_const (.int 30) 5), (5, am_if2 (fun x y => y ≤ x) 63 8), (8, am_aload 0 9), (9, am_getR live 8 15 12), (12, am_iload 1 13), (13, am_const (.long 0) 14), (14, am_last live 1 15), (15, am_aload 0 16), (16, am_getR live 8 16 19), (19, am_iload 1 20), (20, am_const (.long 0) 21), (21, am_last live 1 22), (22, am_aload 0 23), (23, am_getR live 8 17 26), (26, am_iload 1 27), (27, am_const (.long 0) 28), (28, am_last live 1 29), (29, am_aload 0 30), (30, am_getR live 8 18 33), (33, am_iload 1 34), (34, am_const (.long 0) 35), (35, am_last live 1 36), (36, am_aload 0 37), (37, am_getR live 8 19 40), (40, am_iload 1 41), (41, am_const (.long 0) 42), (42, am_last live 1 43), (43, am_aload 0 44), (44, am_getR live 8 20 47), (47, am_iload 1 48), (48, am_const (.long 0) 49), (49, am_last live 1 50), (50, am_aload 0 51), (51, am_getR live 8 21 54), (54, am_iload 1 55), (55, am_const (.int 0) 56), (56, am_zst live 2 57), (57, am_iinc 1 2 1 60), (60, am_goto 2), (63, am_retV Ret)]
theorem koX8_beginRun (live : am_E) (Ret : am_R) : ∀ q ∈ kX8_beginRun live Ret, am_ok RX8 cX8_beginRun 2 none 0 0 live Ret q.1 q.2 :=
  am_kz dzX8_beginRun <|
  am_kd (fun d => ak_iconst d (by decide +kernel) rfl) <|
  am_kd (fun d => ak_istore_n d rfl rfl) <|
  am_kd (fun d => ak_iload_n d rfl rfl) <|
  am_kd (fun d => ak_bipush d (by decide +kernel) rfl) <|
  am_kd (fun d => ak_icmp_ge d (by decide +kernel) rfl) <|
  am_kd (fun d => ak_aload_n d rfl rfl) <|
  am_kd (fun d => ak_getR (C := RX8) (T := TX8) (N := 27) rfl inX8w (by decide) rfl rfl rfl wd_910 d rfl) <|
  am_kd (fun d => ak_iload_n d rfl rfl) <|
  am_kd (fun d => ak_lconst d (by decide +kernel) rfl) <|
  am_kd (fun d => ak_last (t := 1) (fun _ => rfl) rfl d rfl) <|
  am_kd (fun d => ak_aload_n d rfl rfl) <|
  am_kd (fun d => ak_getR (C := RX8) (T := TX8) (N := 27) rfl inX8w (by decide) rfl rfl rfl wd_911 d rfl) <|
  am_kd (fun d => ak_iload_n d rfl rfl) <|
  am_kd (fun d => ak_lconst d (by decide +kernel) rfl) <|
  am_kd (fun d => ak_last (t := 1) (fun _ => rfl) rfl d rfl) <|
  am_kd (fun d => ak_aload_n d rfl rfl) <|
  am_kd (fun d => ak_getR (C := RX8) (T := TX8) (N := 27) rfl inX8w (by decide) rfl rfl rfl wd_912 d rfl) <|
  am_kd (fun d => ak_iload_n d rfl rfl) <|
  am_kd (fun d => ak_lconst d (by decide +kernel) rfl) <|
  am_kd (fun d => ak_last (t := 1) (fun _ => rfl) rfl d rfl) <|
  am_kd (fun d => ak_aload_n d rfl rfl) <|
  am_kd (fun d => ak_getR (C := RX8) (T := TX8) (N := 27) rfl inX8w (by decide) rfl rfl rfl wd_913 d rfl) <|
  am_kd (fun d => ak_iload_n d rfl rfl) <|
  am_kd (fun d => ak_lconst d (by decide +kernel) rfl) <|
  am_kd (fun d => ak_last (t := 1) (fun _ => rfl) rfl d rfl) <|
  am_kd (fun d => ak_aload_n d rfl rfl) <|
  am_kd (fun d => ak_getR (C := RX8) (T := TX8) (N := 27) rfl inX8w (by decide) rfl rfl rfl wd_914 d rfl) <|
  am_kd (fun d => ak_iload_n d rfl rfl) <|
  am_kd (fun d => ak_lconst d (by decide +kernel) rfl) <|
  am_kd (fun d => ak_last (t := 1) (fun _ => rfl) rfl d rfl) <|
  am_kd (fun d => ak_aload_n d rfl rfl) <|
  am_kd (fun d => ak_getR (C := RX8) (T := TX8) (N := 27) rfl inX8w (by decide) rfl rfl rfl wd_915 d rfl) <|
  am_kd (fun d => ak_iload_n d rfl rfl) <|
  am_kd (fun d => ak_lconst d (by decide +kernel) rfl) <|
  am_kd (fun d => ak_last (t := 1) (fun _ => rfl) rfl d rfl) <|
  am_kd (fun d => ak_aload_n d rfl rfl) <|
  am_kd (fun d => ak_getR (C := RX8) (T := TX8) (N := 27) rfl inX8w (by decide) rfl rfl rfl wd_916 d rfl) <|
  am_kd (fun d => ak_iload_n d rfl rfl) <|
  am_kd (fun d => ak_iconst d (by decide +kernel) rfl) <|
  am_kd (fun d => ak_zast (t := 2) (fun _ => rfl) rfl d rfl) <|
  am_kd (fun d => ak_iinc d (by decide +kernel) rfl) <|
  am_kd (fun d => ak_goto d (by decide +kernel)) <|
  am_kd (fun d => ak_retV d) <| am_kdn
def TX8_beginRun : am_T := fun live as M R => match as with
  | [.ref n] => am_mn live ∧ n = 200 ∧ r_I M ∧ ∀ M', r_sc M M' → r_I M' → R none M'
  | _ => False
def JX8_beginRun : am_E → List Value → am_M → am_R → am_inv := fun live as M0 _ pc => match as with
  | [.ref n] => (match pc with
    | 2 => some ([0, 1], fun k L st M => ∃ i : Int32, L = [(0, .ref 200), (1, .int i)] ∧ st = [] ∧ k = ((31 - i.toInt).toNat, 0) ∧ 0 ≤ i.toInt ∧ r_sc M0 M ∧ r_I M)
    | _ => none)
  | _ => none
set_option maxRecDepth 100000 in
set_option maxHeartbeats 4000000 in
theorem metX8_beginRun : am_Met yX8_beginRun cX8_beginRun 2 none (0) (0) TX8_beginRun := by
  refine am_met (own := RX8) (by decide +kernel) rfl kX8_beginRun koX8_beginRun 100 JX8_beginRun ?_ ?_
  · intro live as M Ret h
    unfold TX8_beginRun at h
    split at h
    · next n =>
      refine ⟨Nat.le_of_ble_eq_true rfl, ?_⟩
      change am_wp _ _ _ _ [(0, Value.ref n)] _ _
      obtain ⟨hmn, rfl, hR, h⟩ := h
      repeat' (first | apply And.intro | exact rfl | intro hx | (refine Exists.intro _ (And.intro rfl ?_)))
      all_goals try first | (with_reducible change am_tI _ _) | (change Ret _ _) | (change Ret _ _ _) | (change Exists _)
      all_goals try dsimp only at *
      all_goals try (with_reducible exact absurd ‹(1000 : Int64) = 0› am_z1000)
      exact ⟨_, _, rfl, rfl, rfl, by decide, r_sc.rf, hR⟩
    · exact h.elim
  · intro live as M0 Ret h k pc I hI L st M hi
    unfold TX8_beginRun at h
    split at h
    · next n =>
      obtain ⟨hmn, rfl, hR, h⟩ := h
      obtain ⟨i1, i2, rfl⟩ := hmn
      change (match pc with | 2 => _ | _ => none) = _ at hI
      split at hI
      · cases hI
        obtain ⟨i, rfl, rfl, rfl, e1, e2, e3⟩ := hi
        by_cases hz : (30 : Int32) ≤ i
        · skip
          repeat' (first | apply And.intro | exact rfl | (intro hx; with_reducible exact absurd hz hx) | intro hx | (refine Exists.intro _ (And.intro rfl ?_)))
          all_goals try first | (with_reducible change am_tI _ _) | (change Ret _ _) | (change Ret _ _ _) | (change Exists _)
          all_goals try dsimp only at *
          all_goals try (with_reducible exact absurd ‹(1000 : Int64) = 0› am_z1000)
          exact h _ e2 e3
        · have hz2 := hz
          simp only [i_le, Int32.reduceToInt] at hz2
          have hi := i_inc (x := i) (by omega) (by omega)
          have x2 : i.toInt < ((30 : Nat) : Int) := by omega
          repeat' (first | (with_reducible exact e1) | apply And.intro | exact rfl | (intro hx; with_reducible exact absurd hx hz) | intro hx | (refine Exists.intro _ (And.intro rfl ?_)))
          all_goals try first | (with_reducible change am_tI _ _) | (change Ret _ _) | (change Ret _ _ _) | (change Exists _)
          all_goals try dsimp only at *
          all_goals try (with_reducible exact absurd ‹(1000 : Int64) = 0› am_z1000)
          all_goals first
            | (with_reducible exact x2)
            | exact x2
            | exact ⟨_, am_lt_l (by omega), _, rfl, rfl, rfl, by omega, by (repeat' (first | (with_reducible exact r_sc.rf) | (with_reducible assumption) | ((with_reducible change r_sc _ (am_wI _ _ _ _)); refine r_sc.wI ?_ rfl) | ((with_reducible change r_sc _ (am_wJ _ _ _ _)); refine r_sc.wJ ?_ rfl) | (refine r_sc.tr ?_ (by with_reducible assumption)))), by (repeat' (first | (with_reducible assumption) | ((with_reducible change r_I (am_wJ _ _ _ _)); refine r_I.wJ ?_) | ((with_reducible change r_I (am_wI _ _ _ _)); refine r_I.wI ?_ rfl)))⟩
            | skip
      · cases hI
    · exact h.elim
