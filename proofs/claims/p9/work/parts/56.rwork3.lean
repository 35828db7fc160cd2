/-! general: the reference's reader of texts, III -/
theorem r_dec {M : am_M} {w0 : Nat} (h : r_wI M 1 w0) : r_wI (am_wI M 200 12 (M.1 200 12 - 1)) 0 w0 := by
  obtain ⟨⟨u1, u2, u5⟩, u3, u4⟩ := h.u
  have e := i_sub (x := M.1 200 12) (y := 1) (by simp only [Int32.reduceToInt]; omega) (by simp only [Int32.reduceToInt]; omega)
  simp only [Int32.reduceToInt] at e
  have f11 : (am_wI M 200 12 (M.1 200 12 - 1)).1 200 11 = M.1 200 11 := by rw [am_wI_1, if_neg (fun q => absurd q.2 (by decide))]
  have f204 : (am_wI M 200 12 (M.1 200 12 - 1)).1 204 = M.1 204 := funext fun k => by rw [am_wI_1, if_neg (fun q => absurd q.1 (by decide))]
  refine ⟨(), ⟨by rw [f11]; exact u1, by rw [f11]; exact u2, u5⟩, ?_, by rw [am_wI_self]; omega⟩
  rw [f11, am_wI_self, f204]
  omega
theorem r_wI.bd {M : am_M} {d w0 : Nat} (h : r_wI M d w0) : 0 ≤ (M.1 200 11).toInt ∧ (M.1 200 11).toInt ≤ 120 := by
  obtain ⟨⟨u1, u2, u5⟩, u3, u4⟩ := h.u
  exact ⟨u1, by omega⟩
theorem r_clo_nn (c : Int32) : 0 ≤ (r_clo c).toInt := by
  unfold r_clo
  by_cases a : c = 42 ∨ c = 47
  · rw [if_pos a]; decide
  rw [if_neg a]
  by_cases a : c = 43 ∨ c = 45
  · rw [if_pos a]; decide
  rw [if_neg a]
  by_cases a : c = 60 ∨ c = 61 ∨ c = 62
  · rw [if_pos a]; decide
  rw [if_neg a]
  by_cases a : c = 38
  · rw [if_pos a]; decide
  rw [if_neg a]
  by_cases a : c = 124
  · rw [if_pos a]; decide
  rw [if_neg a]
  decide
theorem r_lay_in {M1 : am_M} {w0 : Nat} (d1 : r_wI M1 1 w0) (ht : r_top M1 = 40) : r_wI (am_wI (am_wI M1 200 11 (M1.1 200 11 - 1)) 200 12 ((am_wI M1 200 11 (M1.1 200 11 - 1)).1 200 12 - 1)) 0 w0 := by
  have hp := r_top_pos (fun q => by rw [ht] at q; exact absurd q (by decide)) d1.u.1.1
  have ho := r_off1 d1 hp
  rw [ht] at ho
  exact r_dec ho
theorem hy_X8_wait : yX8_wait.cls ≠ "java/lang/invoke/MethodHandle" ∧ yX8_wait.cls ≠ "java/lang/invoke/VarHandle" ∧ (parseMethodDescriptor yX8_wait.desc).map (fun d => d.parameters.length) = some 1 := ⟨by decide +kernel, by decide +kernel, by decide +kernel⟩
set_option maxRecDepth 100000 in
theorem wd_1127 : Cond.methodLink "LearnLoansModel" 171 yX8_wait ∈ am_ws := am_wt5 (List.mem_of_getElem? (i := 110) (by rfl)) (by decide +kernel)
set_option maxRecDepth 100000 in
theorem wd_1129 : Cond.instanceMethod yX8_wait ∈ am_ws := am_wt5 (List.mem_of_getElem? (i := 112) (by rfl)) (by decide +kernel)
set_option maxRecDepth 100000 in
theorem wd_37 : Cond.selects "LearnLoansModel" yX8_wait yX8_wait ∈ am_ws := am_wsi (List.mem_of_getElem? (i := 37) (by rfl)) (by decide +kernel)
set_option maxRecDepth 100000 in
theorem wd_1130 : Cond.code yX8_wait cX8_wait 2 none ∈ am_ws := am_wt5 (List.mem_of_getElem? (i := 113) (by rfl)) (by decide +kernel)
theorem hy_X8_choose : yX8_choose.cls ≠ "java/lang/invoke/MethodHandle" ∧ yX8_choose.cls ≠ "java/lang/invoke/VarHandle" ∧ (parseMethodDescriptor yX8_choose.desc).map (fun d => d.parameters.length) = some 0 := ⟨by decide +kernel, by decide +kernel, by decide +kernel⟩
set_option maxRecDepth 100000 in
theorem wd_1145 : Cond.methodLink "LearnLoansModel" 174 yX8_choose ∈ am_ws := am_wt5 (List.mem_of_getElem? (i := 128) (by rfl)) (by decide +kernel)
set_option maxRecDepth 100000 in
theorem wd_1147 : Cond.instanceMethod yX8_choose ∈ am_ws := am_wt5 (List.mem_of_getElem? (i := 130) (by rfl)) (by decide +kernel)
set_option maxRecDepth 100000 in
theorem wd_40 : Cond.selects "LearnLoansModel" yX8_choose yX8_choose ∈ am_ws := am_wsi (List.mem_of_getElem? (i := 40) (by rfl)) (by decide +kernel)
set_option maxRecDepth 100000 in
theorem wd_1148 : Cond.code yX8_choose cX8_choose 1 none ∈ am_ws := am_wt5 (List.mem_of_getElem? (i := 131) (by rfl)) (by decide +kernel)
theorem hy_X8_lay : yX8_lay.cls ≠ "java/lang/invoke/MethodHandle" ∧ yX8_lay.cls ≠ "java/lang/invoke/VarHandle" ∧ (parseMethodDescriptor yX8_lay.desc).map (fun d => d.parameters.length) = some 1 := ⟨by decide +kernel, by decide +kernel, by decide +kernel⟩
set_option maxRecDepth 100000 in
theorem wd_1109 : Cond.methodLink "LearnLoansModel" 177 yX8_lay ∈ am_ws := am_wt5 (List.mem_of_getElem? (i := 92) (by rfl)) (by decide +kernel)
set_option maxRecDepth 100000 in
theorem wd_1111 : Cond.instanceMethod yX8_lay ∈ am_ws := am_wt5 (List.mem_of_getElem? (i := 94) (by rfl)) (by decide +kernel)
set_option maxRecDepth 100000 in
theorem wd_34 : Cond.selects "LearnLoansModel" yX8_lay yX8_lay ∈ am_ws := am_wsi (List.mem_of_getElem? (i := 34) (by rfl)) (by decide +kernel)
set_option maxRecDepth 100000 in
theorem wd_1112 : Cond.code yX8_lay cX8_lay 5 none ∈ am_ws := am_wt5 (List.mem_of_getElem? (i := 95) (by rfl)) (by decide +kernel)
def rwX8_behind : List dz_r := [(0, .iload_n 1, 1), (1, .invokestatic 160, 3), (4, .iconst 4, 1), (5, .if_icmp .le 18, 3), (8, .aload_n 0, 1), (9, .iload_n 1, 1), (10, .invokestatic 160, 3), (13, .invokevirtual 167, 3), (16, .aload_n 0, 1), (17, .iload_n 1, 1), (18, .invokevirtual 171, 3), (21, .iconst 1, 1), (22, .ireturn, 1), (23, .iload_n 1, 1), (24, .invokestatic 160, 3), (27, .iconst 4, 1), (28, .if_icmp .ne 28, 3), (31, .aload_n 0, 1), (32, .iconst 5, 1), (33, .invokevirtual 167, 3), (36, .aload_n 0, 1), (37, .invokevirtual 156, 3), (40, .invokestatic 160, 3), (43, .iconst 4, 1), (44, .if_icmp .ne 5, 3), (47, .iconst 0, 1), (48, .ireturn, 1), (49, .aload_n 0, 1), (50, .iload_n 1, 1), (51, .invokevirtual 171, 3), (54, .iconst 1, 1), (55, .ireturn, 1), (56, .iload_n 1, 1), (57, .invokestatic 160, 3), (60, .ifCond .le 18, 3), (63, .aload_n 0, 1), (64, .iload_n 1, 1), (65, .invokestatic 160, 3), (68, .invokevirtual 167, 3), (71, .aload_n 0, 1), (72, .iload_n 1, 1), (73, .invokevirtual 171, 3), (76, .iconst 1, 1), (77, .ireturn, 1), (78, .iload_n 1, 1), (79, .bipush 63, 2), (81, .if_icmp .ne 15, 3), (84, .aload_n 0, 1), (85, .iconst 2, 1), (86, .invokevirtual 167, 3), (89, .aload_n 0, 1), (90, .iload_n 1, 1), (91, .invokevirtual 171, 3), (94, .iconst 1, 1), (95, .ireturn, 1), (96, .iload_n 1, 1), (97, .bipush 58, 2), (99, .if_icmp .eq 11, 3), (102, .iload_n 1, 1), (103, .bipush 41, 2), (105, .if_icmp .eq 5, 3), (108, .iconst 0, 1), (109, .ireturn, 1), (110, .aload_n 0, 1), (111, .invokevirtual 174, 3), (114, .aload_n 0, 1), (115, .invokevirtual 156, 3), (118, .iload_n 1, 1), (119, .bipush 58, 2), (121, .if_icmp .ne 8, 3), (124, .bipush 63, 2), (126, .goto 5, 3), (129, .bipush 40, 2), (131, .if_icmp .eq 5, 3), (134, .iconst 0, 1), (135, .ireturn, 1), (136, .aload_n 0, 1), (137, .dup, 1), (138, .getfield 150, 3), (141, .iconst 1, 1), (142, .isub, 1), (143, .putfield 150, 3), (146, .iload_n 1, 1), (147, .bipush 58, 2), (149, .if_icmp .ne 12, 3), (152, .aload_n 0, 1), (153, .bipush 58, 2), (155, .invokevirtual 171, 3), (158, .goto 26, 3), (161, .aload_n 0, 1), (162, .dup, 1), (163, .getfield 153, 3), (166, .iconst 1, 1), (167, .isub, 1), (168, .putfield 153, 3), (171, .aload_n 0, 1), (172, .aload_n 0, 1), (173, .getfield 23, 3), (176, .aload_n 0, 1), (177, .getfield 153, 3), (180, .laload, 1), (181, .invokevirtual 177, 3), (184, .iconst 1, 1), (185, .ireturn, 1)]
theorem dzX8_behind : dz cX8_behind rwX8_behind := dz_all 0 (by decide +kernel)
def kX8_behind (live : am_E) (Ret : am_R) : am_code := [(0, am_iload 1 1), (1, am_callS live 1 TX8_closeness 4), (4, am_const (.int 4) 5), (5, am_if2 (fun x y => x ≤ y) 23 8), (8, am_aload 0 9), (9, am_iload 1 10), (10, am_callS live 1 TX8_closeness 13), (13, am_callV live 8 1 TX8_reduce 16), (16, am_aload 0 17), (17, am_iload 1 18), (18, am_callV live 8 1 TX8_wait 21), (21, am_const (.int 1) 22), (22, am_retZ Ret), (23, am_iload 1 24), (24, am_callS live 1 TX8_closeness 27), (27, am_const (.int 4) 28), (28, am_if2 (fun x y => x = y) 31 56), (31, am_aload 0 32), (32, am_const (.int 5) 33), (33, am_callV live 8 1 TX8_reduce 36), (36, am_aload 0 37), (37, am_callV live 8 0 TX8_top 40), (40, am_callS live 1 TX8_closeness 43), (43, am_const (.int 4) 44), (44, am_if2 (fun x y => x = y) 47 49), (47, am_const (.int 0) 48), (48, am_retZ Ret), (49, am_aload 0 50), (50, am_iload 1 51), (51, am_callV live 8 1 TX8_wait 54), (54, am_const (.int 1) 55), (55, am_retZ Ret), (56, am_iload 1 57), (57, am_callS live 1 TX8_closeness 60), (60, am_if1 (fun x => x ≤ 0) 78 63), (63, am_aload 0 64), (64, am_iload 1 65), (65, am_callS live 1 TX8_closeness 68), (68, am_callV live 8 1 TX8_reduce 71), (71, am_aload 0 72), (72, am_iload 1 73), (73, am_callV live 8 1 TX8_wait 76), (76, am_const (.int 1) 77), (77, am_retZ Ret), (78, am_iload 1 79), (79, am_const (.int 63) 81), (81, am_if2 (fun x y => x = y) 84 96), (84, am_aload 0 85), (85, am_const (.int 2) 86), (86, am_callV live 8 1 TX8_reduce 89), (89, am_aload 0 90), (90, am_iload 1 91), (91, am_callV live 8 1 TX8_wait 94), (94, am_const (.int 1) 95), (95, am_retZ Ret), (96, am_iload 1 97), (97, am_const (.int 58) 99), (99, am_if2 (fun x y => x = y) 110 102), (102, am_iload 1 103), (103, am_const (.int 41) 105), (105, am_if2 (fun x y => x = y) 110 108), (108, am_const (.int 0) 109), (109, am_retZ Ret), (110, am_aload 0 111), (111, am_callV live 8 0 TX8_choose 114), (114, am_aload 0 115), (115, am_callV live 8 0 TX8_top 118), (118, am_iload 1 119), (119, am_const (.int 58) 121), (121, am_if2 (fun x y => x = y) 124 129), (124, am_const (.int 63) 126), (126, am_goto 131), (129, am_const (.int 40) 131), (131, am_if2 (fun x y => x = y) 136 134), (134, am_const (.int 0) 135), (135, am_retZ Ret), (136, am_aload 0 137), (137, am_dup 138), (138, am_getI live 8 11 141), (141, am_const (.int 1) 142), (142, am_i2 (fun x y => x - y) 143), (143, am_putI live 8 11 146), (146, am_iload 1 147), (147, am_const (.int 58) 149), (149, am_if2 (fun x y => x = y) 152 161), (152, am_aload 0 153), (153, am_const (.int 58) 155), (155, am_callV live 8 1 TX8_wait 158), (158, am_goto 184), (161, am_aload 0 162), (162, am_dup 163), (163, am_getI live 8 12 166), (166, am_const (.int 1) 167), (167, am_i2 (fun x y => x - y) 168), (168, am_putI live 8 12 171), (171, am_aload 0 172), (172, am_aload 0 173), (173, am_getR live 8 10 176), (176, am_aload 0 177), (177, am_getI live 8 12 180), (180, am_lald live 1 181), (181, am_callV live 8 1 TX8_lay 184), (184, am_const (.int 1) 185), (185, am_retZ Ret)]
theorem koX8_behind (live : am_E) (Ret : am_R) : ∀ q ∈ kX8_behind live Ret, am_ok RX8 cX8_behind 2 (some .boolean) 4 85 live Ret q.1 q.2 :=
  am_kz dzX8_behind <|
  am_kd (fun d => ak_iload_n d rfl rfl) <|
  am_kd (fun d => ak_callS metX8_closeness ⟨rfl, hy_X8_closeness⟩ (am_w4 wd_1135 wd_1136 wd_67 wd_1137) (by decide) d rfl) <|
  am_kd (fun d => ak_iconst d (by decide +kernel) rfl) <|
  am_kd (fun d => ak_icmp_le d (by decide +kernel) rfl) <|
  am_kd (fun d => ak_aload_n d rfl rfl) <|
  am_kd (fun d => ak_iload_n d rfl rfl) <|
  am_kd (fun d => ak_callS metX8_closeness ⟨rfl, hy_X8_closeness⟩ (am_w4 wd_1135 wd_1136 wd_67 wd_1137) (by decide) d rfl) <|
  am_kd (fun d => ak_callV (C := RX8) (F := TX8) (N := 27) metX8_reduce rfl ⟨rfl, hy_X8_reduce⟩ (am_w5 wd_1138 wd_1140 wd_39 wd_67 wd_1141) (by decide) d rfl) <|
  am_kd (fun d => ak_aload_n d rfl rfl) <|
  am_kd (fun d => ak_iload_n d rfl rfl) <|
  am_kd (fun d => ak_callV (C := RX8) (F := TX8) (N := 27) metX8_wait rfl ⟨rfl, hy_X8_wait⟩ (am_w5 wd_1127 wd_1129 wd_37 wd_67 wd_1130) (by decide) d rfl) <|
  am_kd (fun d => ak_iconst d (by decide +kernel) rfl) <|
  am_kd (fun d => ak_retZ d) <|
  am_kd (fun d => ak_iload_n d rfl rfl) <|
  am_kd (fun d => ak_callS metX8_closeness ⟨rfl, hy_X8_closeness⟩ (am_w4 wd_1135 wd_1136 wd_67 wd_1137) (by decide) d rfl) <|
  am_kd (fun d => ak_iconst d (by decide +kernel) rfl) <|
  am_kd (fun d => ak_icmp_ne d (by decide +kernel) rfl) <|
  am_kd (fun d => ak_aload_n d rfl rfl) <|
  am_kd (fun d => ak_iconst d (by decide +kernel) rfl) <|
  am_kd (fun d => ak_callV (C := RX8) (F := TX8) (N := 27) metX8_reduce rfl ⟨rfl, hy_X8_reduce⟩ (am_w5 wd_1138 wd_1140 wd_39 wd_67 wd_1141) (by decide) d rfl) <|
  am_kd (fun d => ak_aload_n d rfl rfl) <|
  am_kd (fun d => ak_callV (C := RX8) (F := TX8) (N := 27) metX8_top rfl ⟨rfl, hy_X8_top⟩ (am_w5 wd_1113 wd_1115 wd_35 wd_67 wd_1116) (by decide) d rfl) <|
  am_kd (fun d => ak_callS metX8_closeness ⟨rfl, hy_X8_closeness⟩ (am_w4 wd_1135 wd_1136 wd_67 wd_1137) (by decide) d rfl) <|
  am_kd (fun d => ak_iconst d (by decide +kernel) rfl) <|
  am_kd (fun d => ak_icmp_ne d (by decide +kernel) rfl) <|
  am_kd (fun d => ak_iconst d (by decide +kernel) rfl) <|
  am_kd (fun d => ak_retZ d) <|
  am_kd (fun d => ak_aload_n d rfl rfl) <|
  am_kd (fun d => ak_iload_n d rfl rfl) <|
  am_kd (fun d => ak_callV (C := RX8) (F := TX8) (N := 27) metX8_wait rfl ⟨rfl, hy_X8_wait⟩ (am_w5 wd_1127 wd_1129 wd_37 wd_67 wd_1130) (by decide) d rfl) <|
  am_kd (fun d => ak_iconst d (by decide +kernel) rfl) <|
  am_kd (fun d => ak_retZ d) <|
  am_kd (fun d => ak_iload_n d rfl rfl) <|
  am_kd (fun d => ak_callS metX8_closeness ⟨rfl, hy_X8_closeness⟩ (am_w4 wd_1135 wd_1136 wd_67 wd_1137) (by decide) d rfl) <|
  am_kd (fun d => ak_if_le d (by decide +kernel) rfl) <|
  am_kd (fun d => ak_aload_n d rfl rfl) <|
  am_kd (fun d => ak_iload_n d rfl rfl) <|
  am_kd (fun d => ak_callS metX8_closeness ⟨rfl, hy_X8_closeness⟩ (am_w4 wd_1135 wd_1136 wd_67 wd_1137) (by decide) d rfl) <|
  am_kd (fun d => ak_callV (C := RX8) (F := TX8) (N := 27) metX8_reduce rfl ⟨rfl, hy_X8_reduce⟩ (am_w5 wd_1138 wd_1140 wd_39 wd_67 wd_1141) (by decide) d rfl) <|
  am_kd (fun d => ak_aload_n d rfl rfl) <|
  am_kd (fun d => ak_iload_n d rfl rfl) <|
  am_kd (fun d => ak_callV (C := RX8) (F := TX8) (N := 27) metX8_wait rfl ⟨rfl, hy_X8_wait⟩ (am_w5 wd_1127 wd_1129 wd_37 wd_67 wd_1130) (by decide) d rfl) <|
  am_kd (fun d => ak_iconst d (by decide +kernel) rfl) <|
  am_kd (fun d => ak_retZ d) <|
  am_kd (fun d => ak_iload_n d rfl rfl) <|
  am_kd (fun d => ak_bipush d (by decide +kernel) rfl) <|
  am_kd (fun d => ak_icmp_ne d (by decide +kernel) rfl) <|
  am_kd (fun d => ak_aload_n d rfl rfl) <|
  am_kd (fun d => ak_iconst d (by decide +kernel) rfl) <|
  am_kd (fun d => ak_callV (C := RX8) (F := TX8) (N := 27) metX8_reduce rfl ⟨rfl, hy_X8_reduce⟩ (am_w5 wd_1138 wd_1140 wd_39 wd_67 wd_1141) (by decide) d rfl) <|
  am_kd (fun d => ak_aload_n d rfl rfl) <|
  am_kd (fun d => ak_iload_n d rfl rfl) <|
  am_kd (fun d => ak_callV (C := RX8) (F := TX8) (N := 27) metX8_wait rfl ⟨rfl, hy_X8_wait⟩ (am_w5 wd_1127 wd_1129 wd_37 wd_67 wd_1130) (by decide) d rfl) <|
  am_kd (fun d => ak_iconst d (by decide +kernel) rfl) <|
  am_kd (fun d => ak_retZ d) <|
  am_kd (fun d => ak_iload_n d rfl rfl) <|
  am_kd (fun d => ak_bipush d (by decide +kernel) rfl) <|
  am_kd (fun d => ak_icmp_eq d (by decide +kernel) rfl) <|
  am_kd (fun d => ak_iload_n d rfl rfl) <|
  am_kd (fun d => ak_bipush d (by decide +kernel) rfl) <|
  am_kd (fun d => ak_icmp_eq d (by decide +kernel) rfl) <|
  am_kd (fun d => ak_iconst d (by decide +kernel) rfl) <|
  am_kd (fun d => ak_retZ d) <|
  am_kd (fun d => ak_aload_n d rfl rfl) <|
  am_kd (fun d => ak_callV (C := RX8) (F := TX8) (N := 27) metX8_choose rfl ⟨rfl, hy_X8_choose⟩ (am_w5 wd_1145 wd_1147 wd_40 wd_67 wd_1148) (by decide) d rfl) <|
  am_kd (fun d => ak_aload_n d rfl rfl) <|
  am_kd (fun d => ak_callV (C := RX8) (F := TX8) (N := 27) metX8_top rfl ⟨rfl, hy_X8_top⟩ (am_w5 wd_1113 wd_1115 wd_35 wd_67 wd_1116) (by decide) d rfl) <|
  am_kd (fun d => ak_iload_n d rfl rfl) <|
  am_kd (fun d => ak_bipush d (by decide +kernel) rfl) <|
  am_kd (fun d => ak_icmp_ne d (by decide +kernel) rfl) <|
  am_kd (fun d => ak_bipush d (by decide +kernel) rfl) <|
  am_kd (fun d => ak_goto d (by decide +kernel)) <|
  am_kd (fun d => ak_bipush d (by decide +kernel) rfl) <|
  am_kd (fun d => ak_icmp_eq d (by decide +kernel) rfl) <|
  am_kd (fun d => ak_iconst d (by decide +kernel) rfl) <|
  am_kd (fun d => ak_retZ d) <|
  am_kd (fun d => ak_aload_n d rfl rfl) <|
  am_kd (fun d => ak_dup d rfl) <|
  am_kd (fun d => ak_getI (C := RX8) (T := TX8) (N := 27) rfl inX8w (by decide) rfl rfl rfl wd_906 d rfl) <|
  am_kd (fun d => ak_iconst d (by decide +kernel) rfl) <|
  am_kd (fun d => ak_isub d rfl) <|
  am_kd (fun d => ak_putI (C := RX8) (T := TX8) (N := 27) rfl inX8w tyX8_ok nmX8 (by decide) rfl rfl rfl rfl (by decide +kernel) wd_906 d rfl) <|
  am_kd (fun d => ak_iload_n d rfl rfl) <|
  am_kd (fun d => ak_bipush d (by decide +kernel) rfl) <|
  am_kd (fun d => ak_icmp_ne d (by decide +kernel) rfl) <|
  am_kd (fun d => ak_aload_n d rfl rfl) <|
  am_kd (fun d => ak_bipush d (by decide +kernel) rfl) <|
  am_kd (fun d => ak_callV (C := RX8) (F := TX8) (N := 27) metX8_wait rfl ⟨rfl, hy_X8_wait⟩ (am_w5 wd_1127 wd_1129 wd_37 wd_67 wd_1130) (by decide) d rfl) <|
  am_kd (fun d => ak_goto d (by decide +kernel)) <|
  am_kd (fun d => ak_aload_n d rfl rfl) <|
  am_kd (fun d => ak_dup d rfl) <|
  am_kd (fun d => ak_getI (C := RX8) (T := TX8) (N := 27) rfl inX8w (by decide) rfl rfl rfl wd_907 d rfl) <|
  am_kd (fun d => ak_iconst d (by decide +kernel) rfl) <|
  am_kd (fun d => ak_isub d rfl) <|
  am_kd (fun d => ak_putI (C := RX8) (T := TX8) (N := 27) rfl inX8w tyX8_ok nmX8 (by decide) rfl rfl rfl rfl (by decide +kernel) wd_907 d rfl) <|
  am_kd (fun d => ak_aload_n d rfl rfl) <|
  am_kd (fun d => ak_aload_n d rfl rfl) <|
  am_kd (fun d => ak_getR (C := RX8) (T := TX8) (N := 27) rfl inX8w (by decide) rfl rfl rfl wd_905 d rfl) <|
  am_kd (fun d => ak_aload_n d rfl rfl) <|
  am_kd (fun d => ak_getI (C := RX8) (T := TX8) (N := 27) rfl inX8w (by decide) rfl rfl rfl wd_907 d rfl) <|
  am_kd (fun d => ak_lald (t := 1) (fun _ => rfl) rfl d rfl) <|
  am_kd (fun d => ak_callV (C := RX8) (F := TX8) (N := 27) metX8_lay rfl ⟨rfl, hy_X8_lay⟩ (am_w5 wd_1109 wd_1111 wd_34 wd_67 wd_1112) (by decide) d rfl) <|
  am_kd (fun d => ak_iconst d (by decide +kernel) rfl) <|
  am_kd (fun d => ak_retZ d) <| am_kdn
def TX8_behind : am_T := fun live as M R => match as with
  | [.ref n, .int c] => am_mn live ∧ n = 200 ∧ r_cw M 1 (fun w0 => w0 ≤ 59 ∧ (∀ M', r_wg M M' → R (some (.int 0)) M') ∧ ∀ M', r_wg M M' → r_wI M' (if c = 41 then 1 else 0) (w0 + 1) → R (some (.int 1)) M')
  | _ => False
set_option maxRecDepth 100000 in
set_option maxHeartbeats 4000000 in
theorem metX8_behind : am_Met yX8_behind cX8_behind 2 (some .boolean) (4) (85) TX8_behind := by
  refine am_met (own := RX8) (by decide +kernel) rfl kX8_behind koX8_behind 150 (fun _ _ _ _ _ => none) (fun live as M Ret h => ?_) (fun _ _ _ _ _ _ _ _ hI => by cases hI)
  unfold TX8_behind at h
  split at h
  · next n c =>
    refine ⟨Nat.le_of_ble_eq_true rfl, ?_⟩
    change am_wp _ _ _ _ [(0, Value.ref n), (1, Value.int c)] _ _
    obtain ⟨hmn, rfl, w0, hw, h9, h0, h1⟩ := h
    have hmn2 := hmn
    obtain ⟨i1, i2, rfl⟩ := hmn2
    have l205 : am_len 205 = 120 := rfl
    by_cases z1 : r_clo c ≤ 4
    · by_cases z2 : r_clo c = 4
      · have hn : ¬ r_clo c = 0 := fun q => by rw [z2] at q; exact absurd q (by decide)
        have h41 : ¬ c = 41 := fun q => hn (by rw [q]; decide)
        repeat' (first | (with_reducible exact hmn) | apply And.intro | exact rfl | (intro hx; with_reducible exact absurd z1 hx) | (intro hx; with_reducible exact absurd z2 hx) | (intro hx; exact absurd hx (by decide)) | (intro hx; exact absurd (by decide) hx) | decide | intro hx | (refine Exists.intro _ (And.intro rfl ?_)) | (refine r_cw_in hw (fun M1 c1 d1 => ?_)))
        all_goals try first | (with_reducible change am_tI _ _) | (change Ret _ _) | (change Ret _ _ _) | (change Exists _)
        all_goals try dsimp only at *
        all_goals try (with_reducible exact absurd ‹(1000 : Int64) = 0› am_z1000)
        all_goals first
          | decide
          | (left; rfl)
          | (right; rfl)
          | exact (r_wI.bd (by with_reducible assumption)).1
          | exact (r_wI.bd (by with_reducible assumption)).2
          | (have q := (r_wI.u (by with_reducible assumption)).1; omega)
          | exact h0 _ (r_wg.rf.k (by with_reducible assumption))
          | exact h1 _ ((r_wg.rf.k (by with_reducible assumption)).w204.w11) (by rw [if_neg h41]; exact r_push (by with_reducible assumption) (r_clo_wt hn) h9)
          | skip
      · by_cases z3 : r_clo c ≤ 0
        · have z30 : r_clo c = 0 := by
            have q := r_clo_nn c
            simp only [i_le, i_eq, Int32.reduceToInt] at z3 ⊢
            omega
          by_cases z4 : c = 63
          · have h41 : ¬ c = 41 := fun q => by rw [z4] at q; exact absurd q (by decide)
            repeat' (first | (with_reducible exact hmn) | apply And.intro | exact rfl | (intro hx; with_reducible exact absurd hx z2) | (intro hx; with_reducible exact absurd z1 hx) | (intro hx; with_reducible exact absurd z3 hx) | (intro hx; with_reducible exact absurd z4 hx) | (intro hx; exact absurd hx (by decide)) | (intro hx; exact absurd (by decide) hx) | decide | intro hx | (refine Exists.intro _ (And.intro rfl ?_)) | (refine r_cw_in hw (fun M1 c1 d1 => ?_)))
            all_goals try first | (with_reducible change am_tI _ _) | (change Ret _ _) | (change Ret _ _ _) | (change Exists _)
            all_goals try dsimp only at *
            all_goals try (with_reducible exact absurd ‹(1000 : Int64) = 0› am_z1000)
            all_goals first
              | decide
              | (right; rfl)
              | (have q := (r_wI.u (by with_reducible assumption)).1; omega)
              | exact h1 _ ((r_wg.rf.k (by with_reducible assumption)).w204.w11) (by rw [if_neg h41]; exact r_push (by with_reducible assumption) (by rw [z4]; decide) h9)
              | skip
          · by_cases z5 : c = 58
            · have h41 : ¬ c = 41 := fun q => by rw [z5] at q; exact absurd q (by decide)
              have g58 : r_wt c = 2 := by rw [z5]; decide
              have z5b : ¬ ¬ c = 58 := not_not_intro z5
              subst z5
              repeat' (first | (with_reducible exact hmn) | apply And.intro | exact rfl | (intro hx; with_reducible exact absurd hx z2) | (intro hx; with_reducible exact absurd hx z4) | (intro hx; with_reducible exact absurd z1 hx) | (intro hx; with_reducible exact absurd z3 hx) | (intro hx; exact absurd hx (by decide)) | (intro hx; exact absurd (by decide) hx) | decide | intro hx | (refine Exists.intro _ (And.intro rfl ?_)) | (refine r_cw_in hw (fun M1 c1 d1 => ?_)))
              all_goals try first | (with_reducible change am_tI _ _) | (change Ret _ _) | (change Ret _ _ _) | (change Exists _)
              all_goals try dsimp only at *
              all_goals try (with_reducible exact absurd ‹(1000 : Int64) = 0› am_z1000)
              all_goals first
                | decide
                | (left; rfl)
                | (right; rfl)
                | exact (r_wI.bd (by with_reducible assumption)).1
                | exact (r_wI.bd (by with_reducible assumption)).2
                | exact h0 _ (r_wg.rf.k (by with_reducible assumption))
                | skip
              all_goals
                have ht : r_top M1 = 63 := by with_reducible assumption
                have hp := r_top_pos (fun q => by rw [ht] at q; exact absurd q (by decide)) d1.u.1.1
                have ho := r_off1 d1 hp
                rw [ht] at ho
                have hu := ho.u.1
                first
                  | exact hu.1
                  | (show _ < _; have q := hu.2; omega)
                  | exact h1 _ ((r_wg.rf.k c1).w11.w204.w11) (by rw [if_neg h41]; exact r_push ho (by decide) h9)
                  | skip
            · by_cases z6 : c = 41
              · subst z6
                repeat' (first | (with_reducible exact hmn) | apply And.intro | exact rfl | (intro hx; with_reducible exact absurd hx z2) | (intro hx; with_reducible exact absurd hx z4) | (intro hx; with_reducible exact absurd hx z5) | (intro hx; with_reducible exact absurd z1 hx) | (intro hx; with_reducible exact absurd z3 hx) | (intro hx; exact absurd hx (by decide)) | (intro hx; exact absurd (by decide) hx) | decide | intro hx | (refine Exists.intro _ (And.intro rfl ?_)) | (refine r_cw_in hw (fun M1 c1 d1 => ?_)) | (refine r_cw_in (r_lay_in d1 (by with_reducible assumption)) ⟨h9, fun M2 c2 d2 => ?_⟩))
                all_goals try first | (with_reducible change am_tI _ _) | (change Ret _ _) | (change Ret _ _ _) | (change Exists _)
                all_goals try dsimp only at *
                all_goals try (with_reducible exact absurd ‹(1000 : Int64) = 0› am_z1000)
                all_goals first
                  | decide
                  | (left; rfl)
                  | (right; rfl)
                  | exact (r_wI.bd (by with_reducible assumption)).1
                  | exact (r_wI.bd (by with_reducible assumption)).2
                  | exact h0 _ (r_wg.rf.k (by with_reducible assumption))
                  | skip
                all_goals
                  have hd := r_lay_in d1 (by with_reducible assumption)
                  have hu := hd.u
                  first
                    | (rw [hu.2.1]; omega)
                    | (show _ < (120 : Int); have q := hu.2.2; have q2 := hu.1.2.2; omega)
                    | exact h1 _ ((((r_wg.rf.k c1).w11).w12).tr c2) (by rw [if_pos rfl]; exact d2)
                    | skip
              · skip
                repeat' (first | (with_reducible exact hmn) | apply And.intro | exact rfl | (intro hx; with_reducible exact absurd hx z2) | (intro hx; with_reducible exact absurd hx z4) | (intro hx; with_reducible exact absurd hx z5) | (intro hx; with_reducible exact absurd hx z6) | (intro hx; with_reducible exact absurd z1 hx) | (intro hx; with_reducible exact absurd z3 hx) | (intro hx; exact absurd hx (by decide)) | (intro hx; exact absurd (by decide) hx) | decide | intro hx | (refine Exists.intro _ (And.intro rfl ?_)))
                all_goals try first | (with_reducible change am_tI _ _) | (change Ret _ _) | (change Ret _ _ _) | (change Exists _)
                all_goals try dsimp only at *
                all_goals try (with_reducible exact absurd ‹(1000 : Int64) = 0› am_z1000)
                all_goals first
                  | (left; rfl)
                  | (with_reducible exact h0 _ r_wg.rf)
                  | exact h0 _ r_wg.rf
                  | skip
        · have hn : ¬ r_clo c = 0 := fun q => z3 (by rw [q]; decide)
          have h41 : ¬ c = 41 := fun q => hn (by rw [q]; decide)
          have hg : 1 ≤ (r_clo c).toInt := by simp only [i_le, Int32.reduceToInt] at z3; omega
          repeat' (first | (with_reducible exact hmn) | (with_reducible exact hg) | apply And.intro | exact rfl | (intro hx; with_reducible exact absurd hx z2) | (intro hx; with_reducible exact absurd hx z3) | (intro hx; with_reducible exact absurd z1 hx) | (intro hx; exact absurd hx (by decide)) | (intro hx; exact absurd (by decide) hx) | decide | intro hx | (refine Exists.intro _ (And.intro rfl ?_)) | (refine r_cw_in hw (fun M1 c1 d1 => ?_)))
          all_goals try first | (with_reducible change am_tI _ _) | (change Ret _ _) | (change Ret _ _ _) | (change Exists _)
          all_goals try dsimp only at *
          all_goals try (with_reducible exact absurd ‹(1000 : Int64) = 0› am_z1000)
          all_goals first
            | (with_reducible exact hg)
            | (right; rfl)
            | (have q := (r_wI.u (by with_reducible assumption)).1; omega)
            | exact h1 _ ((r_wg.rf.k (by with_reducible assumption)).w204.w11) (by rw [if_neg h41]; exact r_push (by with_reducible assumption) (r_clo_wt hn) h9)
            | exact hg
            | skip
    · have hn : ¬ r_clo c = 0 := fun q => z1 (by rw [q]; decide)
      have h41 : ¬ c = 41 := fun q => hn (by rw [q]; decide)
      have hg : 1 ≤ (r_clo c).toInt := by simp only [i_le, Int32.reduceToInt] at z1; omega
      repeat' (first | (with_reducible exact hmn) | (with_reducible exact hg) | apply And.intro | exact rfl | (intro hx; with_reducible exact absurd hx z1) | (intro hx; exact absurd hx (by decide)) | (intro hx; exact absurd (by decide) hx) | decide | intro hx | (refine Exists.intro _ (And.intro rfl ?_)) | (refine r_cw_in hw (fun M1 c1 d1 => ?_)))
      all_goals try first | (with_reducible change am_tI _ _) | (change Ret _ _) | (change Ret _ _ _) | (change Exists _)
      all_goals try dsimp only at *
      all_goals try (with_reducible exact absurd ‹(1000 : Int64) = 0› am_z1000)
      all_goals first
        | (with_reducible exact hg)
        | (right; rfl)
        | (have q := (r_wI.u (by with_reducible assumption)).1; omega)
        | exact h1 _ ((r_wg.rf.k (by with_reducible assumption)).w204.w11) (by rw [if_neg h41]; exact r_push (by with_reducible assumption) (r_clo_wt hn) h9)
        | exact hg
        | skip
  · exact h.elim
