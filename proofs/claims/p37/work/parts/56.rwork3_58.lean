-- part 56.rwork3.lean.txt
section
/-! general: the reference's reader of texts, III -/
theorem r_dec {M : am_M} {w0 : Nat} (h : r_wI M 1 w0) : r_wI (am_wI M 200 12 (M.1 200 12 - 1)) 0 w0 := by
  obtain ⟨⟨u1, u2, u5⟩, u3, u4⟩ := h.u
  have e := i_sub (x := M.1 200 12) (y := 1) (by simp only [Int32.reduceToInt]; omega) (by simp only [Int32.reduceToInt]; omega)
  simp only [Int32.reduceToInt] at e
  have f11 : (am_wI M 200 12 (M.1 200 12 - 1)).1 200 11 = M.1 200 11 := by rw [am_wI_1, if_neg (fun q => absurd q.2 (by decide))]
  have f204 : (am_wI M 200 12 (M.1 200 12 - 1)).1 204 = M.1 204 := funext fun k => by rw [am_wI_1, if_neg (fun q => absurd q.1 (by decide))]
  refine ⟨(), ⟨by rw [f11]; exact u1, by rw [f11]; exact u2, u5⟩, ?_, by rw [am_wI_self]; omega⟩
  rw [f11, am_wI_self, f204]
  omega
theorem r_wI.bd {M : am_M} {d w0 : Nat} (h : r_wI M d w0) : 0 ≤ (M.1 200 11).toInt ∧ (M.1 200 11).toInt ≤ 120 := by
  obtain ⟨⟨u1, u2, u5⟩, u3, u4⟩ := h.u
  exact ⟨u1, by omega⟩
theorem r_clo_nn (c : Int32) : 0 ≤ (r_clo c).toInt := by
  unfold r_clo
  by_cases a : c = 42 ∨ c = 47
  · rw [if_pos a]; decide
  rw [if_neg a]
  by_cases a : c = 43 ∨ c = 45
  · rw [if_pos a]; decide
  rw [if_neg a]
  by_cases a : c = 60 ∨ c = 61 ∨ c = 62
  · rw [if_pos a]; decide
  rw [if_neg a]
  by_cases a : c = 38
  · rw [if_pos a]; decide
  rw [if_neg a]
  by_cases a : c = 124
  · rw [if_pos a]; decide
  rw [if_neg a]
  decide
theorem r_lay_in {M1 : am_M} {w0 : Nat} (d1 : r_wI M1 1 w0) (ht : r_top M1 = 40) : r_wI (am_wI (am_wI M1 200 11 (M1.1 200 11 - 1)) 200 12 ((am_wI M1 200 11 (M1.1 200 11 - 1)).1 200 12 - 1)) 0 w0 := by
  have hp := r_top_pos (fun q => by rw [ht] at q; exact absurd q (by decide)) d1.u.1.1
  have ho := r_off1 d1 hp
  rw [ht] at ho
  exact r_dec ho
theorem hy_X8_wait : yX8_wait.cls ≠ "java/lang/invoke/MethodHandle" ∧ yX8_wait.cls ≠ "java/lang/invoke/VarHandle" ∧ (parseMethodDescriptor yX8_wait.desc).map (fun d => d.parameters.length) = some 1 := ⟨by decide +kernel, by decide +kernel, by decide +kernel⟩
set_option maxRecDepth 100000 in
theorem wd_1127 : Cond.methodLink "LearnLoansModel" 171 yX8_wait ∈ am_ws := am_wt5 (List.mem_of_getElem? (i := 110) (by rfl)) (by decide +kernel)
set_option maxRecDepth 100000 in
theorem wd_1129 : Cond.instanceMethod yX8_wait ∈ am_ws := am_wt5 (List.mem_of_getElem? (i := 112) (by rfl)) (by decide +kernel)
set_option maxRecDepth 100000 in
theorem wd_37 : Cond.selects "LearnLoansModel" yX8_wait yX8_wait ∈ am_ws := am_wsi (List.mem_of_getElem? (i := 37) (by rfl)) (by decide +kernel)
set_option maxRecDepth 100000 in
theorem wd_1130 : Cond.code yX8_wait cX8_wait 2 none ∈ am_ws := am_wt5 (List.mem_of_getElem? (i := 113) (by rfl)) (by decide +kernel)
theorem hy_X8_choose : yX8_choose.cls ≠ "java/lang/invoke/MethodHandle" ∧ yX8_choose.cls ≠ "java/lang/invoke/VarHandle" ∧ (parseMethodDescriptor yX8_choose.desc).map (fun d => d.parameters.length) = some 0 := ⟨by decide +kernel, by decide +kernel, by decide +kernel⟩
set_option maxRecDepth 100000 in
theorem wd_1145 : Cond.methodLink "LearnLoansModel" 174 yX8_choose ∈ am_ws := am_wt5 (List.mem_of_getElem? (i := 128) (by rfl)) (by decide +kernel)
set_option maxRecDepth 100000 in
theorem wd_1147 : Cond.instanceMethod yX8_choose ∈ am_ws := am_wt5 (List.mem_of_getElem? (i := 130) (by rfl)) (by decide +kernel)
set_option maxRecDepth 100000 in
theorem wd_40 : Cond.selects "LearnLoansModel" yX8_choose yX8_choose ∈ am_ws := am_wsi (List.mem_of_getElem? (i := 40) (by rfl)) (by decide +kernel)
set_option maxRecDepth 100000 in
theorem wd_1148 : Cond.code yX8_choose cX8_choose 1 none ∈ am_ws := am_wt5 (List.mem_of_getElem? (i := 131) (by rfl)) (by decide +kernel)
theorem hy_X8_lay : yX8_lay.cls ≠ "java/lang/invoke/MethodHandle" ∧ yX8_lay.cls ≠ "java/lang/invoke/VarHandle" ∧ (parseMethodDescriptor yX8_lay.desc).map (fun d => d.parameters.length) = some 1 := ⟨by decide +kernel, by decide +kernel, by decide +kernel⟩
set_option maxRecDepth 100000 in
theorem wd_1109 : Cond.methodLink "LearnLoansModel" 177 yX8_lay ∈ am_ws := am_wt5 (List.mem_of_getElem? (i := 92) (by rfl)) (by decide +kernel)
set_option maxRecDepth 100000 in
theorem wd_1111 : Cond.instanceMethod yX8_lay ∈ am_ws := am_wt5 (List.mem_of_getElem? (i := 94) (by rfl)) (by decide +kernel)
set_option maxRecDepth 100000 in
theorem wd_34 : Cond.selects "LearnLoansModel" yX8_lay yX8_lay ∈ am_ws := am_wsi (List.mem_of_getElem? (i := 34) (by rfl)) (by decide +kernel)
set_option maxRecDepth 100000 in
theorem wd_1112 : Cond.code yX8_lay cX8_lay 5 none ∈ am_ws := am_wt5 (List.mem_of_getElem? (i := 95) (by rfl)) (by decide +kernel)
def rwX8_behind : List dz_r := [(0, .iload_n 1, 1), (1, .invokestatic 160, 3), (4, .iconst 4, 1), (5, .if_icmp .le 18, 3), (8, .aload_n 0, 1), (9, .iload_n 1, 1), (10, .invokestatic 160, 3), (13, .invokevirtual 167, 3), (16, .aload_n 0, 1), (17, .iload_n 1, 1), (18, .invokevirtual 171, 3), (21, .iconst 1, 1), (22, .ireturn, 1), (23, .iload_n 1, 1), (24, .invokestatic 160, 3), (27, .iconst 4, 1), (28, .if_icmp .ne 28, 3), (31, .aload_n 0, 1), (32, .iconst 5, 1), (33, .invokevirtual 167, 3), (36, .aload_n 0, 1), (37, .invokevirtual 156, 3), (40, .invokestatic 160, 3), (43, .iconst 4, 1), (44, .if_icmp .ne 5, 3), (47, .iconst 0, 1), (48, .ireturn, 1), (49, .aload_n 0, 1), (50, .iload_n 1, 1), (51, .invokevirtual 171, 3), (54, .iconst 1, 1), (55, .ireturn, 1), (56, .iload_n 1, 1), (57, .invokestatic 160, 3), (60, .ifCond .le 18, 3), (63, .aload_n 0, 1), (64, .iload_n 1, 1), (65, .invokestatic 160, 3), (68, .invokevirtual 167, 3), (71, .aload_n 0, 1), (72, .iload_n 1, 1), (73, .invokevirtual 171, 3), (76, .iconst 1, 1), (77, .ireturn, 1), (78, .iload_n 1, 1), (79, .bipush 63, 2), (81, .if_icmp .ne 15, 3), (84, .aload_n 0, 1), (85, .iconst 2, 1), (86, .invokevirtual 167, 3), (89, .aload_n 0, 1), (90, .iload_n 1, 1), (91, .invokevirtual 171, 3), (94, .iconst 1, 1), (95, .ireturn, 1), (96, .iload_n 1, 1), (97, .bipush 58, 2), (99, .if_icmp .eq 11, 3), (102, .iload_n 1, 1), (103, .bipush 41, 2), (105, .if_icmp .eq 5, 3), (108, .iconst 0, 1), (109, .ireturn, 1), (110, .aload_n 0, 1), (111, .invokevirtual 174, 3), (114, .aload_n 0, 1), (115, .invokevirtual 156, 3), (118, .iload_n 1, 1), (119, .bipush 58, 2), (121, .if_icmp .ne 8, 3), (124, .bipush 63, 2), (126, .goto 5, 3), (129, .bipush 40, 2), (131, .if_icmp .eq 5, 3), (134, .iconst 0, 1), (135, .ireturn, 1), (136, .aload_n 0, 1), (137, .dup, 1), (138, .getfield 150, 3), (141, .iconst 1, 1), (142, .isub, 1), (143, .putfield 150, 3), (146, .iload_n 1, 1), (147, .bipush 58, 2), (149, .if_icmp .ne 12, 3), (152, .aload_n 0, 1), (153, .bipush 58, 2), (155, .invokevirtual 171, 3), (158, .goto 26, 3), (161, .aload_n 0, 1), (162, .dup, 1), (163, .getfield 153, 3), (166, .iconst 1, 1), (167, .isub, 1), (168, .putfield 153, 3), (171, .aload_n 0, 1), (172, .aload_n 0, 1), (173, .getfield 23, 3), (176, .aload_n 0, 1), (177, .getfield 153, 3), (180, .laload, 1), (181, .invokevirtual 177, 3), (184, .iconst 1, 1), (185, .ireturn, 1)]
theorem dzX8_behind : dz cX8_behind rwX8_behind := dz_all 0 (by decide +kernel)
def kX8_behind (live : am_E) (Ret : am_R) : am_code := [(0, am_iload 1 1), (1, am_callS live 1 TX8_closeness 4), (4, am_const (.int 4) 5), (5, am_if2 (fun x y => x ≤ y) 23 8), (8, am_aload 0 9), (9, am_iload 1 10), (10, am_callS live 1 TX8_closeness 13), (13, am_callV live 8 1 TX8_reduce 16), (16, am_aload 0 17), (17, am_iload 1 18), (18, am_callV live 8 1 TX8_wait 21), (21, am_const (.int 1) 22), (22, am_retZ Ret), (23, am_iload 1 24), (24, am_callS live 1 TX8_closeness 27), (27, am_const (.int 4) 28), (28, am_if2 (fun x y => x = y) 31 56), (31, am_aload 0 32), (32, am_const (.int 5) 33), (33, am_callV live 8 1 TX8_reduce 36), (36, am_aload 0 37), (37, am_callV live 8 0 TX8_top 40), (40, am_callS live 1 TX8_closeness 43), (43, am_const (.int 4) 44), (44, am_if2 (fun x y => x = y) 47 49), (47, am_const (.int 0) 48), (48, am_retZ Ret), (49, am_aload 0 50), (50, am_iload 1 51), (51, am_callV live 8 1 TX8_wait 54), (54, am_const (.int 1) 55), (55, am_retZ Ret), (56, am_iload 1 57), (57, am_callS live 1 TX8_closeness 60), (60, am_if1 (fun x => x ≤ 0) 78 63), (63, am_aload 0 64), (64, am_iload 1 65), (65, am_callS live 1 TX8_closeness 68), (68, am_callV live 8 1 TX8_reduce 71), (71, am_aload 0 72), (72, am_iload 1 73), (73, am_callV live 8 1 TX8_wait 76), (76, am_const (.int 1) 77), (77, am_retZ Ret), (78, am_iload 1 79), (79, am_const (.int 63) 81), (81, am_if2 (fun x y => x = y) 84 96), (84, am_aload 0 85), (85, am_const (.int 2) 86), (86, am_callV live 8 1 TX8_reduce 89), (89, am_aload 0 90), (90, am_iload 1 91), (91, am_callV live 8 1 TX8_wait 94), (94, am_const (.int 1) 95), (95, am_retZ Ret), (96, am_iload 1 97), (97, am_const (.int 58) 99), (99, am_if2 (fun x y => x = y) 110 102), (102, am_iload 1 103), (103, am_const (.int 41) 105), (105, am_if2 (fun x y => x = y) 110 108), (108, am_const (.int 0) 109), (109, am_retZ Ret), (110, am_aload 0 111), (111, am_callV live 8 0 TX8_choose 114), (114, am_aload 0 115), (115, am_callV live 8 0 TX8_top 118), (118, am_iload 1 119), (119, am_const (.int 58) 121), (121, am_if2 (fun x y => x = y) 124 129), (124, am_const (.int 63) 126), (126, am_goto 131), (129, am_const (.int 40) 131), (131, am_if2 (fun x y => x = y) 136 134), (134, am_const (.int 0) 135), (135, am_retZ Ret), (136, am_aload 0 137), (137, am_dup 138), (138, am_getI live 8 11 141), (141, am_const (.int 1) 142), (142, am_i2 (fun x y => x - y) 143), (143, am_putI live 8 11 146), (146, am_iload 1 147), (147, am_const (.int 58) 149), (149, am_if2 (fun x y => x = y) 152 161), (152, am_aload 0 153), (153, am_const (.int 58) 155), (155, am_callV live 8 1 TX8_wait 158), (158, am_goto 184), (161, am_aload 0 162), (162, am_dup 163), (163, am_getI live 8 12 166), (166, am_const (.int 1) 167), (167, am_i2 (fun x y => x - y) 168), (168, am_putI live 8 12 171), (171, am_aload 0 172), (172, am_aload 0 173), (173, am_getR live 8 10 176), (176, am_aload 0 177), (177, am_getI live 8 12 180), (180, am_lald live 1 181), (181, am_callV live 8 1 TX8_lay 184), (184, am_const (.int 1) 185), (185, am_retZ Ret)]
theorem koX8_behind (live : am_E) (Ret : am_R) : ∀ q ∈ kX8_behind live Ret, am_ok RX8 cX8_behind 2 (some .boolean) 4 85 live Ret q.1 q.2 :=
  am_kz dzX8_behind <|
  am_kd (fun d => ak_iload_n d rfl rfl) <|
  am_kd (fun d => ak_callS metX8_closeness ⟨rfl, hy_X8_closeness⟩ (am_w4 wd_1135 wd_1136 wd_67 wd_1137) (by decide) d rfl) <|
  am_kd (fun d => ak_iconst d (by decide +kernel) rfl) <|
  am_kd (fun d => ak_icmp_le d (by decide +kernel) rfl) <|
  am_kd (fun d => ak_aload_n d rfl rfl) <|
  am_kd (fun d => ak_iload_n d rfl rfl) <|
  am_kd (fun d => ak_callS metX8_closeness ⟨rfl, hy_X8_closeness⟩ (am_w4 wd_1135 wd_1136 wd_67 wd_1137) (by decide) d rfl) <|
  am_kd (fun d => ak_callV (C := RX8) (F := TX8) (N := 27) metX8_reduce rfl ⟨rfl, hy_X8_reduce⟩ (am_w5 wd_1138 wd_1140 wd_39 wd_67 wd_1141) (by decide) d rfl) <|
  am_kd (fun d => ak_aload_n d rfl rfl) <|
  am_kd (fun d => ak_iload_n d rfl rfl) <|
  am_kd (fun d => ak_callV (C := RX8) (F := TX8) (N := 27) metX8_wait rfl ⟨rfl, hy_X8_wait⟩ (am_w5 wd_1127 wd_1129 wd_37 wd_67 wd_1130) (by decide) d rfl) <|
  am_kd (fun d => ak_iconst d (by decide +kernel) rfl) <|
  am_kd (fun d => ak_retZ d) <|
  am_kd (fun d => ak_iload_n d rfl rfl) <|
  am_kd (fun d => ak_callS metX8_closeness ⟨rfl, hy_X8_closeness⟩ (am_w4 wd_1135 wd_1136 wd_67 wd_1137) (by decide) d rfl) <|
  am_kd (fun d => ak_iconst d (by decide +kernel) rfl) <|
  am_kd (fun d => ak_icmp_ne d (by decide +kernel) rfl) <|
  am_kd (fun d => ak_aload_n d rfl rfl) <|
  am_kd (fun d => ak_iconst d (by decide +kernel) rfl) <|
  am_kd (fun d => ak_callV (C := RX8) (F := TX8) (N := 27) metX8_reduce rfl ⟨rfl, hy_X8_reduce⟩ (am_w5 wd_1138 wd_1140 wd_39 wd_67 wd_1141) (by decide) d rfl) <|
  am_kd (fun d => ak_aload_n d rfl rfl) <|
  am_kd (fun d => ak_callV (C := RX8) (F := TX8) (N := 27) metX8_top rfl ⟨rfl, hy_X8_top⟩ (am_w5 wd_1113 wd_1115 wd_35 wd_67 wd_1116) (by decide) d rfl) <|
  am_kd (fun d => ak_callS metX8_closeness ⟨rfl, hy_X8_closeness⟩ (am_w4 wd_1135 wd_1136 wd_67 wd_1137) (by decide) d rfl) <|
  am_kd (fun d => ak_iconst d (by decide +kernel) rfl) <|
  am_kd (fun d => ak_icmp_ne d (by decide +kernel) rfl) <|
  am_kd (fun d => ak_iconst d (by decide +kernel) rfl) <|
  am_kd (fun d => ak_retZ d) <|
  am_kd (fun d => ak_aload_n d rfl rfl) <|
  am_kd (fun d => ak_iload_n d rfl rfl) <|
  am_kd (fun d => ak_callV (C := RX8) (F := TX8) (N := 27) metX8_wait rfl ⟨rfl, hy_X8_wait⟩ (am_w5 wd_1127 wd_1129 wd_37 wd_67 wd_1130) (by decide) d rfl) <|
  am_kd (fun d => ak_iconst d (by decide +kernel) rfl) <|
  am_kd (fun d => ak_retZ d) <|
  am_kd (fun d => ak_iload_n d rfl rfl) <|
  am_kd (fun d => ak_callS metX8_closeness ⟨rfl, hy_X8_closeness⟩ (am_w4 wd_1135 wd_1136 wd_67 wd_1137) (by decide) d rfl) <|
  am_kd (fun d => ak_if_le d (by decide +kernel) rfl) <|
  am_kd (fun d => ak_aload_n d rfl rfl) <|
  am_kd (fun d => ak_iload_n d rfl rfl) <|
  am_kd (fun d => ak_callS metX8_closeness ⟨rfl, hy_X8_closeness⟩ (am_w4 wd_1135 wd_1136 wd_67 wd_1137) (by decide) d rfl) <|
  am_kd (fun d => ak_callV (C := RX8) (F := TX8) (N := 27) metX8_reduce rfl ⟨rfl, hy_X8_reduce⟩ (am_w5 wd_1138 wd_1140 wd_39 wd_67 wd_1141) (by decide) d rfl) <|
  am_kd (fun d => ak_aload_n d rfl rfl) <|
  am_kd (fun d => ak_iload_n d rfl rfl) <|
  am_kd (fun d => ak_callV (C := RX8) (F := TX8) (N := 27) metX8_wait rfl ⟨rfl, hy_X8_wait⟩ (am_w5 wd_1127 wd_1129 wd_37 wd_67 wd_1130) (by decide) d rfl) <|
  am_kd (fun d => ak_iconst d (by decide +kernel) rfl) <|
  am_kd (fun d => ak_retZ d) <|
  am_kd (fun d => ak_iload_n d rfl rfl) <|
  am_kd (fun d => ak_bipush d (by decide +kernel) rfl) <|
  am_kd (fun d => ak_icmp_ne d (by decide +kernel) rfl) <|
  am_kd (fun d => ak_aload_n d rfl rfl) <|
  am_kd (fun d => ak_iconst d (by decide +kernel) rfl) <|
  am_kd (fun d => ak_callV (C := RX8) (F := TX8) (N := 27) metX8_reduce rfl ⟨rfl, hy_X8_reduce⟩ (am_w5 wd_1138 wd_1140 wd_39 wd_67 wd_1141) (by decide) d rfl) <|
  am_kd (fun d => ak_aload_n d rfl rfl) <|
  am_kd (fun d => ak_iload_n d rfl rfl) <|
  am_kd (fun d => ak_callV (C := RX8) (F := TX8) (N := 27) metX8_wait rfl ⟨rfl, hy_X8_wait⟩ (am_w5 wd_1127 wd_1129 wd_37 wd_67 wd_1130) (by decide) d rfl) <|
  am_kd (fun d => ak_iconst d (by decide +kernel) rfl) <|
  am_kd (fun d => ak_retZ d) <|
  am_kd (fun d => ak_iload_n d rfl rfl) <|
  am_kd (fun d => ak_bipush d (by decide +kernel) rfl) <|
  am_kd (fun d => ak_icmp_eq d (by decide +kernel) rfl) <|
  am_kd (fun d => ak_iload_n d rfl rfl) <|
  am_kd (fun d => ak_bipush d (by decide +kernel) rfl) <|
  am_kd (fun d => ak_icmp_eq d (by decide +kernel) rfl) <|
  am_kd (fun d => ak_iconst d (by decide +kernel) rfl) <|
  am_kd (fun d => ak_retZ d) <|
  am_kd (fun d => ak_aload_n d rfl rfl) <|
  am_kd (fun d => ak_callV (C := RX8) (F := TX8) (N := 27) metX8_choose rfl ⟨rfl, hy_X8_choose⟩ (am_w5 wd_1145 wd_1147 wd_40 wd_67 wd_1148) (by decide) d rfl) <|
  am_kd (fun d => ak_aload_n d rfl rfl) <|
  am_kd (fun d => ak_callV (C := RX8) (F := TX8) (N := 27) metX8_top rfl ⟨rfl, hy_X8_top⟩ (am_w5 wd_1113 wd_1115 wd_35 wd_67 wd_1116) (by decide) d rfl) <|
  am_kd (fun d => ak_iload_n d rfl rfl) <|
  am_kd (fun d => ak_bipush d (by decide +kernel) rfl) <|
  am_kd (fun d => ak_icmp_ne d (by decide +kernel) rfl) <|
  am_kd (fun d => ak_bipush d (by decide +kernel) rfl) <|
  am_kd (fun d => ak_goto d (by decide +kernel)) <|
  am_kd (fun d => ak_bipush d (by decide +kernel) rfl) <|
  am_kd (fun d => ak_icmp_eq d (by decide +kernel) rfl) <|
  am_kd (fun d => ak_iconst d (by decide +kernel) rfl) <|
  am_kd (fun d => ak_retZ d) <|
  am_kd (fun d => ak_aload_n d rfl rfl) <|
  am_kd (fun d => ak_dup d rfl) <|
  am_kd (fun d => ak_getI (C := RX8) (T := TX8) (N := 27) rfl inX8w (by decide) rfl rfl rfl wd_906 d rfl) <|
  am_kd (fun d => ak_iconst d (by decide +kernel) rfl) <|
  am_kd (fun d => ak_isub d rfl) <|
  am_kd (fun d => ak_putI (C := RX8) (T := TX8) (N := 27) rfl inX8w tyX8_ok nmX8 (by decide) rfl rfl rfl rfl (by decide +kernel) wd_906 d rfl) <|
  am_kd (fun d => ak_iload_n d rfl rfl) <|
  am_kd (fun d => ak_bipush d (by decide +kernel) rfl) <|
  am_kd (fun d => ak_icmp_ne d (by decide +kernel) rfl) <|
  am_kd (fun d => ak_aload_n d rfl rfl) <|
  am_kd (fun d => ak_bipush d (by decide +kernel) rfl) <|
  am_kd (fun d => ak_callV (C := RX8) (F := TX8) (N := 27) metX8_wait rfl ⟨rfl, hy_X8_wait⟩ (am_w5 wd_1127 wd_1129 wd_37 wd_67 wd_1130) (by decide) d rfl) <|
  am_kd (fun d => ak_goto d (by decide +kernel)) <|
  am_kd (fun d => ak_aload_n d rfl rfl) <|
  am_kd (fun d => ak_dup d rfl) <|
  am_kd (fun d => ak_getI (C := RX8) (T := TX8) (N := 27) rfl inX8w (by decide) rfl rfl rfl wd_907 d rfl) <|
  am_kd (fun d => ak_iconst d (by decide +kernel) rfl) <|
  am_kd (fun d => ak_isub d rfl) <|
  am_kd (fun d => ak_putI (C := RX8) (T := TX8) (N := 27) rfl inX8w tyX8_ok nmX8 (by decide) rfl rfl rfl rfl (by decide +kernel) wd_907 d rfl) <|
  am_kd (fun d => ak_aload_n d rfl rfl) <|
  am_kd (fun d => ak_aload_n d rfl rfl) <|
  am_kd (fun d => ak_getR (C := RX8) (T := TX8) (N := 27) rfl inX8w (by decide) rfl rfl rfl wd_905 d rfl) <|
  am_kd (fun d => ak_aload_n d rfl rfl) <|
  am_kd (fun d => ak_getI (C := RX8) (T := TX8) (N := 27) rfl inX8w (by decide) rfl rfl rfl wd_907 d rfl) <|
  am_kd (fun d => ak_lald (t := 1) (fun _ => rfl) rfl d rfl) <|
  am_kd (fun d => ak_callV (C := RX8) (F := TX8) (N := 27) metX8_lay rfl ⟨rfl, hy_X8_lay⟩ (am_w5 wd_1109 wd_1111 wd_34 wd_67 wd_1112) (by decide) d rfl) <|
  am_kd (fun d => ak_iconst d (by decide +kernel) rfl) <|
  am_kd (fun d => ak_retZ d) <| am_kdn
def TX8_behind : am_T := fun live as M R => match as with
  | [.ref n, .int c] => am_mn live ∧ n = 200 ∧ r_cw M 1 (fun w0 => w0 ≤ 59 ∧ (∀ M', r_wg M M' → R (some (.int 0)) M') ∧ ∀ M', r_wg M M' → r_wI M' (if c = 41 then 1 else 0) (w0 + 1) → R (some (.int 1)) M')
  | _ => False
set_option maxRecDepth 100000 in
set_option maxHeartbeats 4000000 in
theorem metX8_behind : am_Met yX8_behind cX8_behind 2 (some .boolean) (4) (85) TX8_behind := by
  refine am_met (own := RX8) (by decide +kernel) rfl kX8_behind koX8_behind 150 (fun _ _ _ _ _ => none) (fun live as M Ret h => ?_) (fun _ _ _ _ _ _ _ _ hI => by cases hI)
  unfold TX8_behind at h
  split at h
  · next n c =>
    refine ⟨Nat.le_of_ble_eq_true rfl, ?_⟩
    change am_wp _ _ _ _ [(0, Value.ref n), (1, Value.int c)] _ _
    obtain ⟨hmn, rfl, w0, hw, h9, h0, h1⟩ := h
    have hmn2 := hmn
    obtain ⟨i1, i2, rfl⟩ := hmn2
    have l205 : am_len 205 = 120 := rfl
    by_cases z1 : r_clo c ≤ 4
    · by_cases z2 : r_clo c = 4
      · have hn : ¬ r_clo c = 0 := fun q => by rw [z2] at q; exact absurd q (by decide)
        have h41 : ¬ c = 41 := fun q => hn (by rw [q]; decide)
        repeat' (first | (with_reducible exact hmn) | apply And.intro | exact rfl | (intro hx; with_reducible exact absurd z1 hx) | (intro hx; with_reducible exact absurd z2 hx) | (intro hx; exact absurd hx (by decide)) | (intro hx; exact absurd (by decide) hx) | decide | intro hx | (refine Exists.intro _ (And.intro rfl ?_)) | (refine r_cw_in hw (fun M1 c1 d1 => ?_)))
        all_goals try first | (with_reducible change am_tI _ _) | (change Ret _ _) | (change Ret _ _ _) | (change Exists _)
        all_goals try dsimp only at *
        all_goals try (with_reducible exact absurd ‹(1000 : Int64) = 0› am_z1000)
        all_goals first
          | decide
          | (left; rfl)
          | (right; rfl)
          | exact (r_wI.bd (by with_reducible assumption)).1
          | exact (r_wI.bd (by with_reducible assumption)).2
          | (have q := (r_wI.u (by with_reducible assumption)).1; omega)
          | exact h0 _ (r_wg.rf.k (by with_reducible assumption))
          | exact h1 _ ((r_wg.rf.k (by with_reducible assumption)).w204.w11) (by rw [if_neg h41]; exact r_push (by with_reducible assumption) (r_clo_wt hn) h9)
          | skip
      · by_cases z3 : r_clo c ≤ 0
        · have z30 : r_clo c = 0 := by
            have q := r_clo_nn c
            simp only [i_le, i_eq, Int32.reduceToInt] at z3 ⊢
            omega
          by_cases z4 : c = 63
          · have h41 : ¬ c = 41 := fun q => by rw [z4] at q; exact absurd q (by decide)
            repeat' (first | (with_reducible exact hmn) | apply And.intro | exact rfl | (intro hx; with_reducible exact absurd hx z2) | (intro hx; with_reducible exact absurd z1 hx) | (intro hx; with_reducible exact absurd z3 hx) | (intro hx; with_reducible exact absurd z4 hx) | (intro hx; exact absurd hx (by decide)) | (intro hx; exact absurd (by decide) hx) | decide | intro hx | (refine Exists.intro _ (And.intro rfl ?_)) | (refine r_cw_in hw (fun M1 c1 d1 => ?_)))
            all_goals try first | (with_reducible change am_tI _ _) | (change Ret _ _) | (change Ret _ _ _) | (change Exists _)
            all_goals try dsimp only at *
            all_goals try (with_reducible exact absurd ‹(1000 : Int64) = 0› am_z1000)
            all_goals first
              | decide
              | (right; rfl)
              | (have q := (r_wI.u (by with_reducible assumption)).1; omega)
              | exact h1 _ ((r_wg.rf.k (by with_reducible assumption)).w204.w11) (by rw [if_neg h41]; exact r_push (by with_reducible assumption) (by rw [z4]; decide) h9)
              | skip
          · by_cases z5 : c = 58
            · have h41 : ¬ c = 41 := fun q => by rw [z5] at q; exact absurd q (by decide)
              have g58 : r_wt c = 2 := by rw [z5]; decide
              have z5b : ¬ ¬ c = 58 := not_not_intro z5
              subst z5
              repeat' (first | (with_reducible exact hmn) | apply And.intro | exact rfl | (intro hx; with_reducible exact absurd hx z2) | (intro hx; with_reducible exact absurd hx z4) | (intro hx; with_reducible exact absurd z1 hx) | (intro hx; with_reducible exact absurd z3 hx) | (intro hx; exact absurd hx (by decide)) | (intro hx; exact absurd (by decide) hx) | decide | intro hx | (refine Exists.intro _ (And.intro rfl ?_)) | (refine r_cw_in hw (fun M1 c1 d1 => ?_)))
              all_goals try first | (with_reducible change am_tI _ _) | (change Ret _ _) | (change Ret _ _ _) | (change Exists _)
              all_goals try dsimp only at *
              all_goals try (with_reducible exact absurd ‹(1000 : Int64) = 0› am_z1000)
              all_goals first
                | decide
                | (left; rfl)
                | (right; rfl)
                | exact (r_wI.bd (by with_reducible assumption)).1
                | exact (r_wI.bd (by with_reducible assumption)).2
                | exact h0 _ (r_wg.rf.k (by with_reducible assumption))
                | skip
              all_goals
                have ht : r_top M1 = 63 := by with_reducible assumption
                have hp := r_top_pos (fun q => by rw [ht] at q; exact absurd q (by decide)) d1.u.1.1
                have ho := r_off1 d1 hp
                rw [ht] at ho
                have hu := ho.u.1
                first
                  | exact hu.1
                  | (show _ < _; have q := hu.2; omega)
                  | exact h1 _ ((r_wg.rf.k c1).w11.w204.w11) (by rw [if_neg h41]; exact r_push ho (by decide) h9)
                  | skip
            · by_cases z6 : c = 41
              · subst z6
                repeat' (first | (with_reducible exact hmn) | apply And.intro | exact rfl | (intro hx; with_reducible exact absurd hx z2) | (intro hx; with_reducible exact absurd hx z4) | (intro hx; with_reducible exact absurd hx z5) | (intro hx; with_reducible exact absurd z1 hx) | (intro hx; with_reducible exact absurd z3 hx) | (intro hx; exact absurd hx (by decide)) | (intro hx; exact absurd (by decide) hx) | decide | intro hx | (refine Exists.intro _ (And.intro rfl ?_)) | (refine r_cw_in hw (fun M1 c1 d1 => ?_)) | (refine r_cw_in (r_lay_in d1 (by with_reducible assumption)) ⟨h9, fun M2 c2 d2 => ?_⟩))
                all_goals try first | (with_reducible change am_tI _ _) | (change Ret _ _) | (change Ret _ _ _) | (change Exists _)
                all_goals try dsimp only at *
                all_goals try (with_reducible exact absurd ‹(1000 : Int64) = 0› am_z1000)
                all_goals first
                  | decide
                  | (left; rfl)
                  | (right; rfl)
                  | exact (r_wI.bd (by with_reducible assumption)).1
                  | exact (r_wI.bd (by with_reducible assumption)).2
                  | exact h0 _ (r_wg.rf.k (by with_reducible assumption))
                  | skip
                all_goals
                  have hd := r_lay_in d1 (by with_reducible assumption)
                  have hu := hd.u
                  first
                    | (rw [hu.2.1]; omega)
                    | (show _ < (120 : Int); have q := hu.2.2; have q2 := hu.1.2.2; omega)
                    | exact h1 _ ((((r_wg.rf.k c1).w11).w12).tr c2) (by rw [if_pos rfl]; exact d2)
                    | skip
              · skip
                repeat' (first | (with_reducible exact hmn) | apply And.intro | exact rfl | (intro hx; with_reducible exact absurd hx z2) | (intro hx; with_reducible exact absurd hx z4) | (intro hx; with_reducible exact absurd hx z5) | (intro hx; with_reducible exact absurd hx z6) | (intro hx; with_reducible exact absurd z1 hx) | (intro hx; with_reducible exact absurd z3 hx) | (intro hx; exact absurd hx (by decide)) | (intro hx; exact absurd (by decide) hx) | decide | intro hx | (refine Exists.intro _ (And.intro rfl ?_)))
                all_goals try first | (with_reducible change am_tI _ _) | (change Ret _ _) | (change Ret _ _ _) | (change Exists _)
                all_goals try dsimp only at *
                all_goals try (with_reducible exact absurd ‹(1000 : Int64) = 0› am_z1000)
                all_goals first
                  | (left; rfl)
                  | (with_reducible exact h0 _ r_wg.rf)
                  | exact h0 _ r_wg.rf
                  | skip
        · have hn : ¬ r_clo c = 0 := fun q => z3 (by rw [q]; decide)
          have h41 : ¬ c = 41 := fun q => hn (by rw [q]; decide)
          have hg : 1 ≤ (r_clo c).toInt := by simp only [i_le, Int32.reduceToInt] at z3; omega
          repeat' (first | (with_reducible exact hmn) | (with_reducible exact hg) | apply And.intro | exact rfl | (intro hx; with_reducible exact absurd hx z2) | (intro hx; with_reducible exact absurd hx z3) | (intro hx; with_reducible exact absurd z1 hx) | (intro hx; exact absurd hx (by decide)) | (intro hx; exact absurd (by decide) hx) | decide | intro hx | (refine Exists.intro _ (And.intro rfl ?_)) | (refine r_cw_in hw (fun M1 c1 d1 => ?_)))
          all_goals try first | (with_reducible change am_tI _ _) | (change Ret _ _) | (change Ret _ _ _) | (change Exists _)
          all_goals try dsimp only at *
          all_goals try (with_reducible exact absurd ‹(1000 : Int64) = 0› am_z1000)
          all_goals first
            | (with_reducible exact hg)
            | (right; rfl)
            | (have q := (r_wI.u (by with_reducible assumption)).1; omega)
            | exact h1 _ ((r_wg.rf.k (by with_reducible assumption)).w204.w11) (by rw [if_neg h41]; exact r_push (by with_reducible assumption) (r_clo_wt hn) h9)
            | exact hg
            | skip
    · have hn : ¬ r_clo c = 0 := fun q => z1 (by rw [q]; decide)
      have h41 : ¬ c = 41 := fun q => hn (by rw [q]; decide)
      have hg : 1 ≤ (r_clo c).toInt := by simp only [i_le, Int32.reduceToInt] at z1; omega
      repeat' (first | (with_reducible exact hmn) | (with_reducible exact hg) | apply And.intro | exact rfl | (intro hx; with_reducible exact absurd hx z1) | (intro hx; exact absurd hx (by decide)) | (intro hx; exact absurd (by decide) hx) | decide | intro hx | (refine Exists.intro _ (And.intro rfl ?_)) | (refine r_cw_in hw (fun M1 c1 d1 => ?_)))
      all_goals try first | (with_reducible change am_tI _ _) | (change Ret _ _) | (change Ret _ _ _) | (change Exists _)
      all_goals try dsimp only at *
      all_goals try (with_reducible exact absurd ‹(1000 : Int64) = 0› am_z1000)
      all_goals first
        | (with_reducible exact hg)
        | (right; rfl)
        | (have q := (r_wI.u (by with_reducible assumption)).1; omega)
        | exact h1 _ ((r_wg.rf.k (by with_reducible assumption)).w204.w11) (by rw [if_neg h41]; exact r_push (by with_reducible assumption) (r_clo_wt hn) h9)
        | exact hg
        | skip
  · exact h.elim
end
-- part 57.rwork4.lean.txt
section
/-! general: the reference's reader of texts: work, fault -/
set_option maxRecDepth 100000 in
theorem wd_1106 : Cond.constantLong "LearnLoansModel" 181 48 ∈ am_ws := am_wt5 (List.mem_of_getElem? (i := 89) (by rfl)) (by decide +kernel)
set_option maxRecDepth 100000 in
theorem wd_1107 : Cond.constantLong "LearnLoansModel" 183 57 ∈ am_ws := am_wt5 (List.mem_of_getElem? (i := 90) (by rfl)) (by decide +kernel)
set_option maxRecDepth 100000 in
theorem wd_909 : Cond.fieldLink "LearnLoansModel" 185 "LearnLoansModel" "faultAt" "I" ∈ am_ws := am_wt4 (List.mem_of_getElem? (i := 132) (by rfl)) (by decide +kernel)
theorem hy_X8_factOf : yX8_factOf.cls ≠ "java/lang/invoke/MethodHandle" ∧ yX8_factOf.cls ≠ "java/lang/invoke/VarHandle" ∧ (parseMethodDescriptor yX8_factOf.desc).map (fun d => d.parameters.length) = some 1 := ⟨by decide +kernel, by decide +kernel, by decide +kernel⟩
set_option maxRecDepth 100000 in
theorem wd_1120 : Cond.methodLink "LearnLoansModel" 190 yX8_factOf ∈ am_ws := am_wt5 (List.mem_of_getElem? (i := 103) (by rfl)) (by decide +kernel)
set_option maxRecDepth 100000 in
theorem wd_1121 : Cond.static yX8_factOf ∈ am_ws := am_wt5 (List.mem_of_getElem? (i := 104) (by rfl)) (by decide +kernel)
set_option maxRecDepth 100000 in
theorem wd_1122 : Cond.code yX8_factOf cX8_factOf 1 (some .int) ∈ am_ws := am_wt5 (List.mem_of_getElem? (i := 105) (by rfl)) (by decide +kernel)
theorem hy_X8_opened : yX8_opened.cls ≠ "java/lang/invoke/MethodHandle" ∧ yX8_opened.cls ≠ "java/lang/invoke/VarHandle" ∧ (parseMethodDescriptor yX8_opened.desc).map (fun d => d.parameters.length) = some 0 := ⟨by decide +kernel, by decide +kernel, by decide +kernel⟩
set_option maxRecDepth 100000 in
theorem wd_1123 : Cond.methodLink "LearnLoansModel" 193 yX8_opened ∈ am_ws := am_wt5 (List.mem_of_getElem? (i := 106) (by rfl)) (by decide +kernel)
set_option maxRecDepth 100000 in
theorem wd_1125 : Cond.instanceMethod yX8_opened ∈ am_ws := am_wt5 (List.mem_of_getElem? (i := 108) (by rfl)) (by decide +kernel)
set_option maxRecDepth 100000 in
theorem wd_36 : Cond.selects "LearnLoansModel" yX8_opened yX8_opened ∈ am_ws := am_wsi (List.mem_of_getElem? (i := 36) (by rfl)) (by decide +kernel)
set_option maxRecDepth 100000 in
theorem wd_1126 : Cond.code yX8_opened cX8_opened 3 (some .int) ∈ am_ws := am_wt5 (List.mem_of_getElem? (i := 109) (by rfl)) (by decide +kernel)
theorem hy_X8_behind : yX8_behind.cls ≠ "java/lang/invoke/MethodHandle" ∧ yX8_behind.cls ≠ "java/lang/invoke/VarHandle" ∧ (parseMethodDescriptor yX8_behind.desc).map (fun d => d.parameters.length) = some 1 := ⟨by decide +kernel, by decide +kernel, by decide +kernel⟩
set_option maxRecDepth 100000 in
theorem wd_1131 : Cond.methodLink "LearnLoansModel" 196 yX8_behind ∈ am_ws := am_wt5 (List.mem_of_getElem? (i := 114) (by rfl)) (by decide +kernel)
set_option maxRecDepth 100000 in
theorem wd_1133 : Cond.instanceMethod yX8_behind ∈ am_ws := am_wt5 (List.mem_of_getElem? (i := 116) (by rfl)) (by decide +kernel)
set_option maxRecDepth 100000 in
theorem wd_38 : Cond.selects "LearnLoansModel" yX8_behind yX8_behind ∈ am_ws := am_wsi (List.mem_of_getElem? (i := 38) (by rfl)) (by decide +kernel)
set_option maxRecDepth 100000 in
theorem wd_1134 : Cond.code yX8_behind cX8_behind 2 (some .boolean) ∈ am_ws := am_wt5 (List.mem_of_getElem? (i := 117) (by rfl)) (by decide +kernel)
def rwX8_work : List dz_r := [(0, .sipush 3258, 3), (3, .bipush 50, 2), (5, .iload_n 1, 1), (6, .imul, 1), (7, .iadd, 1), (8, .istore_n 2, 1), (9, .aload_n 0, 1), (10, .getfield 7, 3), (13, .sipush 3508, 3), (16, .iload_n 1, 1), (17, .iadd, 1), (18, .iaload, 1), (19, .istore_n 3, 1), (20, .aload_n 0, 1), (21, .iconst 0, 1), (22, .putfield 150, 3), (25, .aload_n 0, 1), (26, .iconst 0, 1), (27, .putfield 153, 3), (30, .iconst 1, 1), (31, .istore 4, 2), (33, .iconst 0, 1), (34, .istore 5, 2), (36, .iload 5, 2), (38, .iload_n 3, 1), (39, .if_icmp .ge 319, 3), (42, .aload_n 0, 1), (43, .getfield 7, 3), (46, .iload_n 2, 1), (47, .iload 5, 2), (49, .iadd, 1), (50, .iaload, 1), (51, .istore 6, 2), (53, .iload 6, 2), (55, .bipush 32, 2), (57, .if_icmp .ne 9, 3), (60, .iinc 5 1, 3), (63, .goto 292, 3), (66, .iload 4, 2), (68, .ifCond .eq 117, 3), (71, .iload 6, 2), (73, .i2l, 1), (74, .ldc2_w 181, 3), (77, .ldc2_w 183, 3), (80, .invokestatic 66, 3), (83, .ifCond .eq 102, 3), (86, .iload 5, 2), (88, .istore 7, 2), (90, .lconst 0, 1), (91, .lstore 8, 2), (93, .iload 5, 2), (95, .iload_n 3, 1), (96, .if_icmp .ge 77, 3), (99, .aload_n 0, 1), (100, .getfield 7, 3), (103, .iload_n 2, 1), (104, .iload 5, 2), (106, .iadd, 1), (107, .iaload, 1), (108, .i2l, 1), (109, .ldc2_w 181, 3), (112, .ldc2_w 183, 3), (115, .invokestatic 66, 3), (118, .ifCond .eq 55, 3), (121, .iload 5, 2), (123, .iload 7, 2), (125, .isub, 1), (126, .bipush 6, 2), (128, .if_icmp .ne 16, 3), (131, .aload_n 0, 1), (132, .bipush 10, 2), (134, .iload 7, 2), (136, .imul, 1), (137, .iconst 2, 1), (138, .iadd, 1), (139, .putfield 185, 3), (142, .iconst 0, 1), (143, .ireturn, 1), (144, .ldc2_w 188, 3), (147, .lload 8, 2), (149, .lmul, 1), (150, .aload_n 0, 1), (151, .getfield 7, 3), (154, .iload_n 2, 1), (155, .iload 5, 2), (157, .iadd, 1), (158, .iaload, 1), (159, .i2l, 1), (160, .ladd, 1), (161, .ldc2_w 181, 3), (164, .lsub, 1), (165, .lstore 8, 2), (167, .iinc 5 1, 3), (170, .goto (-77), 3), (173, .aload_n 0, 1), (174, .lload 8, 2), (176, .invokevirtual 177, 3), (179, .iconst 0, 1), (180, .istore 4, 2), (182, .goto 173, 3), (185, .iload 4, 2), (187, .ifCond .eq 34, 3), (190, .iload 6, 2), (192, .invokestatic 190, 3), (195, .ifCond .lt 26, 3), (198, .aload_n 0, 1), (199, .aload_n 0, 1), (200, .getfield 27, 3), (203, .iload 6, 2), (205, .invokestatic 190, 3), (208, .laload, 1), (209, .invokevirtual 177, 3), (212, .iconst 0, 1), (213, .istore 4, 2), (215, .iinc 5 1, 3), (218, .goto 137, 3), (221, .iload 4, 2), (223, .ifCond .eq 44, 3), (226, .iload 6, 2), (228, .bipush 40, 2), (230, .if_icmp .ne 37, 3), (233, .aload_n 0, 1), (234, .invokevirtual 193, 3), (237, .bipush 8, 2), (239, .if_icmp .ne 16, 3), (242, .aload_n 0, 1), (243, .bipush 10, 2), (245, .iload 5, 2), (247, .imul, 1), (248, .iconst 3, 1), (249, .iadd, 1), (250, .putfield 185, 3), (253, .iconst 0, 1), (254, .ireturn, 1), (255, .aload_n 0, 1), (256, .bipush 40, 2), (258, .invokevirtual 171, 3), (261, .iinc 5 1, 3), (264, .goto 91, 3), (267, .iload 4, 2), (269, .ifCond .eq 39, 3), (272, .iload 6, 2), (274, .bipush 33, 2), (276, .if_icmp .eq 10, 3), (279, .iload 6, 2), (281, .bipush 45, 2), (283, .if_icmp .ne 25, 3), (286, .aload_n 0, 1), (287, .iload 6, 2), (289, .bipush 33, 2), (291, .if_icmp .ne 7, 3), (294, .iconst 1, 1), (295, .goto 4, 3), (298, .iconst 2, 1), (299, .invokevirtual 171, 3), (302, .iinc 5 1, 3), (305, .goto 50, 3), (308, .iload 4, 2), (310, .ifCond .ne 32, 3), (313, .aload_n 0, 1), (314, .iload 6, 2), (316, .invokevirtual 196, 3), (319, .ifCond .eq 23, 3), (322, .iload 6, 2), (324, .bipush 41, 2), (326, .if_icmp .eq 7, 3), (329, .iconst 1, 1), (330, .goto 4, 3), (333, .iconst 0, 1), (334, .istore 4, 2), (336, .iinc 5 1, 3), (339, .goto 16, 3), (342, .aload_n 0, 1), (343, .bipush 10, 2), (345, .iload 5, 2), (347, .imul, 1), (348, .iconst 1, 1), (349, .iadd, 1), (350, .putfield 185, 3), (353, .iconst 0, 1), (354, .ireturn, 1), (355, .goto (-319), 3), (358, .iload 4, 2), (360, .ifCond .ne 7, 3), (363, .aload_n 0, 1), (364, .invokevirtual 174, 3), (367, .aload_n 0, 1), (368, .bipush 10, 2), (370, .iload_n 3, 1), (371, .imul, 1), (372, .iconst 1, 1), (373, .iadd, 1), (374, .putfield 185, 3), (377, .iload 4, 2), (379, .ifCond .ne 14, 3), (382, .aload_n 0, 1), (383, .getfield 150, 3), (386, .ifCond .ne 7, 3), (389, .iconst 1, 1), (390, .goto 4, 3), (393, .iconst 0, 1), (394, .ireturn, 1)]
theorem dzX8_work : dz cX8_work rwX8_work := dz_all 0 (by decide +kernel)
def kX8_work (live : am_E) (Ret : am_R) : am_code := [(0, am_const (.int 3258) 3), (3, am_const (.int 50) 5), (5, am_iload 1 6), (6, am_i2 (fun x y => x * y) 7), (7, am_i2 (fun x y => x + y) 8), (8, am_istore 2 10 9), (9, am_aload 0 10), (10, am_getR live 8 0 13), (13, am_const (.int 3508) 16), (16, am_iload 1 17), (17, am_i2 (fun x y => x + y) 18), (18, am_ald live 0 19), (19, am_istore 3 10 20), (20, am_aload 0 21), (21, am_const (.int 0) 22), (22, am_putI live 8 11 25), (25, am_aload 0 26), (26, am_const (.int 0) 27), (27, am_putI live 8 12 30), (30, am_const (.int 1) 31), (31, am_istore 4 10 33), (33, am_const (.int 0) 34), (34, am_istore 5 10 36), (36, am_iload 5 38), (38, am_iload 3 39), (39, am_if2 (fun x y => y ≤ x) 358 42), (42, am_aload 0 43), (43, am_getR live 8 0 46), (46, am_iload 2 47), (47, am_iload 5 49), (49, am_i2 (fun x y => x + y) 50), (50, am_ald live 0 51), (51, am_istore 6 10 53), (53, am_iload 6 55), (55, am_const (.int 32) 57), (57, am_if2 (fun x y => x = y) 60 66), (60, am_iinc 5 10 1 63), (63, am_goto 355), (66, am_iload 4 68), (68, am_if1 (fun x => x = 0) 185 71), (71, am_iload 6 73), (73, am_i2l 74), (74, am_const (.long 48) 77), (77, am_const (.long 57) 80), (80, am_callS live 3 TX8_in 83), (83, am_if1 (fun x => x = 0) 185 86), (86, am_iload 5 88), (88, am_istore 7 10 90), (90, am_const (.long 0) 91), (91, am_lstore 8 10 93), (93, am_iload 5 95), (95, am_iload 3 96), (96, am_if2 (fun x y => y ≤ x) 173 99), (99, am_aload 0 100), (100, am_getR live 8 0 103), (103, am_iload 2 104), (104, am_iload 5 106), (106, am_i2 (fun x y => x + y) 107), (107, am_ald live 0 108), (108, am_i2l 109), (109, am_const (.long 48) 112), (112, am_const (.long 57) 115), (115, am_callS live 3 TX8_in 118), (118, am_if1 (fun x => x = 0) 173 121), (121, am_iload 5 123), (123, am_iload 7 125), (125, am_i2 (fun x y => x - y) 126), (126, am_const (.int 6) 128), (128, am_if2 (fun x y => x = y) 131 144), (131, am_aload 0 132), (132, am_const (.int 10) 134), (134, am_iload 7 136), (136, am_i2 (fun x y => x * y) 137), (137, am_const (.int 2) 138), (138, am_i2 (fun x y => x + y) 139), (139, am_putI live 8 14 142), (142, am_const (.int 0) 143), (143, am_retZ Ret), (144, am_const (.long 10) 147), (147, am_lload 8 149), (149, am_l2 (fun x y => x * y) 150), (150, am_aload 0 151), (151, am_getR live 8 0 154), (154, am_iload 2 155), (155, am_iload 5 157), (157, am_i2 (fun x y => x + y) 158), (158, am_ald live 0 159), (159, am_i2l 160), (160, am_l2 (fun x y => x + y) 161), (161, am_const (.long 48) 164), (164, am_l2 (fun x y => x - y) 165), (165, am_lstore 8 10 167), (167, am_iinc 5 10 1 170), (170, am_goto 93), (173, am_aload 0 174), (174, am_lload 8 176), (176, am_callV live 8 1 TX8_lay 179), (179, am_const (.int 0) 180), (180, am_istore 4 10 182), (182, am_goto 355), (185, am_iload 4 187), (187, am_if1 (fun x => x = 0) 221 190), (190, am_iload 6 192), (192, am_callS live 1 TX8_factOf 195), (195, am_if1 (fun x => x < 0) 221 198), (198, am_aload 0 199), (199, am_aload 0 200), (200, am_getR live 8 13 203), (203, am_iload 6 205), (205, am_callS live 1 TX8_factOf 208), (208, am_lald live 1 209), (209, am_callV live 8 1 TX8_lay 212), (212, am_const (.int 0) 213), (213, am_istore 4 10 215), (215, am_iinc 5 10 1 218), (218, am_goto 355), (221, am_iload 4 223), (223, am_if1 (fun x => x = 0) 267 226), (226, am_iload 6 228), (228, am_const (.int 40) 230), (230, am_if2 (fun x y => x = y) 233 267), (233, am_aload 0 234), (234, am_callV live 8 0 TX8_opened 237), (237, am_const (.int 8) 239), (239, am_if2 (fun x y => x = y) 242 255), (242, am_aload 0 243), (243, am_const (.int 10) 245), (245, am_iload 5 247), (247, am_i2 (fun x y => x * y) 248), (248, am_const (.int 3) 249), (249, am_i2 (fun x y => x + y) 250), (250, am_putI live 8 14 253), (253, am_const (.int 0) 254), (254, am_retZ Ret), (255, am_aload 0 256), (256, am_const (.int 40) 258), (258, am_callV live 8 1 TX8_wait 261), (261, am_iinc 5 10 1 264), (264, am_goto 355), (267, am_iload 4 269), (269, am_if1 (fun x => x = 0) 308 272), (272, am_iload 6 274), (274, am_const (.int 33) 276), (276, am_if2 (fun x y => x = y) 286 279), (279, am_iload 6 281), (281, am_const (.int 45) 283), (283, am_if2 (fun x y => x = y) 286 308), (286, am_aload 0 287), (287, am_iload 6 289), (289, am_const (.int 33) 291), (291, am_if2 (fun x y => x = y) 294 298), (294, am_const (.int 1) 295), (295, am_goto 299), (298, am_const (.int 2) 299), (299, am_callV live 8 1 TX8_wait 302), (302, am_iinc 5 10 1 305), (305, am_goto 355), (308, am_iload 4 310), (310, am_if1 (fun x => x = 0) 313 342), (313, am_aload 0 314), (314, am_iload 6 316), (316, am_callV live 8 1 TX8_behind 319), (319, am_if1 (fun x => x = 0) 342 322), (322, am_iload 6 324), (324, am_const (.int 41) 326), (326, am_if2 (fun x y => x = y) 333 329), (329, am_const (.int 1) 330), (330, am_goto 334), (333, am_const (.int 0) 334), (334, am_istore 4 10 336), (336, am_iinc 5 10 1 339), (339, am_goto 355), (342, am_aload 0 343), (343, am_const (.int 10) 345), (345, am_iload 5 347), (347, am_i2 (fun x y => x * y) 348), (348, am_const (.int 1) 349), (349, am_i2 (fun x y => x + y) 350), (350, am_putI live 8 14 353), (353, am_const (.int 0) 354), (354, am_retZ Ret), (355, am_goto 36), (358, am_iload 4 360), (360, am_if1 (fun x => x = 0) 363 367), (363, am_aload 0 364), (364, am_callV live 8 0 TX8_choose 367), (367, am_aload 0 368), (368, am_const (.int 10) 370), (370, am_iload 3 371), (371, am_i2 (fun x y => x * y) 372), (372, am_const (.int 1) 373), (373, am_i2 (fun x y => x + y) 374), (374, am_putI live 8 14 377), (377, am_iload 4 379), (379, am_if1 (fun x => x = 0) 382 393), (382, am_aload 0 383), (383, am_getI live 8 11 386), (386, am_if1 (fun x => x = 0) 389 393), (389, am_const (.int 1) 390), (390, am_goto 394), (393, am_const (.int 0) 394), (394, am_retZ Ret)]
theorem koX8_work (live : am_E) (Ret : am_R) : ∀ q ∈ kX8_work live Ret, am_ok RX8 cX8_work 10 (some .boolean) 5 106 live Ret q.1 q.2 :=
  am_kz dzX8_work <|
  am_kd (fun d => ak_sipush d (by decide +kernel) rfl) <|
  am_kd (fun d => ak_bipush d (by decide +kernel) rfl) <|
  am_kd (fun d => ak_iload_n d rfl rfl) <|
  am_kd (fun d => ak_imul d rfl) <|
  am_kd (fun d => ak_iadd d rfl) <|
  am_kd (fun d => ak_istore_n d rfl rfl) <|
  am_kd (fun d => ak_aload_n d rfl rfl) <|
  am_kd (fun d => ak_getR (C := RX8) (T := TX8) (N := 27) rfl inX8w (by decide) rfl rfl rfl wd_895 d rfl) <|
  am_kd (fun d => ak_sipush d (by decide +kernel) rfl) <|
  am_kd (fun d => ak_iload_n d rfl rfl) <|
  am_kd (fun d => ak_iadd d rfl) <|
  am_kd (fun d => ak_iald (t := 0) (fun _ => rfl) rfl d rfl) <|
  am_kd (fun d => ak_istore_n d rfl rfl) <|
  am_kd (fun d => ak_aload_n d rfl rfl) <|
  am_kd (fun d => ak_iconst d (by decide +kernel) rfl) <|
  am_kd (fun d => ak_putI (C := RX8) (T := TX8) (N := 27) rfl inX8w tyX8_ok nmX8 (by decide) rfl rfl rfl rfl (by decide +kernel) wd_906 d rfl) <|
  am_kd (fun d => ak_aload_n d rfl rfl) <|
  am_kd (fun d => ak_iconst d (by decide +kernel) rfl) <|
  am_kd (fun d => ak_putI (C := RX8) (T := TX8) (N := 27) rfl inX8w tyX8_ok nmX8 (by decide) rfl rfl rfl rfl (by decide +kernel) wd_907 d rfl) <|
  am_kd (fun d => ak_iconst d (by decide +kernel) rfl) <|
  am_kd (fun d => ak_istore d rfl) <|
  am_kd (fun d => ak_iconst d (by decide +kernel) rfl) <|
  am_kd (fun d => ak_istore d rfl) <|
  am_kd (fun d => ak_iload d rfl) <|
  am_kd (fun d => ak_iload_n d rfl rfl) <|
  am_kd (fun d => ak_icmp_ge d (by decide +kernel) rfl) <|
  am_kd (fun d => ak_aload_n d rfl rfl) <|
  am_kd (fun d => ak_getR (C := RX8) (T := TX8) (N := 27) rfl inX8w (by decide) rfl rfl rfl wd_895 d rfl) <|
  am_kd (fun d => ak_iload_n d rfl rfl) <|
  am_kd (fun d => ak_iload d rfl) <|
  am_kd (fun d => ak_iadd d rfl) <|
  am_kd (fun d => ak_iald (t := 0) (fun _ => rfl) rfl d rfl) <|
  am_kd (fun d => ak_istore d rfl) <|
  am_kd (fun d => ak_iload d rfl) <|
  am_kd (fun d => ak_bipush d (by decide +kernel) rfl) <|
  am_kd (fun d => ak_icmp_ne d (by decide +kernel) rfl) <|
  am_kd (fun d => ak_iinc d (by decide +kernel) rfl) <|
  am_kd (fun d => ak_goto d (by decide +kernel)) <|
  am_kd (fun d => ak_iload d rfl) <|
  am_kd (fun d => ak_if_eq d (by decide +kernel) rfl) <|
  am_kd (fun d => ak_iload d rfl) <|
  am_kd (fun d => ak_i2l d rfl) <|
  am_kd (fun d => ak_ldc2 wd_1106 d rfl) <|
  am_kd (fun d => ak_ldc2 wd_1107 d rfl) <|
  am_kd (fun d => ak_callS metX8_in ⟨rfl, hy_X8_in⟩ (am_w4 wd_986 wd_987 wd_67 wd_988) (by decide) d rfl) <|
  am_kd (fun d => ak_if_eq d (by decide +kernel) rfl) <|
  am_kd (fun d => ak_iload d rfl) <|
  am_kd (fun d => ak_istore d rfl) <|
  am_kd (fun d => ak_lconst d (by decide +kernel) rfl) <|
  am_kd (fun d => ak_lstore d rfl) <|
  am_kd (fun d => ak_iload d rfl) <|
  am_kd (fun d => ak_iload_n d rfl rfl) <|
  am_kd (fun d => ak_icmp_ge d (by decide +kernel) rfl) <|
  am_kd (fun d => ak_aload_n d rfl rfl) <|
  am_kd (fun d => ak_getR (C := RX8) (T := TX8) (N := 27) rfl inX8w (by decide) rfl rfl rfl wd_895 d rfl) <|
  am_kd (fun d => ak_iload_n d rfl rfl) <|
  am_kd (fun d => ak_iload d rfl) <|
  am_kd (fun d => ak_iadd d rfl) <|
  am_kd (fun d => ak_iald (t := 0) (fun _ => rfl) rfl d rfl) <|
  am_kd (fun d => ak_i2l d rfl) <|
  am_kd (fun d => ak_ldc2 wd_1106 d rfl) <|
  am_kd (fun d => ak_ldc2 wd_1107 d rfl) <|
  am_kd (fun d => ak_callS metX8_in ⟨rfl, hy_X8_in⟩ (am_w4 wd_986 wd_987 wd_67 wd_988) (by decide) d rfl) <|
  am_kd (fun d => ak_if_eq d (by decide +kernel) rfl) <|
  am_kd (fun d => ak_iload d rfl) <|
  am_kd (fun d => ak_iload d rfl) <|
  am_kd (fun d => ak_isub d rfl) <|
  am_kd (fun d => ak_bipush d (by decide +kernel) rfl) <|
  am_kd (fun d => ak_icmp_ne d (by decide +kernel) rfl) <|
  am_kd (fun d => ak_aload_n d rfl rfl) <|
  am_kd (fun d => ak_bipush d (by decide +kernel) rfl) <|
  am_kd (fun d => ak_iload d rfl) <|
  am_kd (fun d => ak_imul d rfl) <|
  am_kd (fun d => ak_iconst d (by decide +kernel) rfl) <|
  am_kd (fun d => ak_iadd d rfl) <|
  am_kd (fun d => ak_putI (C := RX8) (T := TX8) (N := 27) rfl inX8w tyX8_ok nmX8 (by decide) rfl rfl rfl rfl (by decide +kernel) wd_909 d rfl) <|
  am_kd (fun d => ak_iconst d (by decide +kernel) rfl) <|
  am_kd (fun d => ak_retZ d) <|
  am_kd (fun d => ak_ldc2 wd_1108 d rfl) <|
  am_kd (fun d => ak_lload d rfl) <|
  am_kd (fun d => ak_lmul d rfl) <|
  am_kd (fun d => ak_aload_n d rfl rfl) <|
  am_kd (fun d => ak_getR (C := RX8) (T := TX8) (N := 27) rfl inX8w (by decide) rfl rfl rfl wd_895 d rfl) <|
  am_kd (fun d => ak_iload_n d rfl rfl) <|
  am_kd (fun d => ak_iload d rfl) <|
  am_kd (fun d => ak_iadd d rfl) <|
  am_kd (fun d => ak_iald (t := 0) (fun _ => rfl) rfl d rfl) <|
  am_kd (fun d => ak_i2l d rfl) <|
  am_kd (fun d => ak_ladd d rfl) <|
  am_kd (fun d => ak_ldc2 wd_1106 d rfl) <|
  am_kd (fun d => ak_lsub d rfl) <|
  am_kd (fun d => ak_lstore d rfl) <|
  am_kd (fun d => ak_iinc d (by decide +kernel) rfl) <|
  am_kd (fun d => ak_goto d (by decide +kernel)) <|
  am_kd (fun d => ak_aload_n d rfl rfl) <|
  am_kd (fun d => ak_lload d rfl) <|
  am_kd (fun d => ak_callV (C := RX8) (F := TX8) (N := 27) metX8_lay rfl ⟨rfl, hy_X8_lay⟩ (am_w5 wd_1109 wd_1111 wd_34 wd_67 wd_1112) (by decide) d rfl) <|
  am_kd (fun d => ak_iconst d (by decide +kernel) rfl) <|
  am_kd (fun d => ak_istore d rfl) <|
  am_kd (fun d => ak_goto d (by decide +kernel)) <|
  am_kd (fun d => ak_iload d rfl) <|
  am_kd (fun d => ak_if_eq d (by decide +kernel) rfl) <|
  am_kd (fun d => ak_iload d rfl) <|
  am_kd (fun d => ak_callS metX8_factOf ⟨rfl, hy_X8_factOf⟩ (am_w4 wd_1120 wd_1121 wd_67 wd_1122) (by decide) d rfl) <|
  am_kd (fun d => ak_if_lt d (by decide +kernel) rfl) <|
  am_kd (fun d => ak_aload_n d rfl rfl) <|
  am_kd (fun d => ak_aload_n d rfl rfl) <|
  am_kd (fun d => ak_getR (C := RX8) (T := TX8) (N := 27) rfl inX8w (by decide) rfl rfl rfl wd_908 d rfl) <|
  am_kd (fun d => ak_iload d rfl) <|
  am_kd (fun d => ak_callS metX8_factOf ⟨rfl, hy_X8_factOf⟩ (am_w4 wd_1120 wd_1121 wd_67 wd_1122) (by decide) d rfl) <|
  am_kd (fun d => ak_lald (t := 1) (fun _ => rfl) rfl d rfl) <|
  am_kd (fun d => ak_callV (C := RX8) (F := TX8) (N := 27) metX8_lay rfl ⟨rfl, hy_X8_lay⟩ (am_w5 wd_1109 wd_1111 wd_34 wd_67 wd_1112) (by decide) d rfl) <|
  am_kd (fun d => ak_iconst d (by decide +kernel) rfl) <|
  am_kd (fun d => ak_istore d rfl) <|
  am_kd (fun d => ak_iinc d (by decide +kernel) rfl) <|
  am_kd (fun d => ak_goto d (by decide +kernel)) <|
  am_kd (fun d => ak_iload d rfl) <|
  am_kd (fun d => ak_if_eq d (by decide +kernel) rfl) <|
  am_kd (fun d => ak_iload d rfl) <|
  am_kd (fun d => ak_bipush d (by decide +kernel) rfl) <|
  am_kd (fun d => ak_icmp_ne d (by decide +kernel) rfl) <|
  am_kd (fun d => ak_aload_n d rfl rfl) <|
  am_kd (fun d => ak_callV (C := RX8) (F := TX8) (N := 27) metX8_opened rfl ⟨rfl, hy_X8_opened⟩ (am_w5 wd_1123 wd_1125 wd_36 wd_67 wd_1126) (by decide) d rfl) <|
  am_kd (fun d => ak_bipush d (by decide +kernel) rfl) <|
  am_kd (fun d => ak_icmp_ne d (by decide +kernel) rfl) <|
  am_kd (fun d => ak_aload_n d rfl rfl) <|
  am_kd (fun d => ak_bipush d (by decide +kernel) rfl) <|
  am_kd (fun d => ak_iload d rfl) <|
  am_kd (fun d => ak_imul d rfl) <|
  am_kd (fun d => ak_iconst d (by decide +kernel) rfl) <|
  am_kd (fun d => ak_iadd d rfl) <|
  am_kd (fun d => ak_putI (C := RX8) (T := TX8) (N := 27) rfl inX8w tyX8_ok nmX8 (by decide) rfl rfl rfl rfl (by decide +kernel) wd_909 d rfl) <|
  am_kd (fun d => ak_iconst d (by decide +kernel) rfl) <|
  am_kd (fun d => ak_retZ d) <|
  am_kd (fun d => ak_aload_n d rfl rfl) <|
  am_kd (fun d => ak_bipush d (by decide +kernel) rfl) <|
  am_kd (fun d => ak_callV (C := RX8) (F := TX8) (N := 27) metX8_wait rfl ⟨rfl, hy_X8_wait⟩ (am_w5 wd_1127 wd_1129 wd_37 wd_67 wd_1130) (by decide) d rfl) <|
  am_kd (fun d => ak_iinc d (by decide +kernel) rfl) <|
  am_kd (fun d => ak_goto d (by decide +kernel)) <|
  am_kd (fun d => ak_iload d rfl) <|
  am_kd (fun d => ak_if_eq d (by decide +kernel) rfl) <|
  am_kd (fun d => ak_iload d rfl) <|
  am_kd (fun d => ak_bipush d (by decide +kernel) rfl) <|
  am_kd (fun d => ak_icmp_eq d (by decide +kernel) rfl) <|
  am_kd (fun d => ak_iload d rfl) <|
  am_kd (fun d => ak_bipush d (by decide +kernel) rfl) <|
  am_kd (fun d => ak_icmp_ne d (by decide +kernel) rfl) <|
  am_kd (fun d => ak_aload_n d rfl rfl) <|
  am_kd (fun d => ak_iload d rfl) <|
  am_kd (fun d => ak_bipush d (by decide +kernel) rfl) <|
  am_kd (fun d => ak_icmp_ne d (by decide +kernel) rfl) <|
  am_kd (fun d => ak_iconst d (by decide +kernel) rfl) <|
  am_kd (fun d => ak_goto d (by decide +kernel)) <|
  am_kd (fun d => ak_iconst d (by decide +kernel) rfl) <|
  am_kd (fun d => ak_callV (C := RX8) (F := TX8) (N := 27) metX8_wait rfl ⟨rfl, hy_X8_wait⟩ (am_w5 wd_1127 wd_1129 wd_37 wd_67 wd_1130) (by decide) d rfl) <|
  am_kd (fun d => ak_iinc d (by decide +kernel) rfl) <|
  am_kd (fun d => ak_goto d (by decide +kernel)) <|
  am_kd (fun d => ak_iload d rfl) <|
  am_kd (fun d => ak_if_ne d (by decide +kernel) rfl) <|
  am_kd (fun d => ak_aload_n d rfl rfl) <|
  am_kd (fun d => ak_iload d rfl) <|
  am_kd (fun d => ak_callV (C := RX8) (F := TX8) (N := 27) metX8_behind rfl ⟨rfl, hy_X8_behind⟩ (am_w5 wd_1131 wd_1133 wd_38 wd_67 wd_1134) (by decide) d rfl) <|
  am_kd (fun d => ak_if_eq d (by decide +kernel) rfl) <|
  am_kd (fun d => ak_iload d rfl) <|
  am_kd (fun d => ak_bipush d (by decide +kernel) rfl) <|
  am_kd (fun d => ak_icmp_eq d (by decide +kernel) rfl) <|
  am_kd (fun d => ak_iconst d (by decide +kernel) rfl) <|
  am_kd (fun d => ak_goto d (by decide +kernel)) <|
  am_kd (fun d => ak_iconst d (by decide +kernel) rfl) <|
  am_kd (fun d => ak_istore d rfl) <|
  am_kd (fun d => ak_iinc d (by decide +kernel) rfl) <|
  am_kd (fun d => ak_goto d (by decide +kernel)) <|
  am_kd (fun d => ak_aload_n d rfl rfl) <|
  am_kd (fun d => ak_bipush d (by decide +kernel) rfl) <|
  am_kd (fun d => ak_iload d rfl) <|
  am_kd (fun d => ak_imul d rfl) <|
  am_kd (fun d => ak_iconst d (by decide +kernel) rfl) <|
  am_kd (fun d => ak_iadd d rfl) <|
  am_kd (fun d => ak_putI (C := RX8) (T := TX8) (N := 27) rfl inX8w tyX8_ok nmX8 (by decide) rfl rfl rfl rfl (by decide +kernel) wd_909 d rfl) <|
  am_kd (fun d => ak_iconst d (by decide +kernel) rfl) <|
  am_kd (fun d => ak_retZ d) <|
  am_kd (fun d => ak_goto d (by decide +kernel)) <|
  am_kd (fun d => ak_iload d rfl) <|
  am_kd (fun d => ak_if_ne d (by decide +kernel) rfl) <|
  am_kd (fun d => ak_aload_n d rfl rfl) <|
  am_kd (fun d => ak_callV (C := RX8) (F := TX8) (N := 27) metX8_choose rfl ⟨rfl, hy_X8_choose⟩ (am_w5 wd_1145 wd_1147 wd_40 wd_67 wd_1148) (by decide) d rfl) <|
  am_kd (fun d => ak_aload_n d rfl rfl) <|
  am_kd (fun d => ak_bipush d (by decide +kernel) rfl) <|
  am_kd (fun d => ak_iload_n d rfl rfl) <|
  am_kd (fun d => ak_imul d rfl) <|
  am_kd (fun d => ak_iconst d (by decide +kernel) rfl) <|
  am_kd (fun d => ak_iadd d rfl) <|
  am_kd (fun d => ak_putI (C := RX8) (T := TX8) (N := 27) rfl inX8w tyX8_ok nmX8 (by decide) rfl rfl rfl rfl (by decide +kernel) wd_909 d rfl) <|
  am_kd (fun d => ak_iload d rfl) <|
  am_kd (fun d => ak_if_ne d (by decide +kernel) rfl) <|
  am_kd (fun d => ak_aload_n d rfl rfl) <|
  am_kd (fun d => ak_getI (C := RX8) (T := TX8) (N := 27) rfl inX8w (by decide) rfl rfl rfl wd_906 d rfl) <|
  am_kd (fun d => ak_if_ne d (by decide +kernel) rfl) <|
  am_kd (fun d => ak_iconst d (by decide +kernel) rfl) <|
  am_kd (fun d => ak_goto d (by decide +kernel)) <|
  am_kd (fun d => ak_iconst d (by decide +kernel) rfl) <|
  am_kd (fun d => ak_retZ d) <| am_kdn
def r_dig (c : Int32) : Prop := (48 : Int64) ≤ c.toInt64 ∧ c.toInt64 ≤ (57 : Int64)
def r_du (du : Int32) : Nat := if du = 0 then 1 else 0
def TX8_work : am_T := fun live as M R => match as with
  | [.ref n, .int pl] => am_mn live ∧ n = 200 ∧ am_in pl 5 ∧ r_I M ∧ ∀ v M', r_sc M M' → r_I M' → R (some (.int v)) M'
  | _ => False
def r_wk36 (M0 M : am_M) (m du i : Int32) : Prop := (0 ≤ i.toInt ∧ i.toInt ≤ m.toInt ∧ m.toInt ≤ 50) ∧ (du = 0 ∨ du = 1) ∧ (∃ w0 : Nat, r_wI M (r_du du) w0 ∧ (w0 : Int) ≤ i.toInt) ∧ r_sc M0 M ∧ r_I M
def JX8_work : am_E → List Value → am_M → am_R → am_inv := fun live as M0 R pc => match as with
  | [.ref n, .int pl] => (match pc with
    | 36 => some ([0, 2, 3, 4, 5], fun k L st M => ∃ m du i : Int32, L = [(0, .ref 200), (2, .int (3258 + 50 * pl)), (3, .int m), (4, .int du), (5, .int i)] ∧ st = [] ∧ k = ((60 - i.toInt).toNat * 2 + 1, 0) ∧ r_wk36 M0 M m du i)
    | 93 => some ([0, 2, 3, 5, 7, 8], fun k L st M => ∃ (m i f : Int32) (v : Int64), L = [(0, .ref 200), (2, .int (3258 + 50 * pl)), (3, .int m), (5, .int i), (7, .int f), (8, .long v)] ∧ st = [] ∧ k = ((60 - f.toInt).toNat * 2, (60 - i.toInt).toNat) ∧ (f.toInt ≤ i.toInt ∧ f.toInt < m.toInt ∧ (i = f → r_dig (M.1 201 (3258 + 50 * pl + f).toNatClampNeg))) ∧ r_wk36 M0 M m 1 f ∧ i.toInt ≤ m.toInt)
    | _ => none)
  | _ => none
theorem r_36 {M0 M : am_M} {m du i : Int32} (h1 : 0 ≤ i.toInt ∧ i.toInt ≤ m.toInt ∧ m.toInt ≤ 50) (h2 : du = 0 ∨ du = 1) {w0 : Nat} (h3 : r_wI M (r_du du) w0) (h4 : (w0 : Int) ≤ i.toInt) (h5 : r_sc M0 M) (h6 : r_I M) : r_wk36 M0 M m du i := ⟨h1, h2, ⟨w0, h3, h4⟩, h5, h6⟩
set_option maxRecDepth 100000 in
set_option maxHeartbeats 4000000 in
theorem metX8_work : am_Met yX8_work cX8_work 10 (some .boolean) (5) (106) TX8_work := by
  refine am_met (own := RX8) (by decide +kernel) rfl kX8_work koX8_work 150 JX8_work ?_ ?_
  · intro live as M Ret h
    unfold TX8_work at h
    split at h
    · next n pl =>
      refine ⟨Nat.le_of_ble_eq_true rfl, ?_⟩
      change am_wp _ _ _ _ [(0, Value.ref n), (1, Value.int pl)] _ _
      obtain ⟨hmn, rfl, hp, hR, h⟩ := h
      have hmn2 := hmn
      obtain ⟨i1, i2, rfl⟩ := hmn2
      have l201 : am_len 201 = 3760 := rfl
      have p1 := hp.1
      have p2 := hp.2
      have ea := r_off (c := 3508) (x := pl) ⟨by decide, by decide⟩ ⟨by omega, by omega⟩
      simp only [Int32.reduceToInt] at ea
      have htx : 0 ≤ (M.1 201 (3508 + pl).toNatClampNeg).toInt ∧ (M.1 201 (3508 + pl).toNatClampNeg).toInt ≤ 50 := by
        have q := hR.tx (g_cl hp)
        have q2 := i_clamp (x := 3508 + pl) (by omega)
        have q3 := i_clamp (x := pl) p1
        rw [show (3508 + pl).toNatClampNeg = 3508 + pl.toNatClampNeg by omega]
        exact q
      repeat' (first | apply And.intro | exact rfl | intro hx | (refine Exists.intro _ (And.intro rfl ?_)))
      all_goals try first | (with_reducible change am_tI _ _) | (change Ret _ _) | (change Ret _ _ _) | (change Exists _)
      all_goals try dsimp only at *
      all_goals try (with_reducible exact absurd ‹(1000 : Int64) = 0› am_z1000)
      all_goals first
        | omega
        | (rw [l201]; omega)
        | skip
      refine ⟨_, _, _, _, rfl, rfl, rfl, r_36 ⟨by decide, htx.1, htx.2⟩ (Or.inr rfl) (w0 := 0) ?_ (by decide) (by (repeat' (first | (with_reducible exact r_sc.rf) | (with_reducible assumption) | ((with_reducible change r_sc _ (am_wI _ _ _ _)); refine r_sc.wI ?_ rfl) | ((with_reducible change r_sc _ (am_wJ _ _ _ _)); refine r_sc.wJ ?_ rfl) | (refine r_sc.tr ?_ (by with_reducible assumption))))) (by (repeat' (first | (with_reducible assumption) | ((with_reducible change r_I (am_wJ _ _ _ _)); refine r_I.wJ ?_) | ((with_reducible change r_I (am_wI _ _ _ _)); refine r_I.wI ?_ rfl))))⟩
      exact ⟨(), ⟨Int.le_refl 0, Int.le_refl 0, Nat.zero_le _⟩, rfl, Int.le_refl 0⟩
    · exact h.elim
  · intro live as M0 Ret h k pc I hI L st M hi
    unfold TX8_work at h
    split at h
    · next n pl =>
      obtain ⟨hmn, rfl, hp, hR, h⟩ := h
      have hmn2 := hmn
      obtain ⟨i1, i2, rfl⟩ := hmn2
      have l201 : am_len 201 = 3760 := rfl
      have l206 : am_len 206 = 7 := rfl
      have p1 := hp.1
      have p2 := hp.2
      have e50 := r_mul (c := 50) (x := pl) ⟨by decide, by decide⟩ ⟨by omega, by omega⟩
      simp only [Int32.reduceToInt] at e50
      have eb := r_off (c := 3258) (x := 50 * pl) ⟨by decide, by decide⟩ ⟨by omega, by omega⟩
      simp only [e50, Int32.reduceToInt] at eb
      change (match pc with | 36 => _ | 93 => _ | _ => none) = _ at hI
      split at hI
      · cases hI
        obtain ⟨m, du, i, rfl, rfl, rfl, ⟨g1, g2, g3⟩, hdu, ⟨w0, hw, hw0⟩, hs, hr⟩ := hi
        have hi := i_inc (x := i) (by omega) (by omega)
        have h120 := r_wI.bd hw
        by_cases hz : m ≤ i
        · rcases hdu with rfl | rfl
          · skip
            repeat' (first | (with_reducible exact hmn) | apply And.intro | exact rfl | (intro hx; with_reducible exact absurd hz hx) | (intro hx; exact absurd hx (by decide)) | (intro hx; exact absurd (by decide) hx) | decide | intro hx | (refine Exists.intro _ (And.intro rfl ?_)) | (refine r_cw_in (show r_wI M 1 w0 from hw) (fun M1 c1 d1 => ?_)))
            all_goals try first | (with_reducible change am_tI _ _) | (change Ret _ _) | (change Ret _ _ _) | (change Exists _)
            all_goals try dsimp only at *
            all_goals try (with_reducible exact absurd ‹(1000 : Int64) = 0› am_z1000)
            all_goals first
              | (left; rfl)
              | (right; rfl)
              | exact h _ _ (r_sc.wI (hs.tr c1.sc) rfl) (r_I.wI (c1.i hr) rfl)
              | skip
          · skip
            repeat' (first | (with_reducible exact hmn) | apply And.intro | exact rfl | (intro hx; with_reducible exact absurd hz hx) | (intro hx; exact absurd hx (by decide)) | (intro hx; exact absurd (by decide) hx) | decide | intro hx | (refine Exists.intro _ (And.intro rfl ?_)))
            all_goals try first | (with_reducible change am_tI _ _) | (change Ret _ _) | (change Ret _ _ _) | (change Exists _)
            all_goals try dsimp only at *
            all_goals try (with_reducible exact absurd ‹(1000 : Int64) = 0› am_z1000)
            all_goals first
              | (left; rfl)
              | (right; rfl)
              | exact h _ _ (r_sc.wI hs rfl) (r_I.wI hr rfl)
              | skip
        · have hz2 := hz
          simp only [i_le] at hz2
          have ec := r_off (c := 3258 + 50 * pl) (x := i) ⟨by omega, by omega⟩ ⟨by omega, by omega⟩
          rw [eb] at ec
          have x1 : 0 ≤ (3258 + 50 * pl + i).toInt := by omega
          have x2 : (3258 + 50 * pl + i).toInt < (am_len 201 : Int) := by rw [l201]; omega
          generalize hc : M.1 201 (3258 + 50 * pl + i).toNatClampNeg = c
          rcases hdu with rfl | rfl
          · by_cases z32 : c = 32
            · rw [← hc] at z32
              repeat' (first | (with_reducible exact x1) | (with_reducible exact x2) | (with_reducible exact hmn) | apply And.intro | exact rfl | (intro hx; with_reducible exact absurd hx hz) | (intro hx; with_reducible exact absurd z32 hx) | (intro hx; exact absurd hx (by decide)) | (intro hx; exact absurd (by decide) hx) | decide | intro hx | (refine Exists.intro _ (And.intro rfl ?_)))
              all_goals try first | (with_reducible change am_tI _ _) | (change Ret _ _) | (change Ret _ _ _) | (change Exists _)
              all_goals try dsimp only at *
              all_goals try (with_reducible exact absurd ‹(1000 : Int64) = 0› am_z1000)
              all_goals exact ⟨_, am_lt_l (by omega), _, _, _, rfl, rfl, rfl, r_36 ⟨by omega, by omega, g3⟩ (Or.inl rfl) hw (by omega) hs hr⟩
            · have z32b := z32
              rw [← hc] at z32b
              by_cases z41 : c = 41
              · have z41b := z41
                rw [← hc] at z41b
                repeat' (first | (with_reducible exact x1) | (with_reducible exact x2) | (with_reducible exact hmn) | apply And.intro | exact rfl | (intro hx; with_reducible exact absurd hx hz) | (intro hx; with_reducible exact absurd hx z32b) | (intro hx; with_reducible exact absurd z41b hx) | (intro hx; exact absurd hx (by decide)) | (intro hx; exact absurd (by decide) hx) | decide | intro hx | (refine Exists.intro _ (And.intro rfl ?_)) | (refine r_cw_in (show r_wI M 1 w0 from hw) ⟨by omega, fun M1 c1 => ?_, fun M1 c1 d1 => ?_⟩))
                all_goals try first | (with_reducible change am_tI _ _) | (change Ret _ _) | (change Ret _ _ _) | (change Exists _)
                all_goals try dsimp only at *
                all_goals try (with_reducible exact absurd ‹(1000 : Int64) = 0› am_z1000)
                all_goals first
                  | (left; rfl)
                  | exact h _ _ (r_sc.wI (hs.tr c1.sc) rfl) (r_I.wI (c1.i hr) rfl)
                  | exact ⟨_, am_lt_l (by omega), _, _, _, rfl, rfl, rfl, r_36 ⟨by omega, by omega, g3⟩ (Or.inl rfl) (by rw [if_pos z41b] at d1; exact d1) (by omega) (hs.tr c1.sc) (c1.i hr)⟩
                  | skip
              · have z41b := z41
                rw [← hc] at z41b
                repeat' (first | (with_reducible exact x1) | (with_reducible exact x2) | (with_reducible exact hmn) | apply And.intro | exact rfl | (intro hx; with_reducible exact absurd hx hz) | (intro hx; with_reducible exact absurd hx z32b) | (intro hx; with_reducible exact absurd hx z41b) | (intro hx; exact absurd hx (by decide)) | (intro hx; exact absurd (by decide) hx) | decide | intro hx | (refine Exists.intro _ (And.intro rfl ?_)) | (refine r_cw_in (show r_wI M 1 w0 from hw) ⟨by omega, fun M1 c1 => ?_, fun M1 c1 d1 => ?_⟩))
                all_goals try first | (with_reducible change am_tI _ _) | (change Ret _ _) | (change Ret _ _ _) | (change Exists _)
                all_goals try dsimp only at *
                all_goals try (with_reducible exact absurd ‹(1000 : Int64) = 0› am_z1000)
                all_goals first
                  | (left; rfl)
                  | exact h _ _ (r_sc.wI (hs.tr c1.sc) rfl) (r_I.wI (c1.i hr) rfl)
                  | exact ⟨_, am_lt_l (by omega), _, _, _, rfl, rfl, rfl, r_36 ⟨by omega, by omega, g3⟩ (Or.inr rfl) (by rw [if_neg z41b] at d1; exact d1) (by omega) (hs.tr c1.sc) (c1.i hr)⟩
                  | skip
          · have q1 : r_wI M 0 w0 := hw
            have hx1 := h120.1
            have hx2 : (M.1 200 11).toInt < 120 := by have q := hw.u.1; omega
            have nx : ∀ (M2 : am_M) (d2 : Int32) (w2 : Nat), d2 = 0 ∨ d2 = 1 → r_wI M2 (r_du d2) w2 → (w2 : Int) ≤ (i + 1).toInt → r_sc M0 M2 → r_I M2 → r_wk36 M0 M2 m d2 (i + 1) := fun M2 d2 w2 a1 a2 a3 a4 a5 => r_36 ⟨by omega, by omega, g3⟩ a1 a2 a3 a4 a5
            by_cases z32 : M.1 201 (3258 + 50 * pl + i).toNatClampNeg = 32
            · skip
              repeat' (first | (with_reducible exact x1) | (with_reducible exact x2) | (with_reducible exact hmn) | apply And.intro | exact rfl | (intro hx; with_reducible exact absurd hx hz) | (intro hx; with_reducible exact absurd z32 hx) | (intro hx; exact absurd hx (by decide)) | (intro hx; exact absurd (by decide) hx) | decide | intro hx | (refine Exists.intro _ (And.intro rfl ?_)))
              all_goals try first | (with_reducible change am_tI _ _) | (change Ret _ _) | (change Ret _ _ _) | (change Exists _)
              all_goals try dsimp only at *
              all_goals try (with_reducible exact absurd ‹(1000 : Int64) = 0› am_z1000)
              all_goals exact ⟨_, am_lt_l (by omega), _, _, _, rfl, rfl, rfl, nx _ _ w0 (Or.inr rfl) q1 (by omega) hs hr⟩
            · by_cases zd : r_dig (M.1 201 (3258 + 50 * pl + i).toNatClampNeg)
              · have qd : ¬ ((if (48 : Int64) ≤ (M.1 201 (3258 + 50 * pl + i).toNatClampNeg).toInt64 ∧ (M.1 201 (3258 + 50 * pl + i).toNatClampNeg).toInt64 ≤ (57 : Int64) then (1 : Int32) else 0) = 0) := by rw [if_pos (show _ ∧ _ from zd)]; decide
                repeat' (first | (with_reducible exact x1) | (with_reducible exact x2) | (with_reducible exact hmn) | apply And.intro | exact rfl | (intro hx; with_reducible exact absurd hx hz) | (intro hx; with_reducible exact absurd hx z32) | (intro hx; with_reducible exact absurd hx qd) | (intro hx; exact absurd hx (by decide)) | (intro hx; exact absurd (by decide) hx) | decide | intro hx | (refine Exists.intro _ (And.intro rfl ?_)))
                all_goals try first | (with_reducible change am_tI _ _) | (change Ret _ _) | (change Ret _ _ _) | (change Exists _)
                all_goals try dsimp only at *
                all_goals try (with_reducible exact absurd ‹(1000 : Int64) = 0› am_z1000)
                all_goals exact ⟨_, am_lt_l (by omega), _, _, _, _, rfl, rfl, rfl, ⟨Int.le_refl _, by omega, fun _ => zd⟩, r_36 ⟨g1, g2, g3⟩ (Or.inr rfl) q1 hw0 hs hr, g2⟩
              · have qd : (if (48 : Int64) ≤ (M.1 201 (3258 + 50 * pl + i).toNatClampNeg).toInt64 ∧ (M.1 201 (3258 + 50 * pl + i).toNatClampNeg).toInt64 ≤ (57 : Int64) then (1 : Int32) else 0) = 0 := if_neg zd
                by_cases zf : r_fact (M.1 201 (3258 + 50 * pl + i).toNatClampNeg) < 0
                · by_cases z40 : M.1 201 (3258 + 50 * pl + i).toNatClampNeg = 40
                  · skip
                    repeat' (first | (with_reducible exact x1) | (with_reducible exact x2) | (with_reducible exact hx1) | (with_reducible exact hx2) | (with_reducible exact h120) | (with_reducible exact hmn) | apply And.intro | exact rfl | (intro hx; with_reducible exact absurd hx hz) | (intro hx; with_reducible exact absurd hx z32) | (intro hx; with_reducible exact absurd qd hx) | (intro hx; with_reducible exact absurd zf hx) | (intro hx; with_reducible exact absurd z40 hx) | (intro hx; exact absurd hx (by decide)) | (intro hx; exact absurd (by decide) hx) | decide | intro hx | (refine Exists.intro _ (And.intro rfl ?_)))
                    all_goals try first | (with_reducible change am_tI _ _) | (change Ret _ _) | (change Ret _ _ _) | (change Exists _)
                    all_goals try dsimp only at *
                    all_goals try (with_reducible exact absurd ‹(1000 : Int64) = 0› am_z1000)
                    all_goals first
                      | (with_reducible exact h120.1)
                      | (with_reducible exact h120.2)
                      | (left; rfl)
                      | exact h120.1
                      | exact h120.2
                      | ((with_reducible change Ret _ _); exact h _ _ (by (repeat' (first | (with_reducible exact r_sc.rf) | (with_reducible assumption) | ((with_reducible change r_sc _ (am_wI _ _ _ _)); refine r_sc.wI ?_ rfl) | ((with_reducible change r_sc _ (am_wJ _ _ _ _)); refine r_sc.wJ ?_ rfl) | (refine r_sc.tr ?_ (by with_reducible assumption))))) (by (repeat' (first | (with_reducible assumption) | ((with_reducible change r_I (am_wJ _ _ _ _)); refine r_I.wJ ?_) | ((with_reducible change r_I (am_wI _ _ _ _)); refine r_I.wI ?_ rfl)))))
                      | exact ⟨_, am_lt_l (by omega), _, _, _, rfl, rfl, rfl, nx _ _ (w0 + 1) (Or.inr rfl) (r_push q1 (by decide) (by omega)) (by omega) (by (repeat' (first | (with_reducible exact r_sc.rf) | (with_reducible assumption) | ((with_reducible change r_sc _ (am_wI _ _ _ _)); refine r_sc.wI ?_ rfl) | ((with_reducible change r_sc _ (am_wJ _ _ _ _)); refine r_sc.wJ ?_ rfl) | (refine r_sc.tr ?_ (by with_reducible assumption))))) (by (repeat' (first | (with_reducible assumption) | ((with_reducible change r_I (am_wJ _ _ _ _)); refine r_I.wJ ?_) | ((with_reducible change r_I (am_wI _ _ _ _)); refine r_I.wI ?_ rfl))))⟩
                      | skip
                  · by_cases z33 : M.1 201 (3258 + 50 * pl + i).toNatClampNeg = 33
                    · skip
                      repeat' (first | (with_reducible exact x1) | (with_reducible exact x2) | (with_reducible exact hx1) | (with_reducible exact hx2) | (with_reducible exact hmn) | apply And.intro | exact rfl | (intro hx; with_reducible exact absurd hx hz) | (intro hx; with_reducible exact absurd hx z32) | (intro hx; with_reducible exact absurd hx z40) | (intro hx; with_reducible exact absurd qd hx) | (intro hx; with_reducible exact absurd zf hx) | (intro hx; with_reducible exact absurd z33 hx) | (intro hx; exact absurd hx (by decide)) | (intro hx; exact absurd (by decide) hx) | decide | intro hx | (refine Exists.intro _ (And.intro rfl ?_)))
                      all_goals try first | (with_reducible change am_tI _ _) | (change Ret _ _) | (change Ret _ _ _) | (change Exists _)
                      all_goals try dsimp only at *
                      all_goals try (with_reducible exact absurd ‹(1000 : Int64) = 0› am_z1000)
                      all_goals exact ⟨_, am_lt_l (by omega), _, _, _, rfl, rfl, rfl, nx _ _ (w0 + 1) (Or.inr rfl) (r_push q1 (by decide) (by omega)) (by omega) (by (repeat' (first | (with_reducible exact r_sc.rf) | (with_reducible assumption) | ((with_reducible change r_sc _ (am_wI _ _ _ _)); refine r_sc.wI ?_ rfl) | ((with_reducible change r_sc _ (am_wJ _ _ _ _)); refine r_sc.wJ ?_ rfl) | (refine r_sc.tr ?_ (by with_reducible assumption))))) (by (repeat' (first | (with_reducible assumption) | ((with_reducible change r_I (am_wJ _ _ _ _)); refine r_I.wJ ?_) | ((with_reducible change r_I (am_wI _ _ _ _)); refine r_I.wI ?_ rfl))))⟩
                    · by_cases z45 : M.1 201 (3258 + 50 * pl + i).toNatClampNeg = 45
                      · skip
                        repeat' (first | (with_reducible exact x1) | (with_reducible exact x2) | (with_reducible exact hx1) | (with_reducible exact hx2) | (with_reducible exact hmn) | apply And.intro | exact rfl | (intro hx; with_reducible exact absurd hx hz) | (intro hx; with_reducible exact absurd hx z32) | (intro hx; with_reducible exact absurd hx z40) | (intro hx; with_reducible exact absurd hx z33) | (intro hx; with_reducible exact absurd qd hx) | (intro hx; with_reducible exact absurd zf hx) | (intro hx; with_reducible exact absurd z45 hx) | (intro hx; exact absurd hx (by decide)) | (intro hx; exact absurd (by decide) hx) | decide | intro hx | (refine Exists.intro _ (And.intro rfl ?_)))
                        all_goals try first | (with_reducible change am_tI _ _) | (change Ret _ _) | (change Ret _ _ _) | (change Exists _)
                        all_goals try dsimp only at *
                        all_goals try (with_reducible exact absurd ‹(1000 : Int64) = 0› am_z1000)
                        all_goals exact ⟨_, am_lt_l (by omega), _, _, _, rfl, rfl, rfl, nx _ _ (w0 + 1) (Or.inr rfl) (r_push q1 (by decide) (by omega)) (by omega) (by (repeat' (first | (with_reducible exact r_sc.rf) | (with_reducible assumption) | ((with_reducible change r_sc _ (am_wI _ _ _ _)); refine r_sc.wI ?_ rfl) | ((with_reducible change r_sc _ (am_wJ _ _ _ _)); refine r_sc.wJ ?_ rfl) | (refine r_sc.tr ?_ (by with_reducible assumption))))) (by (repeat' (first | (with_reducible assumption) | ((with_reducible change r_I (am_wJ _ _ _ _)); refine r_I.wJ ?_) | ((with_reducible change r_I (am_wI _ _ _ _)); refine r_I.wI ?_ rfl))))⟩
                      · skip
                        repeat' (first | (with_reducible exact x1) | (with_reducible exact x2) | (with_reducible exact hmn) | apply And.intro | exact rfl | (intro hx; with_reducible exact absurd hx hz) | (intro hx; with_reducible exact absurd hx z32) | (intro hx; with_reducible exact absurd hx z40) | (intro hx; with_reducible exact absurd hx z33) | (intro hx; with_reducible exact absurd hx z45) | (intro hx; with_reducible exact absurd qd hx) | (intro hx; with_reducible exact absurd zf hx) | (intro hx; exact absurd hx (by decide)) | (intro hx; exact absurd (by decide) hx) | decide | intro hx | (refine Exists.intro _ (And.intro rfl ?_)))
                        all_goals try first | (with_reducible change am_tI _ _) | (change Ret _ _) | (change Ret _ _ _) | (change Exists _)
                        all_goals try dsimp only at *
                        all_goals try (with_reducible exact absurd ‹(1000 : Int64) = 0› am_z1000)
                        all_goals first
                          | (left; rfl)
                          | ((with_reducible change Ret _ _); exact h _ _ (by (repeat' (first | (with_reducible exact r_sc.rf) | (with_reducible assumption) | ((with_reducible change r_sc _ (am_wI _ _ _ _)); refine r_sc.wI ?_ rfl) | ((with_reducible change r_sc _ (am_wJ _ _ _ _)); refine r_sc.wJ ?_ rfl) | (refine r_sc.tr ?_ (by with_reducible assumption))))) (by (repeat' (first | (with_reducible assumption) | ((with_reducible change r_I (am_wJ _ _ _ _)); refine r_I.wJ ?_) | ((with_reducible change r_I (am_wI _ _ _ _)); refine r_I.wI ?_ rfl)))))
                          | skip
                · have zf2 := zf
                  simp only [i_lt, Int32.reduceToInt] at zf2
                  have hf := r_fact_in (M.1 201 (3258 + 50 * pl + i).toNatClampNeg)
                  have y1 : 0 ≤ (r_fact (M.1 201 (3258 + 50 * pl + i).toNatClampNeg)).toInt := by omega
                  have y2 : (r_fact (M.1 201 (3258 + 50 * pl + i).toNatClampNeg)).toInt < (am_len 206 : Int) := by rw [l206]; omega
                  repeat' (first | (with_reducible exact x1) | (with_reducible exact x2) | (with_reducible exact y1) | (with_reducible exact y2) | (with_reducible exact hmn) | apply And.intro | exact rfl | (intro hx; with_reducible exact absurd hx hz) | (intro hx; with_reducible exact absurd hx z32) | (intro hx; with_reducible exact absurd hx zf) | (intro hx; with_reducible exact absurd qd hx) | (intro hx; exact absurd hx (by decide)) | (intro hx; exact absurd (by decide) hx) | decide | intro hx | (refine Exists.intro _ (And.intro rfl ?_)) | (refine r_cw_in q1 ⟨by omega, fun M1 c1 d1 => ?_⟩))
                  all_goals try first | (with_reducible change am_tI _ _) | (change Ret _ _) | (change Ret _ _ _) | (change Exists _)
                  all_goals try dsimp only at *
                  all_goals try (with_reducible exact absurd ‹(1000 : Int64) = 0› am_z1000)
                  all_goals exact ⟨_, am_lt_l (by omega), _, _, _, rfl, rfl, rfl, nx _ _ (w0 + 1) (Or.inl rfl) d1 (by omega) (hs.tr c1.sc) (c1.i hr)⟩
      · cases hI
        obtain ⟨m, i, f, v, rfl, rfl, rfl, ⟨g4, g5, g6⟩, ⟨⟨g1, g2, g3⟩, hdu, ⟨w0, hw, hw0⟩, hs, hr⟩, g7⟩ := hi
        have q1 : r_wI M 0 w0 := hw
        have hi := i_inc (x := i) (by omega) (by omega)
        have nx : f.toInt < i.toInt → ∀ (M2 : am_M) (w2 : Nat), r_wI M2 1 w2 → (w2 : Int) ≤ i.toInt → r_sc M0 M2 → r_I M2 → r_wk36 M0 M2 m 0 i := fun a0 M2 w2 a2 a3 a4 a5 => r_36 ⟨by omega, g7, g3⟩ (Or.inl rfl) a2 a3 a4 a5
        by_cases hz : m ≤ i
        · have hz2 := hz
          simp only [i_le] at hz2
          repeat' (first | (with_reducible exact hmn) | apply And.intro | exact rfl | (intro hx; with_reducible exact absurd hx hz) | (intro hx; with_reducible exact absurd hz hx) | (intro hx; exact absurd hx (by decide)) | (intro hx; exact absurd (by decide) hx) | decide | intro hx | (refine Exists.intro _ (And.intro rfl ?_)) | (refine r_cw_in q1 ⟨by omega, fun M1 c1 d1 => ?_⟩))
          all_goals try first | (with_reducible change am_tI _ _) | (change Ret _ _) | (change Ret _ _ _) | (change Exists _)
          all_goals try dsimp only at *
          all_goals try (with_reducible exact absurd ‹(1000 : Int64) = 0› am_z1000)
          all_goals exact ⟨_, am_lt_l (by omega), _, _, _, rfl, rfl, rfl, nx (by omega) _ (w0 + 1) d1 (by omega) (hs.tr c1.sc) (c1.i hr)⟩
        · have hz2 := hz
          simp only [i_le] at hz2
          have ec := r_off (c := 3258 + 50 * pl) (x := i) ⟨by omega, by omega⟩ ⟨by omega, by omega⟩
          rw [eb] at ec
          have x1 : 0 ≤ (3258 + 50 * pl + i).toInt := by omega
          have x2 : (3258 + 50 * pl + i).toInt < (am_len 201 : Int) := by rw [l201]; omega
          by_cases zd : r_dig (M.1 201 (3258 + 50 * pl + i).toNatClampNeg)
          · have qd : ¬ ((if (48 : Int64) ≤ (M.1 201 (3258 + 50 * pl + i).toNatClampNeg).toInt64 ∧ (M.1 201 (3258 + 50 * pl + i).toNatClampNeg).toInt64 ≤ (57 : Int64) then (1 : Int32) else 0) = 0) := by rw [if_pos (show _ ∧ _ from zd)]; decide
            repeat' (first | (with_reducible exact x1) | (with_reducible exact x2) | (with_reducible exact hmn) | apply And.intro | exact rfl | (intro hx; with_reducible exact absurd hx hz) | (intro hx; with_reducible exact absurd hx qd) | (intro hx; exact absurd hx (by decide)) | (intro hx; exact absurd (by decide) hx) | decide | intro hx | (refine Exists.intro _ (And.intro rfl ?_)))
            all_goals try first | (with_reducible change am_tI _ _) | (change Ret _ _) | (change Ret _ _ _) | (change Exists _)
            all_goals try dsimp only at *
            all_goals try (with_reducible exact absurd ‹(1000 : Int64) = 0› am_z1000)
            all_goals first
              | (left; rfl)
              | ((with_reducible change Ret _ _); exact h _ _ (by (repeat' (first | (with_reducible exact r_sc.rf) | (with_reducible assumption) | ((with_reducible change r_sc _ (am_wI _ _ _ _)); refine r_sc.wI ?_ rfl) | ((with_reducible change r_sc _ (am_wJ _ _ _ _)); refine r_sc.wJ ?_ rfl) | (refine r_sc.tr ?_ (by with_reducible assumption))))) (by (repeat' (first | (with_reducible assumption) | ((with_reducible change r_I (am_wJ _ _ _ _)); refine r_I.wJ ?_) | ((with_reducible change r_I (am_wI _ _ _ _)); refine r_I.wI ?_ rfl)))))
              | exact ⟨_, am_lt_r (by omega), _, _, _, _, rfl, rfl, rfl, ⟨by omega, g5, fun q => by have q2 := congrArg Int32.toInt q; omega⟩, r_36 ⟨g1, g2, g3⟩ (Or.inr rfl) q1 hw0 hs hr, by omega⟩
              | skip
          · have qd : (if (48 : Int64) ≤ (M.1 201 (3258 + 50 * pl + i).toNatClampNeg).toInt64 ∧ (M.1 201 (3258 + 50 * pl + i).toNatClampNeg).toInt64 ≤ (57 : Int64) then (1 : Int32) else 0) = 0 := if_neg zd
            have hne : f.toInt < i.toInt := by
              rcases Int.lt_or_eq_of_le g4 with q | q
              · exact q
              · have e : i = f := (i_eq _ _).mpr q.symm
                rw [e] at zd
                exact absurd (g6 e) zd
            repeat' (first | (with_reducible exact x1) | (with_reducible exact x2) | (with_reducible exact hmn) | apply And.intro | exact rfl | (intro hx; with_reducible exact absurd hx hz) | (intro hx; with_reducible exact absurd qd hx) | (intro hx; exact absurd hx (by decide)) | (intro hx; exact absurd (by decide) hx) | decide | intro hx | (refine Exists.intro _ (And.intro rfl ?_)) | (refine r_cw_in q1 ⟨by omega, fun M1 c1 d1 => ?_⟩))
            all_goals try first | (with_reducible change am_tI _ _) | (change Ret _ _) | (change Ret _ _ _) | (change Exists _)
            all_goals try dsimp only at *
            all_goals try (with_reducible exact absurd ‹(1000 : Int64) = 0› am_z1000)
            all_goals exact ⟨_, am_lt_l (by omega), _, _, _, rfl, rfl, rfl, nx hne _ (w0 + 1) d1 (by omega) (hs.tr c1.sc) (c1.i hr)⟩
      · cases hI
    · exact h.elim
theorem hy_X8_work : yX8_work.cls ≠ "java/lang/invoke/MethodHandle" ∧ yX8_work.cls ≠ "java/lang/invoke/VarHandle" ∧ (parseMethodDescriptor yX8_work.desc).map (fun d => d.parameters.length) = some 1 := ⟨by decide +kernel, by decide +kernel, by decide +kernel⟩
set_option maxRecDepth 100000 in
theorem wd_1102 : Cond.methodLink "LearnLoansModel" 199 yX8_work ∈ am_ws := am_wt5 (List.mem_of_getElem? (i := 85) (by rfl)) (by decide +kernel)
set_option maxRecDepth 100000 in
theorem wd_1104 : Cond.instanceMethod yX8_work ∈ am_ws := am_wt5 (List.mem_of_getElem? (i := 87) (by rfl)) (by decide +kernel)
set_option maxRecDepth 100000 in
theorem wd_33 : Cond.selects "LearnLoansModel" yX8_work yX8_work ∈ am_ws := am_wsi (List.mem_of_getElem? (i := 33) (by rfl)) (by decide +kernel)
set_option maxRecDepth 100000 in
theorem wd_1105 : Cond.code yX8_work cX8_work 10 (some .boolean) ∈ am_ws := am_wt5 (List.mem_of_getElem? (i := 88) (by rfl)) (by decide +kernel)
def rwX8_fault : List dz_r := [(0, .iload_n 1, 1), (1, .invokestatic 104, 3), (4, .ifCond .ne 6, 3), (7, .bipush (-2), 2), (9, .ireturn, 1), (10, .aload_n 0, 1), (11, .iload_n 1, 1), (12, .invokevirtual 199, 3), (15, .ifCond .eq 7, 3), (18, .iconst (-1), 1), (19, .goto 7, 3), (22, .aload_n 0, 1), (23, .getfield 185, 3), (26, .ireturn, 1)]
theorem dzX8_fault : dz cX8_fault rwX8_fault := dz_all 0 (by decide +kernel)
def kX8_fault (live : am_E) (Ret : am_R) : am_code := [(0, am_iload 1 1), (1, am_callS live 1 TX8_isPlan 4), (4, am_if1 (fun x => x = 0) 7 10), (7, am_const (.int (-2)) 9), (9, am_retI Ret), (10, am_aload 0 11), (11, am_iload 1 12), (12, am_callV live 8 1 TX8_work 15), (15, am_if1 (fun x => x = 0) 22 18), (18, am_const (.int (-1)) 19), (19, am_goto 26), (22, am_aload 0 23), (23, am_getI live 8 14 26), (26, am_retI Ret)]
theorem koX8_fault (live : am_E) (Ret : am_R) : ∀ q ∈ kX8_fault live Ret, am_ok RX8 cX8_fault 2 (some .int) 6 135 live Ret q.1 q.2 :=
  am_kz dzX8_fault <|
  am_kd (fun d => ak_iload_n d rfl rfl) <|
  am_kd (fun d => ak_callS metX8_isPlan ⟨rfl, hy_X8_isPlan⟩ (am_w4 wd_1034 wd_1035 wd_67 wd_1036) (by decide) d rfl) <|
  am_kd (fun d => ak_if_ne d (by decide +kernel) rfl) <|
  am_kd (fun d => ak_bipush d (by decide +kernel) rfl) <|
  am_kd (fun d => ak_retI d) <|
  am_kd (fun d => ak_aload_n d rfl rfl) <|
  am_kd (fun d => ak_iload_n d rfl rfl) <|
  am_kd (fun d => ak_callV (C := RX8) (F := TX8) (N := 27) metX8_work rfl ⟨rfl, hy_X8_work⟩ (am_w5 wd_1102 wd_1104 wd_33 wd_67 wd_1105) (by decide) d rfl) <|
  am_kd (fun d => ak_if_eq d (by decide +kernel) rfl) <|
  am_kd (fun d => ak_iconst d (by decide +kernel) rfl) <|
  am_kd (fun d => ak_goto d (by decide +kernel)) <|
  am_kd (fun d => ak_aload_n d rfl rfl) <|
  am_kd (fun d => ak_getI (C := RX8) (T := TX8) (N := 27) rfl inX8w (by decide) rfl rfl rfl wd_909 d rfl) <|
  am_kd (fun d => ak_retI d) <| am_kdn
def TX8_fault : am_T := fun live as M R => match as with
  | [.ref n, .int pl] => am_mn live ∧ n = 200 ∧ r_I M ∧ ∀ v M', r_sc M M' → r_I M' → R (some (.int v)) M'
  | _ => False
set_option maxRecDepth 100000 in
set_option maxHeartbeats 4000000 in
theorem metX8_fault : am_Met yX8_fault cX8_fault 2 (some .int) (6) (135) TX8_fault := by
  refine am_met (own := RX8) (by decide +kernel) rfl kX8_fault koX8_fault 100 (fun _ _ _ _ _ => none) (fun live as M Ret h => ?_) (fun _ _ _ _ _ _ _ _ hI => by cases hI)
  unfold TX8_fault at h
  split at h
  · next n pl =>
    refine ⟨Nat.le_of_ble_eq_true rfl, ?_⟩
    change am_wp _ _ _ _ [(0, Value.ref n), (1, Value.int pl)] _ _
    obtain ⟨hmn, rfl, hR, h⟩ := h
    have hmn2 := hmn
    obtain ⟨i1, i2, rfl⟩ := hmn2
    by_cases z0 : 0 ≤ pl ∧ pl < 5
    · have q0 : ¬ ((if 0 ≤ pl ∧ pl < 5 then (1 : Int32) else 0) = 0) := by rw [if_pos z0]; decide
      have hp : am_in pl 5 := ⟨by have q := z0.1; simp only [i_le, Int32.reduceToInt] at q; omega, by have q := z0.2; simp only [i_lt, Int32.reduceToInt] at q; omega⟩
      repeat' (first | (with_reducible exact hmn) | (with_reducible exact hp) | (with_reducible exact hR) | apply And.intro | exact rfl | (intro hx; with_reducible exact absurd hx q0) | (intro hx; exact absurd hx (by decide)) | (intro hx; exact absurd (by decide) hx) | decide | intro hx | (refine Exists.intro _ (And.intro rfl ?_)))
      all_goals try first | (with_reducible change am_tI _ _) | (change Ret _ _) | (change Ret _ _ _) | (change Exists _)
      all_goals try dsimp only at *
      all_goals try (with_reducible exact absurd ‹(1000 : Int64) = 0› am_z1000)
      all_goals exact h _ _ (by (repeat' (first | (with_reducible exact r_sc.rf) | (with_reducible assumption) | ((with_reducible change r_sc _ (am_wI _ _ _ _)); refine r_sc.wI ?_ rfl) | ((with_reducible change r_sc _ (am_wJ _ _ _ _)); refine r_sc.wJ ?_ rfl) | (refine r_sc.tr ?_ (by with_reducible assumption))))) (by (repeat' (first | (with_reducible assumption) | ((with_reducible change r_I (am_wJ _ _ _ _)); refine r_I.wJ ?_) | ((with_reducible change r_I (am_wI _ _ _ _)); refine r_I.wI ?_ rfl))))
    · have q0 : (if 0 ≤ pl ∧ pl < 5 then (1 : Int32) else 0) = 0 := if_neg z0
      repeat' (first | (with_reducible exact hmn) | apply And.intro | exact rfl | (intro hx; with_reducible exact absurd q0 hx) | (intro hx; exact absurd hx (by decide)) | (intro hx; exact absurd (by decide) hx) | decide | intro hx | (refine Exists.intro _ (And.intro rfl ?_)))
      all_goals try first | (with_reducible change am_tI _ _) | (change Ret _ _) | (change Ret _ _ _) | (change Exists _)
      all_goals try dsimp only at *
      all_goals try (with_reducible exact absurd ‹(1000 : Int64) = 0› am_z1000)
      all_goals exact h _ _ r_sc.rf hR
  · exact h.elim
end
-- part 58.rrun.lean.txt
section
/-! general: the reference's runs, I -/
theorem r_pers {M : am_M} (hR : r_I M) {l : Int32} (hl : am_in l 30) : am_in (M.1 201 (2838 + 8 * l + 0).toNatClampNeg) 12 := by
  have e := r_lcol hl (w := 0) ⟨by decide, by decide⟩
  simp only [Int32.reduceToInt] at e
  have l1 := hl.1
  have l2 := hl.2
  have c1 := i_clamp (x := 2838 + 8 * l + 0) (by omega)
  have c2 := i_clamp (x := l) l1
  rw [show (2838 + 8 * l + 0).toNatClampNeg = 2838 + 8 * l.toNatClampNeg by omega]
  exact (hR.lo (g_cl hl)).1
theorem r_in5 {v : Int32} {c : Int32} (h : am_in v 5) (hc : 0 ≤ c.toInt ∧ c.toInt ≤ 3700) : 0 ≤ (c + v).toInt ∧ (c + v).toInt < (am_len 201 : Int) := by
  have h1 := h.1
  have h2 := h.2
  have e := r_off (c := c) (x := v) ⟨hc.1, by omega⟩ ⟨by omega, by omega⟩
  have l201 : am_len 201 = 3760 := rfl
  rw [l201]
  omega
theorem r_in40 {v : Int32} {c : Int32} (h : am_in v 40) (hc : 0 ≤ c.toInt ∧ c.toInt ≤ 3700) : 0 ≤ (c + v).toInt ∧ (c + v).toInt < (am_len 201 : Int) := by
  have h1 := h.1
  have h2 := h.2
  have e := r_off (c := c) (x := v) ⟨hc.1, by omega⟩ ⟨by omega, by omega⟩
  have l201 : am_len 201 = 3760 := rfl
  rw [l201]
  omega
theorem hy_X8_planAt : yX8_planAt.cls ≠ "java/lang/invoke/MethodHandle" ∧ yX8_planAt.cls ≠ "java/lang/invoke/VarHandle" ∧ (parseMethodDescriptor yX8_planAt.desc).map (fun d => d.parameters.length) = some 2 := ⟨by decide +kernel, by decide +kernel, by decide +kernel⟩
set_option maxRecDepth 100000 in
theorem wd_1085 : Cond.methodLink "LearnLoansModel" 141 yX8_planAt ∈ am_ws := am_wt5 (List.mem_of_getElem? (i := 68) (by rfl)) (by decide +kernel)
set_option maxRecDepth 100000 in
theorem wd_1087 : Cond.instanceMethod yX8_planAt ∈ am_ws := am_wt5 (List.mem_of_getElem? (i := 70) (by rfl)) (by decide +kernel)
set_option maxRecDepth 100000 in
theorem wd_32 : Cond.selects "LearnLoansModel" yX8_planAt yX8_planAt ∈ am_ws := am_wsi (List.mem_of_getElem? (i := 32) (by rfl)) (by decide +kernel)
set_option maxRecDepth 100000 in
theorem wd_1088 : Cond.code yX8_planAt cX8_planAt 5 (some .int) ∈ am_ws := am_wt5 (List.mem_of_getElem? (i := 71) (by rfl)) (by decide +kernel)
theorem hy_X8_inForce : yX8_inForce.cls ≠ "java/lang/invoke/MethodHandle" ∧ yX8_inForce.cls ≠ "java/lang/invoke/VarHandle" ∧ (parseMethodDescriptor yX8_inForce.desc).map (fun d => d.parameters.length) = some 4 := ⟨by decide +kernel, by decide +kernel, by decide +kernel⟩
set_option maxRecDepth 100000 in
theorem wd_1053 : Cond.methodLink "LearnLoansModel" 127 yX8_inForce ∈ am_ws := am_wt5 (List.mem_of_getElem? (i := 36) (by rfl)) (by decide +kernel)
set_option maxRecDepth 100000 in
theorem wd_1055 : Cond.instanceMethod yX8_inForce ∈ am_ws := am_wt5 (List.mem_of_getElem? (i := 38) (by rfl)) (by decide +kernel)
set_option maxRecDepth 100000 in
theorem wd_29 : Cond.selects "LearnLoansModel" yX8_inForce yX8_inForce ∈ am_ws := am_wsi (List.mem_of_getElem? (i := 29) (by rfl)) (by decide +kernel)
set_option maxRecDepth 100000 in
theorem wd_1056 : Cond.code yX8_inForce cX8_inForce 9 (some .int) ∈ am_ws := am_wt5 (List.mem_of_getElem? (i := 39) (by rfl)) (by decide +kernel)
def rwX8_rateOf : List dz_r := [(0, .aload_n 0, 1), (1, .iload_n 1, 1), (2, .iconst 0, 1), (3, .invokevirtual 202, 3), (6, .istore 5, 2), (8, .aload_n 0, 1), (9, .iload_n 1, 1), (10, .iload_n 2, 1), (11, .invokevirtual 141, 3), (14, .istore 6, 2), (16, .aload_n 0, 1), (17, .iload 6, 2), (19, .iconst 2, 1), (20, .iload 5, 2), (22, .iload_n 2, 1), (23, .invokevirtual 127, 3), (26, .istore 7, 2), (28, .aload_n 0, 1), (29, .getfield 7, 3), (32, .sipush 3508, 3), (35, .iload 6, 2), (37, .iadd, 1), (38, .iaload, 1), (39, .ifCond .ne 6, 3), (42, .iload 7, 2), (44, .ireturn, 1), (45, .aload_n 0, 1), (46, .getfield 27, 3), (49, .iconst 0, 1), (50, .iload 7, 2), (52, .i2l, 1), (53, .lastore, 1), (54, .aload_n 0, 1), (55, .getfield 27, 3), (58, .iconst 1, 1), (59, .aload_n 0, 1), (60, .getfield 7, 3), (63, .sipush 518, 3), (66, .iload_n 2, 1), (67, .iadd, 1), (68, .iaload, 1), (69, .i2l, 1), (70, .lastore, 1), (71, .aload_n 0, 1), (72, .getfield 27, 3), (75, .iconst 2, 1), (76, .iload_n 3, 1), (77, .i2l, 1), (78, .lastore, 1), (79, .aload_n 0, 1), (80, .getfield 27, 3), (83, .iconst 3, 1), (84, .aload_n 0, 1), (85, .iload 6, 2), (87, .iconst 0, 1), (88, .iload 5, 2), (90, .iload_n 2, 1), (91, .invokevirtual 127, 3), (94, .i2l, 1), (95, .lastore, 1), (96, .aload_n 0, 1), (97, .getfield 27, 3), (100, .iconst 4, 1), (101, .iload_n 2, 1), (102, .aload_n 0, 1), (103, .iload_n 1, 1), (104, .iconst 2, 1), (105, .invokevirtual 202, 3), (108, .isub, 1), (109, .i2l, 1), (110, .lastore, 1), (111, .aload_n 0, 1), (112, .getfield 27, 3), (115, .iconst 5, 1), (116, .aload_n 0, 1), (117, .getfield 30, 3), (120, .iload_n 1, 1), (121, .laload, 1), (122, .lastore, 1), (123, .aload_n 0, 1), (124, .getfield 27, 3), (127, .bipush 6, 2), (129, .iload 4, 2), (131, .i2l, 1), (132, .lastore, 1), (133, .aload_n 0, 1), (134, .iload 6, 2), (136, .invokevirtual 199, 3), (139, .ifCond .ne 6, 3), (142, .iload 7, 2), (144, .ireturn, 1), (145, .aload_n 0, 1), (146, .getfield 23, 3), (149, .iconst 0, 1), (150, .laload, 1), (151, .lconst 0, 1), (152, .lcmp, 1), (153, .ifCond .ge 7, 3), (156, .iconst 0, 1), (157, .goto 29, 3), (160, .aload_n 0, 1), (161, .getfield 23, 3), (164, .iconst 0, 1), (165, .laload, 1), (166, .ldc2_w 85, 3), (169, .lcmp, 1), (170, .ifCond .le 9, 3), (173, .sipush 500, 3), (176, .goto 10, 3), (179, .aload_n 0, 1), (180, .getfield 23, 3), (183, .iconst 0, 1), (184, .laload, 1), (185, .l2i, 1), (186, .ireturn, 1)]
theorem dzX8_rateOf : dz cX8_rateOf rwX8_rateOf := dz_all 0 (by decide +kernel)
def kX8_rateOf (live : am_E) (Ret : am_R) : am_code := [(0, am_aload 0 1), (1, am_iload 1 2), (2, am_const (.int 0) 3), (3, am_callV live 8 2 TX8_ofLoan 6), (6, am_istore 5 8 8), (8, am_aload 0 9), (9, am_iload 1 10), (10, am_iload 2 11), (11, am_callV live 8 2 TX8_planAt 14), (14, am_istore 6 8 16), (16, am_aload 0 17), (17, am_iload 6 19), (19, am_const (.int 2) 20), (20, am_iload 5 22), (22, am_iload 2 23), (23, am_callV live 8 4 TX8_inForce 26), (26, am_istore 7 8 28), (28, am_aload 0 29), (29, am_getR live 8 0 32), (32, am_const (.int 3508) 35), (35, am_iload 6 37), (37, am_i2 (fun x y => x + y) 38), (38, am_ald live 0 39), (39, am_if1 (fun x => x = 0) 42 45), (42, am_iload 7 44), (44, am_retI Ret), (45, am_aload 0 46), (46, am_getR live 8 13 49), (49, am_const (.int 0) 50), (50, am_iload 7 52), (52, am_i2l 53), (53, am_last live 1 54), (54, am_aload 0 55), (55, am_getR live 8 13 58), (58, am_const (.int 1) 59), (59, am_aload 0 60), (60, am_getR live 8 0 63), (63, am_const (.int 518) 66), (66, am_iload 2 67), (67, am_i2 (fun x y => x + y) 68), (68, am_ald live 0 69), (69, am_i2l 70), (70, am_last live 1 71), (71, am_aload 0 72), (72, am_getR live 8 13 75), (75, am_const (.int 2) 76), (76, am_iload 3 77), (77, am_i2l 78), (78, am_last live 1 79), (79, am_aload 0 80), (80, am_getR live 8 13 83), (83, am_const (.int 3) 84), (84, am_aload 0 85), (85, am_iload 6 87), (87, am_const (.int 0) 88), (88, am_iload 5 90), (90, am_iload 2 91), (91, am_callV live 8 4 TX8_inForce 94), (94, am_i2l 95), (95, am_last live 1 96), (96, am_aload 0 97), (97, am_getR live 8 13 100), (100, am_const (.int 4) 101), (101, am_iload 2 102), (102, am_aload 0 103), (103, am_iload 1 104), (104, am_const (.int 2) 105), (105, am_callV live 8 2 TX8_ofLoan 108), (108, am_i2 (fun x y => x - y) 109), (109, am_i2l 110), (110, am_last live 1 111), (111, am_aload 0 112), (112, am_getR live 8 13 115), (115, am_const (.int 5) 116), (116, am_aload 0 117), (117, am_getR live 8 15 120), (120, am_iload 1 121), (121, am_lald live 1 122), (122, am_last live 1 123), (123, am_aload 0 124), (124, am_getR live 8 13 127), (127, am_const (.int 6) 129), (129, am_iload 4 131), (131, am_i2l 132), (132, am_last live 1 133), (133, am_aload 0 134), (134, am_iload 6 136), (136, am_callV live 8 1 TX8_work 139), (139, am_if1 (fun x => x = 0) 142 145), (142, am_iload 7 144), (144, am_retI Ret), (145, am_aload 0 146), (146, am_getR live 8 10 149), (149, am_const (.int 0) 150), (150, am_lald live 1 151), (151, am_const (.long 0) 152), (152, am_lcmp 153), (153, am_if1 (fun x => 0 ≤ x) 160 156), (156, am_const (.int 0) 157), (157, am_goto 186), (160, am_aload 0 161), (161, am_getR live 8 10 164), (164, am_const (.int 0) 165), (165, am_lald live 1 166), (166, am_const (.long 500) 169), (169, am_lcmp 170), (170, am_if1 (fun x => x ≤ 0) 179 173), (173, am_const (.int 500) 176), (176, am_goto 186), (179, am_aload 0 180), (180, am_getR live 8 10 183), (183, am_const (.int 0) 184), (184, am_lald live 1 185), (185, am_l2i 186), (186, am_retI Ret)]
theorem koX8_rateOf (live : am_E) (Ret : am_R) : ∀ q ∈ kX8_rateOf live Ret, am_ok RX8 cX8_rateOf 8 (some .int) 6 135 live Ret q.1 q.2 :=
  am_kz dzX8_rateOf <|
  am_kd (fun d => ak_aload_n d rfl rfl) <|
  am_kd (fun d => ak_iload_n d rfl rfl) <|
  am_kd (fun d => ak_iconst d (by decide +kernel) rfl) <|
  am_kd (fun d => ak_callV (C := RX8) (F := TX8) (N := 27) metX8_ofLoan rfl ⟨rfl, hy_X8_ofLoan⟩ (am_w5 wd_1154 wd_1156 wd_41 wd_67 wd_1157) (by decide) d rfl) <|
  am_kd (fun d => ak_istore d rfl) <|
  am_kd (fun d => ak_aload_n d rfl rfl) <|
  am_kd (fun d => ak_iload_n d rfl rfl) <|
  am_kd (fun d => ak_iload_n d rfl rfl) <|
  am_kd (fun d => ak_callV (C := RX8) (F := TX8) (N := 27) metX8_planAt rfl ⟨rfl, hy_X8_planAt⟩ (am_w5 wd_1085 wd_1087 wd_32 wd_67 wd_1088) (by decide) d rfl) <|
  am_kd (fun d => ak_istore d rfl) <|
  am_kd (fun d => ak_aload_n d rfl rfl) <|
  am_kd (fun d => ak_iload d rfl) <|
  am_kd (fun d => ak_iconst d (by decide +kernel) rfl) <|
  am_kd (fun d => ak_iload d rfl) <|
  am_kd (fun d => ak_iload_n d rfl rfl) <|
  am_kd (fun d => ak_callV (C := RX8) (F := TX8) (N := 27) metX8_inForce rfl ⟨rfl, hy_X8_inForce⟩ (am_w5 wd_1053 wd_1055 wd_29 wd_67 wd_1056) (by decide) d rfl) <|
  am_kd (fun d => ak_istore d rfl) <|
  am_kd (fun d => ak_aload_n d rfl rfl) <|
  am_kd (fun d => ak_getR (C := RX8) (T := TX8) (N := 27) rfl inX8w (by decide) rfl rfl rfl wd_895 d rfl) <|
  am_kd (fun d => ak_sipush d (by decide +kernel) rfl) <|
  am_kd (fun d => ak_iload d rfl) <|
  am_kd (fun d => ak_iadd d rfl) <|
  am_kd (fun d => ak_iald (t := 0) (fun _ => rfl) rfl d rfl) <|
  am_kd (fun d => ak_if_ne d (by decide +kernel) rfl) <|
  am_kd (fun d => ak_iload d rfl) <|
  am_kd (fun d => ak_retI d) <|
  am_kd (fun d => ak_aload_n d rfl rfl) <|
  am_kd (fun d => ak_getR (C := RX8) (T := TX8) (N := 27) rfl inX8w (by decide) rfl rfl rfl wd_908 d rfl) <|
  am_kd (fun d => ak_iconst d (by decide +kernel) rfl) <|
  am_kd (fun d => ak_iload d rfl) <|
  am_kd (fun d => ak_i2l d rfl) <|
  am_kd (fun d => ak_last (t := 1) (fun _ => rfl) rfl d rfl) <|
  am_kd (fun d => ak_aload_n d rfl rfl) <|
  am_kd (fun d => ak_getR (C := RX8) (T := TX8) (N := 27) rfl inX8w (by decide) rfl rfl rfl wd_908 d rfl) <|
  am_kd (fun d => ak_iconst d (by decide +kernel) rfl) <|
  am_kd (fun d => ak_aload_n d rfl rfl) <|
  am_kd (fun d => ak_getR (C := RX8) (T := TX8) (N := 27) rfl inX8w (by decide) rfl rfl rfl wd_895 d rfl) <|
  am_kd (fun d => ak_sipush d (by decide +kernel) rfl) <|
  am_kd (fun d => ak_iload_n d rfl rfl) <|
  am_kd (fun d => ak_iadd d rfl) <|
  am_kd (fun d => ak_iald (t := 0) (fun _ => rfl) rfl d rfl) <|
  am_kd (fun d => ak_i2l d rfl) <|
  am_kd (fun d => ak_last (t := 1) (fun _ => rfl) rfl d rfl) <|
  am_kd (fun d => ak_aload_n d rfl rfl) <|
  am_kd (fun d => ak_getR (C := RX8) (T := TX8) (N := 27) rfl inX8w (by decide) rfl rfl rfl wd_908 d rfl) <|
  am_kd (fun d => ak_iconst d (by decide +kernel) rfl) <|
  am_kd (fun d => ak_iload_n d rfl rfl) <|
  am_kd (fun d => ak_i2l d rfl) <|
  am_kd (fun d => ak_last (t := 1) (fun _ => rfl) rfl d rfl) <|
  am_kd (fun d => ak_aload_n d rfl rfl) <|
  am_kd (fun d => ak_getR (C := RX8) (T := TX8) (N := 27) rfl inX8w (by decide) rfl rfl rfl wd_908 d rfl) <|
  am_kd (fun d => ak_iconst d (by decide +kernel) rfl) <|
  am_kd (fun d => ak_aload_n d rfl rfl) <|
  am_kd (fun d => ak_iload d rfl) <|
  am_kd (fun d => ak_iconst d (by decide +kernel) rfl) <|
  am_kd (fun d => ak_iload d rfl) <|
  am_kd (fun d => ak_iload_n d rfl rfl) <|
  am_kd (fun d => ak_callV (C := RX8) (F := TX8) (N := 27) metX8_inForce rfl ⟨rfl, hy_X8_inForce⟩ (am_w5 wd_1053 wd_1055 wd_29 wd_67 wd_1056) (by decide) d rfl) <|
  am_kd (fun d => ak_i2l d rfl) <|
  am_kd (fun d => ak_last (t := 1) (fun _ => rfl) rfl d rfl) <|
  am_kd (fun d => ak_aload_n d rfl rfl) <|
  am_kd (fun d => ak_getR (C := RX8) (T := TX8) (N := 27) rfl inX8w (by decide) rfl rfl rfl wd_908 d rfl) <|
  am_kd (fun d => ak_iconst d (by decide +kernel) rfl) <|
  am_kd (fun d => ak_iload_n d rfl rfl) <|
  am_kd (fun d => ak_aload_n d rfl rfl) <|
  am_kd (fun d => ak_iload_n d rfl rfl) <|
  am_kd (fun d => ak_iconst d (by decide +kernel) rfl) <|
  am_kd (fun d => ak_callV (C := RX8) (F := TX8) (N := 27) metX8_ofLoan rfl ⟨rfl, hy_X8_ofLoan⟩ (am_w5 wd_1154 wd_1156 wd_41 wd_67 wd_1157) (by decide) d rfl) <|
  am_kd (fun d => ak_isub d rfl) <|
  am_kd (fun d => ak_i2l d rfl) <|
  am_kd (fun d => ak_last (t := 1) (fun _ => rfl) rfl d rfl) <|
  am_kd (fun d => ak_aload_n d rfl rfl) <|
  am_kd (fun d => ak_getR (C := RX8) (T := TX8) (N := 27) rfl inX8w (by decide) rfl rfl rfl wd_908 d rfl) <|
  am_kd (fun d => ak_iconst d (by decide +kernel) rfl) <|
  am_kd (fun d => ak_aload_n d rfl rfl) <|
  am_kd (fun d => ak_getR (C := RX8) (T := TX8) (N := 27) rfl inX8w (by decide) rfl rfl rfl wd_910 d rfl) <|
  am_kd (fun d => ak_iload_n d rfl rfl) <|
  am_kd (fun d => ak_lald (t := 1) (fun _ => rfl) rfl d rfl) <|
  am_kd (fun d => ak_last (t := 1) (fun _ => rfl) rfl d rfl) <|
  am_kd (fun d => ak_aload_n d rfl rfl) <|
  am_kd (fun d => ak_getR (C := RX8) (T := TX8) (N := 27) rfl inX8w (by decide) rfl rfl rfl wd_908 d rfl) <|
  am_kd (fun d => ak_bipush d (by decide +kernel) rfl) <|
  am_kd (fun d => ak_iload d rfl) <|
  am_kd (fun d => ak_i2l d rfl) <|
  am_kd (fun d => ak_last (t := 1) (fun _ => rfl) rfl d rfl) <|
  am_kd (fun d => ak_aload_n d rfl rfl) <|
  am_kd (fun d => ak_iload d rfl) <|
  am_kd (fun d => ak_callV (C := RX8) (F := TX8) (N := 27) metX8_work rfl ⟨rfl, hy_X8_work⟩ (am_w5 wd_1102 wd_1104 wd_33 wd_67 wd_1105) (by decide) d rfl) <|
  am_kd (fun d => ak_if_ne d (by decide +kernel) rfl) <|
  am_kd (fun d => ak_iload d rfl) <|
  am_kd (fun d => ak_retI d) <|
  am_kd (fun d => ak_aload_n d rfl rfl) <|
  am_kd (fun d => ak_getR (C := RX8) (T := TX8) (N := 27) rfl inX8w (by decide) rfl rfl rfl wd_905 d rfl) <|
  am_kd (fun d => ak_iconst d (by decide +kernel) rfl) <|
  am_kd (fun d => ak_lald (t := 1) (fun _ => rfl) rfl d rfl) <|
  am_kd (fun d => ak_lconst d (by decide +kernel) rfl) <|
  am_kd (fun d => ak_lcmp d rfl) <|
  am_kd (fun d => ak_if_ge d (by decide +kernel) rfl) <|
  am_kd (fun d => ak_iconst d (by decide +kernel) rfl) <|
  am_kd (fun d => ak_goto d (by decide +kernel)) <|
  am_kd (fun d => ak_aload_n d rfl rfl) <|
  am_kd (fun d => ak_getR (C := RX8) (T := TX8) (N := 27) rfl inX8w (by decide) rfl rfl rfl wd_905 d rfl) <|
  am_kd (fun d => ak_iconst d (by decide +kernel) rfl) <|
  am_kd (fun d => ak_lald (t := 1) (fun _ => rfl) rfl d rfl) <|
  am_kd (fun d => ak_ldc2 wd_1008 d rfl) <|
  am_kd (fun d => ak_lcmp d rfl) <|
  am_kd (fun d => ak_if_le d (by decide +kernel) rfl) <|
  am_kd (fun d => ak_sipush d (by decide +kernel) rfl) <|
  am_kd (fun d => ak_goto d (by decide +kernel)) <|
  am_kd (fun d => ak_aload_n d rfl rfl) <|
  am_kd (fun d => ak_getR (C := RX8) (T := TX8) (N := 27) rfl inX8w (by decide) rfl rfl rfl wd_905 d rfl) <|
  am_kd (fun d => ak_iconst d (by decide +kernel) rfl) <|
  am_kd (fun d => ak_lald (t := 1) (fun _ => rfl) rfl d rfl) <|
  am_kd (fun d => ak_l2i d rfl) <|
  am_kd (fun d => ak_retI d) <| am_kdn
def TX8_rateOf : am_T := fun live as M R => match as with
  | [.ref n, .int l, .int y, .int e, .int a] => am_mn live ∧ n = 200 ∧ am_in l 30 ∧ am_in y 40 ∧ r_I M ∧ ∀ v M', r_sc M M' → r_I M' → R (some (.int v)) M'
  | _ => False
set_option maxRecDepth 100000 in
set_option maxHeartbeats 4000000 in
theorem metX8_rateOf : am_Met yX8_rateOf cX8_rateOf 8 (some .int) (6) (135) TX8_rateOf := by
  refine am_met (own := RX8) (by decide +kernel) rfl kX8_rateOf koX8_rateOf 200 (fun _ _ _ _ _ => none) (fun live as M Ret h => ?_) (fun _ _ _ _ _ _ _ _ hI => by cases hI)
  unfold TX8_rateOf at h
  split at h
  · next n l y e a =>
    refine ⟨Nat.le_of_ble_eq_true rfl, ?_⟩
    change am_wp _ _ _ _ [(0, Value.ref n), (1, Value.int l), (2, Value.int y), (3, Value.int e), (4, Value.int a)] _ _
    obtain ⟨hmn, rfl, hl, hy, hR, h⟩ := h
    have hmn2 := hmn
    obtain ⟨i1, i2, rfl⟩ := hmn2
    have hp := r_pers hR hl
    have w0 : 0 ≤ (0 : Int32).toInt ∧ (0 : Int32).toInt ≤ 7 := ⟨by decide, by decide⟩
    have w2 : 0 ≤ (2 : Int32).toInt ∧ (2 : Int32).toInt ≤ 7 := ⟨by decide, by decide⟩
    have l207 : am_len 207 = 30 := rfl
    have y518 := r_in40 hy (c := 518) ⟨by decide, by decide⟩
    have x1 := y518.1
    have x2 := y518.2
    have l1 := hl.1
    have l2 := hl.2
    repeat' (first | (with_reducible exact hmn) | (with_reducible exact hl) | (with_reducible exact hp) | (with_reducible exact w0) | (with_reducible exact w2) | (with_reducible exact hR) | (with_reducible exact x1) | (with_reducible exact x2) | (with_reducible exact l1) | apply And.intro | exact rfl | ((with_reducible change r_I _); (with_reducible assumption)) | (intro hx; exact absurd hx (by decide)) | (intro hx; exact absurd (by decide) hx) | decide | intro hx | (refine Exists.intro _ (And.intro rfl ?_)))
    all_goals try first | (with_reducible change am_tI _ _) | (change Ret _ _) | (change Ret _ _ _) | (change Exists _)
    all_goals try dsimp only at *
    all_goals try (with_reducible exact absurd ‹(1000 : Int64) = 0› am_z1000)
    all_goals first
      | exact (r_in5 (by with_reducible assumption) ⟨by decide, by decide⟩).1
      | exact (r_in5 (by with_reducible assumption) ⟨by decide, by decide⟩).2
      | exact (show am_in _ 5 by with_reducible assumption).1
      | exact (show am_in _ 5 by with_reducible assumption).2
      | decide
      | (rw [l207]; exact hl.2)
      | (change r_I _; (repeat' (first | (with_reducible assumption) | ((with_reducible change r_I (am_wJ _ _ _ _)); refine r_I.wJ ?_) | ((with_reducible change r_I (am_wI _ _ _ _)); refine r_I.wI ?_ rfl))))
      | ((with_reducible change Ret _ _); exact h _ _ (by (repeat' (first | (with_reducible exact r_sc.rf) | (with_reducible assumption) | ((with_reducible change r_sc _ (am_wI _ _ _ _)); refine r_sc.wI ?_ rfl) | ((with_reducible change r_sc _ (am_wJ _ _ _ _)); refine r_sc.wJ ?_ rfl) | (refine r_sc.tr ?_ (by with_reducible assumption))))) (by (repeat' (first | (with_reducible assumption) | ((with_reducible change r_I (am_wJ _ _ _ _)); refine r_I.wJ ?_) | ((with_reducible change r_I (am_wI _ _ _ _)); refine r_I.wI ?_ rfl)))))
      | skip
  · exact h.elim
theorem dX8_runOf_0 : decode cX8_runOf 0 = .ok (.iload_n 2, 1) := by decide +kernel
theorem dX8_runOf_1 : decode cX8_runOf 1 = .ok (.tableswitch 59 0 3 #[31, 38, 45, 52], 31) := by decide +kernel
theorem dX8_runOf_32 : decode cX8_runOf 32 = .ok (.aload_n 0, 1) := by decide +kernel
theorem dX8_runOf_33 : decode cX8_runOf 33 = .ok (.getfield 30, 3) := by decide +kernel
theorem dX8_runOf_36 : decode cX8_runOf 36 = .ok (.iload_n 1, 1) := by decide +kernel
theorem dX8_runOf_37 : decode cX8_runOf 37 = .ok (.laload, 1) := by decide +kernel
theorem dX8_runOf_38 : decode cX8_runOf 38 = .ok (.lreturn, 1) := by decide +kernel
theorem dX8_runOf_39 : decode cX8_runOf 39 = .ok (.aload_n 0, 1) := by decide +kernel
theorem dX8_runOf_40 : decode cX8_runOf 40 = .ok (.getfield 33, 3) := by decide +kernel
theorem dX8_runOf_43 : decode cX8_runOf 43 = .ok (.iload_n 1, 1) := by decide +kernel
theorem dX8_runOf_44 : decode cX8_runOf 44 = .ok (.laload, 1) := by decide +kernel
theorem dX8_runOf_45 : decode cX8_runOf 45 = .ok (.lreturn, 1) := by decide +kernel
theorem dX8_runOf_46 : decode cX8_runOf 46 = .ok (.aload_n 0, 1) := by decide +kernel
theorem dX8_runOf_47 : decode cX8_runOf 47 = .ok (.getfield 42, 3) := by decide +kernel
theorem dX8_runOf_50 : decode cX8_runOf 50 = .ok (.iload_n 1, 1) := by decide +kernel
theorem dX8_runOf_51 : decode cX8_runOf 51 = .ok (.laload, 1) := by decide +kernel
theorem dX8_runOf_52 : decode cX8_runOf 52 = .ok (.lreturn, 1) := by decide +kernel
theorem dX8_runOf_53 : decode cX8_runOf 53 = .ok (.aload_n 0, 1) := by decide +kernel
theorem dX8_runOf_54 : decode cX8_runOf 54 = .ok (.getfield 36, 3) := by decide +kernel
theorem dX8_runOf_57 : decode cX8_runOf 57 = .ok (.iload_n 1, 1) := by decide +kernel
theorem dX8_runOf_58 : decode cX8_runOf 58 = .ok (.laload, 1) := by decide +kernel
theorem dX8_runOf_59 : decode cX8_runOf 59 = .ok (.lreturn, 1) := by decide +kernel
theorem dX8_runOf_60 : decode cX8_runOf 60 = .ok (.aload_n 0, 1) := by decide +kernel
theorem dX8_runOf_61 : decode cX8_runOf 61 = .ok (.getfield 45, 3) := by decide +kernel
theorem dX8_runOf_64 : decode cX8_runOf 64 = .ok (.iload_n 1, 1) := by decide +kernel
theorem dX8_runOf_65 : decode cX8_runOf 65 = .ok (.laload, 1) := by decide +kernel
theorem dX8_runOf_66 : decode cX8_runOf 66 = .ok (.lreturn, 1) := by decide +kernel
def kX8_runOf (live : am_E) (Ret : am_R) : am_code := [(0, am_iload 2 1), (1, am_switch [(0, 32), (1, 39), (2, 46), (3, 53)] 60), (32, am_aload 0 33), (33, am_getR live 8 15 36), (36, am_iload 1 37), (37, am_lald live 1 38), (38, am_retL Ret), (39, am_aload 0 40), (40, am_getR live 8 16 43), (43, am_iload 1 44), (44, am_lald live 1 45), (45, am_retL Ret), (46, am_aload 0 47), (47, am_getR live 8 19 50), (50, am_iload 1 51), (51, am_lald live 1 52), (52, am_retL Ret), (53, am_aload 0 54), (54, am_getR live 8 17 57), (57, am_iload 1 58), (58, am_lald live 1 59), (59, am_retL Ret), (60, am_aload 0 61), (61, am_getR live 8 20 64), (64, am_iload 1 65), (65, am_lald live 1 66), (66, am_retL Ret)]
theorem koX8_runOf (live : am_E) (Ret : am_R) : ∀ q ∈ kX8_runOf live Ret, am_ok RX8 cX8_runOf 3 (some .long) 0 0 live Ret q.1 q.2 :=
  am_kc (ak_iload_n dX8_runOf_0 rfl rfl) <|
  am_kc (ak_tswitch dX8_runOf_1 (by decide +kernel) (by decide +kernel) (by decide +kernel) (by decide +kernel) (by decide +kernel) (by decide +kernel)) <|
  am_kc (ak_aload_n dX8_runOf_32 rfl rfl) <|
  am_kc (ak_getR (C := RX8) (T := TX8) (N := 27) rfl inX8w (by decide) rfl rfl rfl wd_910 dX8_runOf_33 rfl) <|
  am_kc (ak_iload_n dX8_runOf_36 rfl rfl) <|
  am_kc (ak_lald (t := 1) (fun _ => rfl) rfl dX8_runOf_37 rfl) <|
  am_kc (ak_retL dX8_runOf_38) <|
  am_kc (ak_aload_n dX8_runOf_39 rfl rfl) <|
  am_kc (ak_getR (C := RX8) (T := TX8) (N := 27) rfl inX8w (by decide) rfl rfl rfl wd_911 dX8_runOf_40 rfl) <|
  am_kc (ak_iload_n dX8_runOf_43 rfl rfl) <|
  am_kc (ak_lald (t := 1) (fun _ => rfl) rfl dX8_runOf_44 rfl) <|
  am_kc (ak_retL dX8_runOf_45) <|
  am_kc (ak_aload_n dX8_runOf_46 rfl rfl) <|
  am_kc (ak_getR (C := RX8) (T := TX8) (N := 27) rfl inX8w (by decide) rfl rfl rfl wd_914 dX8_runOf_47 rfl) <|
  am_kc (ak_iload_n dX8_runOf_50 rfl rfl) <|
  am_kc (ak_lald (t := 1) (fun _ => rfl) rfl dX8_runOf_51 rfl) <|
  am_kc (ak_retL dX8_runOf_52) <|
  am_kc (ak_aload_n dX8_runOf_53 rfl rfl) <|
  am_kc (ak_getR (C := RX8) (T := TX8) (N := 27) rfl inX8w (by decide) rfl rfl rfl wd_912 dX8_runOf_54 rfl) <|
  am_kc (ak_iload_n dX8_runOf_57 rfl rfl) <|
  am_kc (ak_lald (t := 1) (fun _ => rfl) rfl dX8_runOf_58 rfl) <|
  am_kc (ak_retL dX8_runOf_59) <|
  am_kc (ak_aload_n dX8_runOf_60 rfl rfl) <|
  am_kc (ak_getR (C := RX8) (T := TX8) (N := 27) rfl inX8w (by decide) rfl rfl rfl wd_915 dX8_runOf_61 rfl) <|
  am_kc (ak_iload_n dX8_runOf_64 rfl rfl) <|
  am_kc (ak_lald (t := 1) (fun _ => rfl) rfl dX8_runOf_65 rfl) <|
  am_kc (ak_retL dX8_runOf_66) <| am_kn
def TX8_runOf : am_T := fun live as M R => match as with
  | [.ref n, .int l, .int w] => am_mn live ∧ n = 200 ∧ am_in l 30 ∧ ∀ v, R (some (.long v)) M
  | _ => False
set_option maxRecDepth 100000 in
set_option maxHeartbeats 4000000 in
theorem metX8_runOf : am_Met yX8_runOf cX8_runOf 3 (some .long) (0) (0) TX8_runOf := by
  refine am_met (own := RX8) (by decide +kernel) rfl kX8_runOf koX8_runOf 100 (fun _ _ _ _ _ => none) (fun live as M Ret h => ?_) (fun _ _ _ _ _ _ _ _ hI => by cases hI)
  unfold TX8_runOf at h
  split at h
  · next n l w =>
    refine ⟨Nat.le_of_ble_eq_true rfl, ?_⟩
    change am_wp _ _ _ _ [(0, Value.ref n), (1, Value.int l), (2, Value.int w)] _ _
    obtain ⟨⟨i1, i2, rfl⟩, rfl, hl, h⟩ := h
    repeat' (first | apply And.intro | exact rfl | intro hx | (refine Exists.intro _ (And.intro rfl ?_)))
    all_goals try first | (with_reducible change am_tI _ _) | (change Ret _ _) | (change Ret _ _ _) | (change Exists _)
    all_goals try dsimp only at *
    all_goals try (with_reducible exact absurd ‹(1000 : Int64) = 0› am_z1000)
    all_goals first
      | (with_reducible exact h _)
      | (with_reducible exact hl.1)
      | (with_reducible exact hl.2)
      | exact h _
      | exact hl.1
      | exact hl.2
  · exact h.elim
theorem hy_X8_runOf : yX8_runOf.cls ≠ "java/lang/invoke/MethodHandle" ∧ yX8_runOf.cls ≠ "java/lang/invoke/VarHandle" ∧ (parseMethodDescriptor yX8_runOf.desc).map (fun d => d.parameters.length) = some 2 := ⟨by decide +kernel, by decide +kernel, by decide +kernel⟩
set_option maxRecDepth 100000 in
theorem wd_1187 : Cond.methodLink "LearnLoansModel" 233 yX8_runOf ∈ am_ws := am_wt5 (List.mem_of_getElem? (i := 170) (by rfl)) (by decide +kernel)
set_option maxRecDepth 100000 in
theorem wd_1189 : Cond.instanceMethod yX8_runOf ∈ am_ws := am_wt5 (List.mem_of_getElem? (i := 172) (by rfl)) (by decide +kernel)
set_option maxRecDepth 100000 in
theorem wd_49 : Cond.selects "LearnLoansModel" yX8_runOf yX8_runOf ∈ am_ws := am_wsi (List.mem_of_getElem? (i := 49) (by rfl)) (by decide +kernel)
set_option maxRecDepth 100000 in
theorem wd_1190 : Cond.code yX8_runOf cX8_runOf 3 (some .long) ∈ am_ws := am_wt5 (List.mem_of_getElem? (i := 173) (by rfl)) (by decide +kernel)
def rwX8_allOf : List dz_r := [(0, .lconst 0, 1), (1, .lstore_n 3, 1), (2, .iconst 0, 1), (3, .istore 5, 2), (5, .iload 5, 2), (7, .aload_n 0, 1), (8, .getfield 7, 3), (11, .iconst 1, 1), (12, .iaload, 1), (13, .if_icmp .ge 34, 3), (16, .lload_n 3, 1), (17, .aload_n 0, 1), (18, .iload 5, 2), (20, .iconst 0, 1), (21, .invokevirtual 202, 3), (24, .iload_n 1, 1), (25, .if_icmp .ne 13, 3), (28, .aload_n 0, 1), (29, .iload 5, 2), (31, .iload_n 2, 1), (32, .invokevirtual 233, 3), (35, .goto 4, 3), (38, .lconst 0, 1), (39, .ladd, 1), (40, .lstore_n 3, 1), (41, .iinc 5 1, 3), (44, .goto (-39), 3), (47, .lload_n 3, 1), (48, .lreturn, 1)]
theorem dzX8_allOf : dz cX8_allOf rwX8_allOf := dz_all 0 (by decide +kernel)
def kX8_allOf (live : am_E) (Ret : am_R) : am_code := [(0, am_const (.long 0) 1), (1, am_lstore 3 6 2), (2, am_const (.int 0) 3), (3, am_istore 5 6 5), (5, am_iload 5 7), (7, am_aload 0 8), (8, am_getR live 8 0 11), (11, am_const (.int 1) 12), (12, am_ald live 0 13), (13, am_if2 (fun x y => y ≤ x) 47 16), (16, am_lload 3 17), (17, am_aload 0 18), (18, am_iload 5 20), (20, am_const (.int 0) 21), (21, am_callV live 8 2 TX8_ofLoan 24), (24, am_iload 1 25), (25, am_if2 (fun x y => x = y) 28 38), (28, am_aload 0 29), (29, am_iload 5 31), (31, am_iload 2 32), (32, am_callV live 8 2 TX8_runOf 35), (35, am_goto 39), (38, am_const (.long 0) 39), (39, am_l2 (fun x y => x + y) 40), (40, am_lstore 3 6 41), (41, am_iinc 5 6 1 44), (44, am_goto 5), (47, am_lload 3 48), (48, am_retL Ret)]
theorem koX8_allOf (live : am_E) (Ret : am_R) : ∀ q ∈ kX8_allOf live Ret, am_ok RX8 cX8_allOf 6 (some .long) 1 22 live Ret q.1 q.2 :=
  am_kz dzX8_allOf <|
  am_kd (fun d => ak_lconst d (by decide +kernel) rfl) <|
  am_kd (fun d => ak_lstore_n d rfl rfl) <|
  am_kd (fun d => ak_iconst d (by decide +kernel) rfl) <|
  am_kd (fun d => ak_istore d rfl) <|
  am_kd (fun d => ak_iload d rfl) <|
  am_kd (fun d => ak_aload_n d rfl rfl) <|
  am_kd (fun d => ak_getR (C := RX8) (T := TX8) (N := 27) rfl inX8w (by decide) rfl rfl rfl wd_895 d rfl) <|
  am_kd (fun d => ak_iconst d (by decide +kernel) rfl) <|
  am_kd (fun d => ak_iald (t := 0) (fun _ => rfl) rfl d rfl) <|
  am_kd (fun d => ak_icmp_ge d (by decide +kernel) rfl) <|
  am_kd (fun d => ak_lload_n d rfl rfl) <|
  am_kd (fun d => ak_aload_n d rfl rfl) <|
  am_kd (fun d => ak_iload d rfl) <|
  am_kd (fun d => ak_iconst d (by decide +kernel) rfl) <|
  am_kd (fun d => ak_callV (C := RX8) (F := TX8) (N := 27) metX8_ofLoan rfl ⟨rfl, hy_X8_ofLoan⟩ (am_w5 wd_1154 wd_1156 wd_41 wd_67 wd_1157) (by decide) d rfl) <|
  am_kd (fun d => ak_iload_n d rfl rfl) <|
  am_kd (fun d => ak_icmp_ne d (by decide +kernel) rfl) <|
  am_kd (fun d => ak_aload_n d rfl rfl) <|
  am_kd (fun d => ak_iload d rfl) <|
  am_kd (fun d => ak_iload_n d rfl rfl) <|
  am_kd (fun d => ak_callV (C := RX8) (F := TX8) (N := 27) metX8_runOf rfl ⟨rfl, hy_X8_runOf⟩ (am_w5 wd_1187 wd_1189 wd_49 wd_67 wd_1190) (by decide) d rfl) <|
  am_kd (fun d => ak_goto d (by decide +kernel)) <|
  am_kd (fun d => ak_lconst d (by decide +kernel) rfl) <|
  am_kd (fun d => ak_ladd d rfl) <|
  am_kd (fun d => ak_lstore_n d rfl rfl) <|
  am_kd (fun d => ak_iinc d (by decide +kernel) rfl) <|
  am_kd (fun d => ak_goto d (by decide +kernel)) <|
  am_kd (fun d => ak_lload_n d rfl rfl) <|
  am_kd (fun d => ak_retL d) <| am_kdn
def TX8_allOf : am_T := fun live as M R => match as with
  | [.ref n, .int p, .int w] => am_mn live ∧ n = 200 ∧ r_I M ∧ ∀ v, R (some (.long v)) M
  | _ => False
def JX8_allOf : am_E → List Value → am_M → am_R → am_inv := fun live as M0 _ pc => match as with
  | [.ref n, .int p, .int w] => (match pc with
    | 5 => some ([0, 1, 2, 3, 5], fun k L st M => ∃ (v : Int64) (i : Int32), L = [(0, .ref 200), (1, .int p), (2, .int w), (3, .long v), (5, .int i)] ∧ st = [] ∧ k = ((31 - i.toInt).toNat, 0) ∧ 0 ≤ i.toInt ∧ M = M0)
    | _ => none)
  | _ => none
set_option maxRecDepth 100000 in
set_option maxHeartbeats 4000000 in
theorem metX8_allOf : am_Met yX8_allOf cX8_allOf 6 (some .long) (1) (22) TX8_allOf := by
  refine am_met (own := RX8) (by decide +kernel) rfl kX8_allOf koX8_allOf 100 JX8_allOf ?_ ?_
  · intro live as M Ret h
    unfold TX8_allOf at h
    split at h
    · next n p w =>
      refine ⟨Nat.le_of_ble_eq_true rfl, ?_⟩
      change am_wp _ _ _ _ [(0, Value.ref n), (1, Value.int p), (2, Value.int w)] _ _
      obtain ⟨hmn, rfl, hR, h⟩ := h
      repeat' (first | apply And.intro | exact rfl | intro hx | (refine Exists.intro _ (And.intro rfl ?_)))
      all_goals try first | (with_reducible change am_tI _ _) | (change Ret _ _) | (change Ret _ _ _) | (change Exists _)
      all_goals try dsimp only at *
      all_goals try (with_reducible exact absurd ‹(1000 : Int64) = 0› am_z1000)
      exact ⟨_, _, _, rfl, rfl, rfl, by decide, rfl⟩
    · exact h.elim
  · intro live as M0 Ret h k pc I hI L st M hi
    unfold TX8_allOf at h
    split at h
    · next n p w =>
      obtain ⟨hmn, rfl, hR, h⟩ := h
      have hmn2 := hmn
      obtain ⟨i1, i2, rfl⟩ := hmn2
      have l201 : am_len 201 = 3760 := rfl
      have w0 : 0 ≤ (0 : Int32).toInt ∧ (0 : Int32).toInt ≤ 7 := ⟨by decide, by decide⟩
      have n1 : 0 ≤ (M0.1 201 (Int32.toNatClampNeg 1)).toInt ∧ (M0.1 201 (Int32.toNatClampNeg 1)).toInt ≤ 30 := hR.n1
      change (match pc with | 5 => _ | _ => none) = _ at hI
      split at hI
      · cases hI
        obtain ⟨v, i, rfl, rfl, rfl, e1, rfl⟩ := hi
        by_cases hz : M.1 201 (Int32.toNatClampNeg 1) ≤ i
        · skip
          repeat' (first | apply And.intro | exact rfl | (intro hx; with_reducible exact absurd hz hx) | (intro hx; exact absurd hx (by decide)) | (intro hx; exact absurd (by decide) hx) | decide | intro hx | (refine Exists.intro _ (And.intro rfl ?_)))
          all_goals try first | (with_reducible change am_tI _ _) | (change Ret _ _) | (change Ret _ _ _) | (change Exists _)
          all_goals try dsimp only at *
          all_goals try (with_reducible exact absurd ‹(1000 : Int64) = 0› am_z1000)
          all_goals first
            | (with_reducible exact h _)
            | (show _ < _; simp only [l201]; decide)
            | exact h _
        · have hz2 := hz
          simp only [i_le] at hz2
          have hl : am_in i 30 := ⟨e1, by omega⟩
          have hi := i_inc (x := i) (by omega) (by omega)
          repeat' (first | (with_reducible exact hmn) | (with_reducible exact hl) | (with_reducible exact w0) | apply And.intro | exact rfl | (intro hx; with_reducible exact absurd hx hz) | (intro hx; exact absurd hx (by decide)) | (intro hx; exact absurd (by decide) hx) | decide | intro hx | (refine Exists.intro _ (And.intro rfl ?_)))
          all_goals try first | (with_reducible change am_tI _ _) | (change Ret _ _) | (change Ret _ _ _) | (change Exists _)
          all_goals try dsimp only at *
          all_goals try (with_reducible exact absurd ‹(1000 : Int64) = 0› am_z1000)
          all_goals first
            | (show _ < _; simp only [l201]; decide)
            | exact ⟨_, am_lt_l (by omega), _, _, rfl, rfl, rfl, by omega, rfl⟩
            | skip
      · cases hI
    · exact h.elim
def rwX8_dueOf : List dz_r := [(0, .aload_n 0, 1), (1, .iload_n 1, 1), (2, .iconst 0, 1), (3, .invokevirtual 202, 3), (6, .istore 5, 2), (8, .aload_n 0, 1), (9, .iload_n 1, 1), (10, .iload_n 2, 1), (11, .invokevirtual 141, 3), (14, .istore 6, 2), (16, .iload_n 3, 1), (17, .ifCond .ge 24, 3), (20, .iload 4, 2), (22, .ifCond .ne 7, 3), (25, .lconst 0, 1), (26, .goto 14, 3), (29, .aload_n 0, 1), (30, .iload 6, 2), (32, .iconst 5, 1), (33, .iload 5, 2), (35, .iload_n 2, 1), (36, .invokevirtual 127, 3), (39, .i2l, 1), (40, .lreturn, 1), (41, .aload_n 0, 1), (42, .iload 6, 2), (44, .iconst 0, 1), (45, .iload 5, 2), (47, .iload_n 2, 1), (48, .invokevirtual 127, 3), (51, .i2l, 1), (52, .lstore 7, 2), (54, .iload 4, 2), (56, .ifCond .ne 8, 3), (59, .lload 7, 2), (61, .goto 22, 3), (64, .lload 7, 2), (66, .aload_n 0, 1), (67, .getfield 7, 3), (70, .sipush 514, 3), (73, .iload 4, 2), (75, .iadd, 1), (76, .iaload, 1), (77, .i2l, 1), (78, .lmul, 1), (79, .ldc2_w 94, 3), (82, .ldiv, 1), (83, .lstore 7, 2), (85, .iload_n 3, 1), (86, .i2l, 1), (87, .lload 7, 2), (89, .lcmp, 1), (90, .ifCond .le 27, 3), (93, .iload_n 3, 1), (94, .i2l, 1), (95, .lload 7, 2), (97, .lsub, 1), (98, .aload_n 0, 1), (99, .iload 6, 2), (101, .iconst 1, 1), (102, .iload 5, 2), (104, .iload_n 2, 1), (105, .invokevirtual 127, 3), (108, .i2l, 1), (109, .lmul, 1), (110, .ldc2_w 94, 3), (113, .ldiv, 1), (114, .goto 4, 3), (117, .lconst 0, 1), (118, .lreturn, 1)]
theorem dzX8_dueOf : dz cX8_dueOf rwX8_dueOf := dz_all 0 (by decide +kernel)
def kX8_dueOf (live : am_E) (Ret : am_R) : am_code := [(0, am_aload 0 1), (1, am_iload 1 2), (2, am_const (.int 0) 3), (3, am_callV live 8 2 TX8_ofLoan 6), (6, am_istore 5 9 8), (8, am_aload 0 9), (9, am_iload 1 10), (10, am_iload 2 11), (11, am_callV live 8 2 TX8_planAt 14), (14, am_istore 6 9 16), (16, am_iload 3 17), (17, am_if1 (fun x => 0 ≤ x) 41 20), (20, am_iload 4 22), (22, am_if1 (fun x => x = 0) 25 29), (25, am_const (.long 0) 26), (26, am_goto 40), (29, am_aload 0 30), (30, am_iload 6 32), (32, am_const (.int 5) 33), (33, am_iload 5 35), (35, am_iload 2 36), (36, am_callV live 8 4 TX8_inForce 39), (39, am_i2l 40), (40, am_retL Ret), (41, am_aload 0 42), (42, am_iload 6 44), (44, am_const (.int 0) 45), (45, am_iload 5 47), (47, am_iload 2 48), (48, am_callV live 8 4 TX8_inForce 51), (51, am_i2l 52), (52, am_lstore 7 9 54), (54, am_iload 4 56), (56, am_if1 (fun x => x = 0) 59 64), (59, am_lload 7 61), (61, am_goto 83), (64, am_lload 7 66), (66, am_aload 0 67), (67, am_getR live 8 0 70), (70, am_const (.int 514) 73), (73, am_iload 4 75), (75, am_i2 (fun x y => x + y) 76), (76, am_ald live 0 77), (77, am_i2l 78), (78, am_l2 (fun x y => x * y) 79), (79, am_const (.long 1000) 82), (82, am_l2z (fun x y => x / y) 83), (83, am_lstore 7 9 85), (85, am_iload 3 86), (86, am_i2l 87), (87, am_lload 7 89), (89, am_lcmp 90), (90, am_if1 (fun x => x ≤ 0) 117 93), (93, am_iload 3 94), (94, am_i2l 95), (95, am_lload 7 97), (97, am_l2 (fun x y => x - y) 98), (98, am_aload 0 99), (99, am_iload 6 101), (101, am_const (.int 1) 102), (102, am_iload 5 104), (104, am_iload 2 105), (105, am_callV live 8 4 TX8_inForce 108), (108, am_i2l 109), (109, am_l2 (fun x y => x * y) 110), (110, am_const (.long 1000) 113), (113, am_l2z (fun x y => x / y) 114), (114, am_goto 118), (117, am_const (.long 0) 118), (118, am_retL Ret)]
theorem koX8_dueOf (live : am_E) (Ret : am_R) : ∀ q ∈ kX8_dueOf live Ret, am_ok RX8 cX8_dueOf 9 (some .long) 2 53 live Ret q.1 q.2 :=
  am_kz dzX8_dueOf <|
  am_kd (fun d => ak_aload_n d rfl rfl) <|
  am_kd (fun d => ak_iload_n d rfl rfl) <|
  am_kd (fun d => ak_iconst d (by decide +kernel) rfl) <|
  am_kd (fun d => ak_callV (C := RX8) (F := TX8) (N := 27) metX8_ofLoan rfl ⟨rfl, hy_X8_ofLoan⟩ (am_w5 wd_1154 wd_1156 wd_41 wd_67 wd_1157) (by decide) d rfl) <|
  am_kd (fun d => ak_istore d rfl) <|
  am_kd (fun d => ak_aload_n d rfl rfl) <|
  am_kd (fun d => ak_iload_n d rfl rfl) <|
  am_kd (fun d => ak_iload_n d rfl rfl) <|
  am_kd (fun d => ak_callV (C := RX8) (F := TX8) (N := 27) metX8_planAt rfl ⟨rfl, hy_X8_planAt⟩ (am_w5 wd_1085 wd_1087 wd_32 wd_67 wd_1088) (by decide) d rfl) <|
  am_kd (fun d => ak_istore d rfl) <|
  am_kd (fun d => ak_iload_n d rfl rfl) <|
  am_kd (fun d => ak_if_ge d (by decide +kernel) rfl) <|
  am_kd (fun d => ak_iload d rfl) <|
  am_kd (fun d => ak_if_ne d (by decide +kernel) rfl) <|
  am_kd (fun d => ak_lconst d (by decide +kernel) rfl) <|
  am_kd (fun d => ak_goto d (by decide +kernel)) <|
  am_kd (fun d => ak_aload_n d rfl rfl) <|
  am_kd (fun d => ak_iload d rfl) <|
  am_kd (fun d => ak_iconst d (by decide +kernel) rfl) <|
  am_kd (fun d => ak_iload d rfl) <|
  am_kd (fun d => ak_iload_n d rfl rfl) <|
  am_kd (fun d => ak_callV (C := RX8) (F := TX8) (N := 27) metX8_inForce rfl ⟨rfl, hy_X8_inForce⟩ (am_w5 wd_1053 wd_1055 wd_29 wd_67 wd_1056) (by decide) d rfl) <|
  am_kd (fun d => ak_i2l d rfl) <|
  am_kd (fun d => ak_retL d) <|
  am_kd (fun d => ak_aload_n d rfl rfl) <|
  am_kd (fun d => ak_iload d rfl) <|
  am_kd (fun d => ak_iconst d (by decide +kernel) rfl) <|
  am_kd (fun d => ak_iload d rfl) <|
  am_kd (fun d => ak_iload_n d rfl rfl) <|
  am_kd (fun d => ak_callV (C := RX8) (F := TX8) (N := 27) metX8_inForce rfl ⟨rfl, hy_X8_inForce⟩ (am_w5 wd_1053 wd_1055 wd_29 wd_67 wd_1056) (by decide) d rfl) <|
  am_kd (fun d => ak_i2l d rfl) <|
  am_kd (fun d => ak_lstore d rfl) <|
  am_kd (fun d => ak_iload d rfl) <|
  am_kd (fun d => ak_if_ne d (by decide +kernel) rfl) <|
  am_kd (fun d => ak_lload d rfl) <|
  am_kd (fun d => ak_goto d (by decide +kernel)) <|
  am_kd (fun d => ak_lload d rfl) <|
  am_kd (fun d => ak_aload_n d rfl rfl) <|
  am_kd (fun d => ak_getR (C := RX8) (T := TX8) (N := 27) rfl inX8w (by decide) rfl rfl rfl wd_895 d rfl) <|
  am_kd (fun d => ak_sipush d (by decide +kernel) rfl) <|
  am_kd (fun d => ak_iload d rfl) <|
  am_kd (fun d => ak_iadd d rfl) <|
  am_kd (fun d => ak_iald (t := 0) (fun _ => rfl) rfl d rfl) <|
  am_kd (fun d => ak_i2l d rfl) <|
  am_kd (fun d => ak_lmul d rfl) <|
  am_kd (fun d => ak_ldc2 wd_1045 d rfl) <|
  am_kd (fun d => ak_ldiv d rfl) <|
  am_kd (fun d => ak_lstore d rfl) <|
  am_kd (fun d => ak_iload_n d rfl rfl) <|
  am_kd (fun d => ak_i2l d rfl) <|
  am_kd (fun d => ak_lload d rfl) <|
  am_kd (fun d => ak_lcmp d rfl) <|
  am_kd (fun d => ak_if_le d (by decide +kernel) rfl) <|
  am_kd (fun d => ak_iload_n d rfl rfl) <|
  am_kd (fun d => ak_i2l d rfl) <|
  am_kd (fun d => ak_lload d rfl) <|
  am_kd (fun d => ak_lsub d rfl) <|
  am_kd (fun d => ak_aload_n d rfl rfl) <|
  am_kd (fun d => ak_iload d rfl) <|
  am_kd (fun d => ak_iconst d (by decide +kernel) rfl) <|
  am_kd (fun d => ak_iload d rfl) <|
  am_kd (fun d => ak_iload_n d rfl rfl) <|
  am_kd (fun d => ak_callV (C := RX8) (F := TX8) (N := 27) metX8_inForce rfl ⟨rfl, hy_X8_inForce⟩ (am_w5 wd_1053 wd_1055 wd_29 wd_67 wd_1056) (by decide) d rfl) <|
  am_kd (fun d => ak_i2l d rfl) <|
  am_kd (fun d => ak_lmul d rfl) <|
  am_kd (fun d => ak_ldc2 wd_1045 d rfl) <|
  am_kd (fun d => ak_ldiv d rfl) <|
  am_kd (fun d => ak_goto d (by decide +kernel)) <|
  am_kd (fun d => ak_lconst d (by decide +kernel) rfl) <|
  am_kd (fun d => ak_retL d) <| am_kdn
def TX8_dueOf : am_T := fun live as M R => match as with
  | [.ref n, .int l, .int y, .int e, .int a] => am_mn live ∧ n = 200 ∧ am_in l 30 ∧ am_in a 4 ∧ r_I M ∧ ∀ v, R (some (.long v)) M
  | _ => False
set_option maxRecDepth 100000 in
set_option maxHeartbeats 4000000 in
theorem metX8_dueOf : am_Met yX8_dueOf cX8_dueOf 9 (some .long) (2) (53) TX8_dueOf := by
  refine am_met (own := RX8) (by decide +kernel) rfl kX8_dueOf koX8_dueOf 150 (fun _ _ _ _ _ => none) (fun live as M Ret h => ?_) (fun _ _ _ _ _ _ _ _ hI => by cases hI)
  unfold TX8_dueOf at h
  split at h
  · next n l y e a =>
    refine ⟨Nat.le_of_ble_eq_true rfl, ?_⟩
    change am_wp _ _ _ _ [(0, Value.ref n), (1, Value.int l), (2, Value.int y), (3, Value.int e), (4, Value.int a)] _ _
    obtain ⟨hmn, rfl, hl, ha, hR, h⟩ := h
    have hmn2 := hmn
    obtain ⟨i1, i2, rfl⟩ := hmn2
    have hp := r_pers hR hl
    have w0 : 0 ≤ (0 : Int32).toInt ∧ (0 : Int32).toInt ≤ 7 := ⟨by decide, by decide⟩
    have a40 : am_in a 40 := ⟨ha.1, by have := ha.2; omega⟩
    have y514 := r_in40 a40 (c := 514) ⟨by decide, by decide⟩
    have x1 := y514.1
    have x2 := y514.2
    repeat' (first | (with_reducible exact hmn) | (with_reducible exact hl) | (with_reducible exact hp) | (with_reducible exact w0) | (with_reducible exact hR) | (with_reducible exact x1) | (with_reducible exact x2) | apply And.intro | exact rfl | ((with_reducible change r_I _); (with_reducible assumption)) | (intro hx; exact absurd hx (by decide)) | (intro hx; exact absurd (by decide) hx) | decide | intro hx | (refine Exists.intro _ (And.intro rfl ?_)))
    all_goals try first | (with_reducible change am_tI _ _) | (change Ret _ _) | (change Ret _ _ _) | (change Exists _)
    all_goals try dsimp only at *
    all_goals try (with_reducible exact absurd ‹(1000 : Int64) = 0› am_z1000)
    all_goals first
      | (with_reducible exact h _)
      | decide
      | exact h _
      | skip
  · exact h.elim
def rwX8_isIn : List dz_r := [(0, .aload_n 0, 1), (1, .iload_n 1, 1), (2, .iconst 0, 1), (3, .invokevirtual 202, 3), (6, .iload_n 2, 1), (7, .if_icmp .ne 34, 3), (10, .aload_n 0, 1), (11, .getfield 48, 3), (14, .iload_n 1, 1), (15, .baload, 1), (16, .ifCond .ne 25, 3), (19, .aload_n 0, 1), (20, .aload_n 0, 1), (21, .iload_n 1, 1), (22, .iload_n 3, 1), (23, .invokevirtual 141, 3), (26, .iconst 4, 1), (27, .iload_n 2, 1), (28, .iload_n 3, 1), (29, .invokevirtual 127, 3), (32, .iload 4, 2), (34, .if_icmp .ne 7, 3), (37, .iconst 1, 1), (38, .goto 4, 3), (41, .iconst 0, 1), (42, .ireturn, 1)]
theorem dzX8_isIn : dz cX8_isIn rwX8_isIn := dz_all 0 (by decide +kernel)
def kX8_isIn (live : am_E) (Ret : am_R) : am_code := [(0, am_aload 0 1), (1, am_iload 1 2), (2, am_const (.int 0) 3), (3, am_callV live 8 2 TX8_ofLoan 6), (6, am_iload 2 7), (7, am_if2 (fun x y => x = y) 10 41), (10, am_aload 0 11), (11, am_getR live 8 21 14), (14, am_iload 1 15), (15, am_ald live 2 16), (16, am_if1 (fun x => x = 0) 19 41), (19, am_aload 0 20), (20, am_aload 0 21), (21, am_iload 1 22), (22, am_iload 3 23), (23, am_callV live 8 2 TX8_planAt 26), (26, am_const (.int 4) 27), (27, am_iload 2 28), (28, am_iload 3 29), (29, am_callV live 8 4 TX8_inForce 32), (32, am_iload 4 34), (34, am_if2 (fun x y => x = y) 37 41), (37, am_const (.int 1) 38), (38, am_goto 42), (41, am_const (.int 0) 42), (42, am_retZ Ret)]
theorem koX8_isIn (live : am_E) (Ret : am_R) : ∀ q ∈ kX8_isIn live Ret, am_ok RX8 cX8_isIn 5 (some .boolean) 2 53 live Ret q.1 q.2 :=
  am_kz dzX8_isIn <|
  am_kd (fun d => ak_aload_n d rfl rfl) <|
  am_kd (fun d => ak_iload_n d rfl rfl) <|
  am_kd (fun d => ak_iconst d (by decide +kernel) rfl) <|
  am_kd (fun d => ak_callV (C := RX8) (F := TX8) (N := 27) metX8_ofLoan rfl ⟨rfl, hy_X8_ofLoan⟩ (am_w5 wd_1154 wd_1156 wd_41 wd_67 wd_1157) (by decide) d rfl) <|
  am_kd (fun d => ak_iload_n d rfl rfl) <|
  am_kd (fun d => ak_icmp_ne d (by decide +kernel) rfl) <|
  am_kd (fun d => ak_aload_n d rfl rfl) <|
  am_kd (fun d => ak_getR (C := RX8) (T := TX8) (N := 27) rfl inX8w (by decide) rfl rfl rfl wd_916 d rfl) <|
  am_kd (fun d => ak_iload_n d rfl rfl) <|
  am_kd (fun d => ak_zald (t := 2) (fun _ => rfl) rfl d rfl) <|
  am_kd (fun d => ak_if_ne d (by decide +kernel) rfl) <|
  am_kd (fun d => ak_aload_n d rfl rfl) <|
  am_kd (fun d => ak_aload_n d rfl rfl) <|
  am_kd (fun d => ak_iload_n d rfl rfl) <|
  am_kd (fun d => ak_iload_n d rfl rfl) <|
  am_kd (fun d => ak_callV (C := RX8) (F := TX8) (N := 27) metX8_planAt rfl ⟨rfl, hy_X8_planAt⟩ (am_w5 wd_1085 wd_1087 wd_32 wd_67 wd_1088) (by decide) d rfl) <|
  am_kd (fun d => ak_iconst d (by decide +kernel) rfl) <|
  am_kd (fun d => ak_iload_n d rfl rfl) <|
  am_kd (fun d => ak_iload_n d rfl rfl) <|
  am_kd (fun d => ak_callV (C := RX8) (F := TX8) (N := 27) metX8_inForce rfl ⟨rfl, hy_X8_inForce⟩ (am_w5 wd_1053 wd_1055 wd_29 wd_67 wd_1056) (by decide) d rfl) <|
  am_kd (fun d => ak_iload d rfl) <|
  am_kd (fun d => ak_icmp_ne d (by decide +kernel) rfl) <|
  am_kd (fun d => ak_iconst d (by decide +kernel) rfl) <|
  am_kd (fun d => ak_goto d (by decide +kernel)) <|
  am_kd (fun d => ak_iconst d (by decide +kernel) rfl) <|
  am_kd (fun d => ak_retZ d) <| am_kdn
def TX8_isIn : am_T := fun live as M R => match as with
  | [.ref n, .int l, .int p, .int y, .int o] => am_mn live ∧ n = 200 ∧ am_in l 30 ∧ am_in p 12 ∧ r_I M ∧ R (some (.int 0)) M ∧ R (some (.int 1)) M
  | _ => False
set_option maxRecDepth 100000 in
set_option maxHeartbeats 4000000 in
theorem metX8_isIn : am_Met yX8_isIn cX8_isIn 5 (some .boolean) (2) (53) TX8_isIn := by
  refine am_met (own := RX8) (by decide +kernel) rfl kX8_isIn koX8_isIn 150 (fun _ _ _ _ _ => none) (fun live as M Ret h => ?_) (fun _ _ _ _ _ _ _ _ hI => by cases hI)
  unfold TX8_isIn at h
  split at h
  · next n l p y o =>
    refine ⟨Nat.le_of_ble_eq_true rfl, ?_⟩
    change am_wp _ _ _ _ [(0, Value.ref n), (1, Value.int l), (2, Value.int p), (3, Value.int y), (4, Value.int o)] _ _
    obtain ⟨hmn, rfl, hl, hp, hR, h0, h1⟩ := h
    have hmn2 := hmn
    obtain ⟨i1, i2, rfl⟩ := hmn2
    have w0 : 0 ≤ (0 : Int32).toInt ∧ (0 : Int32).toInt ≤ 7 := ⟨by decide, by decide⟩
    have l213 : am_len 213 = 30 := rfl
    have l1 := hl.1
    repeat' (first | (with_reducible exact hmn) | (with_reducible exact hl) | (with_reducible exact hp) | (with_reducible exact w0) | (with_reducible exact hR) | (with_reducible exact h0) | (with_reducible exact h1) | (with_reducible exact l1) | apply And.intro | exact rfl | ((with_reducible change r_I _); (with_reducible assumption)) | (intro hx; exact absurd hx (by decide)) | (intro hx; exact absurd (by decide) hx) | decide | intro hx | (refine Exists.intro _ (And.intro rfl ?_)))
    all_goals try first | (with_reducible change am_tI _ _) | (change Ret _ _) | (change Ret _ _ _) | (change Exists _)
    all_goals try dsimp only at *
    all_goals try (with_reducible exact absurd ‹(1000 : Int64) = 0› am_z1000)
    all_goals first
      | (left; rfl)
      | (right; rfl)
      | (with_reducible exact h0)
      | (with_reducible exact h1)
      | (rw [l213]; exact hl.2)
      | exact h0
      | exact h1
      | skip
  · exact h.elim
def rwX8_beginRun : List dz_r := [(0, .iconst 0, 1), (1, .istore_n 1, 1), (2, .iload_n 1, 1), (3, .bipush 30, 2), (5, .if_icmp .ge 58, 3), (8, .aload_n 0, 1), (9, .getfield 30, 3), (12, .iload_n 1, 1), (13, .lconst 0, 1), (14, .lastore, 1), (15, .aload_n 0, 1), (16, .getfield 33, 3), (19, .iload_n 1, 1), (20, .lconst 0, 1), (21, .lastore, 1), (22, .aload_n 0, 1), (23, .getfield 36, 3), (26, .iload_n 1, 1), (27, .lconst 0, 1), (28, .lastore, 1), (29, .aload_n 0, 1), (30, .getfield 39, 3), (33, .iload_n 1, 1), (34, .lconst 0, 1), (35, .lastore, 1), (36, .aload_n 0, 1), (37, .getfield 42, 3), (40, .iload_n 1, 1), (41, .lconst 0, 1), (42, .lastore, 1), (43, .aload_n 0, 1), (44, .getfield 45, 3), (47, .iload_n 1, 1), (48, .lconst 0, 1), (49, .lastore, 1), (50, .aload_n 0, 1), (51, .getfield 48, 3), (54, .iload_n 1, 1), (55, .iconst 0, 1), (56, .bastore, 1), (57, .iinc 1 1, 3), (60, .goto (-58), 3), (63, .return_, 1)]
theorem dzX8_beginRun : dz cX8_beginRun rwX8_beginRun := dz_all 0 (by decide +kernel)
def kX8_beginRun (live : am_E) (Ret : am_R) : am_code := [(0, am_const (.int 0) 1), (1, am_istore 1 2 2), (2, am_iload 1 3), (3, am_const (.int 30) 5), (5, am_if2 (fun x y => y ≤ x) 63 8), (8, am_aload 0 9), (9, am_getR live 8 15 12), (12, am_iload 1 13), (13, am_const (.long 0) 14), (14, am_last live 1 15), (15, am_aload 0 16), (16, am_getR live 8 16 19), (19, am_iload 1 20), (20, am_const (.long 0) 21), (21, am_last live 1 22), (22, am_aload 0 23), (23, am_getR live 8 17 26), (26, am_iload 1 27), (27, am_const (.long 0) 28), (28, am_last live 1 29), (29, am_aload 0 30), (30, am_getR live 8 18 33), (33, am_iload 1 34), (34, am_const (.long 0) 35), (35, am_last live 1 36), (36, am_aload 0 37), (37, am_getR live 8 19 40), (40, am_iload 1 41), (41, am_const (.long 0) 42), (42, am_last live 1 43), (43, am_aload 0 44), (44, am_getR live 8 20 47), (47, am_iload 1 48), (48, am_const (.long 0) 49), (49, am_last live 1 50), (50, am_aload 0 51), (51, am_getR live 8 21 54), (54, am_iload 1 55), (55, am_const (.int 0) 56), (56, am_zst live 2 57), (57, am_iinc 1 2 1 60), (60, am_goto 2), (63, am_retV Ret)]
theorem koX8_beginRun (live : am_E) (Ret : am_R) : ∀ q ∈ kX8_beginRun live Ret, am_ok RX8 cX8_beginRun 2 none 0 0 live Ret q.1 q.2 :=
  am_kz dzX8_beginRun <|
  am_kd (fun d => ak_iconst d (by decide +kernel) rfl) <|
  am_kd (fun d => ak_istore_n d rfl rfl) <|
  am_kd (fun d => ak_iload_n d rfl rfl) <|
  am_kd (fun d => ak_bipush d (by decide +kernel) rfl) <|
  am_kd (fun d => ak_icmp_ge d (by decide +kernel) rfl) <|
  am_kd (fun d => ak_aload_n d rfl rfl) <|
  am_kd (fun d => ak_getR (C := RX8) (T := TX8) (N := 27) rfl inX8w (by decide) rfl rfl rfl wd_910 d rfl) <|
  am_kd (fun d => ak_iload_n d rfl rfl) <|
  am_kd (fun d => ak_lconst d (by decide +kernel) rfl) <|
  am_kd (fun d => ak_last (t := 1) (fun _ => rfl) rfl d rfl) <|
  am_kd (fun d => ak_aload_n d rfl rfl) <|
  am_kd (fun d => ak_getR (C := RX8) (T := TX8) (N := 27) rfl inX8w (by decide) rfl rfl rfl wd_911 d rfl) <|
  am_kd (fun d => ak_iload_n d rfl rfl) <|
  am_kd (fun d => ak_lconst d (by decide +kernel) rfl) <|
  am_kd (fun d => ak_last (t := 1) (fun _ => rfl) rfl d rfl) <|
  am_kd (fun d => ak_aload_n d rfl rfl) <|
  am_kd (fun d => ak_getR (C := RX8) (T := TX8) (N := 27) rfl inX8w (by decide) rfl rfl rfl wd_912 d rfl) <|
  am_kd (fun d => ak_iload_n d rfl rfl) <|
  am_kd (fun d => ak_lconst d (by decide +kernel) rfl) <|
  am_kd (fun d => ak_last (t := 1) (fun _ => rfl) rfl d rfl) <|
  am_kd (fun d => ak_aload_n d rfl rfl) <|
  am_kd (fun d => ak_getR (C := RX8) (T := TX8) (N := 27) rfl inX8w (by decide) rfl rfl rfl wd_913 d rfl) <|
  am_kd (fun d => ak_iload_n d rfl rfl) <|
  am_kd (fun d => ak_lconst d (by decide +kernel) rfl) <|
  am_kd (fun d => ak_last (t := 1) (fun _ => rfl) rfl d rfl) <|
  am_kd (fun d => ak_aload_n d rfl rfl) <|
  am_kd (fun d => ak_getR (C := RX8) (T := TX8) (N := 27) rfl inX8w (by decide) rfl rfl rfl wd_914 d rfl) <|
  am_kd (fun d => ak_iload_n d rfl rfl) <|
  am_kd (fun d => ak_lconst d (by decide +kernel) rfl) <|
  am_kd (fun d => ak_last (t := 1) (fun _ => rfl) rfl d rfl) <|
  am_kd (fun d => ak_aload_n d rfl rfl) <|
  am_kd (fun d => ak_getR (C := RX8) (T := TX8) (N := 27) rfl inX8w (by decide) rfl rfl rfl wd_915 d rfl) <|
  am_kd (fun d => ak_iload_n d rfl rfl) <|
  am_kd (fun d => ak_lconst d (by decide +kernel) rfl) <|
  am_kd (fun d => ak_last (t := 1) (fun _ => rfl) rfl d rfl) <|
  am_kd (fun d => ak_aload_n d rfl rfl) <|
  am_kd (fun d => ak_getR (C := RX8) (T := TX8) (N := 27) rfl inX8w (by decide) rfl rfl rfl wd_916 d rfl) <|
  am_kd (fun d => ak_iload_n d rfl rfl) <|
  am_kd (fun d => ak_iconst d (by decide +kernel) rfl) <|
  am_kd (fun d => ak_zast (t := 2) (fun _ => rfl) rfl d rfl) <|
  am_kd (fun d => ak_iinc d (by decide +kernel) rfl) <|
  am_kd (fun d => ak_goto d (by decide +kernel)) <|
  am_kd (fun d => ak_retV d) <| am_kdn
def TX8_beginRun : am_T := fun live as M R => match as with
  | [.ref n] => am_mn live ∧ n = 200 ∧ r_I M ∧ ∀ M', r_sc M M' → r_I M' → R none M'
  | _ => False
def JX8_beginRun : am_E → List Value → am_M → am_R → am_inv := fun live as M0 _ pc => match as with
  | [.ref n] => (match pc with
    | 2 => some ([0, 1], fun k L st M => ∃ i : Int32, L = [(0, .ref 200), (1, .int i)] ∧ st = [] ∧ k = ((31 - i.toInt).toNat, 0) ∧ 0 ≤ i.toInt ∧ r_sc M0 M ∧ r_I M)
    | _ => none)
  | _ => none
set_option maxRecDepth 100000 in
set_option maxHeartbeats 4000000 in
theorem metX8_beginRun : am_Met yX8_beginRun cX8_beginRun 2 none (0) (0) TX8_beginRun := by
  refine am_met (own := RX8) (by decide +kernel) rfl kX8_beginRun koX8_beginRun 100 JX8_beginRun ?_ ?_
  · intro live as M Ret h
    unfold TX8_beginRun at h
    split at h
    · next n =>
      refine ⟨Nat.le_of_ble_eq_true rfl, ?_⟩
      change am_wp _ _ _ _ [(0, Value.ref n)] _ _
      obtain ⟨hmn, rfl, hR, h⟩ := h
      repeat' (first | apply And.intro | exact rfl | intro hx | (refine Exists.intro _ (And.intro rfl ?_)))
      all_goals try first | (with_reducible change am_tI _ _) | (change Ret _ _) | (change Ret _ _ _) | (change Exists _)
      all_goals try dsimp only at *
      all_goals try (with_reducible exact absurd ‹(1000 : Int64) = 0› am_z1000)
      exact ⟨_, _, rfl, rfl, rfl, by decide, r_sc.rf, hR⟩
    · exact h.elim
  · intro live as M0 Ret h k pc I hI L st M hi
    unfold TX8_beginRun at h
    split at h
    · next n =>
      obtain ⟨hmn, rfl, hR, h⟩ := h
      obtain ⟨i1, i2, rfl⟩ := hmn
      change (match pc with | 2 => _ | _ => none) = _ at hI
      split at hI
      · cases hI
        obtain ⟨i, rfl, rfl, rfl, e1, e2, e3⟩ := hi
        by_cases hz : (30 : Int32) ≤ i
        · skip
          repeat' (first | apply And.intro | exact rfl | (intro hx; with_reducible exact absurd hz hx) | intro hx | (refine Exists.intro _ (And.intro rfl ?_)))
          all_goals try first | (with_reducible change am_tI _ _) | (change Ret _ _) | (change Ret _ _ _) | (change Exists _)
          all_goals try dsimp only at *
          all_goals try (with_reducible exact absurd ‹(1000 : Int64) = 0› am_z1000)
          exact h _ e2 e3
        · have hz2 := hz
          simp only [i_le, Int32.reduceToInt] at hz2
          have hi := i_inc (x := i) (by omega) (by omega)
          have x2 : i.toInt < ((30 : Nat) : Int) := by omega
          repeat' (first | (with_reducible exact e1) | apply And.intro | exact rfl | (intro hx; with_reducible exact absurd hx hz) | intro hx | (refine Exists.intro _ (And.intro rfl ?_)))
          all_goals try first | (with_reducible change am_tI _ _) | (change Ret _ _) | (change Ret _ _ _) | (change Exists _)
          all_goals try dsimp only at *
          all_goals try (with_reducible exact absurd ‹(1000 : Int64) = 0› am_z1000)
          all_goals first
            | (with_reducible exact x2)
            | exact x2
            | exact ⟨_, am_lt_l (by omega), _, rfl, rfl, rfl, by omega, by (repeat' (first | (with_reducible exact r_sc.rf) | (with_reducible assumption) | ((with_reducible change r_sc _ (am_wI _ _ _ _)); refine r_sc.wI ?_ rfl) | ((with_reducible change r_sc _ (am_wJ _ _ _ _)); refine r_sc.wJ ?_ rfl) | (refine r_sc.tr ?_ (by with_reducible assumption)))), by (repeat' (first | (with_reducible assumption) | ((with_reducible change r_I (am_wJ _ _ _ _)); refine r_I.wJ ?_) | ((with_reducible change r_I (am_wI _ _ _ _)); refine r_I.wI ?_ rfl)))⟩
            | skip
      · cases hI
    · exact h.elim
end
