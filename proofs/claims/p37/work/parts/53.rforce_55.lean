-- part 53.rforce.lean.txt
section
/-! general: the reference's helpers: what is in force, which plan -/
set_option maxRecDepth 100000 in
theorem wd_1060 : Cond.constant "LearnLoansModel" 93 2000000 ∈ am_ws := am_wt5 (List.mem_of_getElem? (i := 43) (by rfl)) (by decide +kernel)
theorem dX8_atFirst_0 : decode cX8_atFirst 0 = .ok (.iload_n 0, 1) := by decide +kernel
theorem dX8_atFirst_1 : decode cX8_atFirst 1 = .ok (.tableswitch 46 0 4 #[35, 38, 41, 41, 44], 35) := by decide +kernel
theorem dX8_atFirst_36 : decode cX8_atFirst 36 = .ok (.ldc 93, 2) := by decide +kernel
theorem dX8_atFirst_38 : decode cX8_atFirst 38 = .ok (.ireturn, 1) := by decide +kernel
theorem dX8_atFirst_39 : decode cX8_atFirst 39 = .ok (.bipush 90, 2) := by decide +kernel
theorem dX8_atFirst_41 : decode cX8_atFirst 41 = .ok (.ireturn, 1) := by decide +kernel
theorem dX8_atFirst_42 : decode cX8_atFirst 42 = .ok (.bipush 30, 2) := by decide +kernel
theorem dX8_atFirst_44 : decode cX8_atFirst 44 = .ok (.ireturn, 1) := by decide +kernel
theorem dX8_atFirst_45 : decode cX8_atFirst 45 = .ok (.iconst 0, 1) := by decide +kernel
theorem dX8_atFirst_46 : decode cX8_atFirst 46 = .ok (.ireturn, 1) := by decide +kernel
theorem dX8_atFirst_47 : decode cX8_atFirst 47 = .ok (.sipush 10000, 3) := by decide +kernel
theorem dX8_atFirst_50 : decode cX8_atFirst 50 = .ok (.ireturn, 1) := by decide +kernel
def kX8_atFirst (live : am_E) (Ret : am_R) : am_code := [(0, am_iload 0 1), (1, am_switch [(0, 36), (1, 39), (2, 42), (3, 42), (4, 45)] 47), (36, am_const (.int 2000000) 38), (38, am_retI Ret), (39, am_const (.int 90) 41), (41, am_retI Ret), (42, am_const (.int 30) 44), (44, am_retI Ret), (45, am_const (.int 0) 46), (46, am_retI Ret), (47, am_const (.int 10000) 50), (50, am_retI Ret)]
theorem koX8_atFirst (live : am_E) (Ret : am_R) : ∀ q ∈ kX8_atFirst live Ret, am_ok RX8 cX8_atFirst 1 (some .int) 0 0 live Ret q.1 q.2 :=
  am_kc (ak_iload_n dX8_atFirst_0 rfl rfl) <|
  am_kc (ak_tswitch dX8_atFirst_1 (by decide +kernel) (by decide +kernel) (by decide +kernel) (by decide +kernel) (by decide +kernel) (by decide +kernel)) <|
  am_kc (ak_ldc wd_1060 dX8_atFirst_36 rfl) <|
  am_kc (ak_retI dX8_atFirst_38) <|
  am_kc (ak_bipush dX8_atFirst_39 (by decide +kernel) rfl) <|
  am_kc (ak_retI dX8_atFirst_41) <|
  am_kc (ak_bipush dX8_atFirst_42 (by decide +kernel) rfl) <|
  am_kc (ak_retI dX8_atFirst_44) <|
  am_kc (ak_iconst dX8_atFirst_45 (by decide +kernel) rfl) <|
  am_kc (ak_retI dX8_atFirst_46) <|
  am_kc (ak_sipush dX8_atFirst_47 (by decide +kernel) rfl) <|
  am_kc (ak_retI dX8_atFirst_50) <| am_kn
def TX8_atFirst : am_T := fun _ as M R => match as with
  | [.int w] => ∀ v, R (some (.int v)) M
  | _ => False
set_option maxRecDepth 100000 in
set_option maxHeartbeats 4000000 in
theorem metX8_atFirst : am_Met yX8_atFirst cX8_atFirst 1 (some .int) (0) (0) TX8_atFirst := by
  refine am_met (own := RX8) (by decide +kernel) rfl kX8_atFirst koX8_atFirst 60 (fun _ _ _ _ _ => none) (fun live as M Ret h => ?_) (fun _ _ _ _ _ _ _ _ hI => by cases hI)
  unfold TX8_atFirst at h
  split at h
  · next w =>
    refine ⟨Nat.le_of_ble_eq_true rfl, ?_⟩
    change am_wp _ _ _ _ [(0, Value.int w)] _ _
    repeat' (first | apply And.intro | exact rfl | intro hx | (refine Exists.intro _ (And.intro rfl ?_)))
    all_goals try first | (with_reducible change am_tI _ _) | (change Ret _ _) | (change Ret _ _ _) | (change Exists _)
    all_goals try dsimp only at *
    all_goals try (with_reducible exact absurd ‹(1000 : Int64) = 0› am_z1000)
    all_goals exact h _
  · exact h.elim
set_option maxRecDepth 100000 in
theorem wd_899 : Cond.fieldLink "LearnLoansModel" 114 "LearnLoansModel" "tryWhat" "I" ∈ am_ws := am_wt4 (List.mem_of_getElem? (i := 122) (by rfl)) (by decide +kernel)
set_option maxRecDepth 100000 in
theorem wd_901 : Cond.fieldLink "LearnLoansModel" 117 "LearnLoansModel" "tryFrom" "I" ∈ am_ws := am_wt4 (List.mem_of_getElem? (i := 124) (by rfl)) (by decide +kernel)
set_option maxRecDepth 100000 in
theorem wd_900 : Cond.fieldLink "LearnLoansModel" 120 "LearnLoansModel" "tryIs" "I" ∈ am_ws := am_wt4 (List.mem_of_getElem? (i := 123) (by rfl)) (by decide +kernel)
theorem hy_X8_atFirst : yX8_atFirst.cls ≠ "java/lang/invoke/MethodHandle" ∧ yX8_atFirst.cls ≠ "java/lang/invoke/VarHandle" ∧ (parseMethodDescriptor yX8_atFirst.desc).map (fun d => d.parameters.length) = some 1 := ⟨by decide +kernel, by decide +kernel, by decide +kernel⟩
set_option maxRecDepth 100000 in
theorem wd_1057 : Cond.methodLink "LearnLoansModel" 123 yX8_atFirst ∈ am_ws := am_wt5 (List.mem_of_getElem? (i := 40) (by rfl)) (by decide +kernel)
set_option maxRecDepth 100000 in
theorem wd_1058 : Cond.static yX8_atFirst ∈ am_ws := am_wt5 (List.mem_of_getElem? (i := 41) (by rfl)) (by decide +kernel)
set_option maxRecDepth 100000 in
theorem wd_1059 : Cond.code yX8_atFirst cX8_atFirst 1 (some .int) ∈ am_ws := am_wt5 (List.mem_of_getElem? (i := 42) (by rfl)) (by decide +kernel)
def rwX8_inForce : List dz_r := [(0, .iconst (-1), 1), (1, .istore 5, 2), (3, .sipush 2478, 3), (6, .istore 6, 2), (8, .iload 6, 2), (10, .sipush 2478, 3), (13, .bipush 6, 2), (15, .aload_n 0, 1), (16, .getfield 7, 3), (19, .iconst 2, 1), (20, .iaload, 1), (21, .imul, 1), (22, .iadd, 1), (23, .if_icmp .ge 142, 3), (26, .aload_n 0, 1), (27, .getfield 7, 3), (30, .iload 6, 2), (32, .iaload, 1), (33, .iload_n 1, 1), (34, .if_icmp .ne 34, 3), (37, .aload_n 0, 1), (38, .getfield 7, 3), (41, .iload 6, 2), (43, .iconst 1, 1), (44, .iadd, 1), (45, .iaload, 1), (46, .iload_n 2, 1), (47, .if_icmp .ne 21, 3), (50, .aload_n 0, 1), (51, .getfield 7, 3), (54, .iload 6, 2), (56, .iconst 3, 1), (57, .iadd, 1), (58, .iaload, 1), (59, .iload 4, 2), (61, .if_icmp .gt 7, 3), (64, .iconst 1, 1), (65, .goto 4, 3), (68, .iconst 0, 1), (69, .istore 7, 2), (71, .iload 7, 2), (73, .ifCond .eq 43, 3), (76, .aload_n 0, 1), (77, .getfield 7, 3), (80, .bipush 10, 2), (82, .iload_n 3, 1), (83, .iadd, 1), (84, .iaload, 1), (85, .i2l, 1), (86, .aload_n 0, 1), (87, .getfield 7, 3), (90, .iload 6, 2), (92, .iconst 4, 1), (93, .iadd, 1), (94, .iaload, 1), (95, .i2l, 1), (96, .aload_n 0, 1), (97, .getfield 7, 3), (100, .iload 6, 2), (102, .iconst 5, 1), (103, .iadd, 1), (104, .iaload, 1), (105, .i2l, 1), (106, .invokestatic 66, 3), (109, .ifCond .eq 7, 3), (112, .iconst 1, 1), (113, .goto 4, 3), (116, .iconst 0, 1), (117, .istore 8, 2), (119, .iload 8, 2), (121, .ifCond .eq 34, 3), (124, .iload 5, 2), (126, .ifCond .lt 24, 3), (129, .aload_n 0, 1), (130, .getfield 7, 3), (133, .iload 6, 2), (135, .iconst 3, 1), (136, .iadd, 1), (137, .iaload, 1), (138, .aload_n 0, 1), (139, .getfield 7, 3), (142, .iload 5, 2), (144, .iconst 3, 1), (145, .iadd, 1), (146, .iaload, 1), (147, .if_icmp .lt 8, 3), (150, .iload 6, 2), (152, .goto 5, 3), (155, .iload 5, 2), (157, .istore 5, 2), (159, .iinc 6 6, 3), (162, .goto (-154), 3), (165, .aload_n 0, 1), (166, .getfield 57, 3), (169, .iload_n 1, 1), (170, .if_icmp .ne 45, 3), (173, .aload_n 0, 1), (174, .getfield 114, 3), (177, .iload_n 2, 1), (178, .if_icmp .ne 37, 3), (181, .iload 4, 2), (183, .aload_n 0, 1), (184, .getfield 117, 3), (187, .if_icmp .lt 28, 3), (190, .iload 5, 2), (192, .ifCond .lt 19, 3), (195, .aload_n 0, 1), (196, .getfield 7, 3), (199, .iload 5, 2), (201, .iconst 3, 1), (202, .iadd, 1), (203, .iaload, 1), (204, .aload_n 0, 1), (205, .getfield 117, 3), (208, .if_icmp .gt 7, 3), (211, .iconst 1, 1), (212, .goto 4, 3), (215, .iconst 0, 1), (216, .istore 6, 2), (218, .iload 6, 2), (220, .ifCond .eq 10, 3), (223, .aload_n 0, 1), (224, .getfield 120, 3), (227, .goto 24, 3), (230, .iload 5, 2), (232, .ifCond .ge 10, 3), (235, .iload_n 2, 1), (236, .invokestatic 123, 3), (239, .goto 12, 3), (242, .aload_n 0, 1), (243, .getfield 7, 3), (246, .iload 5, 2), (248, .iconst 2, 1), (249, .iadd, 1), (250, .iaload, 1), (251, .ireturn, 1)]
theorem dzX8_inForce : dz cX8_inForce rwX8_inForce := dz_all 0 (by decide +kernel)
def kX8_inForce (live : am_E) (Ret : am_R) : am_code := [(0, am_const (.int (-1)) 1), (1, am_istore 5 9 3), (3, am_const (.int 2478) 6), (6, am_istore 6 9 8), (8, am_iload 6 10), (10, am_const (.int 2478) 13), (13, am_const (.int 6) 15), (15, am_aload 0 16), (16, am_getR live 8 0 19), (19, am_const (.int 2) 20), (20, am_ald live 0 21), (21, am_i2 (fun x y => x * y) 22), (22, am_i2 (fun x y => x + y) 23), (23, am_if2 (fun x y => y ≤ x) 165 26), (26, am_aload 0 27), (27, am_getR live 8 0 30), (30, am_iload 6 32), (32, am_ald live 0 33), (33, am_iload 1 34), (34, am_if2 (fun x y => x = y) 37 68), (37, am_aload 0 38), (38, am_getR live 8 0 41), (41, am_iload 6 43), (43, am_const (.int 1) 44), (44, am_i2 (fun x y => x + y) 45), (45, am_ald live 0 46), (46, am_iload 2 47), (47, am_if2 (fun x y => x = y) 50 68), (50, am_aload 0 51), (51, am_getR live 8 0 54), (54, am_iload 6 56), (56, am_const (.int 3) 57), (57, am_i2 (fun x y => x + y) 58), (58, am_ald live 0 59), (59, am_iload 4 61), (61, am_if2 (fun x y => y < x) 68 64), (64, am_const (.int 1) 65), (65, am_goto 69), (68, am_const (.int 0) 69), (69, am_istore 7 9 71), (71, am_iload 7 73), (73, am_if1 (fun x => x = 0) 116 76), (76, am_aload 0 77), (77, am_getR live 8 0 80), (80, am_const (.int 10) 82), (82, am_iload 3 83), (83, am_i2 (fun x y => x + y) 84), (84, am_ald live 0 85), (85, am_i2l 86), (86, am_aload 0 87), (87, am_getR live 8 0 90), (90, am_iload 6 92), (92, am_const (.int 4) 93), (93, am_i2 (fun x y => x + y) 94), (94, am_ald live 0 95), (95, am_i2l 96), (96, am_aload 0 97), (97, am_getR live 8 0 100), (100, am_iload 6 102), (102, am_const (.int 5) 103), (103, am_i2 (fun x y => x + y) 104), (104, am_ald live 0 105), (105, am_i2l 106), (106, am_callS live 3 TX8_in 109), (109, am_if1 (fun x => x = 0) 116 112), (112, am_const (.int 1) 113), (113, am_goto 117), (116, am_const (.int 0) 117), (117, am_istore 8 9 119), (119, am_iload 8 121), (121, am_if1 (fun x => x = 0) 155 124), (124, am_iload 5 126), (126, am_if1 (fun x => x < 0) 150 129), (129, am_aload 0 130), (130, am_getR live 8 0 133), (133, am_iload 6 135), (135, am_const (.int 3) 136), (136, am_i2 (fun x y => x + y) 137), (137, am_ald live 0 138), (138, am_aload 0 139), (139, am_getR live 8 0 142), (142, am_iload 5 144), (144, am_const (.int 3) 145), (145, am_i2 (fun x y => x + y) 146), (146, am_ald live 0 147), (147, am_if2 (fun x y => x < y) 155 150), (150, am_iload 6 152), (152, am_goto 157), (155, am_iload 5 157), (157, am_istore 5 9 159), (159, am_iinc 6 9 6 162), (162, am_goto 8), (165, am_aload 0 166), (166, am_getI live 8 3 169), (169, am_iload 1 170), (170, am_if2 (fun x y => x = y) 173 215), (173, am_aload 0 174), (174, am_getI live 8 4 177), (177, am_iload 2 178), (178, am_if2 (fun x y => x = y) 181 215), (181, am_iload 4 183), (183, am_aload 0 184), (184, am_getI live 8 6 187), (187, am_if2 (fun x y => x < y) 215 190), (190, am_iload 5 192), (192, am_if1 (fun x => x < 0) 211 195), (195, am_aload 0 196), (196, am_getR live 8 0 199), (199, am_iload 5 201), (201, am_const (.int 3) 202), (202, am_i2 (fun x y => x + y) 203), (203, am_ald live 0 204), (204, am_aload 0 205), (205, am_getI live 8 6 208), (208, am_if2 (fun x y => y < x) 215 211), (211, am_const (.int 1) 212), (212, am_goto 216), (215, am_const (.int 0) 216), (216, am_istore 6 9 218), (218, am_iload 6 220), (220, am_if1 (fun x => x = 0) 230 223), (223, am_aload 0 224), (224, am_getI live 8 5 227), (227, am_goto 251), (230, am_iload 5 232), (232, am_if1 (fun x => 0 ≤ x) 242 235), (235, am_iload 2 236), (236, am_callS live 1 TX8_atFirst 239), (239, am_goto 251), (242, am_aload 0 243), (243, am_getR live 8 0 246), (246, am_iload 5 248), (248, am_const (.int 2) 249), (249, am_i2 (fun x y => x + y) 250), (250, am_ald live 0 251), (251, am_retI Ret)]
theorem koX8_inForce (live : am_E) (Ret : am_R) : ∀ q ∈ kX8_inForce live Ret, am_ok RX8 cX8_inForce 9 (some .int) 1 25 live Ret q.1 q.2 :=
  am_kz dzX8_inForce <|
  am_kd (fun d => ak_iconst d (by decide +kernel) rfl) <|
  am_kd (fun d => ak_istore d rfl) <|
  am_kd (fun d => ak_sipush d (by decide +kernel) rfl) <|
  am_kd (fun d => ak_istore d rfl) <|
  am_kd (fun d => ak_iload d rfl) <|
  am_kd (fun d => ak_sipush d (by decide +kernel) rfl) <|
  am_kd (fun d => ak_bipush d (by decide +kernel) rfl) <|
  am_kd (fun d => ak_aload_n d rfl rfl) <|
  am_kd (fun d => ak_getR (C := RX8) (T := TX8) (N := 27) rfl inX8w (by decide) rfl rfl rfl wd_895 d rfl) <|
  am_kd (fun d => ak_iconst d (by decide +kernel) rfl) <|
  am_kd (fun d => ak_iald (t := 0) (fun _ => rfl) rfl d rfl) <|
  am_kd (fun d => ak_imul d rfl) <|
  am_kd (fun d => ak_iadd d rfl) <|
  am_kd (fun d => ak_icmp_ge d (by decide +kernel) rfl) <|
  am_kd (fun d => ak_aload_n d rfl rfl) <|
  am_kd (fun d => ak_getR (C := RX8) (T := TX8) (N := 27) rfl inX8w (by decide) rfl rfl rfl wd_895 d rfl) <|
  am_kd (fun d => ak_iload d rfl) <|
  am_kd (fun d => ak_iald (t := 0) (fun _ => rfl) rfl d rfl) <|
  am_kd (fun d => ak_iload_n d rfl rfl) <|
  am_kd (fun d => ak_icmp_ne d (by decide +kernel) rfl) <|
  am_kd (fun d => ak_aload_n d rfl rfl) <|
  am_kd (fun d => ak_getR (C := RX8) (T := TX8) (N := 27) rfl inX8w (by decide) rfl rfl rfl wd_895 d rfl) <|
  am_kd (fun d => ak_iload d rfl) <|
  am_kd (fun d => ak_iconst d (by decide +kernel) rfl) <|
  am_kd (fun d => ak_iadd d rfl) <|
  am_kd (fun d => ak_iald (t := 0) (fun _ => rfl) rfl d rfl) <|
  am_kd (fun d => ak_iload_n d rfl rfl) <|
  am_kd (fun d => ak_icmp_ne d (by decide +kernel) rfl) <|
  am_kd (fun d => ak_aload_n d rfl rfl) <|
  am_kd (fun d => ak_getR (C := RX8) (T := TX8) (N := 27) rfl inX8w (by decide) rfl rfl rfl wd_895 d rfl) <|
  am_kd (fun d => ak_iload d rfl) <|
  am_kd (fun d => ak_iconst d (by decide +kernel) rfl) <|
  am_kd (fun d => ak_iadd d rfl) <|
  am_kd (fun d => ak_iald (t := 0) (fun _ => rfl) rfl d rfl) <|
  am_kd (fun d => ak_iload d rfl) <|
  am_kd (fun d => ak_icmp_gt d (by decide +kernel) rfl) <|
  am_kd (fun d => ak_iconst d (by decide +kernel) rfl) <|
  am_kd (fun d => ak_goto d (by decide +kernel)) <|
  am_kd (fun d => ak_iconst d (by decide +kernel) rfl) <|
  am_kd (fun d => ak_istore d rfl) <|
  am_kd (fun d => ak_iload d rfl) <|
  am_kd (fun d => ak_if_eq d (by decide +kernel) rfl) <|
  am_kd (fun d => ak_aload_n d rfl rfl) <|
  am_kd (fun d => ak_getR (C := RX8) (T := TX8) (N := 27) rfl inX8w (by decide) rfl rfl rfl wd_895 d rfl) <|
  am_kd (fun d => ak_bipush d (by decide +kernel) rfl) <|
  am_kd (fun d => ak_iload_n d rfl rfl) <|
  am_kd (fun d => ak_iadd d rfl) <|
  am_kd (fun d => ak_iald (t := 0) (fun _ => rfl) rfl d rfl) <|
  am_kd (fun d => ak_i2l d rfl) <|
  am_kd (fun d => ak_aload_n d rfl rfl) <|
  am_kd (fun d => ak_getR (C := RX8) (T := TX8) (N := 27) rfl inX8w (by decide) rfl rfl rfl wd_895 d rfl) <|
  am_kd (fun d => ak_iload d rfl) <|
  am_kd (fun d => ak_iconst d (by decide +kernel) rfl) <|
  am_kd (fun d => ak_iadd d rfl) <|
  am_kd (fun d => ak_iald (t := 0) (fun _ => rfl) rfl d rfl) <|
  am_kd (fun d => ak_i2l d rfl) <|
  am_kd (fun d => ak_aload_n d rfl rfl) <|
  am_kd (fun d => ak_getR (C := RX8) (T := TX8) (N := 27) rfl inX8w (by decide) rfl rfl rfl wd_895 d rfl) <|
  am_kd (fun d => ak_iload d rfl) <|
  am_kd (fun d => ak_iconst d (by decide +kernel) rfl) <|
  am_kd (fun d => ak_iadd d rfl) <|
  am_kd (fun d => ak_iald (t := 0) (fun _ => rfl) rfl d rfl) <|
  am_kd (fun d => ak_i2l d rfl) <|
  am_kd (fun d => ak_callS metX8_in ⟨rfl, hy_X8_in⟩ (am_w4 wd_986 wd_987 wd_67 wd_988) (by decide) d rfl) <|
  am_kd (fun d => ak_if_eq d (by decide +kernel) rfl) <|
  am_kd (fun d => ak_iconst d (by decide +kernel) rfl) <|
  am_kd (fun d => ak_goto d (by decide +kernel)) <|
  am_kd (fun d => ak_iconst d (by decide +kernel) rfl) <|
  am_kd (fun d => ak_istore d rfl) <|
  am_kd (fun d => ak_iload d rfl) <|
  am_kd (fun d => ak_if_eq d (by decide +kernel) rfl) <|
  am_kd (fun d => ak_iload d rfl) <|
  am_kd (fun d => ak_if_lt d (by decide +kernel) rfl) <|
  am_kd (fun d => ak_aload_n d rfl rfl) <|
  am_kd (fun d => ak_getR (C := RX8) (T := TX8) (N := 27) rfl inX8w (by decide) rfl rfl rfl wd_895 d rfl) <|
  am_kd (fun d => ak_iload d rfl) <|
  am_kd (fun d => ak_iconst d (by decide +kernel) rfl) <|
  am_kd (fun d => ak_iadd d rfl) <|
  am_kd (fun d => ak_iald (t := 0) (fun _ => rfl) rfl d rfl) <|
  am_kd (fun d => ak_aload_n d rfl rfl) <|
  am_kd (fun d => ak_getR (C := RX8) (T := TX8) (N := 27) rfl inX8w (by decide) rfl rfl rfl wd_895 d rfl) <|
  am_kd (fun d => ak_iload d rfl) <|
  am_kd (fun d => ak_iconst d (by decide +kernel) rfl) <|
  am_kd (fun d => ak_iadd d rfl) <|
  am_kd (fun d => ak_iald (t := 0) (fun _ => rfl) rfl d rfl) <|
  am_kd (fun d => ak_icmp_lt d (by decide +kernel) rfl) <|
  am_kd (fun d => ak_iload d rfl) <|
  am_kd (fun d => ak_goto d (by decide +kernel)) <|
  am_kd (fun d => ak_iload d rfl) <|
  am_kd (fun d => ak_istore d rfl) <|
  am_kd (fun d => ak_iinc d (by decide +kernel) rfl) <|
  am_kd (fun d => ak_goto d (by decide +kernel)) <|
  am_kd (fun d => ak_aload_n d rfl rfl) <|
  am_kd (fun d => ak_getI (C := RX8) (T := TX8) (N := 27) rfl inX8w (by decide) rfl rfl rfl wd_898 d rfl) <|
  am_kd (fun d => ak_iload_n d rfl rfl) <|
  am_kd (fun d => ak_icmp_ne d (by decide +kernel) rfl) <|
  am_kd (fun d => ak_aload_n d rfl rfl) <|
  am_kd (fun d => ak_getI (C := RX8) (T := TX8) (N := 27) rfl inX8w (by decide) rfl rfl rfl wd_899 d rfl) <|
  am_kd (fun d => ak_iload_n d rfl rfl) <|
  am_kd (fun d => ak_icmp_ne d (by decide +kernel) rfl) <|
  am_kd (fun d => ak_iload d rfl) <|
  am_kd (fun d => ak_aload_n d rfl rfl) <|
  am_kd (fun d => ak_getI (C := RX8) (T := TX8) (N := 27) rfl inX8w (by decide) rfl rfl rfl wd_901 d rfl) <|
  am_kd (fun d => ak_icmp_lt d (by decide +kernel) rfl) <|
  am_kd (fun d => ak_iload d rfl) <|
  am_kd (fun d => ak_if_lt d (by decide +kernel) rfl) <|
  am_kd (fun d => ak_aload_n d rfl rfl) <|
  am_kd (fun d => ak_getR (C := RX8) (T := TX8) (N := 27) rfl inX8w (by decide) rfl rfl rfl wd_895 d rfl) <|
  am_kd (fun d => ak_iload d rfl) <|
  am_kd (fun d => ak_iconst d (by decide +kernel) rfl) <|
  am_kd (fun d => ak_iadd d rfl) <|
  am_kd (fun d => ak_iald (t := 0) (fun _ => rfl) rfl d rfl) <|
  am_kd (fun d => ak_aload_n d rfl rfl) <|
  am_kd (fun d => ak_getI (C := RX8) (T := TX8) (N := 27) rfl inX8w (by decide) rfl rfl rfl wd_901 d rfl) <|
  am_kd (fun d => ak_icmp_gt d (by decide +kernel) rfl) <|
  am_kd (fun d => ak_iconst d (by decide +kernel) rfl) <|
  am_kd (fun d => ak_goto d (by decide +kernel)) <|
  am_kd (fun d => ak_iconst d (by decide +kernel) rfl) <|
  am_kd (fun d => ak_istore d rfl) <|
  am_kd (fun d => ak_iload d rfl) <|
  am_kd (fun d => ak_if_eq d (by decide +kernel) rfl) <|
  am_kd (fun d => ak_aload_n d rfl rfl) <|
  am_kd (fun d => ak_getI (C := RX8) (T := TX8) (N := 27) rfl inX8w (by decide) rfl rfl rfl wd_900 d rfl) <|
  am_kd (fun d => ak_goto d (by decide +kernel)) <|
  am_kd (fun d => ak_iload d rfl) <|
  am_kd (fun d => ak_if_ge d (by decide +kernel) rfl) <|
  am_kd (fun d => ak_iload_n d rfl rfl) <|
  am_kd (fun d => ak_callS metX8_atFirst ⟨rfl, hy_X8_atFirst⟩ (am_w4 wd_1057 wd_1058 wd_67 wd_1059) (by decide) d rfl) <|
  am_kd (fun d => ak_goto d (by decide +kernel)) <|
  am_kd (fun d => ak_aload_n d rfl rfl) <|
  am_kd (fun d => ak_getR (C := RX8) (T := TX8) (N := 27) rfl inX8w (by decide) rfl rfl rfl wd_895 d rfl) <|
  am_kd (fun d => ak_iload d rfl) <|
  am_kd (fun d => ak_iconst d (by decide +kernel) rfl) <|
  am_kd (fun d => ak_iadd d rfl) <|
  am_kd (fun d => ak_iald (t := 0) (fun _ => rfl) rfl d rfl) <|
  am_kd (fun d => ak_retI d) <| am_kdn
def TX8_inForce : am_T := fun live as M R => match as with
  | [.ref n, .int pl, .int w, .int p, .int y] => am_mn live ∧ n = 200 ∧ am_in p 12 ∧ r_I M ∧ ∀ v, R (some (.int v)) M
  | _ => False
def r_bst (b : Int32) : Prop := b = -1 ∨ (2478 ≤ b.toInt ∧ b.toInt < 2838)
def JX8_inForce : am_E → List Value → am_M → am_R → am_inv := fun live as M0 _ pc => match as with
  | [.ref n, .int pl, .int w, .int p, .int y] => (match pc with
    | 8 => some ([0, 1, 2, 3, 4, 5, 6], fun k L st M => ∃ b a : Int32, L = [(0, .ref 200), (1, .int pl), (2, .int w), (3, .int p), (4, .int y), (5, .int b), (6, .int a)] ∧ st = [] ∧ k = ((5000 - a.toInt).toNat, 9) ∧ (2478 ≤ a.toInt ∧ a.toInt ≤ 2850) ∧ r_bst b ∧ M = M0)
    | 71 => some ([0, 1, 2, 3, 4, 5, 6, 7], fun k L st M => ∃ b a i : Int32, L = [(0, .ref 200), (1, .int pl), (2, .int w), (3, .int p), (4, .int y), (5, .int b), (6, .int a), (7, .int i)] ∧ st = [] ∧ k = ((5000 - a.toInt).toNat, 8) ∧ (2478 ≤ a.toInt ∧ a.toInt < 2838) ∧ r_bst b ∧ M = M0)
    | 119 => some ([0, 1, 2, 3, 4, 5, 6, 8], fun k L st M => ∃ b a i : Int32, L = [(0, .ref 200), (1, .int pl), (2, .int w), (3, .int p), (4, .int y), (5, .int b), (6, .int a), (8, .int i)] ∧ st = [] ∧ k = ((5000 - a.toInt).toNat, 7) ∧ (2478 ≤ a.toInt ∧ a.toInt < 2838) ∧ r_bst b ∧ M = M0)
    | 165 => some ([0, 1, 2, 4, 5], fun k L st M => ∃ b : Int32, L = [(0, .ref 200), (1, .int pl), (2, .int w), (4, .int y), (5, .int b)] ∧ st = [] ∧ k = (0, 9) ∧ r_bst b ∧ M = M0)
    | 218 => some ([0, 2, 5, 6], fun k L st M => ∃ b i : Int32, L = [(0, .ref 200), (2, .int w), (5, .int b), (6, .int i)] ∧ st = [] ∧ k = (0, 8) ∧ r_bst b ∧ M = M0)
    | _ => none)
  | _ => none
set_option maxRecDepth 100000 in
set_option maxHeartbeats 4000000 in
theorem metX8_inForce : am_Met yX8_inForce cX8_inForce 9 (some .int) (1) (25) TX8_inForce := by
  refine am_met (own := RX8) (by decide +kernel) rfl kX8_inForce koX8_inForce 100 JX8_inForce ?_ ?_
  · intro live as M Ret h
    unfold TX8_inForce at h
    split at h
    · next n pl w p y =>
      refine ⟨Nat.le_of_ble_eq_true rfl, ?_⟩
      change am_wp _ _ _ _ [(0, Value.ref n), (1, Value.int pl), (2, Value.int w), (3, Value.int p), (4, Value.int y)] _ _
      obtain ⟨hmn, rfl, hp, hR, h⟩ := h
      repeat' (first | apply And.intro | exact rfl | intro hx | (refine Exists.intro _ (And.intro rfl ?_)))
      all_goals try first | (with_reducible change am_tI _ _) | (change Ret _ _) | (change Ret _ _ _) | (change Exists _)
      all_goals try dsimp only at *
      all_goals try (with_reducible exact absurd ‹(1000 : Int64) = 0› am_z1000)
      exact ⟨_, _, _, rfl, rfl, rfl, ⟨by decide, by decide⟩, Or.inl rfl, rfl⟩
    · exact h.elim
  · intro live as M0 Ret h k pc I hI L st M hi
    unfold TX8_inForce at h
    split at h
    · next n pl w p y =>
      obtain ⟨hmn, rfl, hp, hR, h⟩ := h
      have hmn2 := hmn
      obtain ⟨i1, i2, rfl⟩ := hmn2
      have l201 : am_len 201 = 3760 := rfl
      have p1 := hp.1
      have p2 := hp.2
      have n2 : 0 ≤ (M0.1 201 (Int32.toNatClampNeg 2)).toInt ∧ (M0.1 201 (Int32.toNatClampNeg 2)).toInt ≤ 60 := hR.n2
      have e6 := r_mul (c := 6) (x := M0.1 201 (Int32.toNatClampNeg 2)) ⟨by decide, by decide⟩ ⟨n2.1, by omega⟩
      simp only [Int32.reduceToInt] at e6
      have e24 := r_off (c := 2478) (x := 6 * M0.1 201 (Int32.toNatClampNeg 2)) ⟨by decide, by decide⟩ ⟨by omega, by omega⟩
      simp only [e6, Int32.reduceToInt] at e24
      have e10 := r_off (c := 10) (x := p) ⟨by decide, by decide⟩ ⟨by omega, by omega⟩
      simp only [Int32.reduceToInt] at e10
      change (match pc with | 8 => _ | 71 => _ | 119 => _ | 165 => _ | 218 => _ | _ => none) = _ at hI
      split at hI
      · cases hI
        obtain ⟨b, a, rfl, rfl, rfl, ⟨a1, a2⟩, hb, rfl⟩ := hi
        have ea1 := r_off (c := a) (x := 1) ⟨by omega, by omega⟩ ⟨by decide, by decide⟩
        have ea3 := r_off (c := a) (x := 3) ⟨by omega, by omega⟩ ⟨by decide, by decide⟩
        simp only [Int32.reduceToInt] at ea1 ea3
        by_cases hz : 2478 + 6 * M.1 201 (Int32.toNatClampNeg 2) ≤ a
        · skip
          repeat' (first | apply And.intro | exact rfl | (intro hx; with_reducible exact absurd hz hx) | (intro hx; exact absurd hx (by decide)) | (intro hx; exact absurd (by decide) hx) | decide | intro hx | (refine Exists.intro _ (And.intro rfl ?_)))
          all_goals try first | (with_reducible change am_tI _ _) | (change Ret _ _) | (change Ret _ _ _) | (change Exists _)
          all_goals try dsimp only at *
          all_goals try (with_reducible exact absurd ‹(1000 : Int64) = 0› am_z1000)
          all_goals first
            | (show _ < _; simp only [l201]; decide)
            | exact ⟨_, am_lt_l (by omega), _, rfl, rfl, rfl, hb, rfl⟩
        · have hz2 := hz
          simp only [i_le] at hz2
          repeat' (first | apply And.intro | exact rfl | (intro hx; with_reducible exact absurd hx hz) | (intro hx; exact absurd hx (by decide)) | (intro hx; exact absurd (by decide) hx) | decide | intro hx | (refine Exists.intro _ (And.intro rfl ?_)))
          all_goals try first | (with_reducible change am_tI _ _) | (change Ret _ _) | (change Ret _ _ _) | (change Exists _)
          all_goals try dsimp only at *
          all_goals try (with_reducible exact absurd ‹(1000 : Int64) = 0› am_z1000)
          all_goals first
            | (show _ < _; simp only [l201]; decide)
            | omega
            | (rw [l201]; omega)
            | exact ⟨_, am_lt_r (by omega), _, _, _, rfl, rfl, rfl, ⟨a1, by omega⟩, hb, rfl⟩
      · cases hI
        obtain ⟨b, a, i, rfl, rfl, rfl, ⟨a1, a2⟩, hb, rfl⟩ := hi
        have ea4 := r_off (c := a) (x := 4) ⟨by omega, by omega⟩ ⟨by decide, by decide⟩
        have ea5 := r_off (c := a) (x := 5) ⟨by omega, by omega⟩ ⟨by decide, by decide⟩
        simp only [Int32.reduceToInt] at ea4 ea5
        repeat' (first | apply And.intro | exact rfl | intro hx | (refine Exists.intro _ (And.intro rfl ?_)))
        all_goals try first | (with_reducible change am_tI _ _) | (change Ret _ _) | (change Ret _ _ _) | (change Exists _)
        all_goals try dsimp only at *
        all_goals try (with_reducible exact absurd ‹(1000 : Int64) = 0› am_z1000)
        all_goals first
          | omega
          | (rw [l201]; omega)
          | exact ⟨_, am_lt_r (by omega), _, _, _, rfl, rfl, rfl, ⟨a1, a2⟩, hb, rfl⟩
      · cases hI
        obtain ⟨b, a, i, rfl, rfl, rfl, ⟨a1, a2⟩, hb, rfl⟩ := hi
        have ea3 := r_off (c := a) (x := 3) ⟨by omega, by omega⟩ ⟨by decide, by decide⟩
        have ea6 := r_off (c := a) (x := 6) ⟨by omega, by omega⟩ ⟨by decide, by decide⟩
        simp only [Int32.reduceToInt] at ea3 ea6
        have hba : r_bst a := Or.inr ⟨a1, a2⟩
        by_cases hz : b < 0
        · skip
          repeat' (first | apply And.intro | exact rfl | (intro hx; with_reducible exact absurd hz hx) | intro hx | (refine Exists.intro _ (And.intro rfl ?_)))
          all_goals try first | (with_reducible change am_tI _ _) | (change Ret _ _) | (change Ret _ _ _) | (change Exists _)
          all_goals try dsimp only at *
          all_goals try (with_reducible exact absurd ‹(1000 : Int64) = 0› am_z1000)
          all_goals first
            | exact ⟨_, am_lt_l (by omega), _, _, rfl, rfl, rfl, ⟨by omega, by omega⟩, hba, rfl⟩
            | exact ⟨_, am_lt_l (by omega), _, _, rfl, rfl, rfl, ⟨by omega, by omega⟩, hb, rfl⟩
        · have hb2 : 2478 ≤ b.toInt ∧ b.toInt < 2838 := hb.resolve_left (fun q => hz (by rw [q]; decide))
          have eb3 := r_off (c := b) (x := 3) ⟨by omega, by omega⟩ ⟨by decide, by decide⟩
          simp only [Int32.reduceToInt] at eb3
          repeat' (first | apply And.intro | exact rfl | (intro hx; with_reducible exact absurd hx hz) | intro hx | (refine Exists.intro _ (And.intro rfl ?_)))
          all_goals try first | (with_reducible change am_tI _ _) | (change Ret _ _) | (change Ret _ _ _) | (change Exists _)
          all_goals try dsimp only at *
          all_goals try (with_reducible exact absurd ‹(1000 : Int64) = 0› am_z1000)
          all_goals first
            | omega
            | (rw [l201]; omega)
            | exact ⟨_, am_lt_l (by omega), _, _, rfl, rfl, rfl, ⟨by omega, by omega⟩, hba, rfl⟩
            | exact ⟨_, am_lt_l (by omega), _, _, rfl, rfl, rfl, ⟨by omega, by omega⟩, hb, rfl⟩
      · cases hI
        obtain ⟨b, rfl, rfl, rfl, hb, rfl⟩ := hi
        by_cases hz : b < 0
        · skip
          repeat' (first | apply And.intro | exact rfl | (intro hx; with_reducible exact absurd hz hx) | intro hx | (refine Exists.intro _ (And.intro rfl ?_)))
          all_goals try first | (with_reducible change am_tI _ _) | (change Ret _ _) | (change Ret _ _ _) | (change Exists _)
          all_goals try dsimp only at *
          all_goals try (with_reducible exact absurd ‹(1000 : Int64) = 0› am_z1000)
          all_goals exact ⟨_, am_lt_r (by omega), _, _, rfl, rfl, rfl, hb, rfl⟩
        · have hb2 : 2478 ≤ b.toInt ∧ b.toInt < 2838 := hb.resolve_left (fun q => hz (by rw [q]; decide))
          have eb3 := r_off (c := b) (x := 3) ⟨by omega, by omega⟩ ⟨by decide, by decide⟩
          simp only [Int32.reduceToInt] at eb3
          repeat' (first | apply And.intro | exact rfl | (intro hx; with_reducible exact absurd hx hz) | intro hx | (refine Exists.intro _ (And.intro rfl ?_)))
          all_goals try first | (with_reducible change am_tI _ _) | (change Ret _ _) | (change Ret _ _ _) | (change Exists _)
          all_goals try dsimp only at *
          all_goals try (with_reducible exact absurd ‹(1000 : Int64) = 0› am_z1000)
          all_goals first
            | omega
            | (rw [l201]; omega)
            | exact ⟨_, am_lt_r (by omega), _, _, rfl, rfl, rfl, hb, rfl⟩
      · cases hI
        obtain ⟨b, i, rfl, rfl, rfl, hb, rfl⟩ := hi
        by_cases hz : b < 0
        · have hz2 : ¬ 0 ≤ b := Int32.not_le.mpr hz
          repeat' (first | apply And.intro | exact rfl | (intro hx; with_reducible exact absurd hx hz2) | (intro hx; with_reducible exact absurd hz hx) | intro hx | (refine Exists.intro _ (And.intro rfl ?_)))
          all_goals try first | (with_reducible change am_tI _ _) | (change Ret _ _) | (change Ret _ _ _) | (change Exists _)
          all_goals try dsimp only at *
          all_goals try (with_reducible exact absurd ‹(1000 : Int64) = 0› am_z1000)
          all_goals exact h _
        · have hz2 : 0 ≤ b := Int32.not_lt.mp hz
          have hb2 : 2478 ≤ b.toInt ∧ b.toInt < 2838 := hb.resolve_left (fun q => hz (by rw [q]; decide))
          have eb2 := r_off (c := b) (x := 2) ⟨by omega, by omega⟩ ⟨by decide, by decide⟩
          simp only [Int32.reduceToInt] at eb2
          repeat' (first | apply And.intro | exact rfl | (intro hx; with_reducible exact absurd hx hz) | (intro hx; with_reducible exact absurd hz2 hx) | intro hx | (refine Exists.intro _ (And.intro rfl ?_)))
          all_goals try first | (with_reducible change am_tI _ _) | (change Ret _ _) | (change Ret _ _ _) | (change Exists _)
          all_goals try dsimp only at *
          all_goals try (with_reducible exact absurd ‹(1000 : Int64) = 0› am_z1000)
          all_goals first
            | omega
            | (rw [l201]; omega)
            | (with_reducible exact h _)
            | exact h _
      · cases hI
    · exact h.elim
set_option maxRecDepth 100000 in
theorem wd_903 : Cond.fieldLink "LearnLoansModel" 138 "LearnLoansModel" "leadFrom" "I" ∈ am_ws := am_wt4 (List.mem_of_getElem? (i := 126) (by rfl)) (by decide +kernel)
def rwX8_planAt : List dz_r := [(0, .aload_n 0, 1), (1, .getfield 61, 3), (4, .ifCond .lt 16, 3), (7, .iload_n 2, 1), (8, .aload_n 0, 1), (9, .getfield 138, 3), (12, .if_icmp .lt 8, 3), (15, .aload_n 0, 1), (16, .getfield 61, 3), (19, .ireturn, 1), (20, .aload_n 0, 1), (21, .getfield 7, 3), (24, .sipush 2838, 3), (27, .bipush 8, 2), (29, .iload_n 1, 1), (30, .imul, 1), (31, .iadd, 1), (32, .iconst 1, 1), (33, .iadd, 1), (34, .iaload, 1), (35, .istore_n 3, 1), (36, .sipush 3078, 3), (39, .istore 4, 2), (41, .iload 4, 2), (43, .sipush 3078, 3), (46, .iconst 3, 1), (47, .aload_n 0, 1), (48, .getfield 7, 3), (51, .iconst 3, 1), (52, .iaload, 1), (53, .imul, 1), (54, .iadd, 1), (55, .if_icmp .ge 47, 3), (58, .aload_n 0, 1), (59, .getfield 7, 3), (62, .iload 4, 2), (64, .iaload, 1), (65, .iload_n 1, 1), (66, .if_icmp .ne 28, 3), (69, .aload_n 0, 1), (70, .getfield 7, 3), (73, .iload 4, 2), (75, .iconst 2, 1), (76, .iadd, 1), (77, .iaload, 1), (78, .iload_n 2, 1), (79, .if_icmp .gt 15, 3), (82, .aload_n 0, 1), (83, .getfield 7, 3), (86, .iload 4, 2), (88, .iconst 1, 1), (89, .iadd, 1), (90, .iaload, 1), (91, .goto 4, 3), (94, .iload_n 3, 1), (95, .istore_n 3, 1), (96, .iinc 4 3, 3), (99, .goto (-58), 3), (102, .iload_n 3, 1), (103, .ireturn, 1)]
theorem dzX8_planAt : dz cX8_planAt rwX8_planAt := dz_all 0 (by decide +kernel)
def kX8_planAt (live : am_E) (Ret : am_R) : am_code := [(0, am_aload 0 1), (1, am_getI live 8 7 4), (4, am_if1 (fun x => x < 0) 20 7), (7, am_iload 2 8), (8, am_aload 0 9), (9, am_getI live 8 8 12), (12, am_if2 (fun x y => x < y) 20 15), (15, am_aload 0 16), (16, am_getI live 8 7 19), (19, am_retI Ret), (20, am_aload 0 21), (21, am_getR live 8 0 24), (24, am_const (.int 2838) 27), (27, am_const (.int 8) 29), (29, am_iload 1 30), (30, am_i2 (fun x y => x * y) 31), (31, am_i2 (fun x y => x + y) 32), (32, am_const (.int 1) 33), (33, am_i2 (fun x y => x + y) 34), (34, am_ald live 0 35), (35, am_istore 3 5 36), (36, am_const (.int 3078) 39), (39, am_istore 4 5 41), (41, am_iload 4 43), (43, am_const (.int 3078) 46), (46, am_const (.int 3) 47), (47, am_aload 0 48), (48, am_getR live 8 0 51), (51, am_const (.int 3) 52), (52, am_ald live 0 53), (53, am_i2 (fun x y => x * y) 54), (54, am_i2 (fun x y => x + y) 55), (55, am_if2 (fun x y => y ≤ x) 102 58), (58, am_aload 0 59), (59, am_getR live 8 0 62), (62, am_iload 4 64), (64, am_ald live 0 65), (65, am_iload 1 66), (66, am_if2 (fun x y => x = y) 69 94), (69, am_aload 0 70), (70, am_getR live 8 0 73), (73, am_iload 4 75), (75, am_const (.int 2) 76), (76, am_i2 (fun x y => x + y) 77), (77, am_ald live 0 78), (78, am_iload 2 79), (79, am_if2 (fun x y => y < x) 94 82), (82, am_aload 0 83), (83, am_getR live 8 0 86), (86, am_iload 4 88), (88, am_const (.int 1) 89), (89, am_i2 (fun x y => x + y) 90), (90, am_ald live 0 91), (91, am_goto 95), (94, am_iload 3 95), (95, am_istore 3 5 96), (96, am_iinc 4 5 3 99), (99, am_goto 41), (102, am_iload 3 103), (103, am_retI Ret)]
theorem koX8_planAt (live : am_E) (Ret : am_R) : ∀ q ∈ kX8_planAt live Ret, am_ok RX8 cX8_planAt 5 (some .int) 0 0 live Ret q.1 q.2 :=
  am_kz dzX8_planAt <|
  am_kd (fun d => ak_aload_n d rfl rfl) <|
  am_kd (fun d => ak_getI (C := RX8) (T := TX8) (N := 27) rfl inX8w (by decide) rfl rfl rfl wd_902 d rfl) <|
  am_kd (fun d => ak_if_lt d (by decide +kernel) rfl) <|
  am_kd (fun d => ak_iload_n d rfl rfl) <|
  am_kd (fun d => ak_aload_n d rfl rfl) <|
  am_kd (fun d => ak_getI (C := RX8) (T := TX8) (N := 27) rfl inX8w (by decide) rfl rfl rfl wd_903 d rfl) <|
  am_kd (fun d => ak_icmp_lt d (by decide +kernel) rfl) <|
  am_kd (fun d => ak_aload_n d rfl rfl) <|
  am_kd (fun d => ak_getI (C := RX8) (T := TX8) (N := 27) rfl inX8w (by decide) rfl rfl rfl wd_902 d rfl) <|
  am_kd (fun d => ak_retI d) <|
  am_kd (fun d => ak_aload_n d rfl rfl) <|
  am_kd (fun d => ak_getR (C := RX8) (T := TX8) (N := 27) rfl inX8w (by decide) rfl rfl rfl wd_895 d rfl) <|
  am_kd (fun d => ak_sipush d (by decide +kernel) rfl) <|
  am_kd (fun d => ak_bipush d (by decide +kernel) rfl) <|
  am_kd (fun d => ak_iload_n d rfl rfl) <|
  am_kd (fun d => ak_imul d rfl) <|
  am_kd (fun d => ak_iadd d rfl) <|
  am_kd (fun d => ak_iconst d (by decide +kernel) rfl) <|
  am_kd (fun d => ak_iadd d rfl) <|
  am_kd (fun d => ak_iald (t := 0) (fun _ => rfl) rfl d rfl) <|
  am_kd (fun d => ak_istore_n d rfl rfl) <|
  am_kd (fun d => ak_sipush d (by decide +kernel) rfl) <|
  am_kd (fun d => ak_istore d rfl) <|
  am_kd (fun d => ak_iload d rfl) <|
  am_kd (fun d => ak_sipush d (by decide +kernel) rfl) <|
  am_kd (fun d => ak_iconst d (by decide +kernel) rfl) <|
  am_kd (fun d => ak_aload_n d rfl rfl) <|
  am_kd (fun d => ak_getR (C := RX8) (T := TX8) (N := 27) rfl inX8w (by decide) rfl rfl rfl wd_895 d rfl) <|
  am_kd (fun d => ak_iconst d (by decide +kernel) rfl) <|
  am_kd (fun d => ak_iald (t := 0) (fun _ => rfl) rfl d rfl) <|
  am_kd (fun d => ak_imul d rfl) <|
  am_kd (fun d => ak_iadd d rfl) <|
  am_kd (fun d => ak_icmp_ge d (by decide +kernel) rfl) <|
  am_kd (fun d => ak_aload_n d rfl rfl) <|
  am_kd (fun d => ak_getR (C := RX8) (T := TX8) (N := 27) rfl inX8w (by decide) rfl rfl rfl wd_895 d rfl) <|
  am_kd (fun d => ak_iload d rfl) <|
  am_kd (fun d => ak_iald (t := 0) (fun _ => rfl) rfl d rfl) <|
  am_kd (fun d => ak_iload_n d rfl rfl) <|
  am_kd (fun d => ak_icmp_ne d (by decide +kernel) rfl) <|
  am_kd (fun d => ak_aload_n d rfl rfl) <|
  am_kd (fun d => ak_getR (C := RX8) (T := TX8) (N := 27) rfl inX8w (by decide) rfl rfl rfl wd_895 d rfl) <|
  am_kd (fun d => ak_iload d rfl) <|
  am_kd (fun d => ak_iconst d (by decide +kernel) rfl) <|
  am_kd (fun d => ak_iadd d rfl) <|
  am_kd (fun d => ak_iald (t := 0) (fun _ => rfl) rfl d rfl) <|
  am_kd (fun d => ak_iload_n d rfl rfl) <|
  am_kd (fun d => ak_icmp_gt d (by decide +kernel) rfl) <|
  am_kd (fun d => ak_aload_n d rfl rfl) <|
  am_kd (fun d => ak_getR (C := RX8) (T := TX8) (N := 27) rfl inX8w (by decide) rfl rfl rfl wd_895 d rfl) <|
  am_kd (fun d => ak_iload d rfl) <|
  am_kd (fun d => ak_iconst d (by decide +kernel) rfl) <|
  am_kd (fun d => ak_iadd d rfl) <|
  am_kd (fun d => ak_iald (t := 0) (fun _ => rfl) rfl d rfl) <|
  am_kd (fun d => ak_goto d (by decide +kernel)) <|
  am_kd (fun d => ak_iload_n d rfl rfl) <|
  am_kd (fun d => ak_istore_n d rfl rfl) <|
  am_kd (fun d => ak_iinc d (by decide +kernel) rfl) <|
  am_kd (fun d => ak_goto d (by decide +kernel)) <|
  am_kd (fun d => ak_iload_n d rfl rfl) <|
  am_kd (fun d => ak_retI d) <| am_kdn
def TX8_planAt : am_T := fun live as M R => match as with
  | [.ref n, .int l, .int y] => am_mn live ∧ n = 200 ∧ am_in l 30 ∧ r_I M ∧ ∀ v, am_in v 5 → R (some (.int v)) M
  | _ => False
def JX8_planAt : am_E → List Value → am_M → am_R → am_inv := fun live as M0 _ pc => match as with
  | [.ref n, .int l, .int y] => (match pc with
    | 41 => some ([0, 1, 2, 3, 4], fun k L st M => ∃ (q m : Int32) (j : Nat), L = [(0, .ref 200), (1, .int l), (2, .int y), (3, .int q), (4, .int m)] ∧ st = [] ∧ k = (100 - j, 0) ∧ m.toInt = 3078 + 3 * (j : Int) ∧ j ≤ 60 ∧ am_in q 5 ∧ M = M0)
    | _ => none)
  | _ => none
set_option maxRecDepth 100000 in
set_option maxHeartbeats 4000000 in
theorem metX8_planAt : am_Met yX8_planAt cX8_planAt 5 (some .int) (0) (0) TX8_planAt := by
  refine am_met (own := RX8) (by decide +kernel) rfl kX8_planAt koX8_planAt 100 JX8_planAt ?_ ?_
  · intro live as M Ret h
    unfold TX8_planAt at h
    split at h
    · next n l y =>
      refine ⟨Nat.le_of_ble_eq_true rfl, ?_⟩
      change am_wp _ _ _ _ [(0, Value.ref n), (1, Value.int l), (2, Value.int y)] _ _
      obtain ⟨hmn, rfl, hl, hR, h⟩ := h
      have hmn2 := hmn
      obtain ⟨i1, i2, rfl⟩ := hmn2
      have l201 : am_len 201 = 3760 := rfl
      have l1 := hl.1
      have l2 := hl.2
      have e1 := r_lcol hl (w := 1) ⟨by decide, by decide⟩
      simp only [Int32.reduceToInt] at e1
      have hpl : am_in (M.1 201 (2838 + 8 * l + 1).toNatClampNeg) 5 := by
        have q := (hR.lo (g_cl hl)).2
        have c1 := i_clamp (x := 2838 + 8 * l + 1) (by omega)
        have c2 := i_clamp (x := l) l1
        rw [show (2838 + 8 * l + 1).toNatClampNeg = 2839 + 8 * l.toNatClampNeg by omega]
        exact q
      by_cases hz : M.1 200 7 < 0
      · skip
        repeat' (first | apply And.intro | exact rfl | (intro hx; with_reducible exact absurd hz hx) | intro hx | (refine Exists.intro _ (And.intro rfl ?_)))
        all_goals try first | (with_reducible change am_tI _ _) | (change Ret _ _) | (change Ret _ _ _) | (change Exists _)
        all_goals try dsimp only at *
        all_goals try (with_reducible exact absurd ‹(1000 : Int64) = 0› am_z1000)
        all_goals first
          | omega
          | (rw [l201]; omega)
          | exact ⟨_, _, _, 0, rfl, rfl, rfl, rfl, by decide, hpl, rfl⟩
      · have hs := hR.s.resolve_left (fun q => hz (by rw [q]; decide))
        repeat' (first | apply And.intro | exact rfl | (intro hx; with_reducible exact absurd hx hz) | intro hx | (refine Exists.intro _ (And.intro rfl ?_)))
        all_goals try first | (with_reducible change am_tI _ _) | (change Ret _ _) | (change Ret _ _ _) | (change Exists _)
        all_goals try dsimp only at *
        all_goals try (with_reducible exact absurd ‹(1000 : Int64) = 0› am_z1000)
        all_goals first
          | (with_reducible exact h _ hs)
          | omega
          | (rw [l201]; omega)
          | exact h _ hs
          | exact ⟨_, _, _, 0, rfl, rfl, rfl, rfl, by decide, hpl, rfl⟩
    · exact h.elim
  · intro live as M0 Ret h k pc I hI L st M hi
    unfold TX8_planAt at h
    split at h
    · next n l y =>
      obtain ⟨hmn, rfl, hl, hR, h⟩ := h
      have hmn2 := hmn
      obtain ⟨i1, i2, rfl⟩ := hmn2
      have l201 : am_len 201 = 3760 := rfl
      have n3 : 0 ≤ (M0.1 201 (Int32.toNatClampNeg 3)).toInt ∧ (M0.1 201 (Int32.toNatClampNeg 3)).toInt ≤ 60 := hR.n3
      have e3 := r_mul (c := 3) (x := M0.1 201 (Int32.toNatClampNeg 3)) ⟨by decide, by decide⟩ ⟨n3.1, by omega⟩
      simp only [Int32.reduceToInt] at e3
      have e30 := r_off (c := 3078) (x := 3 * M0.1 201 (Int32.toNatClampNeg 3)) ⟨by decide, by decide⟩ ⟨by omega, by omega⟩
      simp only [e3, Int32.reduceToInt] at e30
      change (match pc with | 41 => _ | _ => none) = _ at hI
      split at hI
      · cases hI
        obtain ⟨q, m, j, rfl, rfl, rfl, e1, e2, hq, rfl⟩ := hi
        by_cases hz : 3078 + 3 * M.1 201 (Int32.toNatClampNeg 3) ≤ m
        · skip
          repeat' (first | apply And.intro | exact rfl | (intro hx; with_reducible exact absurd hz hx) | (intro hx; exact absurd hx (by decide)) | (intro hx; exact absurd (by decide) hx) | decide | intro hx | (refine Exists.intro _ (And.intro rfl ?_)))
          all_goals try first | (with_reducible change am_tI _ _) | (change Ret _ _) | (change Ret _ _ _) | (change Exists _)
          all_goals try dsimp only at *
          all_goals try (with_reducible exact absurd ‹(1000 : Int64) = 0› am_z1000)
          all_goals first
            | (show _ < _; simp only [l201]; decide)
            | (with_reducible exact h _ hq)
            | exact h _ hq
        · have hz2 := hz
          simp only [i_le] at hz2
          have hj : j < 60 := by omega
          have em1 := r_off (c := m) (x := 1) ⟨by omega, by omega⟩ ⟨by decide, by decide⟩
          have em2 := r_off (c := m) (x := 2) ⟨by omega, by omega⟩ ⟨by decide, by decide⟩
          have em3 := r_off (c := m) (x := 3) ⟨by omega, by omega⟩ ⟨by decide, by decide⟩
          simp only [Int32.reduceToInt] at em1 em2 em3
          have hq2 : am_in (M.1 201 (m + 1).toNatClampNeg) 5 := by
            have c1 := i_clamp (x := m + 1) (by omega)
            rw [show (m + 1).toNatClampNeg = 3079 + 3 * j by omega]
            exact hR.mv hj
          repeat' (first | apply And.intro | exact rfl | (intro hx; with_reducible exact absurd hx hz) | (intro hx; exact absurd hx (by decide)) | (intro hx; exact absurd (by decide) hx) | decide | intro hx | (refine Exists.intro _ (And.intro rfl ?_)))
          all_goals try first | (with_reducible change am_tI _ _) | (change Ret _ _) | (change Ret _ _ _) | (change Exists _)
          all_goals try dsimp only at *
          all_goals try (with_reducible exact absurd ‹(1000 : Int64) = 0› am_z1000)
          all_goals first
            | (show _ < _; simp only [l201]; decide)
            | omega
            | (rw [l201]; omega)
            | exact ⟨_, am_lt_l (by omega), _, _, j + 1, rfl, rfl, rfl, by omega, by omega, hq2, rfl⟩
            | exact ⟨_, am_lt_l (by omega), _, _, j + 1, rfl, rfl, rfl, by omega, by omega, hq, rfl⟩
      · cases hI
    · exact h.elim
end
-- part 54.rwork.lean.txt
section
/-! general: the reference's reader of texts: what is safe of it -/
theorem dX8_factOf_0 : decode cX8_factOf 0 = .ok (.iload_n 0, 1) := by decide +kernel
theorem dX8_factOf_1 : decode cX8_factOf 1 = .ok (.tableswitch 130 97 121 #[127, 130, 130, 130, 119, 130, 130, 130, 130, 130, 130, 121, 130, 130, 125, 117, 130, 115, 130, 130, 130, 130, 130, 130, 123], 115) := by decide +kernel
theorem dX8_factOf_116 : decode cX8_factOf 116 = .ok (.iconst 0, 1) := by decide +kernel
theorem dX8_factOf_117 : decode cX8_factOf 117 = .ok (.ireturn, 1) := by decide +kernel
theorem dX8_factOf_118 : decode cX8_factOf 118 = .ok (.iconst 1, 1) := by decide +kernel
theorem dX8_factOf_119 : decode cX8_factOf 119 = .ok (.ireturn, 1) := by decide +kernel
theorem dX8_factOf_120 : decode cX8_factOf 120 = .ok (.iconst 2, 1) := by decide +kernel
theorem dX8_factOf_121 : decode cX8_factOf 121 = .ok (.ireturn, 1) := by decide +kernel
theorem dX8_factOf_122 : decode cX8_factOf 122 = .ok (.iconst 3, 1) := by decide +kernel
theorem dX8_factOf_123 : decode cX8_factOf 123 = .ok (.ireturn, 1) := by decide +kernel
theorem dX8_factOf_124 : decode cX8_factOf 124 = .ok (.iconst 4, 1) := by decide +kernel
theorem dX8_factOf_125 : decode cX8_factOf 125 = .ok (.ireturn, 1) := by decide +kernel
theorem dX8_factOf_126 : decode cX8_factOf 126 = .ok (.iconst 5, 1) := by decide +kernel
theorem dX8_factOf_127 : decode cX8_factOf 127 = .ok (.ireturn, 1) := by decide +kernel
theorem dX8_factOf_128 : decode cX8_factOf 128 = .ok (.bipush 6, 2) := by decide +kernel
theorem dX8_factOf_130 : decode cX8_factOf 130 = .ok (.ireturn, 1) := by decide +kernel
theorem dX8_factOf_131 : decode cX8_factOf 131 = .ok (.iconst (-1), 1) := by decide +kernel
theorem dX8_factOf_132 : decode cX8_factOf 132 = .ok (.ireturn, 1) := by decide +kernel
def kX8_factOf (live : am_E) (Ret : am_R) : am_code := [(0, am_iload 0 1), (1, am_switch [(97, 128), (98, 131), (99, 131), (100, 131), (101, 120), (102, 131), (103, 131), (104, 131), (105, 131), (106, 131), (107, 131), (108, 122), (109, 131), (110, 131), (111, 126), (112, 118), (113, 131), (114, 116), (115, 131), (116, 131), (117, 131), (118, 131), (119, 131), (120, 131), (121, 124)] 131), (116, am_const (.int 0) 117), (117, am_retI Ret), (118, am_const (.int 1) 119), (119, am_retI Ret), (120, am_const (.int 2) 121), (121, am_retI Ret), (122, am_const (.int 3) 123), (123, am_retI Ret), (124, am_const (.int 4) 125), (125, am_retI Ret), (126, am_const (.int 5) 127), (127, am_retI Ret), (128, am_const (.int 6) 130), (130, am_retI Ret), (131, am_const (.int (-1)) 132), (132, am_retI Ret)]
theorem koX8_factOf (live : am_E) (Ret : am_R) : ∀ q ∈ kX8_factOf live Ret, am_ok RX8 cX8_factOf 1 (some .int) 0 0 live Ret q.1 q.2 :=
  am_kc (ak_iload_n dX8_factOf_0 rfl rfl) <|
  am_kc (ak_tswitch dX8_factOf_1 (by decide +kernel) (by decide +kernel) (by decide +kernel) (by decide +kernel) (by decide +kernel) (by decide +kernel)) <|
  am_kc (ak_iconst dX8_factOf_116 (by decide +kernel) rfl) <|
  am_kc (ak_retI dX8_factOf_117) <|
  am_kc (ak_iconst dX8_factOf_118 (by decide +kernel) rfl) <|
  am_kc (ak_retI dX8_factOf_119) <|
  am_kc (ak_iconst dX8_factOf_120 (by decide +kernel) rfl) <|
  am_kc (ak_retI dX8_factOf_121) <|
  am_kc (ak_iconst dX8_factOf_122 (by decide +kernel) rfl) <|
  am_kc (ak_retI dX8_factOf_123) <|
  am_kc (ak_iconst dX8_factOf_124 (by decide +kernel) rfl) <|
  am_kc (ak_retI dX8_factOf_125) <|
  am_kc (ak_iconst dX8_factOf_126 (by decide +kernel) rfl) <|
  am_kc (ak_retI dX8_factOf_127) <|
  am_kc (ak_bipush dX8_factOf_128 (by decide +kernel) rfl) <|
  am_kc (ak_retI dX8_factOf_130) <|
  am_kc (ak_iconst dX8_factOf_131 (by decide +kernel) rfl) <|
  am_kc (ak_retI dX8_factOf_132) <| am_kn
def r_fact (c : Int32) : Int32 := if c = 114 then 0 else if c = 112 then 1 else if c = 101 then 2 else if c = 108 then 3 else if c = 121 then 4 else if c = 111 then 5 else if c = 97 then 6 else -1
theorem r_fact_in (c : Int32) : -1 ≤ (r_fact c).toInt ∧ (r_fact c).toInt ≤ 6 := by
  unfold r_fact
  repeat (split; decide)
  decide
def TX8_factOf : am_T := fun _ as M R => match as with
  | [.int c] => R (some (.int (r_fact c))) M
  | _ => False
set_option maxRecDepth 100000 in
set_option maxHeartbeats 4000000 in
theorem metX8_factOf : am_Met yX8_factOf cX8_factOf 1 (some .int) (0) (0) TX8_factOf := by
  refine am_met (own := RX8) (by decide +kernel) rfl kX8_factOf koX8_factOf 100 (fun _ _ _ _ _ => none) (fun live as M Ret h => ?_) (fun _ _ _ _ _ _ _ _ hI => by cases hI)
  unfold TX8_factOf at h
  split at h
  · next c =>
    refine ⟨Nat.le_of_ble_eq_true rfl, ?_⟩
    change am_wp _ _ _ _ [(0, Value.int c)] _ _
    repeat' (first | apply And.intro | exact rfl | intro hx | (refine Exists.intro _ (And.intro rfl ?_)))
    all_goals try first | (with_reducible change am_tI _ _) | (change Ret _ _) | (change Ret _ _ _) | (change Exists _)
    all_goals try dsimp only at *
    all_goals try (with_reducible exact absurd ‹(1000 : Int64) = 0› am_z1000)
    all_goals grind [r_fact]
  · exact h.elim
theorem dX8_closeness_0 : decode cX8_closeness 0 = .ok (.iload_n 0, 1) := by decide +kernel
theorem dX8_closeness_1 : decode cX8_closeness 1 = .ok (.lookupswitch 94 #[(38, 90), (42, 83), (43, 86), (45, 86), (47, 83), (60, 88), (61, 88), (62, 88), (124, 92)], 83) := by decide +kernel
theorem dX8_closeness_84 : decode cX8_closeness 84 = .ok (.bipush 6, 2) := by decide +kernel
theorem dX8_closeness_86 : decode cX8_closeness 86 = .ok (.ireturn, 1) := by decide +kernel
theorem dX8_closeness_87 : decode cX8_closeness 87 = .ok (.iconst 5, 1) := by decide +kernel
theorem dX8_closeness_88 : decode cX8_closeness 88 = .ok (.ireturn, 1) := by decide +kernel
theorem dX8_closeness_89 : decode cX8_closeness 89 = .ok (.iconst 4, 1) := by decide +kernel
theorem dX8_closeness_90 : decode cX8_closeness 90 = .ok (.ireturn, 1) := by decide +kernel
theorem dX8_closeness_91 : decode cX8_closeness 91 = .ok (.iconst 3, 1) := by decide +kernel
theorem dX8_closeness_92 : decode cX8_closeness 92 = .ok (.ireturn, 1) := by decide +kernel
theorem dX8_closeness_93 : decode cX8_closeness 93 = .ok (.iconst 2, 1) := by decide +kernel
theorem dX8_closeness_94 : decode cX8_closeness 94 = .ok (.ireturn, 1) := by decide +kernel
theorem dX8_closeness_95 : decode cX8_closeness 95 = .ok (.iconst 0, 1) := by decide +kernel
theorem dX8_closeness_96 : decode cX8_closeness 96 = .ok (.ireturn, 1) := by decide +kernel
def kX8_closeness (live : am_E) (Ret : am_R) : am_code := [(0, am_iload 0 1), (1, am_switch [(38, 91), (42, 84), (43, 87), (45, 87), (47, 84), (60, 89), (61, 89), (62, 89), (124, 93)] 95), (84, am_const (.int 6) 86), (86, am_retI Ret), (87, am_const (.int 5) 88), (88, am_retI Ret), (89, am_const (.int 4) 90), (90, am_retI Ret), (91, am_const (.int 3) 92), (92, am_retI Ret), (93, am_const (.int 2) 94), (94, am_retI Ret), (95, am_const (.int 0) 96), (96, am_retI Ret)]
theorem koX8_closeness (live : am_E) (Ret : am_R) : ∀ q ∈ kX8_closeness live Ret, am_ok RX8 cX8_closeness 1 (some .int) 0 0 live Ret q.1 q.2 :=
  am_kc (ak_iload_n dX8_closeness_0 rfl rfl) <|
  am_kc (ak_lswitch dX8_closeness_1 (by decide +kernel) (by decide +kernel) (by decide +kernel)) <|
  am_kc (ak_bipush dX8_closeness_84 (by decide +kernel) rfl) <|
  am_kc (ak_retI dX8_closeness_86) <|
  am_kc (ak_iconst dX8_closeness_87 (by decide +kernel) rfl) <|
  am_kc (ak_retI dX8_closeness_88) <|
  am_kc (ak_iconst dX8_closeness_89 (by decide +kernel) rfl) <|
  am_kc (ak_retI dX8_closeness_90) <|
  am_kc (ak_iconst dX8_closeness_91 (by decide +kernel) rfl) <|
  am_kc (ak_retI dX8_closeness_92) <|
  am_kc (ak_iconst dX8_closeness_93 (by decide +kernel) rfl) <|
  am_kc (ak_retI dX8_closeness_94) <|
  am_kc (ak_iconst dX8_closeness_95 (by decide +kernel) rfl) <|
  am_kc (ak_retI dX8_closeness_96) <| am_kn
def r_clo (c : Int32) : Int32 := if c = 42 ∨ c = 47 then 6 else if c = 43 ∨ c = 45 then 5 else if c = 60 ∨ c = 61 ∨ c = 62 then 4 else if c = 38 then 3 else if c = 124 then 2 else 0
def TX8_closeness : am_T := fun _ as M R => match as with
  | [.int c] => R (some (.int (r_clo c))) M
  | _ => False
set_option maxRecDepth 100000 in
set_option maxHeartbeats 4000000 in
theorem metX8_closeness : am_Met yX8_closeness cX8_closeness 1 (some .int) (0) (0) TX8_closeness := by
  refine am_met (own := RX8) (by decide +kernel) rfl kX8_closeness koX8_closeness 100 (fun _ _ _ _ _ => none) (fun live as M Ret h => ?_) (fun _ _ _ _ _ _ _ _ hI => by cases hI)
  unfold TX8_closeness at h
  split at h
  · next c =>
    refine ⟨Nat.le_of_ble_eq_true rfl, ?_⟩
    change am_wp _ _ _ _ [(0, Value.int c)] _ _
    repeat' (first | apply And.intro | exact rfl | intro hx | (refine Exists.intro _ (And.intro rfl ?_)))
    all_goals try first | (with_reducible change am_tI _ _) | (change Ret _ _) | (change Ret _ _ _) | (change Exists _)
    all_goals try dsimp only at *
    all_goals try (with_reducible exact absurd ‹(1000 : Int64) = 0› am_z1000)
    all_goals grind [r_clo]
  · exact h.elim
def rwX8_told : List dz_r := [(0, .iload_n 0, 1), (1, .ifCond .eq 7, 3), (4, .lconst 1, 1), (5, .goto 4, 3), (8, .lconst 0, 1), (9, .lreturn, 1)]
theorem dzX8_told : dz cX8_told rwX8_told := dz_all 0 (by decide +kernel)
def kX8_told (live : am_E) (Ret : am_R) : am_code := [(0, am_iload 0 1), (1, am_if1 (fun x => x = 0) 8 4), (4, am_const (.long 1) 5), (5, am_goto 9), (8, am_const (.long 0) 9), (9, am_retL Ret)]
theorem koX8_told (live : am_E) (Ret : am_R) : ∀ q ∈ kX8_told live Ret, am_ok RX8 cX8_told 1 (some .long) 0 0 live Ret q.1 q.2 :=
  am_kz dzX8_told <|
  am_kd (fun d => ak_iload_n d rfl rfl) <|
  am_kd (fun d => ak_if_eq d (by decide +kernel) rfl) <|
  am_kd (fun d => ak_lconst d (by decide +kernel) rfl) <|
  am_kd (fun d => ak_goto d (by decide +kernel)) <|
  am_kd (fun d => ak_lconst d (by decide +kernel) rfl) <|
  am_kd (fun d => ak_retL d) <| am_kdn
def TX8_told : am_T := fun _ as M R => match as with
  | [.int c] => R (some (.long (if c = 0 then 0 else 1))) M
  | _ => False
set_option maxRecDepth 100000 in
set_option maxHeartbeats 4000000 in
theorem metX8_told : am_Met yX8_told cX8_told 1 (some .long) (0) (0) TX8_told := by
  refine am_met (own := RX8) (by decide +kernel) rfl kX8_told koX8_told 60 (fun _ _ _ _ _ => none) (fun live as M Ret h => ?_) (fun _ _ _ _ _ _ _ _ hI => by cases hI)
  unfold TX8_told at h
  split at h
  · next c =>
    refine ⟨Nat.le_of_ble_eq_true rfl, ?_⟩
    change am_wp _ _ _ _ [(0, Value.int c)] _ _
    repeat' (first | apply And.intro | exact rfl | intro hx | (refine Exists.intro _ (And.intro rfl ?_)))
    all_goals try first | (with_reducible change am_tI _ _) | (change Ret _ _) | (change Ret _ _ _) | (change Exists _)
    all_goals try dsimp only at *
    all_goals try (with_reducible exact absurd ‹(1000 : Int64) = 0› am_z1000)
    all_goals first
      | (rw [if_pos (by with_reducible assumption)] at h; exact h)
      | (rw [if_neg (by with_reducible assumption)] at h; exact h)
  · exact h.elim
theorem hy_X8_told : yX8_told.cls ≠ "java/lang/invoke/MethodHandle" ∧ yX8_told.cls ≠ "java/lang/invoke/VarHandle" ∧ (parseMethodDescriptor yX8_told.desc).map (fun d => d.parameters.length) = some 1 := ⟨by decide +kernel, by decide +kernel, by decide +kernel⟩
set_option maxRecDepth 100000 in
theorem wd_1117 : Cond.methodLink "LearnLoansModel" 146 yX8_told ∈ am_ws := am_wt5 (List.mem_of_getElem? (i := 100) (by rfl)) (by decide +kernel)
set_option maxRecDepth 100000 in
theorem wd_1118 : Cond.static yX8_told ∈ am_ws := am_wt5 (List.mem_of_getElem? (i := 101) (by rfl)) (by decide +kernel)
set_option maxRecDepth 100000 in
theorem wd_1119 : Cond.code yX8_told cX8_told 1 (some .long) ∈ am_ws := am_wt5 (List.mem_of_getElem? (i := 102) (by rfl)) (by decide +kernel)
theorem dX8_between_0 : decode cX8_between 0 = .ok (.iload_n 0, 1) := by decide +kernel
theorem dX8_between_1 : decode cX8_between 1 = .ok (.tableswitch 207 38 62 #[186, 207, 207, 207, 115, 133, 207, 137, 207, 119, 207, 207, 207, 207, 207, 207, 207, 207, 207, 207, 207, 207, 141, 171, 156], 115) := by decide +kernel
theorem dX8_between_116 : decode cX8_between 116 = .ok (.lload_n 1, 1) := by decide +kernel
theorem dX8_between_117 : decode cX8_between 117 = .ok (.lload_n 3, 1) := by decide +kernel
theorem dX8_between_118 : decode cX8_between 118 = .ok (.lmul, 1) := by decide +kernel
theorem dX8_between_119 : decode cX8_between 119 = .ok (.lreturn, 1) := by decide +kernel
theorem dX8_between_120 : decode cX8_between 120 = .ok (.lload_n 3, 1) := by decide +kernel
theorem dX8_between_121 : decode cX8_between 121 = .ok (.lconst 0, 1) := by decide +kernel
theorem dX8_between_122 : decode cX8_between 122 = .ok (.lcmp, 1) := by decide +kernel
theorem dX8_between_123 : decode cX8_between 123 = .ok (.ifCond .ne 7, 3) := by decide +kernel
theorem dX8_between_126 : decode cX8_between 126 = .ok (.lconst 0, 1) := by decide +kernel
theorem dX8_between_127 : decode cX8_between 127 = .ok (.goto 6, 3) := by decide +kernel
theorem dX8_between_130 : decode cX8_between 130 = .ok (.lload_n 1, 1) := by decide +kernel
theorem dX8_between_131 : decode cX8_between 131 = .ok (.lload_n 3, 1) := by decide +kernel
theorem dX8_between_132 : decode cX8_between 132 = .ok (.ldiv, 1) := by decide +kernel
theorem dX8_between_133 : decode cX8_between 133 = .ok (.lreturn, 1) := by decide +kernel
theorem dX8_between_134 : decode cX8_between 134 = .ok (.lload_n 1, 1) := by decide +kernel
theorem dX8_between_135 : decode cX8_between 135 = .ok (.lload_n 3, 1) := by decide +kernel
theorem dX8_between_136 : decode cX8_between 136 = .ok (.ladd, 1) := by decide +kernel
theorem dX8_between_137 : decode cX8_between 137 = .ok (.lreturn, 1) := by decide +kernel
theorem dX8_between_138 : decode cX8_between 138 = .ok (.lload_n 1, 1) := by decide +kernel
theorem dX8_between_139 : decode cX8_between 139 = .ok (.lload_n 3, 1) := by decide +kernel
theorem dX8_between_140 : decode cX8_between 140 = .ok (.lsub, 1) := by decide +kernel
theorem dX8_between_141 : decode cX8_between 141 = .ok (.lreturn, 1) := by decide +kernel
theorem dX8_between_142 : decode cX8_between 142 = .ok (.lload_n 1, 1) := by decide +kernel
theorem dX8_between_143 : decode cX8_between 143 = .ok (.lload_n 3, 1) := by decide +kernel
theorem dX8_between_144 : decode cX8_between 144 = .ok (.lcmp, 1) := by decide +kernel
theorem dX8_between_145 : decode cX8_between 145 = .ok (.ifCond .ge 7, 3) := by decide +kernel
theorem dX8_between_148 : decode cX8_between 148 = .ok (.iconst 1, 1) := by decide +kernel
theorem dX8_between_149 : decode cX8_between 149 = .ok (.goto 4, 3) := by decide +kernel
theorem dX8_between_152 : decode cX8_between 152 = .ok (.iconst 0, 1) := by decide +kernel
theorem dX8_between_153 : decode cX8_between 153 = .ok (.invokestatic 146, 3) := by decide +kernel
theorem dX8_between_156 : decode cX8_between 156 = .ok (.lreturn, 1) := by decide +kernel
theorem dX8_between_157 : decode cX8_between 157 = .ok (.lload_n 1, 1) := by decide +kernel
theorem dX8_between_158 : decode cX8_between 158 = .ok (.lload_n 3, 1) := by decide +kernel
theorem dX8_between_159 : decode cX8_between 159 = .ok (.lcmp, 1) := by decide +kernel
theorem dX8_between_160 : decode cX8_between 160 = .ok (.ifCond .le 7, 3) := by decide +kernel
theorem dX8_between_163 : decode cX8_between 163 = .ok (.iconst 1, 1) := by decide +kernel
theorem dX8_between_164 : decode cX8_between 164 = .ok (.goto 4, 3) := by decide +kernel
theorem dX8_between_167 : decode cX8_between 167 = .ok (.iconst 0, 1) := by decide +kernel
theorem dX8_between_168 : decode cX8_between 168 = .ok (.invokestatic 146, 3) := by decide +kernel
theorem dX8_between_171 : decode cX8_between 171 = .ok (.lreturn, 1) := by decide +kernel
theorem dX8_between_172 : decode cX8_between 172 = .ok (.lload_n 1, 1) := by decide +kernel
theorem dX8_between_173 : decode cX8_between 173 = .ok (.lload_n 3, 1) := by decide +kernel
theorem dX8_between_174 : decode cX8_between 174 = .ok (.lcmp, 1) := by decide +kernel
theorem dX8_between_175 : decode cX8_between 175 = .ok (.ifCond .ne 7, 3) := by decide +kernel
theorem dX8_between_178 : decode cX8_between 178 = .ok (.iconst 1, 1) := by decide +kernel
theorem dX8_between_179 : decode cX8_between 179 = .ok (.goto 4, 3) := by decide +kernel
theorem dX8_between_182 : decode cX8_between 182 = .ok (.iconst 0, 1) := by decide +kernel
theorem dX8_between_183 : decode cX8_between 183 = .ok (.invokestatic 146, 3) := by decide +kernel
theorem dX8_between_186 : decode cX8_between 186 = .ok (.lreturn, 1) := by decide +kernel
theorem dX8_between_187 : decode cX8_between 187 = .ok (.lload_n 1, 1) := by decide +kernel
theorem dX8_between_188 : decode cX8_between 188 = .ok (.lconst 0, 1) := by decide +kernel
theorem dX8_between_189 : decode cX8_between 189 = .ok (.lcmp, 1) := by decide +kernel
theorem dX8_between_190 : decode cX8_between 190 = .ok (.ifCond .eq 13, 3) := by decide +kernel
theorem dX8_between_193 : decode cX8_between 193 = .ok (.lload_n 3, 1) := by decide +kernel
theorem dX8_between_194 : decode cX8_between 194 = .ok (.lconst 0, 1) := by decide +kernel
theorem dX8_between_195 : decode cX8_between 195 = .ok (.lcmp, 1) := by decide +kernel
theorem dX8_between_196 : decode cX8_between 196 = .ok (.ifCond .eq 7, 3) := by decide +kernel
theorem dX8_between_199 : decode cX8_between 199 = .ok (.iconst 1, 1) := by decide +kernel
theorem dX8_between_200 : decode cX8_between 200 = .ok (.goto 4, 3) := by decide +kernel
theorem dX8_between_203 : decode cX8_between 203 = .ok (.iconst 0, 1) := by decide +kernel
theorem dX8_between_204 : decode cX8_between 204 = .ok (.invokestatic 146, 3) := by decide +kernel
theorem dX8_between_207 : decode cX8_between 207 = .ok (.lreturn, 1) := by decide +kernel
theorem dX8_between_208 : decode cX8_between 208 = .ok (.lload_n 1, 1) := by decide +kernel
theorem dX8_between_209 : decode cX8_between 209 = .ok (.lconst 0, 1) := by decide +kernel
theorem dX8_between_210 : decode cX8_between 210 = .ok (.lcmp, 1) := by decide +kernel
theorem dX8_between_211 : decode cX8_between 211 = .ok (.ifCond .ne 9, 3) := by decide +kernel
theorem dX8_between_214 : decode cX8_between 214 = .ok (.lload_n 3, 1) := by decide +kernel
theorem dX8_between_215 : decode cX8_between 215 = .ok (.lconst 0, 1) := by decide +kernel
theorem dX8_between_216 : decode cX8_between 216 = .ok (.lcmp, 1) := by decide +kernel
theorem dX8_between_217 : decode cX8_between 217 = .ok (.ifCond .eq 7, 3) := by decide +kernel
theorem dX8_between_220 : decode cX8_between 220 = .ok (.iconst 1, 1) := by decide +kernel
theorem dX8_between_221 : decode cX8_between 221 = .ok (.goto 4, 3) := by decide +kernel
theorem dX8_between_224 : decode cX8_between 224 = .ok (.iconst 0, 1) := by decide +kernel
theorem dX8_between_225 : decode cX8_between 225 = .ok (.invokestatic 146, 3) := by decide +kernel
theorem dX8_between_228 : decode cX8_between 228 = .ok (.lreturn, 1) := by decide +kernel
def kX8_between (live : am_E) (Ret : am_R) : am_code := [(0, am_iload 0 1), (1, am_switch [(38, 187), (39, 208), (40, 208), (41, 208), (42, 116), (43, 134), (44, 208), (45, 138), (46, 208), (47, 120), (48, 208), (49, 208), (50, 208), (51, 208), (52, 208), (53, 208), (54, 208), (55, 208), (56, 208), (57, 208), (58, 208), (59, 208), (60, 142), (61, 172), (62, 157)] 208), (116, am_lload 1 117), (117, am_lload 3 118), (118, am_l2 (fun x y => x * y) 119), (119, am_retL Ret), (120, am_lload 3 121), (121, am_const (.long 0) 122), (122, am_lcmp 123), (123, am_if1 (fun x => x = 0) 126 130), (126, am_const (.long 0) 127), (127, am_goto 133), (130, am_lload 1 131), (131, am_lload 3 132), (132, am_l2z (fun x y => x / y) 133), (133, am_retL Ret), (134, am_lload 1 135), (135, am_lload 3 136), (136, am_l2 (fun x y => x + y) 137), (137, am_retL Ret), (138, am_lload 1 139), (139, am_lload 3 140), (140, am_l2 (fun x y => x - y) 141), (141, am_retL Ret), (142, am_lload 1 143), (143, am_lload 3 144), (144, am_lcmp 145), (145, am_if1 (fun x => 0 ≤ x) 152 148), (148, am_const (.int 1) 149), (149, am_goto 153), (152, am_const (.int 0) 153), (153, am_callS live 1 TX8_told 156), (156, am_retL Ret), (157, am_lload 1 158), (158, am_lload 3 159), (159, am_lcmp 160), (160, am_if1 (fun x => x ≤ 0) 167 163), (163, am_const (.int 1) 164), (164, am_goto 168), (167, am_const (.int 0) 168), (168, am_callS live 1 TX8_told 171), (171, am_retL Ret), (172, am_lload 1 173), (173, am_lload 3 174), (174, am_lcmp 175), (175, am_if1 (fun x => x = 0) 178 182), (178, am_const (.int 1) 179), (179, am_goto 183), (182, am_const (.int 0) 183), (183, am_callS live 1 TX8_told 186), (186, am_retL Ret), (187, am_lload 1 188), (188, am_const (.long 0) 189), (189, am_lcmp 190), (190, am_if1 (fun x => x = 0) 203 193), (193, am_lload 3 194), (194, am_const (.long 0) 195), (195, am_lcmp 196), (196, am_if1 (fun x => x = 0) 203 199), (199, am_const (.int 1) 200), (200, am_goto 204), (203, am_const (.int 0) 204), (204, am_callS live 1 TX8_told 207), (207, am_retL Ret), (208, am_lload 1 209), (209, am_const (.long 0) 210), (210, am_lcmp 211), (211, am_if1 (fun x => x = 0) 214 220), (214, am_lload 3 215), (215, am_const (.long 0) 216), (216, am_lcmp 217), (217, am_if1 (fun x => x = 0) 224 220), (220, am_const (.int 1) 221), (221, am_goto 225), (224, am_const (.int 0) 225), (225, am_callS live 1 TX8_told 228), (228, am_retL Ret)]
theorem koX8_between (live : am_E) (Ret : am_R) : ∀ q ∈ kX8_between live Ret, am_ok RX8 cX8_between 5 (some .long) 1 20 live Ret q.1 q.2 :=
  am_kc (ak_iload_n dX8_between_0 rfl rfl) <|
  am_kc (ak_tswitch dX8_between_1 (by decide +kernel) (by decide +kernel) (by decide +kernel) (by decide +kernel) (by decide +kernel) (by decide +kernel)) <|
  am_kc (ak_lload_n dX8_between_116 rfl rfl) <|
  am_kc (ak_lload_n dX8_between_117 rfl rfl) <|
  am_kc (ak_lmul dX8_between_118 rfl) <|
  am_kc (ak_retL dX8_between_119) <|
  am_kc (ak_lload_n dX8_between_120 rfl rfl) <|
  am_kc (ak_lconst dX8_between_121 (by decide +kernel) rfl) <|
  am_kc (ak_lcmp dX8_between_122 rfl) <|
  am_kc (ak_if_ne dX8_between_123 (by decide +kernel) rfl) <|
  am_kc (ak_lconst dX8_between_126 (by decide +kernel) rfl) <|
  am_kc (ak_goto dX8_between_127 (by decide +kernel)) <|
  am_kc (ak_lload_n dX8_between_130 rfl rfl) <|
  am_kc (ak_lload_n dX8_between_131 rfl rfl) <|
  am_kc (ak_ldiv dX8_between_132 rfl) <|
  am_kc (ak_retL dX8_between_133) <|
  am_kc (ak_lload_n dX8_between_134 rfl rfl) <|
  am_kc (ak_lload_n dX8_between_135 rfl rfl) <|
  am_kc (ak_ladd dX8_between_136 rfl) <|
  am_kc (ak_retL dX8_between_137) <|
  am_kc (ak_lload_n dX8_between_138 rfl rfl) <|
  am_kc (ak_lload_n dX8_between_139 rfl rfl) <|
  am_kc (ak_lsub dX8_between_140 rfl) <|
  am_kc (ak_retL dX8_between_141) <|
  am_kc (ak_lload_n dX8_between_142 rfl rfl) <|
  am_kc (ak_lload_n dX8_between_143 rfl rfl) <|
  am_kc (ak_lcmp dX8_between_144 rfl) <|
  am_kc (ak_if_ge dX8_between_145 (by decide +kernel) rfl) <|
  am_kc (ak_iconst dX8_between_148 (by decide +kernel) rfl) <|
  am_kc (ak_goto dX8_between_149 (by decide +kernel)) <|
  am_kc (ak_iconst dX8_between_152 (by decide +kernel) rfl) <|
  am_kc (ak_callS metX8_told ⟨rfl, hy_X8_told⟩ (am_w4 wd_1117 wd_1118 wd_67 wd_1119) (by decide) dX8_between_153 rfl) <|
  am_kc (ak_retL dX8_between_156) <|
  am_kc (ak_lload_n dX8_between_157 rfl rfl) <|
  am_kc (ak_lload_n dX8_between_158 rfl rfl) <|
  am_kc (ak_lcmp dX8_between_159 rfl) <|
  am_kc (ak_if_le dX8_between_160 (by decide +kernel) rfl) <|
  am_kc (ak_iconst dX8_between_163 (by decide +kernel) rfl) <|
  am_kc (ak_goto dX8_between_164 (by decide +kernel)) <|
  am_kc (ak_iconst dX8_between_167 (by decide +kernel) rfl) <|
  am_kc (ak_callS metX8_told ⟨rfl, hy_X8_told⟩ (am_w4 wd_1117 wd_1118 wd_67 wd_1119) (by decide) dX8_between_168 rfl) <|
  am_kc (ak_retL dX8_between_171) <|
  am_kc (ak_lload_n dX8_between_172 rfl rfl) <|
  am_kc (ak_lload_n dX8_between_173 rfl rfl) <|
  am_kc (ak_lcmp dX8_between_174 rfl) <|
  am_kc (ak_if_ne dX8_between_175 (by decide +kernel) rfl) <|
  am_kc (ak_iconst dX8_between_178 (by decide +kernel) rfl) <|
  am_kc (ak_goto dX8_between_179 (by decide +kernel)) <|
  am_kc (ak_iconst dX8_between_182 (by decide +kernel) rfl) <|
  am_kc (ak_callS metX8_told ⟨rfl, hy_X8_told⟩ (am_w4 wd_1117 wd_1118 wd_67 wd_1119) (by decide) dX8_between_183 rfl) <|
  am_kc (ak_retL dX8_between_186) <|
  am_kc (ak_lload_n dX8_between_187 rfl rfl) <|
  am_kc (ak_lconst dX8_between_188 (by decide +kernel) rfl) <|
  am_kc (ak_lcmp dX8_between_189 rfl) <|
  am_kc (ak_if_eq dX8_between_190 (by decide +kernel) rfl) <|
  am_kc (ak_lload_n dX8_between_193 rfl rfl) <|
  am_kc (ak_lconst dX8_between_194 (by decide +kernel) rfl) <|
  am_kc (ak_lcmp dX8_between_195 rfl) <|
  am_kc (ak_if_eq dX8_between_196 (by decide +kernel) rfl) <|
  am_kc (ak_iconst dX8_between_199 (by decide +kernel) rfl) <|
  am_kc (ak_goto dX8_between_200 (by decide +kernel)) <|
  am_kc (ak_iconst dX8_between_203 (by decide +kernel) rfl) <|
  am_kc (ak_callS metX8_told ⟨rfl, hy_X8_told⟩ (am_w4 wd_1117 wd_1118 wd_67 wd_1119) (by decide) dX8_between_204 rfl) <|
  am_kc (ak_retL dX8_between_207) <|
  am_kc (ak_lload_n dX8_between_208 rfl rfl) <|
  am_kc (ak_lconst dX8_between_209 (by decide +kernel) rfl) <|
  am_kc (ak_lcmp dX8_between_210 rfl) <|
  am_kc (ak_if_ne dX8_between_211 (by decide +kernel) rfl) <|
  am_kc (ak_lload_n dX8_between_214 rfl rfl) <|
  am_kc (ak_lconst dX8_between_215 (by decide +kernel) rfl) <|
  am_kc (ak_lcmp dX8_between_216 rfl) <|
  am_kc (ak_if_eq dX8_between_217 (by decide +kernel) rfl) <|
  am_kc (ak_iconst dX8_between_220 (by decide +kernel) rfl) <|
  am_kc (ak_goto dX8_between_221 (by decide +kernel)) <|
  am_kc (ak_iconst dX8_between_224 (by decide +kernel) rfl) <|
  am_kc (ak_callS metX8_told ⟨rfl, hy_X8_told⟩ (am_w4 wd_1117 wd_1118 wd_67 wd_1119) (by decide) dX8_between_225 rfl) <|
  am_kc (ak_retL dX8_between_228) <| am_kn
def TX8_between : am_T := fun _ as M R => match as with
  | [.int c, .long a, .long b] => ∀ v, R (some (.long v)) M
  | _ => False
theorem r_lcz {y : Int64} (h : ¬ lg_cmp y 0 = 0) : ¬ y = 0 := fun e => h ((lc_eq y 0).mpr e)
set_option maxRecDepth 100000 in
set_option maxHeartbeats 4000000 in
theorem metX8_between : am_Met yX8_between cX8_between 5 (some .long) (1) (20) TX8_between := by
  refine am_met (own := RX8) (by decide +kernel) rfl kX8_between koX8_between 100 (fun _ _ _ _ _ => none) (fun live as M Ret h => ?_) (fun _ _ _ _ _ _ _ _ hI => by cases hI)
  unfold TX8_between at h
  split at h
  · next c a b =>
    refine ⟨Nat.le_of_ble_eq_true rfl, ?_⟩
    change am_wp _ _ _ _ [(0, Value.int c), (1, Value.long a), (3, Value.long b)] _ _
    repeat' (first | apply And.intro | exact rfl | intro hx | (refine Exists.intro _ (And.intro rfl ?_)))
    all_goals try first | (with_reducible change am_tI _ _) | (change Ret _ _) | (change Ret _ _ _) | (change Exists _)
    all_goals try dsimp only at *
    all_goals try (with_reducible exact absurd ‹(1000 : Int64) = 0› am_z1000)
    all_goals first
      | (with_reducible exact h _)
      | exact r_lcz (by with_reducible assumption) (by with_reducible assumption)
      | exact absurd (by with_reducible assumption) (r_lcz (by with_reducible assumption))
      | exact h _
  · exact h.elim
set_option maxRecDepth 100000 in
theorem wd_906 : Cond.fieldLink "LearnLoansModel" 150 "LearnLoansModel" "waitMany" "I" ∈ am_ws := am_wt4 (List.mem_of_getElem? (i := 129) (by rfl)) (by decide +kernel)
def rwX8_top : List dz_r := [(0, .aload_n 0, 1), (1, .getfield 150, 3), (4, .ifCond .ne 7, 3), (7, .iconst 0, 1), (8, .goto 14, 3), (11, .aload_n 0, 1), (12, .getfield 20, 3), (15, .aload_n 0, 1), (16, .getfield 150, 3), (19, .iconst 1, 1), (20, .isub, 1), (21, .iaload, 1), (22, .ireturn, 1)]
theorem dzX8_top : dz cX8_top rwX8_top := dz_all 0 (by decide +kernel)
def kX8_top (live : am_E) (Ret : am_R) : am_code := [(0, am_aload 0 1), (1, am_getI live 8 11 4), (4, am_if1 (fun x => x = 0) 7 11), (7, am_const (.int 0) 8), (8, am_goto 22), (11, am_aload 0 12), (12, am_getR live 8 9 15), (15, am_aload 0 16), (16, am_getI live 8 11 19), (19, am_const (.int 1) 20), (20, am_i2 (fun x y => x - y) 21), (21, am_ald live 0 22), (22, am_retI Ret)]
theorem koX8_top (live : am_E) (Ret : am_R) : ∀ q ∈ kX8_top live Ret, am_ok RX8 cX8_top 1 (some .int) 0 0 live Ret q.1 q.2 :=
  am_kz dzX8_top <|
  am_kd (fun d => ak_aload_n d rfl rfl) <|
  am_kd (fun d => ak_getI (C := RX8) (T := TX8) (N := 27) rfl inX8w (by decide) rfl rfl rfl wd_906 d rfl) <|
  am_kd (fun d => ak_if_ne d (by decide +kernel) rfl) <|
  am_kd (fun d => ak_iconst d (by decide +kernel) rfl) <|
  am_kd (fun d => ak_goto d (by decide +kernel)) <|
  am_kd (fun d => ak_aload_n d rfl rfl) <|
  am_kd (fun d => ak_getR (C := RX8) (T := TX8) (N := 27) rfl inX8w (by decide) rfl rfl rfl wd_904 d rfl) <|
  am_kd (fun d => ak_aload_n d rfl rfl) <|
  am_kd (fun d => ak_getI (C := RX8) (T := TX8) (N := 27) rfl inX8w (by decide) rfl rfl rfl wd_906 d rfl) <|
  am_kd (fun d => ak_iconst d (by decide +kernel) rfl) <|
  am_kd (fun d => ak_isub d rfl) <|
  am_kd (fun d => ak_iald (t := 0) (fun _ => rfl) rfl d rfl) <|
  am_kd (fun d => ak_retI d) <| am_kdn
/-- how many values wait for what waits: what a sign weighs -/
def r_wt (c : Int32) : Nat := if c = 58 then 2 else if c = 63 then 1 else if r_clo c = 0 then 0 else 1
def r_ws (f : Nat → Int32) : Nat → Nat
  | 0 => 0
  | k + 1 => r_ws f k + r_wt (f k)
/-- the reader's stacks: d values more than what waits weighs -/
def r_wI (M : am_M) (d : Nat) (w0 : Nat) : Prop := ∃ _ : Unit, (0 ≤ (M.1 200 11).toInt ∧ (M.1 200 11).toInt ≤ (w0 : Int) ∧ w0 ≤ 60) ∧ (M.1 200 12).toInt = (r_ws (M.1 204) (M.1 200 11).toNatClampNeg + d : Nat) ∧ (M.1 200 12).toInt ≤ (w0 : Int)
def r_cw (M : am_M) (d : Nat) (K : Nat → Prop) : Prop := ∃ w0, r_wI M d w0 ∧ K w0
theorem r_cw_in {M : am_M} {d w0 : Nat} {K : Nat → Prop} (h : r_wI M d w0) (k : K w0) : r_cw M d K := ⟨w0, h, k⟩
def r_top (M : am_M) : Int32 := if M.1 200 11 = 0 then 0 else M.1 204 (M.1 200 11 - 1).toNatClampNeg
def TX8_top : am_T := fun live as M R => match as with
  | [.ref n] => am_mn live ∧ n = 200 ∧ (0 ≤ (M.1 200 11).toInt ∧ (M.1 200 11).toInt ≤ 120) ∧ R (some (.int (r_top M))) M
  | _ => False
set_option maxRecDepth 100000 in
set_option maxHeartbeats 4000000 in
theorem metX8_top : am_Met yX8_top cX8_top 1 (some .int) (0) (0) TX8_top := by
  refine am_met (own := RX8) (by decide +kernel) rfl kX8_top koX8_top 60 (fun _ _ _ _ _ => none) (fun live as M Ret h => ?_) (fun _ _ _ _ _ _ _ _ hI => by cases hI)
  unfold TX8_top at h
  split at h
  · next n =>
    refine ⟨Nat.le_of_ble_eq_true rfl, ?_⟩
    change am_wp _ _ _ _ [(0, Value.ref n)] _ _
    obtain ⟨⟨i1, i2, rfl⟩, rfl, ⟨w1, w2⟩, h⟩ := h
    have l204 : am_len 204 = 120 := rfl
    by_cases z : M.1 200 11 = 0
    · rw [show r_top M = 0 from if_pos z] at h
      repeat' (first | (with_reducible exact h) | apply And.intro | exact rfl | (intro hx; with_reducible exact absurd z hx) | intro hx | (refine Exists.intro _ (And.intro rfl ?_)))
      all_goals try first | (with_reducible change am_tI _ _) | (change Ret _ _) | (change Ret _ _ _) | (change Exists _)
      all_goals try dsimp only at *
      all_goals try (with_reducible exact absurd ‹(1000 : Int64) = 0› am_z1000)
      all_goals exact h
    · rw [show r_top M = M.1 204 (M.1 200 11 - 1).toNatClampNeg from if_neg z] at h
      have z2 := z
      simp only [i_eq, Int32.reduceToInt] at z2
      have e := i_sub (x := M.1 200 11) (y := 1) (by simp only [Int32.reduceToInt]; omega) (by simp only [Int32.reduceToInt]; omega)
      simp only [Int32.reduceToInt] at e
      repeat' (first | apply And.intro | exact rfl | (intro hx; with_reducible exact absurd hx z) | intro hx | (refine Exists.intro _ (And.intro rfl ?_)))
      all_goals try first | (with_reducible change am_tI _ _) | (change Ret _ _) | (change Ret _ _ _) | (change Exists _)
      all_goals try dsimp only at *
      all_goals try (with_reducible exact absurd ‹(1000 : Int64) = 0› am_z1000)
      all_goals first
        | (with_reducible exact h)
        | omega
        | (rw [l204]; omega)
        | exact h
  · exact h.elim
def rwX8_wait : List dz_r := [(0, .aload_n 0, 1), (1, .getfield 20, 3), (4, .aload_n 0, 1), (5, .getfield 150, 3), (8, .iload_n 1, 1), (9, .iastore, 1), (10, .aload_n 0, 1), (11, .dup, 1), (12, .getfield 150, 3), (15, .iconst 1, 1), (16, .iadd, 1), (17, .putfield 150, 3), (20, .return_, 1)]
theorem dzX8_wait : dz cX8_wait rwX8_wait := dz_all 0 (by decide +kernel)
def kX8_wait (live : am_E) (Ret : am_R) : am_code := [(0, am_aload 0 1), (1, am_getR live 8 9 4), (4, am_aload 0 5), (5, am_getI live 8 11 8), (8, am_iload 1 9), (9, am_ast live 0 10), (10, am_aload 0 11), (11, am_dup 12), (12, am_getI live 8 11 15), (15, am_const (.int 1) 16), (16, am_i2 (fun x y => x + y) 17), (17, am_putI live 8 11 20), (20, am_retV Ret)]
theorem koX8_wait (live : am_E) (Ret : am_R) : ∀ q ∈ kX8_wait live Ret, am_ok RX8 cX8_wait 2 none 0 0 live Ret q.1 q.2 :=
  am_kz dzX8_wait <|
  am_kd (fun d => ak_aload_n d rfl rfl) <|
  am_kd (fun d => ak_getR (C := RX8) (T := TX8) (N := 27) rfl inX8w (by decide) rfl rfl rfl wd_904 d rfl) <|
  am_kd (fun d => ak_aload_n d rfl rfl) <|
  am_kd (fun d => ak_getI (C := RX8) (T := TX8) (N := 27) rfl inX8w (by decide) rfl rfl rfl wd_906 d rfl) <|
  am_kd (fun d => ak_iload_n d rfl rfl) <|
  am_kd (fun d => ak_iast (t := 0) (fun _ => rfl) rfl d rfl) <|
  am_kd (fun d => ak_aload_n d rfl rfl) <|
  am_kd (fun d => ak_dup d rfl) <|
  am_kd (fun d => ak_getI (C := RX8) (T := TX8) (N := 27) rfl inX8w (by decide) rfl rfl rfl wd_906 d rfl) <|
  am_kd (fun d => ak_iconst d (by decide +kernel) rfl) <|
  am_kd (fun d => ak_iadd d rfl) <|
  am_kd (fun d => ak_putI (C := RX8) (T := TX8) (N := 27) rfl inX8w tyX8_ok nmX8 (by decide) rfl rfl rfl rfl (by decide +kernel) wd_906 d rfl) <|
  am_kd (fun d => ak_retV d) <| am_kdn
def TX8_wait : am_T := fun live as M R => match as with
  | [.ref n, .int c] => am_mn live ∧ n = 200 ∧ (0 ≤ (M.1 200 11).toInt ∧ (M.1 200 11).toInt < 120) ∧ R none (am_wI (am_wI M 204 (M.1 200 11).toNatClampNeg c) 200 11 (M.1 200 11 + 1))
  | _ => False
set_option maxRecDepth 100000 in
set_option maxHeartbeats 4000000 in
theorem metX8_wait : am_Met yX8_wait cX8_wait 2 none (0) (0) TX8_wait := by
  refine am_met (own := RX8) (by decide +kernel) rfl kX8_wait koX8_wait 60 (fun _ _ _ _ _ => none) (fun live as M Ret h => ?_) (fun _ _ _ _ _ _ _ _ hI => by cases hI)
  unfold TX8_wait at h
  split at h
  · next n c =>
    refine ⟨Nat.le_of_ble_eq_true rfl, ?_⟩
    change am_wp _ _ _ _ [(0, Value.ref n), (1, Value.int c)] _ _
    obtain ⟨⟨i1, i2, rfl⟩, rfl, ⟨w1, w2⟩, h⟩ := h
    have l204 : am_len 204 = 120 := rfl
    repeat' (first | apply And.intro | exact rfl | intro hx | (refine Exists.intro _ (And.intro rfl ?_)))
    all_goals try first | (with_reducible change am_tI _ _) | (change Ret _ _) | (change Ret _ _ _) | (change Exists _)
    all_goals try dsimp only at *
    all_goals try (with_reducible exact absurd ‹(1000 : Int64) = 0› am_z1000)
    all_goals first
      | (with_reducible exact h)
      | omega
      | (rw [l204]; omega)
      | exact h
  · exact h.elim
def rwX8_opened : List dz_r := [(0, .iconst 0, 1), (1, .istore_n 1, 1), (2, .iconst 0, 1), (3, .istore_n 2, 1), (4, .iload_n 2, 1), (5, .aload_n 0, 1), (6, .getfield 150, 3), (9, .if_icmp .ge 28, 3), (12, .iload_n 1, 1), (13, .aload_n 0, 1), (14, .getfield 20, 3), (17, .iload_n 2, 1), (18, .iaload, 1), (19, .bipush 40, 2), (21, .if_icmp .ne 7, 3), (24, .iconst 1, 1), (25, .goto 4, 3), (28, .iconst 0, 1), (29, .iadd, 1), (30, .istore_n 1, 1), (31, .iinc 2 1, 3), (34, .goto (-30), 3), (37, .iload_n 1, 1), (38, .ireturn, 1)]
theorem dzX8_opened : dz cX8_opened rwX8_opened := dz_all 0 (by decide +kernel)
def kX8_opened (live : am_E) (Ret : am_R) : am_code := [(0, am_const (.int 0) 1), (1, am_istore 1 3 2), (2, am_const (.int 0) 3), (3, am_istore 2 3 4), (4, am_iload 2 5), (5, am_aload 0 6), (6, am_getI live 8 11 9), (9, am_if2 (fun x y => y ≤ x) 37 12), (12, am_iload 1 13), (13, am_aload 0 14), (14, am_getR live 8 9 17), (17, am_iload 2 18), (18, am_ald live 0 19), (19, am_const (.int 40) 21), (21, am_if2 (fun x y => x = y) 24 28), (24, am_const (.int 1) 25), (25, am_goto 29), (28, am_const (.int 0) 29), (29, am_i2 (fun x y => x + y) 30), (30, am_istore 1 3 31), (31, am_iinc 2 3 1 34), (34, am_goto 4), (37, am_iload 1 38), (38, am_retI Ret)]
theorem koX8_opened (live : am_E) (Ret : am_R) : ∀ q ∈ kX8_opened live Ret, am_ok RX8 cX8_opened 3 (some .int) 0 0 live Ret q.1 q.2 :=
  am_kz dzX8_opened <|
  am_kd (fun d => ak_iconst d (by decide +kernel) rfl) <|
  am_kd (fun d => ak_istore_n d rfl rfl) <|
  am_kd (fun d => ak_iconst d (by decide +kernel) rfl) <|
  am_kd (fun d => ak_istore_n d rfl rfl) <|
  am_kd (fun d => ak_iload_n d rfl rfl) <|
  am_kd (fun d => ak_aload_n d rfl rfl) <|
  am_kd (fun d => ak_getI (C := RX8) (T := TX8) (N := 27) rfl inX8w (by decide) rfl rfl rfl wd_906 d rfl) <|
  am_kd (fun d => ak_icmp_ge d (by decide +kernel) rfl) <|
  am_kd (fun d => ak_iload_n d rfl rfl) <|
  am_kd (fun d => ak_aload_n d rfl rfl) <|
  am_kd (fun d => ak_getR (C := RX8) (T := TX8) (N := 27) rfl inX8w (by decide) rfl rfl rfl wd_904 d rfl) <|
  am_kd (fun d => ak_iload_n d rfl rfl) <|
  am_kd (fun d => ak_iald (t := 0) (fun _ => rfl) rfl d rfl) <|
  am_kd (fun d => ak_bipush d (by decide +kernel) rfl) <|
  am_kd (fun d => ak_icmp_ne d (by decide +kernel) rfl) <|
  am_kd (fun d => ak_iconst d (by decide +kernel) rfl) <|
  am_kd (fun d => ak_goto d (by decide +kernel)) <|
  am_kd (fun d => ak_iconst d (by decide +kernel) rfl) <|
  am_kd (fun d => ak_iadd d rfl) <|
  am_kd (fun d => ak_istore_n d rfl rfl) <|
  am_kd (fun d => ak_iinc d (by decide +kernel) rfl) <|
  am_kd (fun d => ak_goto d (by decide +kernel)) <|
  am_kd (fun d => ak_iload_n d rfl rfl) <|
  am_kd (fun d => ak_retI d) <| am_kdn
def TX8_opened : am_T := fun live as M R => match as with
  | [.ref n] => am_mn live ∧ n = 200 ∧ (0 ≤ (M.1 200 11).toInt ∧ (M.1 200 11).toInt ≤ 120) ∧ ∀ v, R (some (.int v)) M
  | _ => False
def JX8_opened : am_E → List Value → am_M → am_R → am_inv := fun live as M0 _ pc => match as with
  | [.ref n] => (match pc with
    | 4 => some ([0, 1, 2], fun k L st M => ∃ v i : Int32, L = [(0, .ref 200), (1, .int v), (2, .int i)] ∧ st = [] ∧ k = ((121 - i.toInt).toNat, 0) ∧ 0 ≤ i.toInt ∧ M = M0)
    | _ => none)
  | _ => none
set_option maxRecDepth 100000 in
set_option maxHeartbeats 4000000 in
theorem metX8_opened : am_Met yX8_opened cX8_opened 3 (some .int) (0) (0) TX8_opened := by
  refine am_met (own := RX8) (by decide +kernel) rfl kX8_opened koX8_opened 100 JX8_opened ?_ ?_
  · intro live as M Ret h
    unfold TX8_opened at h
    split at h
    · next n =>
      refine ⟨Nat.le_of_ble_eq_true rfl, ?_⟩
      change am_wp _ _ _ _ [(0, Value.ref n)] _ _
      obtain ⟨hmn, rfl, hw, h⟩ := h
      repeat' (first | apply And.intro | exact rfl | intro hx | (refine Exists.intro _ (And.intro rfl ?_)))
      all_goals try first | (with_reducible change am_tI _ _) | (change Ret _ _) | (change Ret _ _ _) | (change Exists _)
      all_goals try dsimp only at *
      all_goals try (with_reducible exact absurd ‹(1000 : Int64) = 0› am_z1000)
      exact ⟨_, _, _, rfl, rfl, rfl, by decide, rfl⟩
    · exact h.elim
  · intro live as M0 Ret h k pc I hI L st M hi
    unfold TX8_opened at h
    split at h
    · next n =>
      obtain ⟨⟨i1, i2, rfl⟩, rfl, ⟨w1, w2⟩, h⟩ := h
      have l204 : am_len 204 = 120 := rfl
      change (match pc with | 4 => _ | _ => none) = _ at hI
      split at hI
      · cases hI
        obtain ⟨v, i, rfl, rfl, rfl, e1, rfl⟩ := hi
        by_cases hz : M.1 200 11 ≤ i
        · skip
          repeat' (first | apply And.intro | exact rfl | (intro hx; with_reducible exact absurd hz hx) | intro hx | (refine Exists.intro _ (And.intro rfl ?_)))
          all_goals try first | (with_reducible change am_tI _ _) | (change Ret _ _) | (change Ret _ _ _) | (change Exists _)
          all_goals try dsimp only at *
          all_goals try (with_reducible exact absurd ‹(1000 : Int64) = 0› am_z1000)
          exact h _
        · have hz2 := hz
          simp only [i_le] at hz2
          have hi := i_inc (x := i) (by omega) (by omega)
          repeat' (first | apply And.intro | exact rfl | (intro hx; with_reducible exact absurd hx hz) | intro hx | (refine Exists.intro _ (And.intro rfl ?_)))
          all_goals try first | (with_reducible change am_tI _ _) | (change Ret _ _) | (change Ret _ _ _) | (change Exists _)
          all_goals try dsimp only at *
          all_goals try (with_reducible exact absurd ‹(1000 : Int64) = 0› am_z1000)
          all_goals first
            | omega
            | (rw [l204]; omega)
            | exact ⟨_, am_lt_l (by omega), _, _, rfl, rfl, rfl, by omega, rfl⟩
      · cases hI
    · exact h.elim
theorem r_ws_top {M : am_M} (h1 : 0 < (M.1 200 11).toInt) : r_ws (M.1 204) (M.1 200 11).toNatClampNeg = r_ws (M.1 204) (M.1 200 11 - 1).toNatClampNeg + r_wt (r_top M) := by
  have e := i_sub (x := M.1 200 11) (y := 1) (by simp only [Int32.reduceToInt]; have := i_hi (M.1 200 11); omega) (by simp only [Int32.reduceToInt]; have := i_hi (M.1 200 11); omega)
  simp only [Int32.reduceToInt] at e
  have c1 := i_clamp (x := M.1 200 11) (by omega)
  have c2 := i_clamp (x := M.1 200 11 - 1) (by omega)
  have c3 : (M.1 200 11).toNatClampNeg = (M.1 200 11 - 1).toNatClampNeg + 1 := by omega
  have z : ¬ M.1 200 11 = 0 := fun q => by rw [q] at h1; exact absurd h1 (by decide)
  rw [show r_top M = M.1 204 (M.1 200 11 - 1).toNatClampNeg from if_neg z, c3]
  rfl
/-- what reducing changes -/
def r_wk (M M' : am_M) : Prop := ∃ _ : Unit, (∀ a b, (a ≠ 200 ∨ (b ≠ 11 ∧ b ≠ 12)) → M'.1 a b = M.1 a b) ∧ (∀ a b, a ≠ 205 → M'.2 a b = M.2 a b) ∧ (M'.1 200 11).toInt ≤ (M.1 200 11).toInt ∧ (M'.1 200 12).toInt ≤ (M.1 200 12).toInt
theorem r_wk.sc {M M' : am_M} (h : r_wk M M') : r_sc M M' := by
  obtain ⟨-, h1, h2, -⟩ := h
  exact ⟨(), fun a b z => ⟨h1 a b (Or.inl (by omega)), h2 a b (by omega)⟩, h1 _ _ (Or.inr ⟨by decide, by decide⟩), h1 _ _ (Or.inr ⟨by decide, by decide⟩)⟩
theorem r_wk.rf {M : am_M} : r_wk M M := ⟨(), fun _ _ _ => rfl, fun _ _ _ => rfl, Int.le_refl _, Int.le_refl _⟩
theorem r_wk.tr {M M' M'' : am_M} (h : r_wk M M') (h2 : r_wk M' M'') : r_wk M M'' := by
  obtain ⟨-, a1, a2, a3, a4⟩ := h
  obtain ⟨-, b1, b2, b3, b4⟩ := h2
  exact ⟨(), fun a b z => (b1 a b z).trans (a1 a b z), fun a b z => (b2 a b z).trans (a2 a b z), Int.le_trans b3 a3, Int.le_trans b4 a4⟩
theorem r_wk.i {M M' : am_M} (h : r_wk M M') (hI : r_I M) : r_I M' := by
  exact hI.sc h.sc
theorem r_wI.u {M : am_M} {d w0 : Nat} (h : r_wI M d w0) : (0 ≤ (M.1 200 11).toInt ∧ (M.1 200 11).toInt ≤ (w0 : Int) ∧ w0 ≤ 60) ∧ (M.1 200 12).toInt = (r_ws (M.1 204) (M.1 200 11).toNatClampNeg + d : Nat) ∧ (M.1 200 12).toInt ≤ (w0 : Int) := by obtain ⟨-, h⟩ := h; exact h
theorem r_top_pos {M : am_M} (h : ¬ r_top M = 0) (h1 : 0 ≤ (M.1 200 11).toInt) : 0 < (M.1 200 11).toInt := by
  by_cases z : M.1 200 11 = 0
  · exact absurd (if_pos z) h
  · simp only [i_eq, Int32.reduceToInt] at z
    omega
theorem r_clo0 : r_clo 0 = 0 := by decide
theorem r_clo_wt {c : Int32} (h : ¬ r_clo c = 0) : r_wt c = 1 := by
  unfold r_wt
  rw [if_neg (fun q => h (by rw [q]; decide)), if_neg (fun q => h (by rw [q]; decide)), if_neg h]
/-- one sign of two is worked: the stacks behind it -/
theorem r_pop {M M' : am_M} {w0 : Nat} {q : Nat} (h : r_wI M 1 w0) (hp : 0 < (M.1 200 11).toInt) (hw : r_wt (r_top M) = q) (h11 : M'.1 200 11 = M.1 200 11 - 1) (h12 : (M'.1 200 12).toInt = (M.1 200 12).toInt - q) (h204 : ∀ k, M'.1 204 k = M.1 204 k) : r_wI M' 1 w0 := by
  obtain ⟨⟨u1, u2, u5⟩, u3, u4⟩ := h.u
  have e := i_sub (x := M.1 200 11) (y := 1) (by simp only [Int32.reduceToInt]; omega) (by simp only [Int32.reduceToInt]; omega)
  simp only [Int32.reduceToInt] at e
  have t := r_ws_top hp
  have e204 : M'.1 204 = M.1 204 := funext h204
  refine ⟨(), ⟨by rw [h11]; omega, by rw [h11]; omega, u5⟩, ?_, by omega⟩
  rw [h12, h11, e204, u3, t, hw]
  omega
theorem hy_X8_top : yX8_top.cls ≠ "java/lang/invoke/MethodHandle" ∧ yX8_top.cls ≠ "java/lang/invoke/VarHandle" ∧ (parseMethodDescriptor yX8_top.desc).map (fun d => d.parameters.length) = some 0 := ⟨by decide +kernel, by decide +kernel, by decide +kernel⟩
set_option maxRecDepth 100000 in
theorem wd_1113 : Cond.methodLink "LearnLoansModel" 156 yX8_top ∈ am_ws := am_wt5 (List.mem_of_getElem? (i := 96) (by rfl)) (by decide +kernel)
set_option maxRecDepth 100000 in
theorem wd_1115 : Cond.instanceMethod yX8_top ∈ am_ws := am_wt5 (List.mem_of_getElem? (i := 98) (by rfl)) (by decide +kernel)
set_option maxRecDepth 100000 in
theorem wd_35 : Cond.selects "LearnLoansModel" yX8_top yX8_top ∈ am_ws := am_wsi (List.mem_of_getElem? (i := 35) (by rfl)) (by decide +kernel)
set_option maxRecDepth 100000 in
theorem wd_1116 : Cond.code yX8_top cX8_top 1 (some .int) ∈ am_ws := am_wt5 (List.mem_of_getElem? (i := 99) (by rfl)) (by decide +kernel)
theorem hy_X8_closeness : yX8_closeness.cls ≠ "java/lang/invoke/MethodHandle" ∧ yX8_closeness.cls ≠ "java/lang/invoke/VarHandle" ∧ (parseMethodDescriptor yX8_closeness.desc).map (fun d => d.parameters.length) = some 1 := ⟨by decide +kernel, by decide +kernel, by decide +kernel⟩
set_option maxRecDepth 100000 in
theorem wd_1135 : Cond.methodLink "LearnLoansModel" 160 yX8_closeness ∈ am_ws := am_wt5 (List.mem_of_getElem? (i := 118) (by rfl)) (by decide +kernel)
set_option maxRecDepth 100000 in
theorem wd_1136 : Cond.static yX8_closeness ∈ am_ws := am_wt5 (List.mem_of_getElem? (i := 119) (by rfl)) (by decide +kernel)
set_option maxRecDepth 100000 in
theorem wd_1137 : Cond.code yX8_closeness cX8_closeness 1 (some .int) ∈ am_ws := am_wt5 (List.mem_of_getElem? (i := 120) (by rfl)) (by decide +kernel)
set_option maxRecDepth 100000 in
theorem wd_907 : Cond.fieldLink "LearnLoansModel" 153 "LearnLoansModel" "workedMany" "I" ∈ am_ws := am_wt4 (List.mem_of_getElem? (i := 130) (by rfl)) (by decide +kernel)
theorem hy_X8_between : yX8_between.cls ≠ "java/lang/invoke/MethodHandle" ∧ yX8_between.cls ≠ "java/lang/invoke/VarHandle" ∧ (parseMethodDescriptor yX8_between.desc).map (fun d => d.parameters.length) = some 3 := ⟨by decide +kernel, by decide +kernel, by decide +kernel⟩
set_option maxRecDepth 100000 in
theorem wd_1142 : Cond.methodLink "LearnLoansModel" 163 yX8_between ∈ am_ws := am_wt5 (List.mem_of_getElem? (i := 125) (by rfl)) (by decide +kernel)
set_option maxRecDepth 100000 in
theorem wd_1143 : Cond.static yX8_between ∈ am_ws := am_wt5 (List.mem_of_getElem? (i := 126) (by rfl)) (by decide +kernel)
set_option maxRecDepth 100000 in
theorem wd_1144 : Cond.code yX8_between cX8_between 5 (some .long) ∈ am_ws := am_wt5 (List.mem_of_getElem? (i := 127) (by rfl)) (by decide +kernel)
def rwX8_reduce : List dz_r := [(0, .aload_n 0, 1), (1, .invokevirtual 156, 3), (4, .invokestatic 160, 3), (7, .iload_n 1, 1), (8, .if_icmp .lt 64, 3), (11, .aload_n 0, 1), (12, .dup, 1), (13, .getfield 153, 3), (16, .iconst 1, 1), (17, .isub, 1), (18, .putfield 153, 3), (21, .aload_n 0, 1), (22, .getfield 23, 3), (25, .aload_n 0, 1), (26, .getfield 153, 3), (29, .iconst 1, 1), (30, .isub, 1), (31, .aload_n 0, 1), (32, .invokevirtual 156, 3), (35, .aload_n 0, 1), (36, .getfield 23, 3), (39, .aload_n 0, 1), (40, .getfield 153, 3), (43, .iconst 1, 1), (44, .isub, 1), (45, .laload, 1), (46, .aload_n 0, 1), (47, .getfield 23, 3), (50, .aload_n 0, 1), (51, .getfield 153, 3), (54, .laload, 1), (55, .invokestatic 163, 3), (58, .lastore, 1), (59, .aload_n 0, 1), (60, .dup, 1), (61, .getfield 150, 3), (64, .iconst 1, 1), (65, .isub, 1), (66, .putfield 150, 3), (69, .goto (-69), 3), (72, .return_, 1)]
theorem dzX8_reduce : dz cX8_reduce rwX8_reduce := dz_all 0 (by decide +kernel)
def kX8_reduce (live : am_E) (Ret : am_R) : am_code := [(0, am_aload 0 1), (1, am_callV live 8 0 TX8_top 4), (4, am_callS live 1 TX8_closeness 7), (7, am_iload 1 8), (8, am_if2 (fun x y => x < y) 72 11), (11, am_aload 0 12), (12, am_dup 13), (13, am_getI live 8 12 16), (16, am_const (.int 1) 17), (17, am_i2 (fun x y => x - y) 18), (18, am_putI live 8 12 21), (21, am_aload 0 22), (22, am_getR live 8 10 25), (25, am_aload 0 26), (26, am_getI live 8 12 29), (29, am_const (.int 1) 30), (30, am_i2 (fun x y => x - y) 31), (31, am_aload 0 32), (32, am_callV live 8 0 TX8_top 35), (35, am_aload 0 36), (36, am_getR live 8 10 39), (39, am_aload 0 40), (40, am_getI live 8 12 43), (43, am_const (.int 1) 44), (44, am_i2 (fun x y => x - y) 45), (45, am_lald live 1 46), (46, am_aload 0 47), (47, am_getR live 8 10 50), (50, am_aload 0 51), (51, am_getI live 8 12 54), (54, am_lald live 1 55), (55, am_callS live 3 TX8_between 58), (58, am_last live 1 59), (59, am_aload 0 60), (60, am_dup 61), (61, am_getI live 8 11 64), (64, am_const (.int 1) 65), (65, am_i2 (fun x y => x - y) 66), (66, am_putI live 8 11 69), (69, am_goto 0), (72, am_retV Ret)]
theorem koX8_reduce (live : am_E) (Ret : am_R) : ∀ q ∈ kX8_reduce live Ret, am_ok RX8 cX8_reduce 2 none 2 44 live Ret q.1 q.2 :=
  am_kz dzX8_reduce <|
  am_kd (fun d => ak_aload_n d rfl rfl) <|
  am_kd (fun d => ak_callV (C := RX8) (F := TX8) (N := 27) metX8_top rfl ⟨rfl, hy_X8_top⟩ (am_w5 wd_1113 wd_1115 wd_35 wd_67 wd_1116) (by decide) d rfl) <|
  am_kd (fun d => ak_callS metX8_closeness ⟨rfl, hy_X8_closeness⟩ (am_w4 wd_1135 wd_1136 wd_67 wd_1137) (by decide) d rfl) <|
  am_kd (fun d => ak_iload_n d rfl rfl) <|
  am_kd (fun d => ak_icmp_lt d (by decide +kernel) rfl) <|
  am_kd (fun d => ak_aload_n d rfl rfl) <|
  am_kd (fun d => ak_dup d rfl) <|
  am_kd (fun d => ak_getI (C := RX8) (T := TX8) (N := 27) rfl inX8w (by decide) rfl rfl rfl wd_907 d rfl) <|
  am_kd (fun d => ak_iconst d (by decide +kernel) rfl) <|
  am_kd (fun d => ak_isub d rfl) <|
  am_kd (fun d => ak_putI (C := RX8) (T := TX8) (N := 27) rfl inX8w tyX8_ok nmX8 (by decide) rfl rfl rfl rfl (by decide +kernel) wd_907 d rfl) <|
  am_kd (fun d => ak_aload_n d rfl rfl) <|
  am_kd (fun d => ak_getR (C := RX8) (T := TX8) (N := 27) rfl inX8w (by decide) rfl rfl rfl wd_905 d rfl) <|
  am_kd (fun d => ak_aload_n d rfl rfl) <|
  am_kd (fun d => ak_getI (C := RX8) (T := TX8) (N := 27) rfl inX8w (by decide) rfl rfl rfl wd_907 d rfl) <|
  am_kd (fun d => ak_iconst d (by decide +kernel) rfl) <|
  am_kd (fun d => ak_isub d rfl) <|
  am_kd (fun d => ak_aload_n d rfl rfl) <|
  am_kd (fun d => ak_callV (C := RX8) (F := TX8) (N := 27) metX8_top rfl ⟨rfl, hy_X8_top⟩ (am_w5 wd_1113 wd_1115 wd_35 wd_67 wd_1116) (by decide) d rfl) <|
  am_kd (fun d => ak_aload_n d rfl rfl) <|
  am_kd (fun d => ak_getR (C := RX8) (T := TX8) (N := 27) rfl inX8w (by decide) rfl rfl rfl wd_905 d rfl) <|
  am_kd (fun d => ak_aload_n d rfl rfl) <|
  am_kd (fun d => ak_getI (C := RX8) (T := TX8) (N := 27) rfl inX8w (by decide) rfl rfl rfl wd_907 d rfl) <|
  am_kd (fun d => ak_iconst d (by decide +kernel) rfl) <|
  am_kd (fun d => ak_isub d rfl) <|
  am_kd (fun d => ak_lald (t := 1) (fun _ => rfl) rfl d rfl) <|
  am_kd (fun d => ak_aload_n d rfl rfl) <|
  am_kd (fun d => ak_getR (C := RX8) (T := TX8) (N := 27) rfl inX8w (by decide) rfl rfl rfl wd_905 d rfl) <|
  am_kd (fun d => ak_aload_n d rfl rfl) <|
  am_kd (fun d => ak_getI (C := RX8) (T := TX8) (N := 27) rfl inX8w (by decide) rfl rfl rfl wd_907 d rfl) <|
  am_kd (fun d => ak_lald (t := 1) (fun _ => rfl) rfl d rfl) <|
  am_kd (fun d => ak_callS metX8_between ⟨rfl, hy_X8_between⟩ (am_w4 wd_1142 wd_1143 wd_67 wd_1144) (by decide) d rfl) <|
  am_kd (fun d => ak_last (t := 1) (fun _ => rfl) rfl d rfl) <|
  am_kd (fun d => ak_aload_n d rfl rfl) <|
  am_kd (fun d => ak_dup d rfl) <|
  am_kd (fun d => ak_getI (C := RX8) (T := TX8) (N := 27) rfl inX8w (by decide) rfl rfl rfl wd_906 d rfl) <|
  am_kd (fun d => ak_iconst d (by decide +kernel) rfl) <|
  am_kd (fun d => ak_isub d rfl) <|
  am_kd (fun d => ak_putI (C := RX8) (T := TX8) (N := 27) rfl inX8w tyX8_ok nmX8 (by decide) rfl rfl rfl rfl (by decide +kernel) wd_906 d rfl) <|
  am_kd (fun d => ak_goto d (by decide +kernel)) <|
  am_kd (fun d => ak_retV d) <| am_kdn
def TX8_reduce : am_T := fun live as M R => match as with
  | [.ref n, .int t] => am_mn live ∧ n = 200 ∧ 1 ≤ t.toInt ∧ r_cw M 1 (fun w0 => ∀ M', r_wk M M' → r_wI M' 1 w0 → R none M')
  | _ => False
def JX8_reduce : am_E → List Value → am_M → am_R → am_inv := fun live as M0 R pc => match as with
  | [.ref n, .int t] => (match pc with
    | 0 => some ([0, 1], fun k L st M => ∃ w0, L = [(0, .ref 200), (1, .int t)] ∧ st = [] ∧ k = ((M.1 200 11).toInt.toNat, 0) ∧ r_wI M 1 w0 ∧ r_wk M0 M ∧ ∀ M', r_wk M0 M' → r_wI M' 1 w0 → R none M')
    | _ => none)
  | _ => none
set_option maxRecDepth 100000 in
set_option maxHeartbeats 4000000 in
theorem metX8_reduce : am_Met yX8_reduce cX8_reduce 2 none (2) (44) TX8_reduce := by
  refine am_met0 (own := RX8) (by decide +kernel) rfl kX8_reduce koX8_reduce 100 JX8_reduce ?_ ?_
  · intro live as M Ret h
    unfold TX8_reduce at h
    split at h
    · next n t =>
      refine ⟨Nat.le_of_ble_eq_true rfl, ?_⟩
      obtain ⟨hmn, rfl, ht, w0, hw, h⟩ := h
      exact ⟨_, _, rfl, w0, rfl, rfl, rfl, hw, r_wk.rf, h⟩
    · exact h.elim
  · intro live as M0 Ret h k pc I hI L st M hi
    unfold TX8_reduce at h
    split at h
    · next n t =>
      obtain ⟨hmn, rfl, ht, w9, hw9, h9⟩ := h
      have hmn2 := hmn
      obtain ⟨i1, i2, rfl⟩ := hmn2
      have l204 : am_len 204 = 120 := rfl
      have l205 : am_len 205 = 120 := rfl
      change (match pc with | 0 => _ | _ => none) = _ at hI
      split at hI
      · cases hI
        obtain ⟨w0, rfl, rfl, rfl, hw, hk, h⟩ := hi
        obtain ⟨⟨u1, u2, u5⟩, u3, u4⟩ := hw.u
        have u120 : 0 ≤ (M.1 200 11).toInt ∧ (M.1 200 11).toInt ≤ 120 := ⟨u1, by omega⟩
        by_cases hz : r_clo (r_top M) < t
        · skip
          repeat' (first | (with_reducible exact hmn) | (with_reducible exact u120) | apply And.intro | exact rfl | (intro hx; with_reducible exact absurd hz hx) | intro hx | (refine Exists.intro _ (And.intro rfl ?_)))
          all_goals try first | (with_reducible change am_tI _ _) | (change Ret _ _) | (change Ret _ _ _) | (change Exists _)
          all_goals try dsimp only at *
          all_goals try (with_reducible exact absurd ‹(1000 : Int64) = 0› am_z1000)
          exact h _ hk hw
        · have hz2 := hz
          simp only [i_lt] at hz2
          have hn : ¬ r_clo (r_top M) = 0 := fun q => by rw [q] at hz2; simp only [Int32.reduceToInt] at hz2; omega
          have hp := r_top_pos (fun q => hn (by rw [q]; decide)) u1
          have hwt := r_clo_wt hn
          have tt := r_ws_top hp
          have e11 := i_sub (x := M.1 200 11) (y := 1) (by simp only [Int32.reduceToInt]; omega) (by simp only [Int32.reduceToInt]; omega)
          have e12 := i_sub (x := M.1 200 12) (y := 1) (by simp only [Int32.reduceToInt]; omega) (by simp only [Int32.reduceToInt]; omega)
          have e13 := i_sub (x := M.1 200 12 - 1) (y := 1) (by simp only [Int32.reduceToInt] at e12 ⊢; omega) (by simp only [Int32.reduceToInt] at e12 ⊢; omega)
          simp only [Int32.reduceToInt] at e11 e12 e13
          have f11 : ∀ v, (am_wI M 200 12 v).1 200 11 = M.1 200 11 := fun v => by rw [am_wI_1, if_neg (fun q => absurd q.2 (by decide))]
          have f12 : ∀ v, (am_wI M 200 12 v).1 200 12 = v := fun v => am_wI_self
          have ftop : ∀ v, r_top (am_wI M 200 12 v) = r_top M := fun v => by unfold r_top; rw [f11, show (am_wI M 200 12 v).1 204 = M.1 204 from funext fun k => by rw [am_wI_1, if_neg (fun q => absurd q.1 (by decide))]]
          have v120 : 0 ≤ ((am_wI M 200 12 (M.1 200 12 - 1)).1 200 11).toInt ∧ ((am_wI M 200 12 (M.1 200 12 - 1)).1 200 11).toInt ≤ 120 := by rw [f11]; exact u120
          repeat' (first | (with_reducible exact hmn) | (with_reducible exact u120) | (with_reducible exact v120) | apply And.intro | exact rfl | (intro hx; with_reducible exact absurd hx hz) | intro hx | (refine Exists.intro _ (And.intro rfl ?_)))
          all_goals try first | (with_reducible change am_tI _ _) | (change Ret _ _) | (change Ret _ _ _) | (change Exists _)
          all_goals try dsimp only at *
          all_goals try (with_reducible exact absurd ‹(1000 : Int64) = 0› am_z1000)
          all_goals try simp only [f12, e12, e13, l205]
          all_goals first
            | omega
            | skip
          refine ⟨_, am_lt_l (by rw [am_wI_self]; show ((am_wI M 200 12 (M.1 200 12 - 1)).1 200 11 - 1).toInt.toNat < _; rw [f11]; omega), w0, rfl, rfl, rfl, ?_, ?_, h⟩
          · refine r_pop hw hp hwt ?_ ?_ (fun k => ?_)
            · rw [am_wI_self]
              show (am_wI M 200 12 (M.1 200 12 - 1)).1 200 11 - 1 = _
              rw [f11]
            · show ((am_wI M 200 12 (M.1 200 12 - 1)).1 200 12).toInt = _
              rw [f12, e12]
              omega
            · rfl
          · refine hk.tr ⟨(), fun a b z => ?_, fun a b z => ?_, ?_, ?_⟩
            · rw [am_wI_1, if_neg (fun q => by omega)]
              show (am_wI M 200 12 (M.1 200 12 - 1)).1 a b = _
              rw [am_wI_1, if_neg (fun q => by omega)]
            · show (am_wJ _ 205 _ _).2 a b = _
              rw [am_wJ_1, if_neg (fun q => z q.1)]
              rfl
            · rw [am_wI_self]
              show ((am_wI M 200 12 (M.1 200 12 - 1)).1 200 11 - 1).toInt ≤ _
              rw [f11]
              omega
            · show ((am_wI M 200 12 (M.1 200 12 - 1)).1 200 12).toInt ≤ _
              rw [f12, e12]
              omega
      · cases hI
    · exact h.elim
end
-- part 55.rwork2.lean.txt
section
/-! general: the reference's reader of texts, II -/
/-- what the reader changes: its stacks -/
def r_wg (M M' : am_M) : Prop := ∃ _ : Unit, (∀ a b, a ≠ 204 → (a ≠ 200 ∨ (b ≠ 11 ∧ b ≠ 12)) → M'.1 a b = M.1 a b) ∧ (∀ a b, a ≠ 205 → M'.2 a b = M.2 a b)
theorem r_wg.rf {M : am_M} : r_wg M M := ⟨(), fun _ _ _ _ => rfl, fun _ _ _ => rfl⟩
theorem r_wg.tr {M M' M'' : am_M} (h : r_wg M M') (h2 : r_wg M' M'') : r_wg M M'' := by
  obtain ⟨-, a1, a2⟩ := h
  obtain ⟨-, b1, b2⟩ := h2
  exact ⟨(), fun a b z y => (b1 a b z y).trans (a1 a b z y), fun a b z => (b2 a b z).trans (a2 a b z)⟩
theorem r_wg.k {M M' M'' : am_M} (h : r_wg M M') (h2 : r_wk M' M'') : r_wg M M'' := by
  obtain ⟨-, a1, a2, -⟩ := h2
  exact h.tr ⟨(), fun a b _ y => a1 a b y, a2⟩
theorem r_wg.w11 {M M' : am_M} {v : Int32} (h : r_wg M M') : r_wg M (am_wI M' 200 11 v) := h.tr ⟨(), fun a b _ y => by rw [am_wI_1, if_neg (fun q => by omega)], fun _ _ _ => rfl⟩
theorem r_wg.w12 {M M' : am_M} {v : Int32} (h : r_wg M M') : r_wg M (am_wI M' 200 12 v) := h.tr ⟨(), fun a b _ y => by rw [am_wI_1, if_neg (fun q => by omega)], fun _ _ _ => rfl⟩
theorem r_wg.w204 {M M' : am_M} {k : Nat} {v : Int32} (h : r_wg M M') : r_wg M (am_wI M' 204 k v) := h.tr ⟨(), fun a b z _ => by rw [am_wI_1, if_neg (fun q => z q.1)], fun _ _ _ => rfl⟩
theorem r_wg.w205 {M M' : am_M} {k : Nat} {v : Int64} (h : r_wg M M') : r_wg M (am_wJ M' 205 k v) := h.tr ⟨(), fun _ _ _ _ => rfl, fun a b z => by rw [am_wJ_1, if_neg (fun q => z q.1)]⟩
theorem r_wg.sc {M M' : am_M} (h : r_wg M M') : r_sc M M' := by
  obtain ⟨-, a1, a2⟩ := h
  exact ⟨(), fun a b z => ⟨a1 a b (by omega) (Or.inl (by omega)), a2 a b (by omega)⟩, a1 _ _ (by decide) (Or.inr ⟨by decide, by decide⟩), a1 _ _ (by decide) (Or.inr ⟨by decide, by decide⟩)⟩
theorem r_wg.i {M M' : am_M} (h : r_wg M M') (hI : r_I M) : r_I M' := by
  exact hI.sc h.sc
theorem r_ws_cg {f g : Nat → Int32} : ∀ {n : Nat}, (∀ k, k < n → g k = f k) → r_ws g n = r_ws f n
  | 0, _ => rfl
  | n + 1, h => by
    show r_ws g n + r_wt (g n) = r_ws f n + r_wt (f n)
    rw [r_ws_cg (fun k hk => h k (by omega)), h n (by omega)]
theorem r_push {M : am_M} {d w0 : Nat} {c : Int32} (h : r_wI M d w0) (hc : r_wt c = d) (h9 : w0 ≤ 59) : r_wI (am_wI (am_wI M 204 (M.1 200 11).toNatClampNeg c) 200 11 (M.1 200 11 + 1)) 0 (w0 + 1) := by
  obtain ⟨⟨u1, u2, u5⟩, u3, u4⟩ := h.u
  have e := i_inc (x := M.1 200 11) (by omega) (by omega)
  have f12 : (am_wI (am_wI M 204 (M.1 200 11).toNatClampNeg c) 200 11 (M.1 200 11 + 1)).1 200 12 = M.1 200 12 := by
    rw [am_wI_1, if_neg (fun q => absurd q.2 (by decide)), am_wI_1, if_neg (fun q => absurd q.1 (by decide))]
  have f204 : ∀ k, (am_wI (am_wI M 204 (M.1 200 11).toNatClampNeg c) 200 11 (M.1 200 11 + 1)).1 204 k = if k = (M.1 200 11).toNatClampNeg then c else M.1 204 k := fun k => by
    rw [am_wI_1, if_neg (fun q => absurd q.1 (by decide)), am_wI_1]
    simp
  have c1 := i_clamp (x := M.1 200 11) u1
  have c2 := i_clamp (x := M.1 200 11 + 1) (by omega)
  refine ⟨(), ⟨by rw [am_wI_self]; omega, by rw [am_wI_self]; omega, by omega⟩, ?_, by rw [f12]; omega⟩
  rw [f12, am_wI_self, show (M.1 200 11 + 1).toNatClampNeg = (M.1 200 11).toNatClampNeg + 1 by omega, u3]
  have hs : r_ws ((am_wI (am_wI M 204 (M.1 200 11).toNatClampNeg c) 200 11 (M.1 200 11 + 1)).1 204) (M.1 200 11).toNatClampNeg = r_ws (M.1 204) (M.1 200 11).toNatClampNeg := r_ws_cg (fun k hk => by rw [f204, if_neg (by omega)])
  have hs2 : (am_wI (am_wI M 204 (M.1 200 11).toNatClampNeg c) 200 11 (M.1 200 11 + 1)).1 204 (M.1 200 11).toNatClampNeg = c := by rw [f204, if_pos rfl]
  show _ = ((r_ws _ _ + r_wt _ + 0 : Nat) : Int)
  rw [hs, hs2, hc]
  omega
/-- one sign off: the stacks behind it weigh that much less -/
theorem r_off1 {M : am_M} {d w0 : Nat} (h : r_wI M d w0) (hp : 0 < (M.1 200 11).toInt) : r_wI (am_wI M 200 11 (M.1 200 11 - 1)) (r_wt (r_top M) + d) w0 := by
  obtain ⟨⟨u1, u2, u5⟩, u3, u4⟩ := h.u
  have e := i_sub (x := M.1 200 11) (y := 1) (by simp only [Int32.reduceToInt]; omega) (by simp only [Int32.reduceToInt]; omega)
  simp only [Int32.reduceToInt] at e
  have t := r_ws_top hp
  have f12 : (am_wI M 200 11 (M.1 200 11 - 1)).1 200 12 = M.1 200 12 := by rw [am_wI_1, if_neg (fun q => absurd q.2 (by decide))]
  have f204 : (am_wI M 200 11 (M.1 200 11 - 1)).1 204 = M.1 204 := funext fun k => by rw [am_wI_1, if_neg (fun q => absurd q.1 (by decide))]
  refine ⟨(), ⟨by rw [am_wI_self]; omega, by rw [am_wI_self]; omega, u5⟩, ?_, by rw [f12]; omega⟩
  rw [f12, am_wI_self, f204, u3, t]
  omega
theorem hy_X8_reduce : yX8_reduce.cls ≠ "java/lang/invoke/MethodHandle" ∧ yX8_reduce.cls ≠ "java/lang/invoke/VarHandle" ∧ (parseMethodDescriptor yX8_reduce.desc).map (fun d => d.parameters.length) = some 1 := ⟨by decide +kernel, by decide +kernel, by decide +kernel⟩
set_option maxRecDepth 100000 in
theorem wd_1138 : Cond.methodLink "LearnLoansModel" 167 yX8_reduce ∈ am_ws := am_wt5 (List.mem_of_getElem? (i := 121) (by rfl)) (by decide +kernel)
set_option maxRecDepth 100000 in
theorem wd_1140 : Cond.instanceMethod yX8_reduce ∈ am_ws := am_wt5 (List.mem_of_getElem? (i := 123) (by rfl)) (by decide +kernel)
set_option maxRecDepth 100000 in
theorem wd_39 : Cond.selects "LearnLoansModel" yX8_reduce yX8_reduce ∈ am_ws := am_wsi (List.mem_of_getElem? (i := 39) (by rfl)) (by decide +kernel)
set_option maxRecDepth 100000 in
theorem wd_1141 : Cond.code yX8_reduce cX8_reduce 2 none ∈ am_ws := am_wt5 (List.mem_of_getElem? (i := 124) (by rfl)) (by decide +kernel)
def rwX8_choose : List dz_r := [(0, .aload_n 0, 1), (1, .iconst 2, 1), (2, .invokevirtual 167, 3), (5, .aload_n 0, 1), (6, .invokevirtual 156, 3), (9, .bipush 58, 2), (11, .if_icmp .ne 76, 3), (14, .aload_n 0, 1), (15, .dup, 1), (16, .getfield 153, 3), (19, .iconst 2, 1), (20, .isub, 1), (21, .putfield 153, 3), (24, .aload_n 0, 1), (25, .getfield 23, 3), (28, .aload_n 0, 1), (29, .getfield 153, 3), (32, .iconst 1, 1), (33, .isub, 1), (34, .aload_n 0, 1), (35, .getfield 23, 3), (38, .aload_n 0, 1), (39, .getfield 153, 3), (42, .iconst 1, 1), (43, .isub, 1), (44, .laload, 1), (45, .lconst 0, 1), (46, .lcmp, 1), (47, .ifCond .eq 15, 3), (50, .aload_n 0, 1), (51, .getfield 23, 3), (54, .aload_n 0, 1), (55, .getfield 153, 3), (58, .laload, 1), (59, .goto 14, 3), (62, .aload_n 0, 1), (63, .getfield 23, 3), (66, .aload_n 0, 1), (67, .getfield 153, 3), (70, .iconst 1, 1), (71, .iadd, 1), (72, .laload, 1), (73, .lastore, 1), (74, .aload_n 0, 1), (75, .dup, 1), (76, .getfield 150, 3), (79, .iconst 1, 1), (80, .isub, 1), (81, .putfield 150, 3), (84, .goto (-79), 3), (87, .return_, 1)]
theorem dzX8_choose : dz cX8_choose rwX8_choose := dz_all 0 (by decide +kernel)
def kX8_choose (live : am_E) (Ret : am_R) : am_code := [(0, am_aload 0 1), (1, am_const (.int 2) 2), (2, am_callV live 8 1 TX8_reduce 5), (5, am_aload 0 6), (6, am_callV live 8 0 TX8_top 9), (9, am_const (.int 58) 11), (11, am_if2 (fun x y => x = y) 14 87), (14, am_aload 0 15), (15, am_dup 16), (16, am_getI live 8 12 19), (19, am_const (.int 2) 20), (20, am_i2 (fun x y => x - y) 21), (21, am_putI live 8 12 24), (24, am_aload 0 25), (25, am_getR live 8 10 28), (28, am_aload 0 29), (29, am_getI live 8 12 32), (32, am_const (.int 1) 33), (33, am_i2 (fun x y => x - y) 34), (34, am_aload 0 35), (35, am_getR live 8 10 38), (38, am_aload 0 39), (39, am_getI live 8 12 42), (42, am_const (.int 1) 43), (43, am_i2 (fun x y => x - y) 44), (44, am_lald live 1 45), (45, am_const (.long 0) 46), (46, am_lcmp 47), (47, am_if1 (fun x => x = 0) 62 50), (50, am_aload 0 51), (51, am_getR live 8 10 54), (54, am_aload 0 55), (55, am_getI live 8 12 58), (58, am_lald live 1 59), (59, am_goto 73), (62, am_aload 0 63), (63, am_getR live 8 10 66), (66, am_aload 0 67), (67, am_getI live 8 12 70), (70, am_const (.int 1) 71), (71, am_i2 (fun x y => x + y) 72), (72, am_lald live 1 73), (73, am_last live 1 74), (74, am_aload 0 75), (75, am_dup 76), (76, am_getI live 8 11 79), (79, am_const (.int 1) 80), (80, am_i2 (fun x y => x - y) 81), (81, am_putI live 8 11 84), (84, am_goto 5), (87, am_retV Ret)]
theorem koX8_choose (live : am_E) (Ret : am_R) : ∀ q ∈ kX8_choose live Ret, am_ok RX8 cX8_choose 1 none 3 65 live Ret q.1 q.2 :=
  am_kz dzX8_choose <|
  am_kd (fun d => ak_aload_n d rfl rfl) <|
  am_kd (fun d => ak_iconst d (by decide +kernel) rfl) <|
  am_kd (fun d => ak_callV (C := RX8) (F := TX8) (N := 27) metX8_reduce rfl ⟨rfl, hy_X8_reduce⟩ (am_w5 wd_1138 wd_1140 wd_39 wd_67 wd_1141) (by decide) d rfl) <|
  am_kd (fun d => ak_aload_n d rfl rfl) <|
  am_kd (fun d => ak_callV (C := RX8) (F := TX8) (N := 27) metX8_top rfl ⟨rfl, hy_X8_top⟩ (am_w5 wd_1113 wd_1115 wd_35 wd_67 wd_1116) (by decide) d rfl) <|
  am_kd (fun d => ak_bipush d (by decide +kernel) rfl) <|
  am_kd (fun d => ak_icmp_ne d (by decide +kernel) rfl) <|
  am_kd (fun d => ak_aload_n d rfl rfl) <|
  am_kd (fun d => ak_dup d rfl) <|
  am_kd (fun d => ak_getI (C := RX8) (T := TX8) (N := 27) rfl inX8w (by decide) rfl rfl rfl wd_907 d rfl) <|
  am_kd (fun d => ak_iconst d (by decide +kernel) rfl) <|
  am_kd (fun d => ak_isub d rfl) <|
  am_kd (fun d => ak_putI (C := RX8) (T := TX8) (N := 27) rfl inX8w tyX8_ok nmX8 (by decide) rfl rfl rfl rfl (by decide +kernel) wd_907 d rfl) <|
  am_kd (fun d => ak_aload_n d rfl rfl) <|
  am_kd (fun d => ak_getR (C := RX8) (T := TX8) (N := 27) rfl inX8w (by decide) rfl rfl rfl wd_905 d rfl) <|
  am_kd (fun d => ak_aload_n d rfl rfl) <|
  am_kd (fun d => ak_getI (C := RX8) (T := TX8) (N := 27) rfl inX8w (by decide) rfl rfl rfl wd_907 d rfl) <|
  am_kd (fun d => ak_iconst d (by decide +kernel) rfl) <|
  am_kd (fun d => ak_isub d rfl) <|
  am_kd (fun d => ak_aload_n d rfl rfl) <|
  am_kd (fun d => ak_getR (C := RX8) (T := TX8) (N := 27) rfl inX8w (by decide) rfl rfl rfl wd_905 d rfl) <|
  am_kd (fun d => ak_aload_n d rfl rfl) <|
  am_kd (fun d => ak_getI (C := RX8) (T := TX8) (N := 27) rfl inX8w (by decide) rfl rfl rfl wd_907 d rfl) <|
  am_kd (fun d => ak_iconst d (by decide +kernel) rfl) <|
  am_kd (fun d => ak_isub d rfl) <|
  am_kd (fun d => ak_lald (t := 1) (fun _ => rfl) rfl d rfl) <|
  am_kd (fun d => ak_lconst d (by decide +kernel) rfl) <|
  am_kd (fun d => ak_lcmp d rfl) <|
  am_kd (fun d => ak_if_eq d (by decide +kernel) rfl) <|
  am_kd (fun d => ak_aload_n d rfl rfl) <|
  am_kd (fun d => ak_getR (C := RX8) (T := TX8) (N := 27) rfl inX8w (by decide) rfl rfl rfl wd_905 d rfl) <|
  am_kd (fun d => ak_aload_n d rfl rfl) <|
  am_kd (fun d => ak_getI (C := RX8) (T := TX8) (N := 27) rfl inX8w (by decide) rfl rfl rfl wd_907 d rfl) <|
  am_kd (fun d => ak_lald (t := 1) (fun _ => rfl) rfl d rfl) <|
  am_kd (fun d => ak_goto d (by decide +kernel)) <|
  am_kd (fun d => ak_aload_n d rfl rfl) <|
  am_kd (fun d => ak_getR (C := RX8) (T := TX8) (N := 27) rfl inX8w (by decide) rfl rfl rfl wd_905 d rfl) <|
  am_kd (fun d => ak_aload_n d rfl rfl) <|
  am_kd (fun d => ak_getI (C := RX8) (T := TX8) (N := 27) rfl inX8w (by decide) rfl rfl rfl wd_907 d rfl) <|
  am_kd (fun d => ak_iconst d (by decide +kernel) rfl) <|
  am_kd (fun d => ak_iadd d rfl) <|
  am_kd (fun d => ak_lald (t := 1) (fun _ => rfl) rfl d rfl) <|
  am_kd (fun d => ak_last (t := 1) (fun _ => rfl) rfl d rfl) <|
  am_kd (fun d => ak_aload_n d rfl rfl) <|
  am_kd (fun d => ak_dup d rfl) <|
  am_kd (fun d => ak_getI (C := RX8) (T := TX8) (N := 27) rfl inX8w (by decide) rfl rfl rfl wd_906 d rfl) <|
  am_kd (fun d => ak_iconst d (by decide +kernel) rfl) <|
  am_kd (fun d => ak_isub d rfl) <|
  am_kd (fun d => ak_putI (C := RX8) (T := TX8) (N := 27) rfl inX8w tyX8_ok nmX8 (by decide) rfl rfl rfl rfl (by decide +kernel) wd_906 d rfl) <|
  am_kd (fun d => ak_goto d (by decide +kernel)) <|
  am_kd (fun d => ak_retV d) <| am_kdn
def TX8_choose : am_T := fun live as M R => match as with
  | [.ref n] => am_mn live ∧ n = 200 ∧ r_cw M 1 (fun w0 => ∀ M', r_wk M M' → r_wI M' 1 w0 → R none M')
  | _ => False
def JX8_choose : am_E → List Value → am_M → am_R → am_inv := fun live as M0 R pc => match as with
  | [.ref n] => (match pc with
    | 5 => some ([0], fun k L st M => ∃ w0, L = [(0, .ref 200)] ∧ st = [] ∧ k = ((M.1 200 11).toInt.toNat, 0) ∧ r_wI M 1 w0 ∧ r_wk M0 M ∧ ∀ M', r_wk M0 M' → r_wI M' 1 w0 → R none M')
    | _ => none)
  | _ => none
set_option maxRecDepth 100000 in
set_option maxHeartbeats 4000000 in
theorem metX8_choose : am_Met yX8_choose cX8_choose 1 none (3) (65) TX8_choose := by
  refine am_met (own := RX8) (by decide +kernel) rfl kX8_choose koX8_choose 100 JX8_choose ?_ ?_
  · intro live as M Ret h
    unfold TX8_choose at h
    split at h
    · next n =>
      refine ⟨Nat.le_of_ble_eq_true rfl, ?_⟩
      change am_wp _ _ _ _ [(0, Value.ref n)] _ _
      obtain ⟨hmn, rfl, w0, hw, h⟩ := h
      have hmn2 := hmn
      obtain ⟨i1, i2, rfl⟩ := hmn2
      repeat' (first | (with_reducible exact hmn) | apply And.intro | exact rfl | intro hx | (refine Exists.intro _ (And.intro rfl ?_)) | (refine r_cw_in hw (fun M1 c1 d1 => ?_)))
      all_goals try first | (with_reducible change am_tI _ _) | (change Ret _ _) | (change Ret _ _ _) | (change Exists _)
      all_goals try dsimp only at *
      all_goals try (with_reducible exact absurd ‹(1000 : Int64) = 0› am_z1000)
      all_goals first
        | decide
        | exact ⟨_, w0, rfl, rfl, rfl, d1, c1, h⟩
    · exact h.elim
  · intro live as M0 Ret h k pc I hI L st M hi
    unfold TX8_choose at h
    split at h
    · next n =>
      obtain ⟨hmn, rfl, w9, hw9, h9⟩ := h
      have hmn2 := hmn
      obtain ⟨i1, i2, rfl⟩ := hmn2
      have l205 : am_len 205 = 120 := rfl
      change (match pc with | 5 => _ | _ => none) = _ at hI
      split at hI
      · cases hI
        obtain ⟨w0, rfl, rfl, rfl, hw, hk, h⟩ := hi
        obtain ⟨⟨u1, u2, u5⟩, u3, u4⟩ := hw.u
        have u120 : 0 ≤ (M.1 200 11).toInt ∧ (M.1 200 11).toInt ≤ 120 := ⟨u1, by omega⟩
        by_cases hz : r_top M = 58
        · have hp := r_top_pos (fun q => by rw [hz] at q; exact absurd q (by decide)) u1
          have hwt : r_wt (r_top M) = 2 := by rw [hz]; decide
          have tt := r_ws_top hp
          have e11 := i_sub (x := M.1 200 11) (y := 1) (by simp only [Int32.reduceToInt]; omega) (by simp only [Int32.reduceToInt]; omega)
          have e12 := i_sub (x := M.1 200 12) (y := 2) (by simp only [Int32.reduceToInt]; omega) (by simp only [Int32.reduceToInt]; omega)
          simp only [Int32.reduceToInt] at e11 e12
          have e13 := i_sub (x := M.1 200 12 - 2) (y := 1) (by simp only [Int32.reduceToInt]; omega) (by simp only [Int32.reduceToInt]; omega)
          have e14 := i_add (x := M.1 200 12 - 2) (y := 1) (by simp only [Int32.reduceToInt]; omega) (by simp only [Int32.reduceToInt]; omega)
          simp only [Int32.reduceToInt] at e13 e14
          have f11 : ∀ v, (am_wI M 200 12 v).1 200 11 = M.1 200 11 := fun v => by rw [am_wI_1, if_neg (fun q => absurd q.2 (by decide))]
          have f12 : ∀ v, (am_wI M 200 12 v).1 200 12 = v := fun v => am_wI_self
          repeat' (first | (with_reducible exact hmn) | (with_reducible exact u120) | apply And.intro | exact rfl | (intro hx; with_reducible exact absurd hz hx) | intro hx | (refine Exists.intro _ (And.intro rfl ?_)))
          all_goals try first | (with_reducible change am_tI _ _) | (change Ret _ _) | (change Ret _ _ _) | (change Exists _)
          all_goals try dsimp only at *
          all_goals try (with_reducible exact absurd ‹(1000 : Int64) = 0› am_z1000)
          all_goals try simp only [f12, e12, e13, e14, l205]
          all_goals first
            | omega
            | skip
          all_goals
            refine ⟨_, am_lt_l (by rw [am_wI_self]; show ((am_wI M 200 12 (M.1 200 12 - 2)).1 200 11 - 1).toInt.toNat < _; rw [f11]; omega), w0, rfl, rfl, rfl, ?_, ?_, h⟩
            · refine r_pop hw hp hwt ?_ ?_ (fun k => ?_)
              · rw [am_wI_self]
                show (am_wI M 200 12 (M.1 200 12 - 2)).1 200 11 - 1 = _
                rw [f11]
              · show ((am_wI M 200 12 (M.1 200 12 - 2)).1 200 12).toInt = _
                rw [f12, e12]
                omega
              · rfl
            · refine hk.tr ⟨(), fun a b z => ?_, fun a b z => ?_, ?_, ?_⟩
              · rw [am_wI_1, if_neg (fun q => by omega)]
                show (am_wI M 200 12 (M.1 200 12 - 2)).1 a b = _
                rw [am_wI_1, if_neg (fun q => by omega)]
              · show (am_wJ _ 205 _ _).2 a b = _
                rw [am_wJ_1, if_neg (fun q => z q.1)]
                rfl
              · rw [am_wI_self]
                show ((am_wI M 200 12 (M.1 200 12 - 2)).1 200 11 - 1).toInt ≤ _
                rw [f11]
                omega
              · show ((am_wI M 200 12 (M.1 200 12 - 2)).1 200 12).toInt ≤ _
                rw [f12, e12]
                omega
        · skip
          repeat' (first | (with_reducible exact hmn) | (with_reducible exact u120) | apply And.intro | exact rfl | (intro hx; with_reducible exact absurd hx hz) | intro hx | (refine Exists.intro _ (And.intro rfl ?_)))
          all_goals try first | (with_reducible change am_tI _ _) | (change Ret _ _) | (change Ret _ _ _) | (change Exists _)
          all_goals try dsimp only at *
          all_goals try (with_reducible exact absurd ‹(1000 : Int64) = 0› am_z1000)
          exact h _ hk hw
      · cases hI
    · exact h.elim
def rwX8_lay : List dz_r := [(0, .aload_n 0, 1), (1, .getfield 23, 3), (4, .aload_n 0, 1), (5, .getfield 153, 3), (8, .lload_n 1, 1), (9, .lastore, 1), (10, .aload_n 0, 1), (11, .dup, 1), (12, .getfield 153, 3), (15, .iconst 1, 1), (16, .iadd, 1), (17, .putfield 153, 3), (20, .aload_n 0, 1), (21, .invokevirtual 156, 3), (24, .iconst 1, 1), (25, .if_icmp .eq 11, 3), (28, .aload_n 0, 1), (29, .invokevirtual 156, 3), (32, .iconst 2, 1), (33, .if_icmp .ne 66, 3), (36, .aload_n 0, 1), (37, .getfield 23, 3), (40, .aload_n 0, 1), (41, .getfield 153, 3), (44, .iconst 1, 1), (45, .isub, 1), (46, .laload, 1), (47, .lstore_n 3, 1), (48, .aload_n 0, 1), (49, .getfield 23, 3), (52, .aload_n 0, 1), (53, .getfield 153, 3), (56, .iconst 1, 1), (57, .isub, 1), (58, .aload_n 0, 1), (59, .invokevirtual 156, 3), (62, .iconst 1, 1), (63, .if_icmp .ne 20, 3), (66, .lload_n 3, 1), (67, .lconst 0, 1), (68, .lcmp, 1), (69, .ifCond .ne 7, 3), (72, .iconst 1, 1), (73, .goto 4, 3), (76, .iconst 0, 1), (77, .invokestatic 146, 3), (80, .goto 5, 3), (83, .lload_n 3, 1), (84, .lneg, 1), (85, .lastore, 1), (86, .aload_n 0, 1), (87, .dup, 1), (88, .getfield 150, 3), (91, .iconst 1, 1), (92, .isub, 1), (93, .putfield 150, 3), (96, .goto (-76), 3), (99, .return_, 1)]
theorem dzX8_lay : dz cX8_lay rwX8_lay := dz_all 0 (by decide +kernel)
def kX8_lay (live : am_E) (Ret : am_R) : am_code := [(0, am_aload 0 1), (1, am_getR live 8 10 4), (4, am_aload 0 5), (5, am_getI live 8 12 8), (8, am_lload 1 9), (9, am_last live 1 10), (10, am_aload 0 11), (11, am_dup 12), (12, am_getI live 8 12 15), (15, am_const (.int 1) 16), (16, am_i2 (fun x y => x + y) 17), (17, am_putI live 8 12 20), (20, am_aload 0 21), (21, am_callV live 8 0 TX8_top 24), (24, am_const (.int 1) 25), (25, am_if2 (fun x y => x = y) 36 28), (28, am_aload 0 29), (29, am_callV live 8 0 TX8_top 32), (32, am_const (.int 2) 33), (33, am_if2 (fun x y => x = y) 36 99), (36, am_aload 0 37), (37, am_getR live 8 10 40), (40, am_aload 0 41), (41, am_getI live 8 12 44), (44, am_const (.int 1) 45), (45, am_i2 (fun x y => x - y) 46), (46, am_lald live 1 47), (47, am_lstore 3 5 48), (48, am_aload 0 49), (49, am_getR live 8 10 52), (52, am_aload 0 53), (53, am_getI live 8 12 56), (56, am_const (.int 1) 57), (57, am_i2 (fun x y => x - y) 58), (58, am_aload 0 59), (59, am_callV live 8 0 TX8_top 62), (62, am_const (.int 1) 63), (63, am_if2 (fun x y => x = y) 66 83), (66, am_lload 3 67), (67, am_const (.long 0) 68), (68, am_lcmp 69), (69, am_if1 (fun x => x = 0) 72 76), (72, am_const (.int 1) 73), (73, am_goto 77), (76, am_const (.int 0) 77), (77, am_callS live 1 TX8_told 80), (80, am_goto 85), (83, am_lload 3 84), (84, am_l1 (fun x => -x) 85), (85, am_last live 1 86), (86, am_aload 0 87), (87, am_dup 88), (88, am_getI live 8 11 91), (91, am_const (.int 1) 92), (92, am_i2 (fun x y => x - y) 93), (93, am_putI live 8 11 96), (96, am_goto 20), (99, am_retV Ret)]
theorem koX8_lay (live : am_E) (Ret : am_R) : ∀ q ∈ kX8_lay live Ret, am_ok RX8 cX8_lay 5 none 1 20 live Ret q.1 q.2 :=
  am_kz dzX8_lay <|
  am_kd (fun d => ak_aload_n d rfl rfl) <|
  am_kd (fun d => ak_getR (C := RX8) (T := TX8) (N := 27) rfl inX8w (by decide) rfl rfl rfl wd_905 d rfl) <|
  am_kd (fun d => ak_aload_n d rfl rfl) <|
  am_kd (fun d => ak_getI (C := RX8) (T := TX8) (N := 27) rfl inX8w (by decide) rfl rfl rfl wd_907 d rfl) <|
  am_kd (fun d => ak_lload_n d rfl rfl) <|
  am_kd (fun d => ak_last (t := 1) (fun _ => rfl) rfl d rfl) <|
  am_kd (fun d => ak_aload_n d rfl rfl) <|
  am_kd (fun d => ak_dup d rfl) <|
  am_kd (fun d => ak_getI (C := RX8) (T := TX8) (N := 27) rfl inX8w (by decide) rfl rfl rfl wd_907 d rfl) <|
  am_kd (fun d => ak_iconst d (by decide +kernel) rfl) <|
  am_kd (fun d => ak_iadd d rfl) <|
  am_kd (fun d => ak_putI (C := RX8) (T := TX8) (N := 27) rfl inX8w tyX8_ok nmX8 (by decide) rfl rfl rfl rfl (by decide +kernel) wd_907 d rfl) <|
  am_kd (fun d => ak_aload_n d rfl rfl) <|
  am_kd (fun d => ak_callV (C := RX8) (F := TX8) (N := 27) metX8_top rfl ⟨rfl, hy_X8_top⟩ (am_w5 wd_1113 wd_1115 wd_35 wd_67 wd_1116) (by decide) d rfl) <|
  am_kd (fun d => ak_iconst d (by decide +kernel) rfl) <|
  am_kd (fun d => ak_icmp_eq d (by decide +kernel) rfl) <|
  am_kd (fun d => ak_aload_n d rfl rfl) <|
  am_kd (fun d => ak_callV (C := RX8) (F := TX8) (N := 27) metX8_top rfl ⟨rfl, hy_X8_top⟩ (am_w5 wd_1113 wd_1115 wd_35 wd_67 wd_1116) (by decide) d rfl) <|
  am_kd (fun d => ak_iconst d (by decide +kernel) rfl) <|
  am_kd (fun d => ak_icmp_ne d (by decide +kernel) rfl) <|
  am_kd (fun d => ak_aload_n d rfl rfl) <|
  am_kd (fun d => ak_getR (C := RX8) (T := TX8) (N := 27) rfl inX8w (by decide) rfl rfl rfl wd_905 d rfl) <|
  am_kd (fun d => ak_aload_n d rfl rfl) <|
  am_kd (fun d => ak_getI (C := RX8) (T := TX8) (N := 27) rfl inX8w (by decide) rfl rfl rfl wd_907 d rfl) <|
  am_kd (fun d => ak_iconst d (by decide +kernel) rfl) <|
  am_kd (fun d => ak_isub d rfl) <|
  am_kd (fun d => ak_lald (t := 1) (fun _ => rfl) rfl d rfl) <|
  am_kd (fun d => ak_lstore_n d rfl rfl) <|
  am_kd (fun d => ak_aload_n d rfl rfl) <|
  am_kd (fun d => ak_getR (C := RX8) (T := TX8) (N := 27) rfl inX8w (by decide) rfl rfl rfl wd_905 d rfl) <|
  am_kd (fun d => ak_aload_n d rfl rfl) <|
  am_kd (fun d => ak_getI (C := RX8) (T := TX8) (N := 27) rfl inX8w (by decide) rfl rfl rfl wd_907 d rfl) <|
  am_kd (fun d => ak_iconst d (by decide +kernel) rfl) <|
  am_kd (fun d => ak_isub d rfl) <|
  am_kd (fun d => ak_aload_n d rfl rfl) <|
  am_kd (fun d => ak_callV (C := RX8) (F := TX8) (N := 27) metX8_top rfl ⟨rfl, hy_X8_top⟩ (am_w5 wd_1113 wd_1115 wd_35 wd_67 wd_1116) (by decide) d rfl) <|
  am_kd (fun d => ak_iconst d (by decide +kernel) rfl) <|
  am_kd (fun d => ak_icmp_ne d (by decide +kernel) rfl) <|
  am_kd (fun d => ak_lload_n d rfl rfl) <|
  am_kd (fun d => ak_lconst d (by decide +kernel) rfl) <|
  am_kd (fun d => ak_lcmp d rfl) <|
  am_kd (fun d => ak_if_ne d (by decide +kernel) rfl) <|
  am_kd (fun d => ak_iconst d (by decide +kernel) rfl) <|
  am_kd (fun d => ak_goto d (by decide +kernel)) <|
  am_kd (fun d => ak_iconst d (by decide +kernel) rfl) <|
  am_kd (fun d => ak_callS metX8_told ⟨rfl, hy_X8_told⟩ (am_w4 wd_1117 wd_1118 wd_67 wd_1119) (by decide) d rfl) <|
  am_kd (fun d => ak_goto d (by decide +kernel)) <|
  am_kd (fun d => ak_lload_n d rfl rfl) <|
  am_kd (fun d => ak_lneg d rfl) <|
  am_kd (fun d => ak_last (t := 1) (fun _ => rfl) rfl d rfl) <|
  am_kd (fun d => ak_aload_n d rfl rfl) <|
  am_kd (fun d => ak_dup d rfl) <|
  am_kd (fun d => ak_getI (C := RX8) (T := TX8) (N := 27) rfl inX8w (by decide) rfl rfl rfl wd_906 d rfl) <|
  am_kd (fun d => ak_iconst d (by decide +kernel) rfl) <|
  am_kd (fun d => ak_isub d rfl) <|
  am_kd (fun d => ak_putI (C := RX8) (T := TX8) (N := 27) rfl inX8w tyX8_ok nmX8 (by decide) rfl rfl rfl rfl (by decide +kernel) wd_906 d rfl) <|
  am_kd (fun d => ak_goto d (by decide +kernel)) <|
  am_kd (fun d => ak_retV d) <| am_kdn
def TX8_lay : am_T := fun live as M R => match as with
  | [.ref n, .long v] => am_mn live ∧ n = 200 ∧ r_cw M 0 (fun w0 => w0 ≤ 59 ∧ ∀ M', r_wg M M' → r_wI M' 1 (w0 + 1) → R none M')
  | _ => False
def JX8_lay : am_E → List Value → am_M → am_R → am_inv := fun live as M0 R pc => match as with
  | [.ref n, .long v] => (match pc with
    | 20 => some ([0], fun k L st M => ∃ w0, L = [(0, .ref 200)] ∧ st = [] ∧ k = ((M.1 200 11).toInt.toNat, 0) ∧ r_wI M 1 w0 ∧ r_wg M0 M ∧ ∀ M', r_wg M0 M' → r_wI M' 1 w0 → R none M')
    | _ => none)
  | _ => none
set_option maxRecDepth 100000 in
set_option maxHeartbeats 4000000 in
theorem metX8_lay : am_Met yX8_lay cX8_lay 5 none (1) (20) TX8_lay := by
  refine am_met (own := RX8) (by decide +kernel) rfl kX8_lay koX8_lay 100 JX8_lay ?_ ?_
  · intro live as M Ret h
    unfold TX8_lay at h
    split at h
    · next n v =>
      refine ⟨Nat.le_of_ble_eq_true rfl, ?_⟩
      change am_wp _ _ _ _ [(0, Value.ref n), (1, Value.long v)] _ _
      obtain ⟨hmn, rfl, w0, hw, h9, h⟩ := h
      have hmn2 := hmn
      obtain ⟨i1, i2, rfl⟩ := hmn2
      obtain ⟨⟨u1, u2, u5⟩, u3, u4⟩ := hw.u
      have l205 : am_len 205 = 120 := rfl
      have e12 := i_inc (x := M.1 200 12) (by omega) (by omega)
      repeat' (first | (with_reducible exact hmn) | apply And.intro | exact rfl | intro hx | (refine Exists.intro _ (And.intro rfl ?_)))
      all_goals try first | (with_reducible change am_tI _ _) | (change Ret _ _) | (change Ret _ _ _) | (change Exists _)
      all_goals try dsimp only at *
      all_goals try (with_reducible exact absurd ‹(1000 : Int64) = 0› am_z1000)
      all_goals first
        | omega
        | (rw [l205]; omega)
        | skip
      refine ⟨_, w0 + 1, rfl, rfl, rfl, ?_, r_wg.rf.w205.w12, h⟩
      refine ⟨(), ⟨?_, ?_, by omega⟩, ?_, ?_⟩
      · rw [am_wI_1, if_neg (fun q => absurd q.2 (by decide))]; exact u1
      · rw [am_wI_1, if_neg (fun q => absurd q.2 (by decide))]; show (M.1 200 11).toInt ≤ _; omega
      · rw [am_wI_self, show (am_wI (am_wJ M 205 (M.1 200 12).toNatClampNeg v) 200 12 ((am_wJ M 205 (M.1 200 12).toNatClampNeg v).1 200 12 + 1)).1 200 11 = M.1 200 11 by rw [am_wI_1, if_neg (fun q => absurd q.2 (by decide))]; rfl, show (am_wI (am_wJ M 205 (M.1 200 12).toNatClampNeg v) 200 12 ((am_wJ M 205 (M.1 200 12).toNatClampNeg v).1 200 12 + 1)).1 204 = M.1 204 from funext fun k => by rw [am_wI_1, if_neg (fun q => absurd q.1 (by decide))]; rfl]
        show (M.1 200 12 + 1).toInt = _
        omega
      · rw [am_wI_self]
        show (M.1 200 12 + 1).toInt ≤ _
        omega
    · exact h.elim
  · intro live as M0 Ret h k pc I hI L st M hi
    unfold TX8_lay at h
    split at h
    · next n v =>
      obtain ⟨hmn, rfl, w9, hw9, h99, h9⟩ := h
      have hmn2 := hmn
      obtain ⟨i1, i2, rfl⟩ := hmn2
      have l205 : am_len 205 = 120 := rfl
      change (match pc with | 20 => _ | _ => none) = _ at hI
      split at hI
      · cases hI
        obtain ⟨w0, rfl, rfl, rfl, hw, hk, h⟩ := hi
        obtain ⟨⟨u1, u2, u5⟩, u3, u4⟩ := hw.u
        have u120 : 0 ≤ (M.1 200 11).toInt ∧ (M.1 200 11).toInt ≤ 120 := ⟨u1, by omega⟩
        have e13 := i_sub (x := M.1 200 12) (y := 1) (by simp only [Int32.reduceToInt]; omega) (by simp only [Int32.reduceToInt]; omega)
        simp only [Int32.reduceToInt] at e13
        by_cases hz : r_top M = 1 ∨ r_top M = 2
        · have hp := r_top_pos (fun q => by rcases hz with z | z <;> rw [z] at q <;> exact absurd q (by decide)) u1
          have hwt : r_wt (r_top M) = 0 := by rcases hz with z | z <;> rw [z] <;> decide
          have e11 := i_sub (x := M.1 200 11) (y := 1) (by simp only [Int32.reduceToInt]; omega) (by simp only [Int32.reduceToInt]; omega)
          simp only [Int32.reduceToInt] at e11
          have ho := r_off1 hw hp
          rw [hwt] at ho
          rcases hz with hz | hz
          · skip
            repeat' (first | (with_reducible exact hz) | (with_reducible exact hmn) | (with_reducible exact u120) | apply And.intro | exact rfl | (intro hx; with_reducible exact absurd hz hx) | intro hx | (refine Exists.intro _ (And.intro rfl ?_)))
            all_goals try first | (with_reducible change am_tI _ _) | (change Ret _ _) | (change Ret _ _ _) | (change Exists _)
            all_goals try dsimp only at *
            all_goals try (with_reducible exact absurd ‹(1000 : Int64) = 0› am_z1000)
            all_goals first
              | omega
              | (rw [l205]; omega)
              | exact absurd hz (by with_reducible assumption)
              | exact ⟨_, am_lt_l (by rw [am_wI_self]; show (M.1 200 11 - 1).toInt.toNat < _; omega), w0, rfl, rfl, rfl, ho, hk.w205.w11, h⟩
          · have hz1 : ¬ r_top M = 1 := fun q => by rw [hz] at q; exact absurd q (by decide)
            repeat' (first | (with_reducible exact hz) | (with_reducible exact hmn) | (with_reducible exact u120) | apply And.intro | exact rfl | (intro hx; with_reducible exact absurd hx hz1) | (intro hx; with_reducible exact absurd hz hx) | intro hx | (refine Exists.intro _ (And.intro rfl ?_)))
            all_goals try first | (with_reducible change am_tI _ _) | (change Ret _ _) | (change Ret _ _ _) | (change Exists _)
            all_goals try dsimp only at *
            all_goals try (with_reducible exact absurd ‹(1000 : Int64) = 0› am_z1000)
            all_goals first
              | omega
              | (rw [l205]; omega)
              | exact ⟨_, am_lt_l (by rw [am_wI_self]; show (M.1 200 11 - 1).toInt.toNat < _; omega), w0, rfl, rfl, rfl, ho, hk.w205.w11, h⟩
        · have hz1 : ¬ r_top M = 1 := fun q => hz (Or.inl q)
          have hz2 : ¬ r_top M = 2 := fun q => hz (Or.inr q)
          repeat' (first | (with_reducible exact hmn) | (with_reducible exact u120) | apply And.intro | exact rfl | (intro hx; with_reducible exact absurd hx hz1) | (intro hx; with_reducible exact absurd hx hz2) | intro hx | (refine Exists.intro _ (And.intro rfl ?_)))
          all_goals try first | (with_reducible change am_tI _ _) | (change Ret _ _) | (change Ret _ _ _) | (change Exists _)
          all_goals try dsimp only at *
          all_goals try (with_reducible exact absurd ‹(1000 : Int64) = 0› am_z1000)
          exact h _ hk hw
      · cases hI
    · exact h.elim
end
