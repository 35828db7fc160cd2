/-! general: the reference's calls that ask, III -/
def rwX8_book : List dz_r := [(0, .iload_n 1, 1), (1, .i2l, 1), (2, .lconst 0, 1), (3, .ldc2_w 79, 3), (6, .invokestatic 66, 3), (9, .ifCond .eq 28, 3), (12, .iload_n 2, 1), (13, .invokestatic 72, 3), (16, .ifCond .eq 21, 3), (19, .iload_n 3, 1), (20, .invokestatic 72, 3), (23, .ifCond .eq 14, 3), (26, .iload 4, 2), (28, .i2l, 1), (29, .lconst 0, 1), (30, .lconst 1, 1), (31, .invokestatic 66, 3), (34, .ifCond .ne 7, 3), (37, .ldc2_w 237, 3), (40, .lreturn, 1), (41, .lconst 0, 1), (42, .lstore 5, 2), (44, .iconst 0, 1), (45, .istore 7, 2), (47, .iload 7, 2), (49, .aload_n 0, 1), (50, .getfield 7, 3), (53, .iconst 0, 1), (54, .iaload, 1), (55, .if_icmp .ge 77, 3), (58, .aload_n 0, 1), (59, .iload 7, 2), (61, .iload_n 2, 1), (62, .iload_n 3, 1), (63, .invokevirtual 239, 3), (66, .iconst 0, 1), (67, .istore 8, 2), (69, .iload 8, 2), (71, .aload_n 0, 1), (72, .getfield 7, 3), (75, .iconst 1, 1), (76, .iaload, 1), (77, .if_icmp .ge 49, 3), (80, .lload 5, 2), (82, .aload_n 0, 1), (83, .iload 8, 2), (85, .iconst 0, 1), (86, .invokevirtual 202, 3), (89, .iload 7, 2), (91, .if_icmp .ne 25, 3), (94, .aload_n 0, 1), (95, .iload 8, 2), (97, .bipush 6, 2), (99, .invokevirtual 202, 3), (102, .iload_n 1, 1), (103, .if_icmp .ne 13, 3), (106, .aload_n 0, 1), (107, .getfield 39, 3), (110, .iload 8, 2), (112, .laload, 1), (113, .goto 4, 3), (116, .lconst 0, 1), (117, .ladd, 1), (118, .lstore 5, 2), (120, .iinc 8 1, 3), (123, .goto (-54), 3), (126, .iinc 7 1, 3), (129, .goto (-82), 3), (132, .lconst 0, 1), (133, .lstore 7, 2), (135, .sipush 3513, 3), (138, .istore 9, 2), (140, .iload 9, 2), (142, .sipush 3513, 3), (145, .iconst 3, 1), (146, .aload_n 0, 1), (147, .getfield 7, 3), (150, .iconst 4, 1), (151, .iaload, 1), (152, .imul, 1), (153, .iadd, 1), (154, .if_icmp .ge 52, 3), (157, .lload 7, 2), (159, .aload_n 0, 1), (160, .getfield 7, 3), (163, .iload 9, 2), (165, .iaload, 1), (166, .iload_n 1, 1), (167, .if_icmp .ne 29, 3), (170, .aload_n 0, 1), (171, .getfield 7, 3), (174, .iload 9, 2), (176, .iconst 1, 1), (177, .iadd, 1), (178, .iaload, 1), (179, .iload_n 2, 1), (180, .if_icmp .gt 16, 3), (183, .aload_n 0, 1), (184, .getfield 7, 3), (187, .iload 9, 2), (189, .iconst 2, 1), (190, .iadd, 1), (191, .iaload, 1), (192, .i2l, 1), (193, .goto 4, 3), (196, .lconst 0, 1), (197, .ladd, 1), (198, .lstore 7, 2), (200, .iinc 9 3, 3), (203, .goto (-63), 3), (206, .iload 4, 2), (208, .ifCond .ne 8, 3), (211, .lload 5, 2), (213, .goto 20, 3), (216, .lload 7, 2), (218, .lload 5, 2), (220, .lcmp, 1), (221, .ifCond .le 11, 3), (224, .lload 7, 2), (226, .lload 5, 2), (228, .lsub, 1), (229, .goto 4, 3), (232, .lconst 0, 1), (233, .lreturn, 1)]
theorem dzX8_book : dz cX8_book rwX8_book := dz_all 0 (by decide +kernel)
def kX8_book (live : am_E) (Ret : am_R) : am_code := [(0, am_iload 1 1), (1, am_i2l 2), (2, am_const (.long 0) 3), (3, am_const (.long 3) 6), (6, am_callS live 3 TX8_in 9), (9, am_if1 (fun x => x = 0) 37 12), (12, am_iload 2 13), (13, am_callS live 1 TX8_isYear 16), (16, am_if1 (fun x => x = 0) 37 19), (19, am_iload 3 20), (20, am_callS live 1 TX8_isYear 23), (23, am_if1 (fun x => x = 0) 37 26), (26, am_iload 4 28), (28, am_i2l 29), (29, am_const (.long 0) 30), (30, am_const (.long 1) 31), (31, am_callS live 3 TX8_in 34), (34, am_if1 (fun x => x = 0) 37 41), (37, am_const (.long (-2)) 40), (40, am_retL Ret), (41, am_const (.long 0) 42), (42, am_lstore 5 10 44), (44, am_const (.int 0) 45), (45, am_istore 7 10 47), (47, am_iload 7 49), (49, am_aload 0 50), (50, am_getR live 8 0 53), (53, am_const (.int 0) 54), (54, am_ald live 0 55), (55, am_if2 (fun x y => y ≤ x) 132 58), (58, am_aload 0 59), (59, am_iload 7 61), (61, am_iload 2 62), (62, am_iload 3 63), (63, am_callV live 8 3 TX8_run 66), (66, am_const (.int 0) 67), (67, am_istore 8 10 69), (69, am_iload 8 71), (71, am_aload 0 72), (72, am_getR live 8 0 75), (75, am_const (.int 1) 76), (76, am_ald live 0 77), (77, am_if2 (fun x y => y ≤ x) 126 80), (80, am_lload 5 82), (82, am_aload 0 83), (83, am_iload 8 85), (85, am_const (.int 0) 86), (86, am_callV live 8 2 TX8_ofLoan 89), (89, am_iload 7 91), (91, am_if2 (fun x y => x = y) 94 116), (94, am_aload 0 95), (95, am_iload 8 97), (97, am_const (.int 6) 99), (99, am_callV live 8 2 TX8_ofLoan 102), (102, am_iload 1 103), (103, am_if2 (fun x y => x = y) 106 116), (106, am_aload 0 107), (107, am_getR live 8 18 110), (110, am_iload 8 112), (112, am_lald live 1 113), (113, am_goto 117), (116, am_const (.long 0) 117), (117, am_l2 (fun x y => x + y) 118), (118, am_lstore 5 10 120), (120, am_iinc 8 10 1 123), (123, am_goto 69), (126, am_iinc 7 10 1 129), (129, am_goto 47), (132, am_const (.long 0) 133), (133, am_lstore 7 10 135), (135, am_const (.int 3513) 138), (138, am_istore 9 10 140), (140, am_iload 9 142), (142, am_const (.int 3513) 145), (145, am_const (.int 3) 146), (146, am_aload 0 147), (147, am_getR live 8 0 150), (150, am_const (.int 4) 151), (151, am_ald live 0 152), (152, am_i2 (fun x y => x * y) 153), (153, am_i2 (fun x y => x + y) 154), (154, am_if2 (fun x y => y ≤ x) 206 157), (157, am_lload 7 159), (159, am_aload 0 160), (160, am_getR live 8 0 163), (163, am_iload 9 165), (165, am_ald live 0 166), (166, am_iload 1 167), (167, am_if2 (fun x y => x = y) 170 196), (170, am_aload 0 171), (171, am_getR live 8 0 174), (174, am_iload 9 176), (176, am_const (.int 1) 177), (177, am_i2 (fun x y => x + y) 178), (178, am_ald live 0 179), (179, am_iload 2 180), (180, am_if2 (fun x y => y < x) 196 183), (183, am_aload 0 184), (184, am_getR live 8 0 187), (187, am_iload 9 189), (189, am_const (.int 2) 190), (190, am_i2 (fun x y => x + y) 191), (191, am_ald live 0 192), (192, am_i2l 193), (193, am_goto 197), (196, am_const (.long 0) 197), (197, am_l2 (fun x y => x + y) 198), (198, am_lstore 7 10 200), (200, am_iinc 9 10 3 203), (203, am_goto 140), (206, am_iload 4 208), (208, am_if1 (fun x => x = 0) 211 216), (211, am_lload 5 213), (213, am_goto 233), (216, am_lload 7 218), (218, am_lload 5 220), (220, am_lcmp 221), (221, am_if1 (fun x => x ≤ 0) 232 224), (224, am_lload 7 226), (226, am_lload 5 228), (228, am_l2 (fun x y => x - y) 229), (229, am_goto 233), (232, am_const (.long 0) 233), (233, am_retL Ret)]
theorem koX8_book (live : am_E) (Ret : am_R) : ∀ q ∈ kX8_book live Ret, am_ok RX8 cX8_book 10 (some .long) 10 253 live Ret q.1 q.2 :=
  am_kz dzX8_book <|
  am_kd (fun d => ak_iload_n d rfl rfl) <|
  am_kd (fun d => ak_i2l d rfl) <|
  am_kd (fun d => ak_lconst d (by decide +kernel) rfl) <|
  am_kd (fun d => ak_ldc2 wd_997 d rfl) <|
  am_kd (fun d => ak_callS metX8_in ⟨rfl, hy_X8_in⟩ (am_w4 wd_986 wd_987 wd_67 wd_988) (by decide) d rfl) <|
  am_kd (fun d => ak_if_eq d (by decide +kernel) rfl) <|
  am_kd (fun d => ak_iload_n d rfl rfl) <|
  am_kd (fun d => ak_callS metX8_isYear ⟨rfl, hy_X8_isYear⟩ (am_w4 wd_982 wd_983 wd_67 wd_984) (by decide) d rfl) <|
  am_kd (fun d => ak_if_eq d (by decide +kernel) rfl) <|
  am_kd (fun d => ak_iload_n d rfl rfl) <|
  am_kd (fun d => ak_callS metX8_isYear ⟨rfl, hy_X8_isYear⟩ (am_w4 wd_982 wd_983 wd_67 wd_984) (by decide) d rfl) <|
  am_kd (fun d => ak_if_eq d (by decide +kernel) rfl) <|
  am_kd (fun d => ak_iload d rfl) <|
  am_kd (fun d => ak_i2l d rfl) <|
  am_kd (fun d => ak_lconst d (by decide +kernel) rfl) <|
  am_kd (fun d => ak_lconst d (by decide +kernel) rfl) <|
  am_kd (fun d => ak_callS metX8_in ⟨rfl, hy_X8_in⟩ (am_w4 wd_986 wd_987 wd_67 wd_988) (by decide) d rfl) <|
  am_kd (fun d => ak_if_ne d (by decide +kernel) rfl) <|
  am_kd (fun d => ak_ldc2 wd_1153 d rfl) <|
  am_kd (fun d => ak_retL d) <|
  am_kd (fun d => ak_lconst d (by decide +kernel) rfl) <|
  am_kd (fun d => ak_lstore d rfl) <|
  am_kd (fun d => ak_iconst d (by decide +kernel) rfl) <|
  am_kd (fun d => ak_istore d rfl) <|
  am_kd (fun d => ak_iload d rfl) <|
  am_kd (fun d => ak_aload_n d rfl rfl) <|
  am_kd (fun d => ak_getR (C := RX8) (T := TX8) (N := 27) rfl inX8w (by decide) rfl rfl rfl wd_895 d rfl) <|
  am_kd (fun d => ak_iconst d (by decide +kernel) rfl) <|
  am_kd (fun d => ak_iald (t := 0) (fun _ => rfl) rfl d rfl) <|
  am_kd (fun d => ak_icmp_ge d (by decide +kernel) rfl) <|
  am_kd (fun d => ak_aload_n d rfl rfl) <|
  am_kd (fun d => ak_iload d rfl) <|
  am_kd (fun d => ak_iload_n d rfl rfl) <|
  am_kd (fun d => ak_iload_n d rfl rfl) <|
  am_kd (fun d => ak_callV (C := RX8) (F := TX8) (N := 27) metX8_run rfl ⟨rfl, hy_X8_run⟩ (am_w5 wd_1158 wd_1160 wd_42 wd_67 wd_1161) (by decide) d rfl) <|
  am_kd (fun d => ak_iconst d (by decide +kernel) rfl) <|
  am_kd (fun d => ak_istore d rfl) <|
  am_kd (fun d => ak_iload d rfl) <|
  am_kd (fun d => ak_aload_n d rfl rfl) <|
  am_kd (fun d => ak_getR (C := RX8) (T := TX8) (N := 27) rfl inX8w (by decide) rfl rfl rfl wd_895 d rfl) <|
  am_kd (fun d => ak_iconst d (by decide +kernel) rfl) <|
  am_kd (fun d => ak_iald (t := 0) (fun _ => rfl) rfl d rfl) <|
  am_kd (fun d => ak_icmp_ge d (by decide +kernel) rfl) <|
  am_kd (fun d => ak_lload d rfl) <|
  am_kd (fun d => ak_aload_n d rfl rfl) <|
  am_kd (fun d => ak_iload d rfl) <|
  am_kd (fun d => ak_iconst d (by decide +kernel) rfl) <|
  am_kd (fun d => ak_callV (C := RX8) (F := TX8) (N := 27) metX8_ofLoan rfl ⟨rfl, hy_X8_ofLoan⟩ (am_w5 wd_1154 wd_1156 wd_41 wd_67 wd_1157) (by decide) d rfl) <|
  am_kd (fun d => ak_iload d rfl) <|
  am_kd (fun d => ak_icmp_ne d (by decide +kernel) rfl) <|
  am_kd (fun d => ak_aload_n d rfl rfl) <|
  am_kd (fun d => ak_iload d rfl) <|
  am_kd (fun d => ak_bipush d (by decide +kernel) rfl) <|
  am_kd (fun d => ak_callV (C := RX8) (F := TX8) (N := 27) metX8_ofLoan rfl ⟨rfl, hy_X8_ofLoan⟩ (am_w5 wd_1154 wd_1156 wd_41 wd_67 wd_1157) (by decide) d rfl) <|
  am_kd (fun d => ak_iload_n d rfl rfl) <|
  am_kd (fun d => ak_icmp_ne d (by decide +kernel) rfl) <|
  am_kd (fun d => ak_aload_n d rfl rfl) <|
  am_kd (fun d => ak_getR (C := RX8) (T := TX8) (N := 27) rfl inX8w (by decide) rfl rfl rfl wd_913 d rfl) <|
  am_kd (fun d => ak_iload d rfl) <|
  am_kd (fun d => ak_lald (t := 1) (fun _ => rfl) rfl d rfl) <|
  am_kd (fun d => ak_goto d (by decide +kernel)) <|
  am_kd (fun d => ak_lconst d (by decide +kernel) rfl) <|
  am_kd (fun d => ak_ladd d rfl) <|
  am_kd (fun d => ak_lstore d rfl) <|
  am_kd (fun d => ak_iinc d (by decide +kernel) rfl) <|
  am_kd (fun d => ak_goto d (by decide +kernel)) <|
  am_kd (fun d => ak_iinc d (by decide +kernel) rfl) <|
  am_kd (fun d => ak_goto d (by decide +kernel)) <|
  am_kd (fun d => ak_lconst d (by decide +kernel) rfl) <|
  am_kd (fun d => ak_lstore d rfl) <|
  am_kd (fun d => ak_sipush d (by decide +kernel) rfl) <|
  am_kd (fun d => ak_istore d rfl) <|
  am_kd (fun d => ak_iload d rfl) <|
  am_kd (fun d => ak_sipush d (by decide +kernel) rfl) <|
  am_kd (fun d => ak_iconst d (by decide +kernel) rfl) <|
  am_kd (fun d => ak_aload_n d rfl rfl) <|
  am_kd (fun d => ak_getR (C := RX8) (T := TX8) (N := 27) rfl inX8w (by decide) rfl rfl rfl wd_895 d rfl) <|
  am_kd (fun d => ak_iconst d (by decide +kernel) rfl) <|
  am_kd (fun d => ak_iald (t := 0) (fun _ => rfl) rfl d rfl) <|
  am_kd (fun d => ak_imul d rfl) <|
  am_kd (fun d => ak_iadd d rfl) <|
  am_kd (fun d => ak_icmp_ge d (by decide +kernel) rfl) <|
  am_kd (fun d => ak_lload d rfl) <|
  am_kd (fun d => ak_aload_n d rfl rfl) <|
  am_kd (fun d => ak_getR (C := RX8) (T := TX8) (N := 27) rfl inX8w (by decide) rfl rfl rfl wd_895 d rfl) <|
  am_kd (fun d => ak_iload d rfl) <|
  am_kd (fun d => ak_iald (t := 0) (fun _ => rfl) rfl d rfl) <|
  am_kd (fun d => ak_iload_n d rfl rfl) <|
  am_kd (fun d => ak_icmp_ne d (by decide +kernel) rfl) <|
  am_kd (fun d => ak_aload_n d rfl rfl) <|
  am_kd (fun d => ak_getR (C := RX8) (T := TX8) (N := 27) rfl inX8w (by decide) rfl rfl rfl wd_895 d rfl) <|
  am_kd (fun d => ak_iload d rfl) <|
  am_kd (fun d => ak_iconst d (by decide +kernel) rfl) <|
  am_kd (fun d => ak_iadd d rfl) <|
  am_kd (fun d => ak_iald (t := 0) (fun _ => rfl) rfl d rfl) <|
  am_kd (fun d => ak_iload_n d rfl rfl) <|
  am_kd (fun d => ak_icmp_gt d (by decide +kernel) rfl) <|
  am_kd (fun d => ak_aload_n d rfl rfl) <|
  am_kd (fun d => ak_getR (C := RX8) (T := TX8) (N := 27) rfl inX8w (by decide) rfl rfl rfl wd_895 d rfl) <|
  am_kd (fun d => ak_iload d rfl) <|
  am_kd (fun d => ak_iconst d (by decide +kernel) rfl) <|
  am_kd (fun d => ak_iadd d rfl) <|
  am_kd (fun d => ak_iald (t := 0) (fun _ => rfl) rfl d rfl) <|
  am_kd (fun d => ak_i2l d rfl) <|
  am_kd (fun d => ak_goto d (by decide +kernel)) <|
  am_kd (fun d => ak_lconst d (by decide +kernel) rfl) <|
  am_kd (fun d => ak_ladd d rfl) <|
  am_kd (fun d => ak_lstore d rfl) <|
  am_kd (fun d => ak_iinc d (by decide +kernel) rfl) <|
  am_kd (fun d => ak_goto d (by decide +kernel)) <|
  am_kd (fun d => ak_iload d rfl) <|
  am_kd (fun d => ak_if_ne d (by decide +kernel) rfl) <|
  am_kd (fun d => ak_lload d rfl) <|
  am_kd (fun d => ak_goto d (by decide +kernel)) <|
  am_kd (fun d => ak_lload d rfl) <|
  am_kd (fun d => ak_lload d rfl) <|
  am_kd (fun d => ak_lcmp d rfl) <|
  am_kd (fun d => ak_if_le d (by decide +kernel) rfl) <|
  am_kd (fun d => ak_lload d rfl) <|
  am_kd (fun d => ak_lload d rfl) <|
  am_kd (fun d => ak_lsub d rfl) <|
  am_kd (fun d => ak_goto d (by decide +kernel)) <|
  am_kd (fun d => ak_lconst d (by decide +kernel) rfl) <|
  am_kd (fun d => ak_retL d) <| am_kdn
def TX8_book : am_T := fun live as M R => match as with
  | [.ref n, .int b, .int y, .int k, .int w] => am_mn live ∧ n = 200 ∧ r_I M ∧ ∀ v M', r_sc M M' → r_I M' → R (some (.long v)) M'
  | _ => False
def JX8_book : am_E → List Value → am_M → am_R → am_inv := fun live as M0 _ pc => match as with
  | [.ref n, .int b, .int y, .int k, .int w] => (match pc with
    | 47 => some ([0, 1, 2, 3, 4, 5, 7], fun u L st M => ∃ (v : Int64) (i : Int32), L = [(0, .ref 200), (1, .int b), (2, .int y), (3, .int k), (4, .int w), (5, .long v), (7, .int i)] ∧ st = [] ∧ u = (5000 + (13 - i.toInt).toNat * 2, 0) ∧ 0 ≤ i.toInt ∧ y.toInt ≤ 39 ∧ r_sc M0 M ∧ r_I M)
    | 69 => some ([0, 1, 2, 3, 4, 5, 7, 8], fun u L st M => ∃ (v : Int64) (i l : Int32), L = [(0, .ref 200), (1, .int b), (2, .int y), (3, .int k), (4, .int w), (5, .long v), (7, .int i), (8, .int l)] ∧ st = [] ∧ u = (5000 + ((13 - i.toInt).toNat * 2 - 1), (31 - l.toInt).toNat) ∧ (0 ≤ i.toInt ∧ i.toInt < 12) ∧ 0 ≤ l.toInt ∧ y.toInt ≤ 39 ∧ r_sc M0 M ∧ r_I M)
    | 140 => some ([0, 1, 2, 4, 5, 7, 9], fun u L st M => ∃ (v q : Int64) (a : Int32), L = [(0, .ref 200), (1, .int b), (2, .int y), (4, .int w), (5, .long v), (7, .long q), (9, .int a)] ∧ st = [] ∧ u = ((4000 - a.toInt).toNat, 0) ∧ (3513 ≤ a.toInt ∧ a.toInt ≤ 3580) ∧ r_sc M0 M ∧ r_I M)
    | _ => none)
  | _ => none
set_option maxRecDepth 100000 in
set_option maxHeartbeats 4000000 in
theorem metX8_book : am_Met yX8_book cX8_book 10 (some .long) (10) (253) TX8_book := by
  refine am_met (own := RX8) (by decide +kernel) rfl kX8_book koX8_book 150 JX8_book ?_ ?_
  · intro live as M Ret h
    unfold TX8_book at h
    split at h
    · next n b y k w =>
      refine ⟨Nat.le_of_ble_eq_true rfl, ?_⟩
      change am_wp _ _ _ _ [(0, Value.ref n), (1, Value.int b), (2, Value.int y), (3, Value.int k), (4, Value.int w)] _ _
      obtain ⟨hmn, rfl, hR, h⟩ := h
      have hmn2 := hmn
      obtain ⟨i1, i2, rfl⟩ := hmn2
      have l201 : am_len 201 = 3760 := rfl
      have n0 := hR.n0
      have n1 := hR.n1
      have n030 : 0 ≤ (M.1 201 0).toInt ∧ (M.1 201 0).toInt ≤ 30 := ⟨n0.1, by omega⟩
      by_cases z0 : 0 ≤ b ∧ b ≤ 3
      rotate_left
      · skip
        have q0 : (if (0 : Int64) ≤ b.toInt64 ∧ b.toInt64 ≤ (3 : Int64) then (1 : Int32) else 0) = 0 := if_neg (fun r => z0 (by simp only [i_le, i_lt, j_le, Int32.toInt_toInt64, Int32.reduceToInt, Int64.reduceToInt] at r ⊢; omega))
        repeat' (first | (with_reducible exact hmn) | (with_reducible exact n030) | (with_reducible exact n1) | apply And.intro | exact rfl | (intro hx; with_reducible exact absurd q0 hx) | (intro hx; exact absurd hx (by decide)) | (intro hx; exact absurd (by decide) hx) | decide | intro hx | (refine Exists.intro _ (And.intro rfl ?_)))
        all_goals try first | (with_reducible change am_tI _ _) | (change Ret _ _) | (change Ret _ _ _) | (change Exists _)
        all_goals try dsimp only at *
        all_goals try (with_reducible exact absurd ‹(1000 : Int64) = 0› am_z1000)
        all_goals exact h _ _ r_sc.rf hR
      · skip
        have q0 : ¬ ((if (0 : Int64) ≤ b.toInt64 ∧ b.toInt64 ≤ (3 : Int64) then (1 : Int32) else 0) = 0) := by rw [if_pos (by have q := z0; simp only [i_le, i_lt, j_le, Int32.toInt_toInt64, Int32.reduceToInt, Int64.reduceToInt] at q ⊢; omega)]; decide
        by_cases z1 : 0 ≤ y ∧ y < 40
        rotate_left
        · skip
          have q1 : (if 0 ≤ y ∧ y < 40 then (1 : Int32) else 0) = 0 := if_neg z1
          repeat' (first | (with_reducible exact hmn) | (with_reducible exact n030) | (with_reducible exact n1) | apply And.intro | exact rfl | (intro hx; with_reducible exact absurd hx q0) | (intro hx; with_reducible exact absurd q1 hx) | (intro hx; exact absurd hx (by decide)) | (intro hx; exact absurd (by decide) hx) | decide | intro hx | (refine Exists.intro _ (And.intro rfl ?_)))
          all_goals try first | (with_reducible change am_tI _ _) | (change Ret _ _) | (change Ret _ _ _) | (change Exists _)
          all_goals try dsimp only at *
          all_goals try (with_reducible exact absurd ‹(1000 : Int64) = 0› am_z1000)
          all_goals exact h _ _ r_sc.rf hR
        · skip
          have q1 : ¬ ((if 0 ≤ y ∧ y < 40 then (1 : Int32) else 0) = 0) := by rw [if_pos z1]; decide
          by_cases z2 : 0 ≤ k ∧ k < 40
          rotate_left
          · skip
            have q2 : (if 0 ≤ k ∧ k < 40 then (1 : Int32) else 0) = 0 := if_neg z2
            repeat' (first | (with_reducible exact hmn) | (with_reducible exact n030) | (with_reducible exact n1) | apply And.intro | exact rfl | (intro hx; with_reducible exact absurd hx q0) | (intro hx; with_reducible exact absurd hx q1) | (intro hx; with_reducible exact absurd q2 hx) | (intro hx; exact absurd hx (by decide)) | (intro hx; exact absurd (by decide) hx) | decide | intro hx | (refine Exists.intro _ (And.intro rfl ?_)))
            all_goals try first | (with_reducible change am_tI _ _) | (change Ret _ _) | (change Ret _ _ _) | (change Exists _)
            all_goals try dsimp only at *
            all_goals try (with_reducible exact absurd ‹(1000 : Int64) = 0› am_z1000)
            all_goals exact h _ _ r_sc.rf hR
          · skip
            have q2 : ¬ ((if 0 ≤ k ∧ k < 40 then (1 : Int32) else 0) = 0) := by rw [if_pos z2]; decide
            by_cases z3 : 0 ≤ w ∧ w ≤ 1
            rotate_left
            · skip
              have q3 : (if (0 : Int64) ≤ w.toInt64 ∧ w.toInt64 ≤ (1 : Int64) then (1 : Int32) else 0) = 0 := if_neg (fun r => z3 (by simp only [i_le, i_lt, j_le, Int32.toInt_toInt64, Int32.reduceToInt, Int64.reduceToInt] at r ⊢; omega))
              repeat' (first | (with_reducible exact hmn) | (with_reducible exact n030) | (with_reducible exact n1) | apply And.intro | exact rfl | (intro hx; with_reducible exact absurd hx q0) | (intro hx; with_reducible exact absurd hx q1) | (intro hx; with_reducible exact absurd hx q2) | (intro hx; with_reducible exact absurd q3 hx) | (intro hx; exact absurd hx (by decide)) | (intro hx; exact absurd (by decide) hx) | decide | intro hx | (refine Exists.intro _ (And.intro rfl ?_)))
              all_goals try first | (with_reducible change am_tI _ _) | (change Ret _ _) | (change Ret _ _ _) | (change Exists _)
              all_goals try dsimp only at *
              all_goals try (with_reducible exact absurd ‹(1000 : Int64) = 0› am_z1000)
              all_goals exact h _ _ r_sc.rf hR
            · skip
              have q3 : ¬ ((if (0 : Int64) ≤ w.toInt64 ∧ w.toInt64 ≤ (1 : Int64) then (1 : Int32) else 0) = 0) := by rw [if_pos (by have q := z3; simp only [i_le, i_lt, j_le, Int32.toInt_toInt64, Int32.reduceToInt, Int64.reduceToInt] at q ⊢; omega)]; decide
              have hy : am_in y 40 := ⟨by have q := z1.1; simp only [i_le, Int32.reduceToInt] at q; omega, by have q := z1.2; simp only [i_lt, Int32.reduceToInt] at q; omega⟩
              have y39 : y.toInt ≤ 39 := by have q := hy.2; omega
              repeat' (first | (with_reducible exact hmn) | (with_reducible exact hR) | (with_reducible exact n030) | (with_reducible exact n1) | apply And.intro | exact rfl | (intro hx; with_reducible exact absurd hx q0) | (intro hx; with_reducible exact absurd hx q1) | (intro hx; with_reducible exact absurd hx q2) | (intro hx; with_reducible exact absurd hx q3) | ((with_reducible change r_I _); (with_reducible assumption)) | (intro hx; exact absurd hx (by decide)) | (intro hx; exact absurd (by decide) hx) | decide | intro hx | (refine Exists.intro _ (And.intro rfl ?_)))
              all_goals try first | (with_reducible change am_tI _ _) | (change Ret _ _) | (change Ret _ _ _) | (change Exists _)
              all_goals try dsimp only at *
              all_goals try (with_reducible exact absurd ‹(1000 : Int64) = 0› am_z1000)
              all_goals first | exact ⟨_, _, _, rfl, rfl, rfl, by decide, y39, r_sc.rf, hR⟩ | (change r_I _; (repeat' (first | (with_reducible assumption) | ((with_reducible change r_I (am_wJ _ _ _ _)); refine r_I.wJ ?_) | ((with_reducible change r_I (am_wI _ _ _ _)); refine r_I.wI ?_ rfl)))) | ((with_reducible change Ret _ _); exact h _ _ (by (repeat' (first | (with_reducible exact r_sc.rf) | (with_reducible assumption) | ((with_reducible change r_sc _ (am_wI _ _ _ _)); refine r_sc.wI ?_ rfl) | ((with_reducible change r_sc _ (am_wJ _ _ _ _)); refine r_sc.wJ ?_ rfl) | (refine r_sc.tr ?_ (by with_reducible assumption))))) (by (repeat' (first | (with_reducible assumption) | ((with_reducible change r_I (am_wJ _ _ _ _)); refine r_I.wJ ?_) | ((with_reducible change r_I (am_wI _ _ _ _)); refine r_I.wI ?_ rfl))))) | skip
    · exact h.elim
  · intro live as M0 Ret h k pc I hI L st M hi
    unfold TX8_book at h
    split at h
    · next n b y k w =>
      obtain ⟨hmn, rfl, hR, h⟩ := h
      have hmn2 := hmn
      obtain ⟨i1, i2, rfl⟩ := hmn2
      have l201 : am_len 201 = 3760 := rfl
      have w0 : 0 ≤ (0 : Int32).toInt ∧ (0 : Int32).toInt ≤ 7 := ⟨by decide, by decide⟩
      have w6 : 0 ≤ (6 : Int32).toInt ∧ (6 : Int32).toInt ≤ 7 := ⟨by decide, by decide⟩
      have x0l : (0 : Int32).toInt < (am_len 201 : Int) := by rw [l201]; decide
      have x1l : (1 : Int32).toInt < (am_len 201 : Int) := by rw [l201]; decide
      have x2l : (2 : Int32).toInt < (am_len 201 : Int) := by rw [l201]; decide
      have x3l : (3 : Int32).toInt < (am_len 201 : Int) := by rw [l201]; decide
      have x4l : (4 : Int32).toInt < (am_len 201 : Int) := by rw [l201]; decide
      change (match pc with | 47 => _ | 69 => _ | 140 => _ | _ => none) = _ at hI
      split at hI
      · cases hI
        obtain ⟨v, i, rfl, rfl, rfl, e1, y39, e2, e3⟩ := hi
        have n0 : 0 ≤ (M.1 201 (Int32.toNatClampNeg 0)).toInt ∧ (M.1 201 (Int32.toNatClampNeg 0)).toInt ≤ 12 := e3.n0
        by_cases hz : M.1 201 (Int32.toNatClampNeg 0) ≤ i
        · skip
          repeat' (first | (with_reducible exact x0l) | apply And.intro | exact rfl | (intro hx; with_reducible exact absurd hz hx) | (intro hx; exact absurd hx (by decide)) | (intro hx; exact absurd (by decide) hx) | decide | intro hx | (refine Exists.intro _ (And.intro rfl ?_)))
          all_goals try first | (with_reducible change am_tI _ _) | (change Ret _ _) | (change Ret _ _ _) | (change Exists _)
          all_goals try dsimp only at *
          all_goals try (with_reducible exact absurd ‹(1000 : Int64) = 0› am_z1000)
          all_goals exact ⟨_, am_lt_l (by simp only [Int32.reduceToInt]; omega), _, _, _, rfl, rfl, rfl, ⟨by decide, by decide⟩, e2, e3⟩
        · have hz2 := hz
          simp only [i_le] at hz2
          have hp : am_in i 12 := ⟨e1, by omega⟩
          repeat' (first | (with_reducible exact x0l) | (with_reducible exact hmn) | (with_reducible exact hp) | (with_reducible exact y39) | (with_reducible exact e3) | apply And.intro | exact rfl | (intro hx; with_reducible exact absurd hx hz) | ((with_reducible change r_I _); (with_reducible assumption)) | (intro hx; exact absurd hx (by decide)) | (intro hx; exact absurd (by decide) hx) | decide | intro hx | (refine Exists.intro _ (And.intro rfl ?_)))
          all_goals try first | (with_reducible change am_tI _ _) | (change Ret _ _) | (change Ret _ _ _) | (change Exists _)
          all_goals try dsimp only at *
          all_goals try (with_reducible exact absurd ‹(1000 : Int64) = 0› am_z1000)
          all_goals exact ⟨_, am_lt_l (by omega), _, _, _, rfl, rfl, rfl, ⟨e1, by omega⟩, by decide, y39, by (repeat' (first | (with_reducible exact r_sc.rf) | (with_reducible assumption) | ((with_reducible change r_sc _ (am_wI _ _ _ _)); refine r_sc.wI ?_ rfl) | ((with_reducible change r_sc _ (am_wJ _ _ _ _)); refine r_sc.wJ ?_ rfl) | (refine r_sc.tr ?_ (by with_reducible assumption)))), by (repeat' (first | (with_reducible assumption) | ((with_reducible change r_I (am_wJ _ _ _ _)); refine r_I.wJ ?_) | ((with_reducible change r_I (am_wI _ _ _ _)); refine r_I.wI ?_ rfl)))⟩
      · cases hI
        obtain ⟨v, i, l, rfl, rfl, rfl, ⟨e1, e4⟩, e5, y39, e2, e3⟩ := hi
        have hi := i_inc (x := i) (by omega) (by omega)
        have n1 : 0 ≤ (M.1 201 (Int32.toNatClampNeg 1)).toInt ∧ (M.1 201 (Int32.toNatClampNeg 1)).toInt ≤ 30 := e3.n1
        by_cases hz : M.1 201 (Int32.toNatClampNeg 1) ≤ l
        · skip
          repeat' (first | (with_reducible exact x1l) | apply And.intro | exact rfl | (intro hx; with_reducible exact absurd hz hx) | (intro hx; exact absurd hx (by decide)) | (intro hx; exact absurd (by decide) hx) | decide | intro hx | (refine Exists.intro _ (And.intro rfl ?_)))
          all_goals try first | (with_reducible change am_tI _ _) | (change Ret _ _) | (change Ret _ _ _) | (change Exists _)
          all_goals try dsimp only at *
          all_goals try (with_reducible exact absurd ‹(1000 : Int64) = 0› am_z1000)
          all_goals exact ⟨_, am_lt_l (by omega), _, _, rfl, rfl, rfl, by omega, y39, e2, e3⟩
        · have hz2 := hz
          simp only [i_le] at hz2
          have hl : am_in l 30 := ⟨e5, by omega⟩
          have hli := i_inc (x := l) (by omega) (by omega)
          have x2 : l.toInt < ((30 : Nat) : Int) := by omega
          repeat' (first | (with_reducible exact x1l) | (with_reducible exact hmn) | (with_reducible exact hl) | (with_reducible exact w0) | (with_reducible exact w6) | (with_reducible exact e5) | apply And.intro | exact rfl | (intro hx; with_reducible exact absurd hx hz) | (intro hx; exact absurd hx (by decide)) | (intro hx; exact absurd (by decide) hx) | decide | intro hx | (refine Exists.intro _ (And.intro rfl ?_)))
          all_goals try first | (with_reducible change am_tI _ _) | (change Ret _ _) | (change Ret _ _ _) | (change Exists _)
          all_goals try dsimp only at *
          all_goals try (with_reducible exact absurd ‹(1000 : Int64) = 0› am_z1000)
          all_goals first
            | (with_reducible exact x2)
            | exact x2
            | exact ⟨_, am_lt_r (by omega), _, _, _, rfl, rfl, rfl, ⟨e1, e4⟩, by omega, y39, e2, e3⟩
      · cases hI
        obtain ⟨v, q, a, rfl, rfl, rfl, ⟨e1, e4⟩, e2, e3⟩ := hi
        have n4 : 0 ≤ (M.1 201 (Int32.toNatClampNeg 4)).toInt ∧ (M.1 201 (Int32.toNatClampNeg 4)).toInt ≤ 20 := e3.n4
        have em := r_mul (c := 3) (x := M.1 201 (Int32.toNatClampNeg 4)) ⟨by decide, by decide⟩ ⟨n4.1, by omega⟩
        simp only [Int32.reduceToInt] at em
        have eo := r_off (c := 3513) (x := 3 * M.1 201 (Int32.toNatClampNeg 4)) ⟨by decide, by decide⟩ ⟨by omega, by omega⟩
        simp only [em, Int32.reduceToInt] at eo
        by_cases hz : 3513 + 3 * M.1 201 (Int32.toNatClampNeg 4) ≤ a
        · skip
          repeat' (first | (with_reducible exact x4l) | apply And.intro | exact rfl | (intro hx; with_reducible exact absurd hz hx) | (intro hx; exact absurd hx (by decide)) | (intro hx; exact absurd (by decide) hx) | decide | intro hx | (refine Exists.intro _ (And.intro rfl ?_)))
          all_goals try first | (with_reducible change am_tI _ _) | (change Ret _ _) | (change Ret _ _ _) | (change Exists _)
          all_goals try dsimp only at *
          all_goals try (with_reducible exact absurd ‹(1000 : Int64) = 0› am_z1000)
          all_goals exact h _ _ e2 e3
        · have hz2 := hz
          simp only [i_le] at hz2
          have a1 := r_off (c := a) (x := 1) ⟨by omega, by omega⟩ ⟨by decide, by decide⟩
          have a2 := r_off (c := a) (x := 2) ⟨by omega, by omega⟩ ⟨by decide, by decide⟩
          have a3 := r_off (c := a) (x := 3) ⟨by omega, by omega⟩ ⟨by decide, by decide⟩
          simp only [Int32.reduceToInt] at a1 a2 a3
          repeat' (first | (with_reducible exact x4l) | apply And.intro | exact rfl | (intro hx; with_reducible exact absurd hx hz) | (intro hx; exact absurd hx (by decide)) | (intro hx; exact absurd (by decide) hx) | decide | intro hx | (refine Exists.intro _ (And.intro rfl ?_)))
          all_goals try first | (with_reducible change am_tI _ _) | (change Ret _ _) | (change Ret _ _ _) | (change Exists _)
          all_goals try dsimp only at *
          all_goals try (with_reducible exact absurd ‹(1000 : Int64) = 0› am_z1000)
          all_goals first
            | omega
            | (rw [l201]; omega)
            | exact ⟨_, am_lt_l (by omega), _, _, _, rfl, rfl, rfl, ⟨by omega, by omega⟩, e2, e3⟩
      · cases hI
    · exact h.elim
set_option maxRecDepth 100000 in
theorem wd_1305 : Cond.constantLong "LearnLoansModel" 287 347 ∈ am_ws := am_wt6 (List.mem_of_getElem? (i := 48) (by rfl)) (by decide +kernel)
set_option maxRecDepth 100000 in
theorem wd_1306 : Cond.constantLong "LearnLoansModel" 289 31 ∈ am_ws := am_wt6 (List.mem_of_getElem? (i := 49) (by rfl)) (by decide +kernel)
def rwX8_digest : List dz_r := [(0, .ldc2_w 287, 3), (3, .lstore_n 1, 1), (4, .iconst 0, 1), (5, .istore_n 3, 1), (6, .iload_n 3, 1), (7, .bipush 6, 2), (9, .if_icmp .ge 23, 3), (12, .ldc2_w 289, 3), (15, .lload_n 1, 1), (16, .lmul, 1), (17, .aload_n 0, 1), (18, .getfield 7, 3), (21, .iload_n 3, 1), (22, .iaload, 1), (23, .i2l, 1), (24, .ladd, 1), (25, .lstore_n 1, 1), (26, .iinc 3 1, 3), (29, .goto (-23), 3), (32, .iconst 0, 1), (33, .istore_n 3, 1), (34, .iload_n 3, 1), (35, .aload_n 0, 1), (36, .getfield 7, 3), (39, .iconst 0, 1), (40, .iaload, 1), (41, .if_icmp .ge 82, 3), (44, .ldc2_w 289, 3), (47, .lload_n 1, 1), (48, .lmul, 1), (49, .aload_n 0, 1), (50, .getfield 7, 3), (53, .bipush 10, 2), (55, .iload_n 3, 1), (56, .iadd, 1), (57, .iaload, 1), (58, .i2l, 1), (59, .ladd, 1), (60, .lstore_n 1, 1), (61, .ldc2_w 289, 3), (64, .lload_n 1, 1), (65, .lmul, 1), (66, .aload_n 0, 1), (67, .getfield 7, 3), (70, .bipush 22, 2), (72, .iload_n 3, 1), (73, .iadd, 1), (74, .iaload, 1), (75, .i2l, 1), (76, .ladd, 1), (77, .lstore_n 1, 1), (78, .iconst 0, 1), (79, .istore 4, 2), (81, .iload 4, 2), (83, .bipush 40, 2), (85, .if_icmp .ge 32, 3), (88, .ldc2_w 289, 3), (91, .lload_n 1, 1), (92, .lmul, 1), (93, .aload_n 0, 1), (94, .getfield 7, 3), (97, .bipush 34, 2), (99, .bipush 40, 2), (101, .iload_n 3, 1), (102, .imul, 1), (103, .iadd, 1), (104, .iload 4, 2), (106, .iadd, 1), (107, .iaload, 1), (108, .i2l, 1), (109, .ladd, 1), (110, .lstore_n 1, 1), (111, .iinc 4 1, 3), (114, .goto (-33), 3), (117, .iinc 3 1, 3), (120, .goto (-86), 3), (123, .iconst 0, 1), (124, .istore_n 3, 1), (125, .iload_n 3, 1), (126, .bipush 8, 2), (128, .aload_n 0, 1), (129, .getfield 7, 3), (132, .iconst 1, 1), (133, .iaload, 1), (134, .imul, 1), (135, .if_icmp .ge 27, 3), (138, .ldc2_w 289, 3), (141, .lload_n 1, 1), (142, .lmul, 1), (143, .aload_n 0, 1), (144, .getfield 7, 3), (147, .sipush 2838, 3), (150, .iload_n 3, 1), (151, .iadd, 1), (152, .iaload, 1), (153, .i2l, 1), (154, .ladd, 1), (155, .lstore_n 1, 1), (156, .iinc 3 1, 3), (159, .goto (-34), 3), (162, .iconst 0, 1), (163, .istore_n 3, 1), (164, .iload_n 3, 1), (165, .bipush 6, 2), (167, .aload_n 0, 1), (168, .getfield 7, 3), (171, .iconst 2, 1), (172, .iaload, 1), (173, .imul, 1), (174, .if_icmp .ge 27, 3), (177, .ldc2_w 289, 3), (180, .lload_n 1, 1), (181, .lmul, 1), (182, .aload_n 0, 1), (183, .getfield 7, 3), (186, .sipush 2478, 3), (189, .iload_n 3, 1), (190, .iadd, 1), (191, .iaload, 1), (192, .i2l, 1), (193, .ladd, 1), (194, .lstore_n 1, 1), (195, .iinc 3 1, 3), (198, .goto (-34), 3), (201, .iconst 0, 1), (202, .istore_n 3, 1), (203, .iload_n 3, 1), (204, .iconst 3, 1), (205, .aload_n 0, 1), (206, .getfield 7, 3), (209, .iconst 3, 1), (210, .iaload, 1), (211, .imul, 1), (212, .if_icmp .ge 27, 3), (215, .ldc2_w 289, 3), (218, .lload_n 1, 1), (219, .lmul, 1), (220, .aload_n 0, 1), (221, .getfield 7, 3), (224, .sipush 3078, 3), (227, .iload_n 3, 1), (228, .iadd, 1), (229, .iaload, 1), (230, .i2l, 1), (231, .ladd, 1), (232, .lstore_n 1, 1), (233, .iinc 3 1, 3), (236, .goto (-33), 3), (239, .iconst 0, 1), (240, .istore_n 3, 1), (241, .iload_n 3, 1), (242, .iconst 5, 1), (243, .if_icmp .ge 75, 3), (246, .ldc2_w 289, 3), (249, .lload_n 1, 1), (250, .lmul, 1), (251, .aload_n 0, 1), (252, .getfield 7, 3), (255, .sipush 3508, 3), (258, .iload_n 3, 1), (259, .iadd, 1), (260, .iaload, 1), (261, .i2l, 1), (262, .ladd, 1), (263, .lstore_n 1, 1), (264, .iconst 0, 1), (265, .istore 4, 2), (267, .iload 4, 2), (269, .aload_n 0, 1), (270, .getfield 7, 3), (273, .sipush 3508, 3), (276, .iload_n 3, 1), (277, .iadd, 1), (278, .iaload, 1), (279, .if_icmp .ge 33, 3), (282, .ldc2_w 289, 3), (285, .lload_n 1, 1), (286, .lmul, 1), (287, .aload_n 0, 1), (288, .getfield 7, 3), (291, .sipush 3258, 3), (294, .bipush 50, 2), (296, .iload_n 3, 1), (297, .imul, 1), (298, .iadd, 1), (299, .iload 4, 2), (301, .iadd, 1), (302, .iaload, 1), (303, .i2l, 1), (304, .ladd, 1), (305, .lstore_n 1, 1), (306, .iinc 4 1, 3), (309, .goto (-42), 3), (312, .iinc 3 1, 3), (315, .goto (-74), 3), (318, .iconst 0, 1), (319, .istore_n 3, 1), (320, .iload_n 3, 1), (321, .aload_n 0, 1), (322, .getfield 7, 3), (325, .iconst 1, 1), (326, .iaload, 1), (327, .if_icmp .ge 49, 3), (330, .aload_n 0, 1), (331, .aload_n 0, 1), (332, .iload_n 3, 1), (333, .iconst 0, 1), (334, .invokevirtual 202, 3), (337, .bipush 39, 2), (339, .bipush 39, 2), (341, .invokevirtual 239, 3), (344, .ldc2_w 289, 3), (347, .lload_n 1, 1), (348, .lmul, 1), (349, .aload_n 0, 1), (350, .getfield 30, 3), (353, .iload_n 3, 1), (354, .laload, 1), (355, .ladd, 1), (356, .lstore_n 1, 1), (357, .ldc2_w 289, 3), (360, .lload_n 1, 1), (361, .lmul, 1), (362, .aload_n 0, 1), (363, .getfield 36, 3), (366, .iload_n 3, 1), (367, .laload, 1), (368, .ladd, 1), (369, .lstore_n 1, 1), (370, .iinc 3 1, 3), (373, .goto (-53), 3), (376, .lload_n 1, 1), (377, .lreturn, 1)]
theorem dzX8_digest : dz cX8_digest rwX8_digest := dz_all 0 (by decide +kernel)
def kX8_digest (live : am_E) (Ret : am_R) : am_code := [(0, am_const (.long 347) 3), (3, am_lstore 1 5 4), (4, am_const (.int 0) 5), (5, am_istore 3 5 6), (6, am_iload 3 7), (7, am_const (.int 6) 9), (9, am_if2 (fun x y => y ≤ x) 32 12), (12, am_const (.long 31) 15), (15, am_lload 1 16), (16, am_l2 (fun x y => x * y) 17), (17, am_aload 0 18), (18, am_getR live 8 0 21), (21, am_iload 3 22), (22, am_ald live 0 23), (23, am_i2l 24), (24, am_l2 (fun x y => x + y) 25), (25, am_lstore 1 5 26), (26, am_iinc 3 5 1 29), (29, am_goto 6), (32, am_const (.int 0) 33), (33, am_istore 3 5 34), (34, am_iload 3 35), (35, am_aload 0 36), (36, am_getR live 8 0 39), (39, am_const (.int 0) 40), (40, am_ald live 0 41), (41, am_if2 (fun x y => y ≤ x) 123 44), (44, am_const (.long 31) 47), (47, am_lload 1 48), (48, am_l2 (fun x y => x * y) 49), (49, am_aload 0 50), (50, am_getR live 8 0 53), (53, am_const (.int 10) 55), (55, am_iload 3 56), (56, am_i2 (fun x y => x + y) 57), (57, am_ald live 0 58), (58, am_i2l 59), (59, am_l2 (fun x y => x + y) 60), (60, am_lstore 1 5 61), (61, am_const (.long 31) 64), (64, am_lload 1 65), (65, am_l2 (fun x y => x * y) 66), (66, am_aload 0 67), (67, am_getR live 8 0 70), (70, am_const (.int 22) 72), (72, am_iload 3 73), (73, am_i2 (fun x y => x + y) 74), (74, am_ald live 0 75), (75, am_i2l 76), (76, am_l2 (fun x y => x + y) 77), (77, am_lstore 1 5 78), (78, am_const (.int 0) 79), (79, am_istore 4 5 81), (81, am_iload 4 83), (83, am_const (.int 40) 85), (85, am_if2 (fun x y => y ≤ x) 117 88), (88, am_const (.long 31) 91), (91, am_lload 1 92), (92, am_l2 (fun x y => x * y) 93), (93, am_aload 0 94), (94, am_getR live 8 0 97), (97, am_const (.int 34) 99), (99, am_const (.int 40) 101), (101, am_iload 3 102), (102, am_i2 (fun x y => x * y) 103), (103, am_i2 (fun x y => x + y) 104), (104, am_iload 4 106), (106, am_i2 (fun x y => x + y) 107), (107, am_ald live 0 108), (108, am_i2l 109), (109, am_l2 (fun x y => x + y) 110), (110, am_lstore 1 5 111), (111, am_iinc 4 5 1 114), (114, am_goto 81), (117, am_iinc 3 5 1 120), (120, am_goto 34), (123, am_const (.int 0) 124), (124, am_istore 3 5 125), (125, am_iload 3 126), (126, am_const (.int 8) 128), (128, am_aload 0 129), (129, am_getR live 8 0 132), (132, am_const (.int 1) 133), (133, am_ald live 0 134), (134, am_i2 (fun x y => x * y) 135), (135, am_if2 (fun x y => y ≤ x) 162 138), (138, am_const (.long 31) 141), (141, am_lload 1 142), (142, am_l2 (fun x y => x * y) 143), (143, am_aload 0 144), (144, am_getR live 8 0 147), (147, am_const (.int 2838) 150), (150, am_iload 3 151), (151, am_i2 (fun x y => x + y) 152), (152, am_ald live 0 153), (153, am_i2l 154), (154, am_l2 (fun x y => x + y) 155), (155, am_lstore 1 5 156), (156, am_iinc 3 5 1 159), (159, am_goto 125), (162, am_const (.int 0) 163), (163, am_istore 3 5 164), (164, am_iload 3 165), (165, am_const (.int 6) 167), (167, am_aload 0 168), (168, am_getR live 8 0 171), (171, am_const (.int 2) 172), (172, am_ald live 0 173), (173, am_i2 (fun x y => x * y) 174), (174, am_if2 (fun x y => y ≤ x) 201 177), (177, am_const (.long 31) 180), (180, am_lload 1 181), (181, am_l2 (fun x y => x * y) 182), (182, am_aload 0 183), (183, am_getR live 8 0 186), (186, am_const (.int 2478) 189), (189, am_iload 3 190), (190, am_i2 (fun x y => x + y) 191), (191, am_ald live 0 192), (192, am_i2l 193), (193, am_l2 (fun x y => x + y) 194), (194, am_lstore 1 5 195), (195, am_iinc 3 5 1 198), (198, am_goto 164), (201, am_const (.int 0) 202), (202, am_istore 3 5 203), (203, am_iload 3 204), (204, am_const (.int 3) 205), (205, am_aload 0 206), (206, am_getR live 8 0 209), (209, am_const (.int 3) 210), (210, am_ald live 0 211), (211, am_i2 (fun x y => x * y) 212), (212, am_if2 (fun x y => y ≤ x) 239 215), (215, am_const (.long 31) 218), (218, am_lload 1 219), (219, am_l2 (fun x y => x * y) 220), (220, am_aload 0 221), (221, am_getR live 8 0 224), (224, am_const (.int 3078) 227), (227, am_iload 3 228), (228, am_i2 (fun x y => x + y) 229), (229, am_ald live 0 230), (230, am_i2l 231), (231, am_l2 (fun x y => x + y) 232), (232, am_lstore 1 5 233), (233, am_iinc 3 5 1 236), (236, am_goto 203), (239, am_const (.int 0) 240), (240, am_istore 3 5 241), (241, am_iload 3 242), (242, am_const (.int 5) 243), (243, am_if2 (fun x y => y ≤ x) 318 246), (246, am_const (.long 31) 249), (249, am_lload 1 250), (250, am_l2 (fun x y => x * y) 251), (251, am_aload 0 252), (252, am_getR live 8 0 255), (255, am_const (.int 3508) 258), (258, am_iload 3 259), (259, am_i2 (fun x y => x + y) 260), (260, am_ald live 0 261), (261, am_i2l 262), (262, am_l2 (fun x y => x + y) 263), (263, am_lstore 1 5 264), (264, am_const (.int 0) 265), (265, am_istore 4 5 267), (267, am_iload 4 269), (269, am_aload 0 270), (270, am_getR live 8 0 273), (273, am_const (.int 3508) 276), (276, am_iload 3 277), (277, am_i2 (fun x y => x + y) 278), (278, am_ald live 0 279), (279, am_if2 (fun x y => y ≤ x) 312 282), (282, am_const (.long 31) 285), (285, am_lload 1 286), (286, am_l2 (fun x y => x * y) 287), (287, am_aload 0 288), (288, am_getR live 8 0 291), (291, am_const (.int 3258) 294), (294, am_const (.int 50) 296), (296, am_iload 3 297), (297, am_i2 (fun x y => x * y) 298), (298, am_i2 (fun x y => x + y) 299), (299, am_iload 4 301), (301, am_i2 (fun x y => x + y) 302), (302, am_ald live 0 303), (303, am_i2l 304), (304, am_l2 (fun x y => x + y) 305), (305, am_lstore 1 5 306), (306, am_iinc 4 5 1 309), (309, am_goto 267), (312, am_iinc 3 5 1 315), (315, am_goto 241), (318, am_const (.int 0) 319), (319, am_istore 3 5 320), (320, am_iload 3 321), (321, am_aload 0 322), (322, am_getR live 8 0 325), (325, am_const (.int 1) 326), (326, am_ald live 0 327), (327, am_if2 (fun x y => y ≤ x) 376 330), (330, am_aload 0 331), (331, am_aload 0 332), (332, am_iload 3 333), (333, am_const (.int 0) 334), (334, am_callV live 8 2 TX8_ofLoan 337), (337, am_const (.int 39) 339), (339, am_const (.int 39) 341), (341, am_callV live 8 3 TX8_run 344), (344, am_const (.long 31) 347), (347, am_lload 1 348), (348, am_l2 (fun x y => x * y) 349), (349, am_aload 0 350), (350, am_getR live 8 15 353), (353, am_iload 3 354), (354, am_lald live 1 355), (355, am_l2 (fun x y => x + y) 356), (356, am_lstore 1 5 357), (357, am_const (.long 31) 360), (360, am_lload 1 361), (361, am_l2 (fun x y => x * y) 362), (362, am_aload 0 363), (363, am_getR live 8 17 366), (366, am_iload 3 367), (367, am_lald live 1 368), (368, am_l2 (fun x y => x + y) 369), (369, am_lstore 1 5 370), (370, am_iinc 3 5 1 373), (373, am_goto 320), (376, am_lload 1 377), (377, am_retL Ret)]
theorem koX8_digest (live : am_E) (Ret : am_R) : ∀ q ∈ kX8_digest live Ret, am_ok RX8 cX8_digest 5 (some .long) 10 253 live Ret q.1 q.2 :=
  am_kz dzX8_digest <|
  am_kd (fun d => ak_ldc2 wd_1305 d rfl) <|
  am_kd (fun d => ak_lstore_n d rfl rfl) <|
  am_kd (fun d => ak_iconst d (by decide +kernel) rfl) <|
  am_kd (fun d => ak_istore_n d rfl rfl) <|
  am_kd (fun d => ak_iload_n d rfl rfl) <|
  am_kd (fun d => ak_bipush d (by decide +kernel) rfl) <|
  am_kd (fun d => ak_icmp_ge d (by decide +kernel) rfl) <|
  am_kd (fun d => ak_ldc2 wd_1306 d rfl) <|
  am_kd (fun d => ak_lload_n d rfl rfl) <|
  am_kd (fun d => ak_lmul d rfl) <|
  am_kd (fun d => ak_aload_n d rfl rfl) <|
  am_kd (fun d => ak_getR (C := RX8) (T := TX8) (N := 27) rfl inX8w (by decide) rfl rfl rfl wd_895 d rfl) <|
  am_kd (fun d => ak_iload_n d rfl rfl) <|
  am_kd (fun d => ak_iald (t := 0) (fun _ => rfl) rfl d rfl) <|
  am_kd (fun d => ak_i2l d rfl) <|
  am_kd (fun d => ak_ladd d rfl) <|
  am_kd (fun d => ak_lstore_n d rfl rfl) <|
  am_kd (fun d => ak_iinc d (by decide +kernel) rfl) <|
  am_kd (fun d => ak_goto d (by decide +kernel)) <|
  am_kd (fun d => ak_iconst d (by decide +kernel) rfl) <|
  am_kd (fun d => ak_istore_n d rfl rfl) <|
  am_kd (fun d => ak_iload_n d rfl rfl) <|
  am_kd (fun d => ak_aload_n d rfl rfl) <|
  am_kd (fun d => ak_getR (C := RX8) (T := TX8) (N := 27) rfl inX8w (by decide) rfl rfl rfl wd_895 d rfl) <|
  am_kd (fun d => ak_iconst d (by decide +kernel) rfl) <|
  am_kd (fun d => ak_iald (t := 0) (fun _ => rfl) rfl d rfl) <|
  am_kd (fun d => ak_icmp_ge d (by decide +kernel) rfl) <|
  am_kd (fun d => ak_ldc2 wd_1306 d rfl) <|
  am_kd (fun d => ak_lload_n d rfl rfl) <|
  am_kd (fun d => ak_lmul d rfl) <|
  am_kd (fun d => ak_aload_n d rfl rfl) <|
  am_kd (fun d => ak_getR (C := RX8) (T := TX8) (N := 27) rfl inX8w (by decide) rfl rfl rfl wd_895 d rfl) <|
  am_kd (fun d => ak_bipush d (by decide +kernel) rfl) <|
  am_kd (fun d => ak_iload_n d rfl rfl) <|
  am_kd (fun d => ak_iadd d rfl) <|
  am_kd (fun d => ak_iald (t := 0) (fun _ => rfl) rfl d rfl) <|
  am_kd (fun d => ak_i2l d rfl) <|
  am_kd (fun d => ak_ladd d rfl) <|
  am_kd (fun d => ak_lstore_n d rfl rfl) <|
  am_kd (fun d => ak_ldc2 wd_1306 d rfl) <|
  am_kd (fun d => ak_lload_n d rfl rfl) <|
  am_kd (fun d => ak_lmul d rfl) <|
  am_kd (fun d => ak_aload_n d rfl rfl) <|
  am_kd (fun d => ak_getR (C := RX8) (T := TX8) (N := 27) rfl inX8w (by decide) rfl rfl rfl wd_895 d rfl) <|
  am_kd (fun d => ak_bipush d (by decide +kernel) rfl) <|
  am_kd (fun d => ak_iload_n d rfl rfl) <|
  am_kd (fun d => ak_iadd d rfl) <|
  am_kd (fun d => ak_iald (t := 0) (fun _ => rfl) rfl d rfl) <|
  am_kd (fun d => ak_i2l d rfl) <|
  am_kd (fun d => ak_ladd d rfl) <|
  am_kd (fun d => ak_lstore_n d rfl rfl) <|
  am_kd (fun d => ak_iconst d (by decide +kernel) rfl) <|
  am_kd (fun d => ak_istore d rfl) <|
  am_kd (fun d => ak_iload d rfl) <|
  am_kd (fun d => ak_bipush d (by decide +kernel) rfl) <|
  am_kd (fun d => ak_icmp_ge d (by decide +kernel) rfl) <|
  am_kd (fun d => ak_ldc2 wd_1306 d rfl) <|
  am_kd (fun d => ak_lload_n d rfl rfl) <|
  am_kd (fun d => ak_lmul d rfl) <|
  am_kd (fun d => ak_aload_n d rfl rfl) <|
  am_kd (fun d => ak_getR (C := RX8) (T := TX8) (N := 27) rfl inX8w (by decide) rfl rfl rfl wd_895 d rfl) <|
  am_kd (fun d => ak_bipush d (by decide +kernel) rfl) <|
  am_kd (fun d => ak_bipush d (by decide +kernel) rfl) <|
  am_kd (fun d => ak_iload_n d rfl rfl) <|
  am_kd (fun d => ak_imul d rfl) <|
  am_kd (fun d => ak_iadd d rfl) <|
  am_kd (fun d => ak_iload d rfl) <|
  am_kd (fun d => ak_iadd d rfl) <|
  am_kd (fun d => ak_iald (t := 0) (fun _ => rfl) rfl d rfl) <|
  am_kd (fun d => ak_i2l d rfl) <|
  am_kd (fun d => ak_ladd d rfl) <|
  am_kd (fun d => ak_lstore_n d rfl rfl) <|
  am_kd (fun d => ak_iinc d (by decide +kernel) rfl) <|
  am_kd (fun d => ak_goto d (by decide +kernel)) <|
  am_kd (fun d => ak_iinc d (by decide +kernel) rfl) <|
  am_kd (fun d => ak_goto d (by decide +kernel)) <|
  am_kd (fun d => ak_iconst d (by decide +kernel) rfl) <|
  am_kd (fun d => ak_istore_n d rfl rfl) <|
  am_kd (fun d => ak_iload_n d rfl rfl) <|
  am_kd (fun d => ak_bipush d (by decide +kernel) rfl) <|
  am_kd (fun d => ak_aload_n d rfl rfl) <|
  am_kd (fun d => ak_getR (C := RX8) (T := TX8) (N := 27) rfl inX8w (by decide) rfl rfl rfl wd_895 d rfl) <|
  am_kd (fun d => ak_iconst d (by decide +kernel) rfl) <|
  am_kd (fun d => ak_iald (t := 0) (fun _ => rfl) rfl d rfl) <|
  am_kd (fun d => ak_imul d rfl) <|
  am_kd (fun d => ak_icmp_ge d (by decide +kernel) rfl) <|
  am_kd (fun d => ak_ldc2 wd_1306 d rfl) <|
  am_kd (fun d => ak_lload_n d rfl rfl) <|
  am_kd (fun d => ak_lmul d rfl) <|
  am_kd (fun d => ak_aload_n d rfl rfl) <|
  am_kd (fun d => ak_getR (C := RX8) (T := TX8) (N := 27) rfl inX8w (by decide) rfl rfl rfl wd_895 d rfl) <|
  am_kd (fun d => ak_sipush d (by decide +kernel) rfl) <|
  am_kd (fun d => ak_iload_n d rfl rfl) <|
  am_kd (fun d => ak_iadd d rfl) <|
  am_kd (fun d => ak_iald (t := 0) (fun _ => rfl) rfl d rfl) <|
  am_kd (fun d => ak_i2l d rfl) <|
  am_kd (fun d => ak_ladd d rfl) <|
  am_kd (fun d => ak_lstore_n d rfl rfl) <|
  am_kd (fun d => ak_iinc d (by decide +kernel) rfl) <|
  am_kd (fun d => ak_goto d (by decide +kernel)) <|
  am_kd (fun d => ak_iconst d (by decide +kernel) rfl) <|
  am_kd (fun d => ak_istore_n d rfl rfl) <|
  am_kd (fun d => ak_iload_n d rfl rfl) <|
  am_kd (fun d => ak_bipush d (by decide +kernel) rfl) <|
  am_kd (fun d => ak_aload_n d rfl rfl) <|
  am_kd (fun d => ak_getR (C := RX8) (T := TX8) (N := 27) rfl inX8w (by decide) rfl rfl rfl wd_895 d rfl) <|
  am_kd (fun d => ak_iconst d (by decide +kernel) rfl) <|
  am_kd (fun d => ak_iald (t := 0) (fun _ => rfl) rfl d rfl) <|
  am_kd (fun d => ak_imul d rfl) <|
  am_kd (fun d => ak_icmp_ge d (by decide +kernel) rfl) <|
  am_kd (fun d => ak_ldc2 wd_1306 d rfl) <|
  am_kd (fun d => ak_lload_n d rfl rfl) <|
  am_kd (fun d => ak_lmul d rfl) <|
  am_kd (fun d => ak_aload_n d rfl rfl) <|
  am_kd (fun d => ak_getR (C := RX8) (T := TX8) (N := 27) rfl inX8w (by decide) rfl rfl rfl wd_895 d rfl) <|
  am_kd (fun d => ak_sipush d (by decide +kernel) rfl) <|
  am_kd (fun d => ak_iload_n d rfl rfl) <|
  am_kd (fun d => ak_iadd d rfl) <|
  am_kd (fun d => ak_iald (t := 0) (fun _ => rfl) rfl d rfl) <|
  am_kd (fun d => ak_i2l d rfl) <|
  am_kd (fun d => ak_ladd d rfl) <|
  am_kd (fun d => ak_lstore_n d rfl rfl) <|
  am_kd (fun d => ak_iinc d (by decide +kernel) rfl) <|
  am_kd (fun d => ak_goto d (by decide +kernel)) <|
  am_kd (fun d => ak_iconst d (by decide +kernel) rfl) <|
  am_kd (fun d => ak_istore_n d rfl rfl) <|
  am_kd (fun d => ak_iload_n d rfl rfl) <|
  am_kd (fun d => ak_iconst d (by decide +kernel) rfl) <|
  am_kd (fun d => ak_aload_n d rfl rfl) <|
  am_kd (fun d => ak_getR (C := RX8) (T := TX8) (N := 27) rfl inX8w (by decide) rfl rfl rfl wd_895 d rfl) <|
  am_kd (fun d => ak_iconst d (by decide +kernel) rfl) <|
  am_kd (fun d => ak_iald (t := 0) (fun _ => rfl) rfl d rfl) <|
  am_kd (fun d => ak_imul d rfl) <|
  am_kd (fun d => ak_icmp_ge d (by decide +kernel) rfl) <|
  am_kd (fun d => ak_ldc2 wd_1306 d rfl) <|
  am_kd (fun d => ak_lload_n d rfl rfl) <|
  am_kd (fun d => ak_lmul d rfl) <|
  am_kd (fun d => ak_aload_n d rfl rfl) <|
  am_kd (fun d => ak_getR (C := RX8) (T := TX8) (N := 27) rfl inX8w (by decide) rfl rfl rfl wd_895 d rfl) <|
  am_kd (fun d => ak_sipush d (by decide +kernel) rfl) <|
  am_kd (fun d => ak_iload_n d rfl rfl) <|
  am_kd (fun d => ak_iadd d rfl) <|
  am_kd (fun d => ak_iald (t := 0) (fun _ => rfl) rfl d rfl) <|
  am_kd (fun d => ak_i2l d rfl) <|
  am_kd (fun d => ak_ladd d rfl) <|
  am_kd (fun d => ak_lstore_n d rfl rfl) <|
  am_kd (fun d => ak_iinc d (by decide +kernel) rfl) <|
  am_kd (fun d => ak_goto d (by decide +kernel)) <|
  am_kd (fun d => ak_iconst d (by decide +kernel) rfl) <|
  am_kd (fun d => ak_istore_n d rfl rfl) <|
  am_kd (fun d => ak_iload_n d rfl rfl) <|
  am_kd (fun d => ak_iconst d (by decide +kernel) rfl) <|
  am_kd (fun d => ak_icmp_ge d (by decide +kernel) rfl) <|
  am_kd (fun d => ak_ldc2 wd_1306 d rfl) <|
  am_kd (fun d => ak_lload_n d rfl rfl) <|
  am_kd (fun d => ak_lmul d rfl) <|
  am_kd (fun d => ak_aload_n d rfl rfl) <|
  am_kd (fun d => ak_getR (C := RX8) (T := TX8) (N := 27) rfl inX8w (by decide) rfl rfl rfl wd_895 d rfl) <|
  am_kd (fun d => ak_sipush d (by decide +kernel) rfl) <|
  am_kd (fun d => ak_iload_n d rfl rfl) <|
  am_kd (fun d => ak_iadd d rfl) <|
  am_kd (fun d => ak_iald (t := 0) (fun _ => rfl) rfl d rfl) <|
  am_kd (fun d => ak_i2l d rfl) <|
  am_kd (fun d => ak_ladd d rfl) <|
  am_kd (fun d => ak_lstore_n d rfl rfl) <|
  am_kd (fun d => ak_iconst d (by decide +kernel) rfl) <|
  am_kd (fun d => ak_istore d rfl) <|
  am_kd (fun d => ak_iload d rfl) <|
  am_kd (fun d => ak_aload_n d rfl rfl) <|
  am_kd (fun d => ak_getR (C := RX8) (T := TX8) (N := 27) rfl inX8w (by decide) rfl rfl rfl wd_895 d rfl) <|
  am_kd (fun d => ak_sipush d (by decide +kernel) rfl) <|
  am_kd (fun d => ak_iload_n d rfl rfl) <|
  am_kd (fun d => ak_iadd d rfl) <|
  am_kd (fun d => ak_iald (t := 0) (fun _ => rfl) rfl d rfl) <|
  am_kd (fun d => ak_icmp_ge d (by decide +kernel) rfl) <|
  am_kd (fun d => ak_ldc2 wd_1306 d rfl) <|
  am_kd (fun d => ak_lload_n d rfl rfl) <|
  am_kd (fun d => ak_lmul d rfl) <|
  am_kd (fun d => ak_aload_n d rfl rfl) <|
  am_kd (fun d => ak_getR (C := RX8) (T := TX8) (N := 27) rfl inX8w (by decide) rfl rfl rfl wd_895 d rfl) <|
  am_kd (fun d => ak_sipush d (by decide +kernel) rfl) <|
  am_kd (fun d => ak_bipush d (by decide +kernel) rfl) <|
  am_kd (fun d => ak_iload_n d rfl rfl) <|
  am_kd (fun d => ak_imul d rfl) <|
  am_kd (fun d => ak_iadd d rfl) <|
  am_kd (fun d => ak_iload d rfl) <|
  am_kd (fun d => ak_iadd d rfl) <|
  am_kd (fun d => ak_iald (t := 0) (fun _ => rfl) rfl d rfl) <|
  am_kd (fun d => ak_i2l d rfl) <|
  am_kd (fun d => ak_ladd d rfl) <|
  am_kd (fun d => ak_lstore_n d rfl rfl) <|
  am_kd (fun d => ak_iinc d (by decide +kernel) rfl) <|
  am_kd (fun d => ak_goto d (by decide +kernel)) <|
  am_kd (fun d => ak_iinc d (by decide +kernel) rfl) <|
  am_kd (fun d => ak_goto d (by decide +kernel)) <|
  am_kd (fun d => ak_iconst d (by decide +kernel) rfl) <|
  am_kd (fun d => ak_istore_n d rfl rfl) <|
  am_kd (fun d => ak_iload_n d rfl rfl) <|
  am_kd (fun d => ak_aload_n d rfl rfl) <|
  am_kd (fun d => ak_getR (C := RX8) (T := TX8) (N := 27) rfl inX8w (by decide) rfl rfl rfl wd_895 d rfl) <|
  am_kd (fun d => ak_iconst d (by decide +kernel) rfl) <|
  am_kd (fun d => ak_iald (t := 0) (fun _ => rfl) rfl d rfl) <|
  am_kd (fun d => ak_icmp_ge d (by decide +kernel) rfl) <|
  am_kd (fun d => ak_aload_n d rfl rfl) <|
  am_kd (fun d => ak_aload_n d rfl rfl) <|
  am_kd (fun d => ak_iload_n d rfl rfl) <|
  am_kd (fun d => ak_iconst d (by decide +kernel) rfl) <|
  am_kd (fun d => ak_callV (C := RX8) (F := TX8) (N := 27) metX8_ofLoan rfl ⟨rfl, hy_X8_ofLoan⟩ (am_w5 wd_1154 wd_1156 wd_41 wd_67 wd_1157) (by decide) d rfl) <|
  am_kd (fun d => ak_bipush d (by decide +kernel) rfl) <|
  am_kd (fun d => ak_bipush d (by decide +kernel) rfl) <|
  am_kd (fun d => ak_callV (C := RX8) (F := TX8) (N := 27) metX8_run rfl ⟨rfl, hy_X8_run⟩ (am_w5 wd_1158 wd_1160 wd_42 wd_67 wd_1161) (by decide) d rfl) <|
  am_kd (fun d => ak_ldc2 wd_1306 d rfl) <|
  am_kd (fun d => ak_lload_n d rfl rfl) <|
  am_kd (fun d => ak_lmul d rfl) <|
  am_kd (fun d => ak_aload_n d rfl rfl) <|
  am_kd (fun d => ak_getR (C := RX8) (T := TX8) (N := 27) rfl inX8w (by decide) rfl rfl rfl wd_910 d rfl) <|
  am_kd (fun d => ak_iload_n d rfl rfl) <|
  am_kd (fun d => ak_lald (t := 1) (fun _ => rfl) rfl d rfl) <|
  am_kd (fun d => ak_ladd d rfl) <|
  am_kd (fun d => ak_lstore_n d rfl rfl) <|
  am_kd (fun d => ak_ldc2 wd_1306 d rfl) <|
  am_kd (fun d => ak_lload_n d rfl rfl) <|
  am_kd (fun d => ak_lmul d rfl) <|
  am_kd (fun d => ak_aload_n d rfl rfl) <|
  am_kd (fun d => ak_getR (C := RX8) (T := TX8) (N := 27) rfl inX8w (by decide) rfl rfl rfl wd_912 d rfl) <|
  am_kd (fun d => ak_iload_n d rfl rfl) <|
  am_kd (fun d => ak_lald (t := 1) (fun _ => rfl) rfl d rfl) <|
  am_kd (fun d => ak_ladd d rfl) <|
  am_kd (fun d => ak_lstore_n d rfl rfl) <|
  am_kd (fun d => ak_iinc d (by decide +kernel) rfl) <|
  am_kd (fun d => ak_goto d (by decide +kernel)) <|
  am_kd (fun d => ak_lload_n d rfl rfl) <|
  am_kd (fun d => ak_retL d) <| am_kdn
def TX8_digest : am_T := fun live as M R => match as with
  | [.ref n] => am_mn live ∧ n = 200 ∧ r_I M ∧ ∀ v M', r_sc M M' → r_I M' → R (some (.long v)) M'
  | _ => False
def JX8_digest : am_E → List Value → am_M → am_R → am_inv := fun live as M0 _ pc => match as with
  | [.ref n] => (match pc with
    | 6 => some ([0, 1, 3], fun u L st M => ∃ (v : Int64) (i : Int32), L = [(0, .ref 200), (1, .long v), (3, .int i)] ∧ st = [] ∧ u = (9000 + (7 - i.toInt).toNat, 0) ∧ 0 ≤ i.toInt ∧ M = M0)
    | 34 => some ([0, 1, 3], fun u L st M => ∃ (v : Int64) (i : Int32), L = [(0, .ref 200), (1, .long v), (3, .int i)] ∧ st = [] ∧ u = (8000 + (13 - i.toInt).toNat * 2, 0) ∧ 0 ≤ i.toInt ∧ M = M0)
    | 81 => some ([0, 1, 3, 4], fun u L st M => ∃ (v : Int64) (i j : Int32), L = [(0, .ref 200), (1, .long v), (3, .int i), (4, .int j)] ∧ st = [] ∧ u = (8000 + ((13 - i.toInt).toNat * 2 - 1), (41 - j.toInt).toNat) ∧ (0 ≤ i.toInt ∧ i.toInt < 12) ∧ 0 ≤ j.toInt ∧ M = M0)
    | 125 => some ([0, 1, 3], fun u L st M => ∃ (v : Int64) (i : Int32), L = [(0, .ref 200), (1, .long v), (3, .int i)] ∧ st = [] ∧ u = (7000 + (300 - i.toInt).toNat, 0) ∧ 0 ≤ i.toInt ∧ M = M0)
    | 164 => some ([0, 1, 3], fun u L st M => ∃ (v : Int64) (i : Int32), L = [(0, .ref 200), (1, .long v), (3, .int i)] ∧ st = [] ∧ u = (6000 + (400 - i.toInt).toNat, 0) ∧ 0 ≤ i.toInt ∧ M = M0)
    | 203 => some ([0, 1, 3], fun u L st M => ∃ (v : Int64) (i : Int32), L = [(0, .ref 200), (1, .long v), (3, .int i)] ∧ st = [] ∧ u = (5000 + (200 - i.toInt).toNat, 0) ∧ 0 ≤ i.toInt ∧ M = M0)
    | 241 => some ([0, 1, 3], fun u L st M => ∃ (v : Int64) (i : Int32), L = [(0, .ref 200), (1, .long v), (3, .int i)] ∧ st = [] ∧ u = (4000 + (6 - i.toInt).toNat * 2, 0) ∧ 0 ≤ i.toInt ∧ M = M0)
    | 267 => some ([0, 1, 3, 4], fun u L st M => ∃ (v : Int64) (i j : Int32), L = [(0, .ref 200), (1, .long v), (3, .int i), (4, .int j)] ∧ st = [] ∧ u = (4000 + ((6 - i.toInt).toNat * 2 - 1), (51 - j.toInt).toNat) ∧ (0 ≤ i.toInt ∧ i.toInt < 5) ∧ 0 ≤ j.toInt ∧ M = M0)
    | 320 => some ([0, 1, 3], fun u L st M => ∃ (v : Int64) (i : Int32), L = [(0, .ref 200), (1, .long v), (3, .int i)] ∧ st = [] ∧ u = ((31 - i.toInt).toNat, 0) ∧ 0 ≤ i.toInt ∧ r_sc M0 M ∧ r_I M)
    | _ => none)
  | _ => none
set_option maxRecDepth 100000 in
set_option maxHeartbeats 4000000 in
theorem metX8_digest : am_Met yX8_digest cX8_digest 5 (some .long) (10) (253) TX8_digest := by
  refine am_met (own := RX8) (by decide +kernel) rfl kX8_digest koX8_digest 150 JX8_digest ?_ ?_
  · intro live as M Ret h
    unfold TX8_digest at h
    split at h
    · next n =>
      refine ⟨Nat.le_of_ble_eq_true rfl, ?_⟩
      change am_wp _ _ _ _ [(0, Value.ref n)] _ _
      obtain ⟨hmn, rfl, hR, h⟩ := h
      have hmn2 := hmn
      obtain ⟨i1, i2, rfl⟩ := hmn2
      have l201 : am_len 201 = 3760 := rfl
      have n0 := hR.n0
      have n1 := hR.n1
      have n030 : 0 ≤ (M.1 201 0).toInt ∧ (M.1 201 0).toInt ≤ 30 := ⟨n0.1, by omega⟩
      repeat' (first | (with_reducible exact hmn) | (with_reducible exact hR) | (with_reducible exact n030) | (with_reducible exact n1) | apply And.intro | exact rfl | ((with_reducible change r_I _); (with_reducible assumption)) | (intro hx; exact absurd hx (by decide)) | (intro hx; exact absurd (by decide) hx) | decide | intro hx | (refine Exists.intro _ (And.intro rfl ?_)))
      all_goals try first | (with_reducible change am_tI _ _) | (change Ret _ _) | (change Ret _ _ _) | (change Exists _)
      all_goals try dsimp only at *
      all_goals try (with_reducible exact absurd ‹(1000 : Int64) = 0› am_z1000)
      all_goals first | exact ⟨_, _, _, rfl, rfl, rfl, by decide, rfl⟩ | (change r_I _; (repeat' (first | (with_reducible assumption) | ((with_reducible change r_I (am_wJ _ _ _ _)); refine r_I.wJ ?_) | ((with_reducible change r_I (am_wI _ _ _ _)); refine r_I.wI ?_ rfl)))) | ((with_reducible change Ret _ _); exact h _ _ (by (repeat' (first | (with_reducible exact r_sc.rf) | (with_reducible assumption) | ((with_reducible change r_sc _ (am_wI _ _ _ _)); refine r_sc.wI ?_ rfl) | ((with_reducible change r_sc _ (am_wJ _ _ _ _)); refine r_sc.wJ ?_ rfl) | (refine r_sc.tr ?_ (by with_reducible assumption))))) (by (repeat' (first | (with_reducible assumption) | ((with_reducible change r_I (am_wJ _ _ _ _)); refine r_I.wJ ?_) | ((with_reducible change r_I (am_wI _ _ _ _)); refine r_I.wI ?_ rfl))))) | skip
    · exact h.elim
  · intro live as M0 Ret h k pc I hI L st M hi
    unfold TX8_digest at h
    split at h
    · next n =>
      obtain ⟨hmn, rfl, hR, h⟩ := h
      have hmn2 := hmn
      obtain ⟨i1, i2, rfl⟩ := hmn2
      have l201 : am_len 201 = 3760 := rfl
      have w0 : 0 ≤ (0 : Int32).toInt ∧ (0 : Int32).toInt ≤ 7 := ⟨by decide, by decide⟩
      have w6 : 0 ≤ (6 : Int32).toInt ∧ (6 : Int32).toInt ≤ 7 := ⟨by decide, by decide⟩
      have x0l : (0 : Int32).toInt < (am_len 201 : Int) := by rw [l201]; decide
      have x1l : (1 : Int32).toInt < (am_len 201 : Int) := by rw [l201]; decide
      have x2l : (2 : Int32).toInt < (am_len 201 : Int) := by rw [l201]; decide
      have x3l : (3 : Int32).toInt < (am_len 201 : Int) := by rw [l201]; decide
      have x4l : (4 : Int32).toInt < (am_len 201 : Int) := by rw [l201]; decide
      change (match pc with | 6 => _ | 34 => _ | 81 => _ | 125 => _ | 164 => _ | 203 => _ | 241 => _ | 267 => _ | 320 => _ | _ => none) = _ at hI
      split at hI
      · cases hI
        obtain ⟨v, i, rfl, rfl, rfl, e1, rfl⟩ := hi
        by_cases hz : (6 : Int32) ≤ i
        · skip
          repeat' (first | apply And.intro | exact rfl | (intro hx; with_reducible exact absurd hz hx) | intro hx | (refine Exists.intro _ (And.intro rfl ?_)))
          all_goals try first | (with_reducible change am_tI _ _) | (change Ret _ _) | (change Ret _ _ _) | (change Exists _)
          all_goals try dsimp only at *
          all_goals try (with_reducible exact absurd ‹(1000 : Int64) = 0› am_z1000)
          all_goals exact ⟨_, am_lt_l (by simp only [Int32.reduceToInt]; omega), _, _, rfl, rfl, rfl, by decide, rfl⟩
        · have hz2 := hz
          simp only [i_le, Int32.reduceToInt] at hz2
          have hi := i_inc (x := i) (by omega) (by omega)
          repeat' (first | apply And.intro | exact rfl | (intro hx; with_reducible exact absurd hx hz) | intro hx | (refine Exists.intro _ (And.intro rfl ?_)))
          all_goals try first | (with_reducible change am_tI _ _) | (change Ret _ _) | (change Ret _ _ _) | (change Exists _)
          all_goals try dsimp only at *
          all_goals try (with_reducible exact absurd ‹(1000 : Int64) = 0› am_z1000)
          all_goals first
            | omega
            | (rw [l201]; omega)
            | exact ⟨_, am_lt_l (by omega), _, _, rfl, rfl, rfl, by omega, rfl⟩
      · cases hI
        obtain ⟨v, i, rfl, rfl, rfl, e1, rfl⟩ := hi
        have n0 : 0 ≤ (M.1 201 (Int32.toNatClampNeg 0)).toInt ∧ (M.1 201 (Int32.toNatClampNeg 0)).toInt ≤ 12 := hR.n0
        by_cases hz : M.1 201 (Int32.toNatClampNeg 0) ≤ i
        · skip
          repeat' (first | (with_reducible exact x0l) | apply And.intro | exact rfl | (intro hx; with_reducible exact absurd hz hx) | (intro hx; exact absurd hx (by decide)) | (intro hx; exact absurd (by decide) hx) | decide | intro hx | (refine Exists.intro _ (And.intro rfl ?_)))
          all_goals try first | (with_reducible change am_tI _ _) | (change Ret _ _) | (change Ret _ _ _) | (change Exists _)
          all_goals try dsimp only at *
          all_goals try (with_reducible exact absurd ‹(1000 : Int64) = 0› am_z1000)
          all_goals exact ⟨_, am_lt_l (by simp only [Int32.reduceToInt]; omega), _, _, rfl, rfl, rfl, by decide, rfl⟩
        · have hz2 := hz
          simp only [i_le] at hz2
          have e10 := r_off (c := 10) (x := i) ⟨by decide, by decide⟩ ⟨by omega, by omega⟩
          have e22 := r_off (c := 22) (x := i) ⟨by decide, by decide⟩ ⟨by omega, by omega⟩
          simp only [Int32.reduceToInt] at e10 e22
          repeat' (first | (with_reducible exact x0l) | apply And.intro | exact rfl | (intro hx; with_reducible exact absurd hx hz) | (intro hx; exact absurd hx (by decide)) | (intro hx; exact absurd (by decide) hx) | decide | intro hx | (refine Exists.intro _ (And.intro rfl ?_)))
          all_goals try first | (with_reducible change am_tI _ _) | (change Ret _ _) | (change Ret _ _ _) | (change Exists _)
          all_goals try dsimp only at *
          all_goals try (with_reducible exact absurd ‹(1000 : Int64) = 0› am_z1000)
          all_goals first
            | omega
            | (rw [l201]; omega)
            | exact ⟨_, am_lt_l (by omega), _, _, _, rfl, rfl, rfl, ⟨e1, by omega⟩, by decide, rfl⟩
      · cases hI
        obtain ⟨v, i, j, rfl, rfl, rfl, ⟨e1, e4⟩, e5, rfl⟩ := hi
        have hi := i_inc (x := i) (by omega) (by omega)
        by_cases hz : (40 : Int32) ≤ j
        · skip
          repeat' (first | apply And.intro | exact rfl | (intro hx; with_reducible exact absurd hz hx) | intro hx | (refine Exists.intro _ (And.intro rfl ?_)))
          all_goals try first | (with_reducible change am_tI _ _) | (change Ret _ _) | (change Ret _ _ _) | (change Exists _)
          all_goals try dsimp only at *
          all_goals try (with_reducible exact absurd ‹(1000 : Int64) = 0› am_z1000)
          all_goals exact ⟨_, am_lt_l (by omega), _, _, rfl, rfl, rfl, by omega, rfl⟩
        · have hz2 := hz
          simp only [i_le, Int32.reduceToInt] at hz2
          have hj := i_inc (x := j) (by omega) (by omega)
          have e40 := r_mul (c := 40) (x := i) ⟨by decide, by decide⟩ ⟨by omega, by omega⟩
          simp only [Int32.reduceToInt] at e40
          have ea := r_off (c := 34) (x := 40 * i) ⟨by decide, by decide⟩ ⟨by omega, by omega⟩
          simp only [e40, Int32.reduceToInt] at ea
          have eb := r_off (c := 34 + 40 * i) (x := j) ⟨by omega, by omega⟩ ⟨by omega, by omega⟩
          repeat' (first | apply And.intro | exact rfl | (intro hx; with_reducible exact absurd hx hz) | intro hx | (refine Exists.intro _ (And.intro rfl ?_)))
          all_goals try first | (with_reducible change am_tI _ _) | (change Ret _ _) | (change Ret _ _ _) | (change Exists _)
          all_goals try dsimp only at *
          all_goals try (with_reducible exact absurd ‹(1000 : Int64) = 0› am_z1000)
          all_goals first
            | omega
            | (rw [l201]; omega)
            | exact ⟨_, am_lt_r (by omega), _, _, _, rfl, rfl, rfl, ⟨e1, e4⟩, by omega, rfl⟩
      · cases hI
        obtain ⟨v, i, rfl, rfl, rfl, e1, rfl⟩ := hi
        have n1 : 0 ≤ (M.1 201 (Int32.toNatClampNeg 1)).toInt ∧ (M.1 201 (Int32.toNatClampNeg 1)).toInt ≤ 30 := hR.n1
        have em := r_mul (c := 8) (x := M.1 201 (Int32.toNatClampNeg 1)) ⟨by decide, by decide⟩ ⟨n1.1, by omega⟩
        simp only [Int32.reduceToInt] at em
        by_cases hz : 8 * M.1 201 (Int32.toNatClampNeg 1) ≤ i
        · skip
          repeat' (first | (with_reducible exact x1l) | apply And.intro | exact rfl | (intro hx; with_reducible exact absurd hz hx) | (intro hx; exact absurd hx (by decide)) | (intro hx; exact absurd (by decide) hx) | decide | intro hx | (refine Exists.intro _ (And.intro rfl ?_)))
          all_goals try first | (with_reducible change am_tI _ _) | (change Ret _ _) | (change Ret _ _ _) | (change Exists _)
          all_goals try dsimp only at *
          all_goals try (with_reducible exact absurd ‹(1000 : Int64) = 0› am_z1000)
          all_goals exact ⟨_, am_lt_l (by simp only [Int32.reduceToInt]; omega), _, _, rfl, rfl, rfl, by decide, rfl⟩
        · have hz2 := hz
          simp only [i_le] at hz2
          have hi := i_inc (x := i) (by omega) (by omega)
          have eo := r_off (c := 2838) (x := i) ⟨by decide, by decide⟩ ⟨by omega, by omega⟩
          simp only [Int32.reduceToInt] at eo
          repeat' (first | (with_reducible exact x1l) | apply And.intro | exact rfl | (intro hx; with_reducible exact absurd hx hz) | (intro hx; exact absurd hx (by decide)) | (intro hx; exact absurd (by decide) hx) | decide | intro hx | (refine Exists.intro _ (And.intro rfl ?_)))
          all_goals try first | (with_reducible change am_tI _ _) | (change Ret _ _) | (change Ret _ _ _) | (change Exists _)
          all_goals try dsimp only at *
          all_goals try (with_reducible exact absurd ‹(1000 : Int64) = 0› am_z1000)
          all_goals first
            | omega
            | (rw [l201]; omega)
            | exact ⟨_, am_lt_l (by omega), _, _, rfl, rfl, rfl, by omega, rfl⟩
      · cases hI
        obtain ⟨v, i, rfl, rfl, rfl, e1, rfl⟩ := hi
        have n2 : 0 ≤ (M.1 201 (Int32.toNatClampNeg 2)).toInt ∧ (M.1 201 (Int32.toNatClampNeg 2)).toInt ≤ 60 := hR.n2
        have em := r_mul (c := 6) (x := M.1 201 (Int32.toNatClampNeg 2)) ⟨by decide, by decide⟩ ⟨n2.1, by omega⟩
        simp only [Int32.reduceToInt] at em
        by_cases hz : 6 * M.1 201 (Int32.toNatClampNeg 2) ≤ i
        · skip
          repeat' (first | (with_reducible exact x2l) | apply And.intro | exact rfl | (intro hx; with_reducible exact absurd hz hx) | (intro hx; exact absurd hx (by decide)) | (intro hx; exact absurd (by decide) hx) | decide | intro hx | (refine Exists.intro _ (And.intro rfl ?_)))
          all_goals try first | (with_reducible change am_tI _ _) | (change Ret _ _) | (change Ret _ _ _) | (change Exists _)
          all_goals try dsimp only at *
          all_goals try (with_reducible exact absurd ‹(1000 : Int64) = 0› am_z1000)
          all_goals exact ⟨_, am_lt_l (by simp only [Int32.reduceToInt]; omega), _, _, rfl, rfl, rfl, by decide, rfl⟩
        · have hz2 := hz
          simp only [i_le] at hz2
          have hi := i_inc (x := i) (by omega) (by omega)
          have eo := r_off (c := 2478) (x := i) ⟨by decide, by decide⟩ ⟨by omega, by omega⟩
          simp only [Int32.reduceToInt] at eo
          repeat' (first | (with_reducible exact x2l) | apply And.intro | exact rfl | (intro hx; with_reducible exact absurd hx hz) | (intro hx; exact absurd hx (by decide)) | (intro hx; exact absurd (by decide) hx) | decide | intro hx | (refine Exists.intro _ (And.intro rfl ?_)))
          all_goals try first | (with_reducible change am_tI _ _) | (change Ret _ _) | (change Ret _ _ _) | (change Exists _)
          all_goals try dsimp only at *
          all_goals try (with_reducible exact absurd ‹(1000 : Int64) = 0› am_z1000)
          all_goals first
            | omega
            | (rw [l201]; omega)
            | exact ⟨_, am_lt_l (by omega), _, _, rfl, rfl, rfl, by omega, rfl⟩
      · cases hI
        obtain ⟨v, i, rfl, rfl, rfl, e1, rfl⟩ := hi
        have n3 : 0 ≤ (M.1 201 (Int32.toNatClampNeg 3)).toInt ∧ (M.1 201 (Int32.toNatClampNeg 3)).toInt ≤ 60 := hR.n3
        have em := r_mul (c := 3) (x := M.1 201 (Int32.toNatClampNeg 3)) ⟨by decide, by decide⟩ ⟨n3.1, by omega⟩
        simp only [Int32.reduceToInt] at em
        by_cases hz : 3 * M.1 201 (Int32.toNatClampNeg 3) ≤ i
        · skip
          repeat' (first | (with_reducible exact x3l) | apply And.intro | exact rfl | (intro hx; with_reducible exact absurd hz hx) | (intro hx; exact absurd hx (by decide)) | (intro hx; exact absurd (by decide) hx) | decide | intro hx | (refine Exists.intro _ (And.intro rfl ?_)))
          all_goals try first | (with_reducible change am_tI _ _) | (change Ret _ _) | (change Ret _ _ _) | (change Exists _)
          all_goals try dsimp only at *
          all_goals try (with_reducible exact absurd ‹(1000 : Int64) = 0› am_z1000)
          all_goals exact ⟨_, am_lt_l (by simp only [Int32.reduceToInt]; omega), _, _, rfl, rfl, rfl, by decide, rfl⟩
        · have hz2 := hz
          simp only [i_le] at hz2
          have hi := i_inc (x := i) (by omega) (by omega)
          have eo := r_off (c := 3078) (x := i) ⟨by decide, by decide⟩ ⟨by omega, by omega⟩
          simp only [Int32.reduceToInt] at eo
          repeat' (first | (with_reducible exact x3l) | apply And.intro | exact rfl | (intro hx; with_reducible exact absurd hx hz) | (intro hx; exact absurd hx (by decide)) | (intro hx; exact absurd (by decide) hx) | decide | intro hx | (refine Exists.intro _ (And.intro rfl ?_)))
          all_goals try first | (with_reducible change am_tI _ _) | (change Ret _ _) | (change Ret _ _ _) | (change Exists _)
          all_goals try dsimp only at *
          all_goals try (with_reducible exact absurd ‹(1000 : Int64) = 0› am_z1000)
          all_goals first
            | omega
            | (rw [l201]; omega)
            | exact ⟨_, am_lt_l (by omega), _, _, rfl, rfl, rfl, by omega, rfl⟩
      · cases hI
        obtain ⟨v, i, rfl, rfl, rfl, e1, rfl⟩ := hi
        by_cases hz : (5 : Int32) ≤ i
        · skip
          repeat' (first | apply And.intro | exact rfl | (intro hx; with_reducible exact absurd hz hx) | intro hx | (refine Exists.intro _ (And.intro rfl ?_)))
          all_goals try first | (with_reducible change am_tI _ _) | (change Ret _ _) | (change Ret _ _ _) | (change Exists _)
          all_goals try dsimp only at *
          all_goals try (with_reducible exact absurd ‹(1000 : Int64) = 0› am_z1000)
          all_goals exact ⟨_, am_lt_l (by simp only [Int32.reduceToInt]; omega), _, _, rfl, rfl, rfl, by decide, r_sc.rf, hR⟩
        · have hz2 := hz
          simp only [i_le, Int32.reduceToInt] at hz2
          have ea := r_off (c := 3508) (x := i) ⟨by decide, by decide⟩ ⟨by omega, by omega⟩
          simp only [Int32.reduceToInt] at ea
          repeat' (first | apply And.intro | exact rfl | (intro hx; with_reducible exact absurd hx hz) | intro hx | (refine Exists.intro _ (And.intro rfl ?_)))
          all_goals try first | (with_reducible change am_tI _ _) | (change Ret _ _) | (change Ret _ _ _) | (change Exists _)
          all_goals try dsimp only at *
          all_goals try (with_reducible exact absurd ‹(1000 : Int64) = 0› am_z1000)
          all_goals first
            | omega
            | (rw [l201]; omega)
            | exact ⟨_, am_lt_l (by omega), _, _, _, rfl, rfl, rfl, ⟨e1, by omega⟩, by decide, rfl⟩
      · cases hI
        obtain ⟨v, i, j, rfl, rfl, rfl, ⟨e1, e4⟩, e5, rfl⟩ := hi
        have hi := i_inc (x := i) (by omega) (by omega)
        have ht5 : am_in i 5 := ⟨e1, by omega⟩
        have ea := r_off (c := 3508) (x := i) ⟨by decide, by decide⟩ ⟨by omega, by omega⟩
        simp only [Int32.reduceToInt] at ea
        have htx : (M.1 201 (3508 + i).toNatClampNeg).toInt ≤ 50 := by
          have q := hR.tx (g_cl ht5)
          have q2 := i_clamp (x := 3508 + i) (by omega)
          have q3 := i_clamp (x := i) e1
          rw [show (3508 + i).toNatClampNeg = 3508 + i.toNatClampNeg by omega]
          exact q.2
        by_cases hz : M.1 201 (3508 + i).toNatClampNeg ≤ j
        · skip
          repeat' (first | apply And.intro | exact rfl | (intro hx; with_reducible exact absurd hz hx) | intro hx | (refine Exists.intro _ (And.intro rfl ?_)))
          all_goals try first | (with_reducible change am_tI _ _) | (change Ret _ _) | (change Ret _ _ _) | (change Exists _)
          all_goals try dsimp only at *
          all_goals try (with_reducible exact absurd ‹(1000 : Int64) = 0› am_z1000)
          all_goals first
            | omega
            | (rw [l201]; omega)
            | exact ⟨_, am_lt_l (by omega), _, _, rfl, rfl, rfl, by omega, rfl⟩
        · have hz2 := hz
          simp only [i_le] at hz2
          have hj := i_inc (x := j) (by omega) (by omega)
          have e50 := r_mul (c := 50) (x := i) ⟨by decide, by decide⟩ ⟨by omega, by omega⟩
          simp only [Int32.reduceToInt] at e50
          have eb := r_off (c := 3258) (x := 50 * i) ⟨by decide, by decide⟩ ⟨by omega, by omega⟩
          simp only [e50, Int32.reduceToInt] at eb
          have ec := r_off (c := 3258 + 50 * i) (x := j) ⟨by omega, by omega⟩ ⟨by omega, by omega⟩
          repeat' (first | apply And.intro | exact rfl | (intro hx; with_reducible exact absurd hx hz) | intro hx | (refine Exists.intro _ (And.intro rfl ?_)))
          all_goals try first | (with_reducible change am_tI _ _) | (change Ret _ _) | (change Ret _ _ _) | (change Exists _)
          all_goals try dsimp only at *
          all_goals try (with_reducible exact absurd ‹(1000 : Int64) = 0› am_z1000)
          all_goals first
            | omega
            | (rw [l201]; omega)
            | exact ⟨_, am_lt_r (by omega), _, _, _, rfl, rfl, rfl, ⟨e1, e4⟩, by omega, rfl⟩
      · cases hI
        obtain ⟨v, i, rfl, rfl, rfl, e1, e2, e3⟩ := hi
        have n1 : 0 ≤ (M.1 201 (Int32.toNatClampNeg 1)).toInt ∧ (M.1 201 (Int32.toNatClampNeg 1)).toInt ≤ 30 := e3.n1
        have y39 : (39 : Int32).toInt ≤ 39 := by decide
        by_cases hz : M.1 201 (Int32.toNatClampNeg 1) ≤ i
        · skip
          repeat' (first | (with_reducible exact x1l) | apply And.intro | exact rfl | (intro hx; with_reducible exact absurd hz hx) | (intro hx; exact absurd hx (by decide)) | (intro hx; exact absurd (by decide) hx) | decide | intro hx | (refine Exists.intro _ (And.intro rfl ?_)))
          all_goals try first | (with_reducible change am_tI _ _) | (change Ret _ _) | (change Ret _ _ _) | (change Exists _)
          all_goals try dsimp only at *
          all_goals try (with_reducible exact absurd ‹(1000 : Int64) = 0› am_z1000)
          all_goals exact h _ _ e2 e3
        · have hz2 := hz
          simp only [i_le] at hz2
          have hl : am_in i 30 := ⟨e1, by omega⟩
          have hp := r_pers e3 hl
          have hi := i_inc (x := i) (by omega) (by omega)
          have x2 : i.toInt < ((30 : Nat) : Int) := by omega
          repeat' (first | (with_reducible exact x1l) | (with_reducible exact hmn) | (with_reducible exact hl) | (with_reducible exact hp) | (with_reducible exact w0) | (with_reducible exact y39) | (with_reducible exact e1) | (with_reducible exact e3) | apply And.intro | exact rfl | (intro hx; with_reducible exact absurd hx hz) | ((with_reducible change r_I _); (with_reducible assumption)) | (intro hx; exact absurd hx (by decide)) | (intro hx; exact absurd (by decide) hx) | decide | intro hx | (refine Exists.intro _ (And.intro rfl ?_)))
          all_goals try first | (with_reducible change am_tI _ _) | (change Ret _ _) | (change Ret _ _ _) | (change Exists _)
          all_goals try dsimp only at *
          all_goals try (with_reducible exact absurd ‹(1000 : Int64) = 0› am_z1000)
          all_goals first
            | (with_reducible exact x2)
            | exact x2
            | exact ⟨_, am_lt_l (by omega), _, _, rfl, rfl, rfl, by omega, by (repeat' (first | (with_reducible exact r_sc.rf) | (with_reducible assumption) | ((with_reducible change r_sc _ (am_wI _ _ _ _)); refine r_sc.wI ?_ rfl) | ((with_reducible change r_sc _ (am_wJ _ _ _ _)); refine r_sc.wJ ?_ rfl) | (refine r_sc.tr ?_ (by with_reducible assumption)))), by (repeat' (first | (with_reducible assumption) | ((with_reducible change r_I (am_wJ _ _ _ _)); refine r_I.wJ ?_) | ((with_reducible change r_I (am_wI _ _ _ _)); refine r_I.wI ?_ rfl)))⟩
      · cases hI
    · exact h.elim
