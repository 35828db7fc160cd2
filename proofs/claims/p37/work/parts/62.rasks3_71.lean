-- part 62.rasks3.lean.txt
section
/-! general: the reference's calls that ask, III -/
def rwX8_book : List dz_r := [(0, .iload_n 1, 1), (1, .i2l, 1), (2, .lconst 0, 1), (3, .ldc2_w 79, 3), (6, .invokestatic 66, 3), (9, .ifCond .eq 28, 3), (12, .iload_n 2, 1), (13, .invokestatic 72, 3), (16, .ifCond .eq 21, 3), (19, .iload_n 3, 1), (20, .invokestatic 72, 3), (23, .ifCond .eq 14, 3), (26, .iload 4, 2), (28, .i2l, 1), (29, .lconst 0, 1), (30, .lconst 1, 1), (31, .invokestatic 66, 3), (34, .ifCond .ne 7, 3), (37, .ldc2_w 237, 3), (40, .lreturn, 1), (41, .lconst 0, 1), (42, .lstore 5, 2), (44, .iconst 0, 1), (45, .istore 7, 2), (47, .iload 7, 2), (49, .aload_n 0, 1), (50, .getfield 7, 3), (53, .iconst 0, 1), (54, .iaload, 1), (55, .if_icmp .ge 77, 3), (58, .aload_n 0, 1), (59, .iload 7, 2), (61, .iload_n 2, 1), (62, .iload_n 3, 1), (63, .invokevirtual 239, 3), (66, .iconst 0, 1), (67, .istore 8, 2), (69, .iload 8, 2), (71, .aload_n 0, 1), (72, .getfield 7, 3), (75, .iconst 1, 1), (76, .iaload, 1), (77, .if_icmp .ge 49, 3), (80, .lload 5, 2), (82, .aload_n 0, 1), (83, .iload 8, 2), (85, .iconst 0, 1), (86, .invokevirtual 202, 3), (89, .iload 7, 2), (91, .if_icmp .ne 25, 3), (94, .aload_n 0, 1), (95, .iload 8, 2), (97, .bipush 6, 2), (99, .invokevirtual 202, 3), (102, .iload_n 1, 1), (103, .if_icmp .ne 13, 3), (106, .aload_n 0, 1), (107, .getfield 39, 3), (110, .iload 8, 2), (112, .laload, 1), (113, .goto 4, 3), (116, .lconst 0, 1), (117, .ladd, 1), (118, .lstore 5, 2), (120, .iinc 8 1, 3), (123, .goto (-54), 3), (126, .iinc 7 1, 3), (129, .goto (-82), 3), (132, .lconst 0, 1), (133, .lstore 7, 2), (135, .sipush 3513, 3), (138, .istore 9, 2), (140, .iload 9, 2), (142, .sipush 3513, 3), (145, .iconst 3, 1), (146, .aload_n 0, 1), (147, .getfield 7, 3), (150, .iconst 4, 1), (151, .iaload, 1), (152, .imul, 1), (153, .iadd, 1), (154, .if_icmp .ge 52, 3), (157, .lload 7, 2), (159, .aload_n 0, 1), (160, .getfield 7, 3), (163, .iload 9, 2), (165, .iaload, 1), (166, .iload_n 1, 1), (167, .if_icmp .ne 29, 3), (170, .aload_n 0, 1), (171, .getfield 7, 3), (174, .iload 9, 2), (176, .iconst 1, 1), (177, .iadd, 1), (178, .iaload, 1), (179, .iload_n 2, 1), (180, .if_icmp .gt 16, 3), (183, .aload_n 0, 1), (184, .getfield 7, 3), (187, .iload 9, 2), (189, .iconst 2, 1), (190, .iadd, 1), (191, .iaload, 1), (192, .i2l, 1), (193, .goto 4, 3), (196, .lconst 0, 1), (197, .ladd, 1), (198, .lstore 7, 2), (200, .iinc 9 3, 3), (203, .goto (-63), 3), (206, .iload 4, 2), (208, .ifCond .ne 8, 3), (211, .lload 5, 2), (213, .goto 20, 3), (216, .lload 7, 2), (218, .lload 5, 2), (220, .lcmp, 1), (221, .ifCond .le 11, 3), (224, .lload 7, 2), (226, .lload 5, 2), (228, .lsub, 1), (229, .goto 4, 3), (232, .lconst 0, 1), (233, .lreturn, 1)]
theorem dzX8_book : dz cX8_book rwX8_book := dz_all 0 (by decide +kernel)
def kX8_book (live : am_E) (Ret : am_R) : am_code := [(0, am_iload 1 1), (1, am_i2l 2), (2, am_const (.long 0) 3), (3, am_const (.long 3) 6), (6, am_callS live 3 TX8_in 9), (9, am_if1 (fun x => x = 0) 37 12), (12, am_iload 2 13), (13, am_callS live 1 TX8_isYear 16), (16, am_if1 (fun x => x = 0) 37 19), (19, am_iload 3 20), (20, am_callS live 1 TX8_isYear 23), (23, am_if1 (fun x => x = 0) 37 26), (26, am_iload 4 28), (28, am_i2l 29), (29, am_const (.long 0) 30), (30, am_const (.long 1) 31), (31, am_callS live 3 TX8_in 34), (34, am_if1 (fun x => x = 0) 37 41), (37, am_const (.long (-2)) 40), (40, am_retL Ret), (41, am_const (.long 0) 42), (42, am_lstore 5 10 44), (44, am_const (.int 0) 45), (45, am_istore 7 10 47), (47, am_iload 7 49), (49, am_aload 0 50), (50, am_getR live 8 0 53), (53, am_const (.int 0) 54), (54, am_ald live 0 55), (55, am_if2 (fun x y => y ≤ x) 132 58), (58, am_aload 0 59), (59, am_iload 7 61), (61, am_iload 2 62), (62, am_iload 3 63), (63, am_callV live 8 3 TX8_run 66), (66, am_const (.int 0) 67), (67, am_istore 8 10 69), (69, am_iload 8 71), (71, am_aload 0 72), (72, am_getR live 8 0 75), (75, am_const (.int 1) 76), (76, am_ald live 0 77), (77, am_if2 (fun x y => y ≤ x) 126 80), (80, am_lload 5 82), (82, am_aload 0 83), (83, am_iload 8 85), (85, am_const (.int 0) 86), (86, am_callV live 8 2 TX8_ofLoan 89), (89, am_iload 7 91), (91, am_if2 (fun x y => x = y) 94 116), (94, am_aload 0 95), (95, am_iload 8 97), (97, am_const (.int 6) 99), (99, am_callV live 8 2 TX8_ofLoan 102), (102, am_iload 1 103), (103, am_if2 (fun x y => x = y) 106 116), (106, am_aload 0 107), (107, am_getR live 8 18 110), (110, am_iload 8 112), (112, am_lald live 1 113), (113, am_goto 117), (116, am_const (.long 0) 117), (117, am_l2 (fun x y => x + y) 118), (118, am_lstore 5 10 120), (120, am_iinc 8 10 1 123), (123, am_goto 69), (126, am_iinc 7 10 1 129), (129, am_goto 47), (132, am_const (.long 0) 133), (133, am_lstore 7 10 135), (135, am_const (.int 3513) 138), (138, am_istore 9 10 140), (140, am_iload 9 142), (142, am_const (.int 3513) 145), (145, am_const (.int 3) 146), (146, am_aload 0 147), (147, am_getR live 8 0 150), (150, am_const (.int 4) 151), (151, am_ald live 0 152), (152, am_i2 (fun x y => x * y) 153), (153, am_i2 (fun x y => x + y) 154), (154, am_if2 (fun x y => y ≤ x) 206 157), (157, am_lload 7 159), (159, am_aload 0 160), (160, am_getR live 8 0 163), (163, am_iload 9 165), (165, am_ald live 0 166), (166, am_iload 1 167), (167, am_if2 (fun x y => x = y) 170 196), (170, am_aload 0 171), (171, am_getR live 8 0 174), (174, am_iload 9 176), (176, am_const (.int 1) 177), (177, am_i2 (fun x y => x + y) 178), (178, am_ald live 0 179), (179, am_iload 2 180), (180, am_if2 (fun x y => y < x) 196 183), (183, am_aload 0 184), (184, am_getR live 8 0 187), (187, am_iload 9 189), (189, am_const (.int 2) 190), (190, am_i2 (fun x y => x + y) 191), (191, am_ald live 0 192), (192, am_i2l 193), (193, am_goto 197), (196, am_const (.long 0) 197), (197, am_l2 (fun x y => x + y) 198), (198, am_lstore 7 10 200), (200, am_iinc 9 10 3 203), (203, am_goto 140), (206, am_iload 4 208), (208, am_if1 (fun x => x = 0) 211 216), (211, am_lload 5 213), (213, am_goto 233), (216, am_lload 7 218), (218, am_lload 5 220), (220, am_lcmp 221), (221, am_if1 (fun x => x ≤ 0) 232 224), (224, am_lload 7 226), (226, am_lload 5 228), (228, am_l2 (fun x y => x - y) 229), (229, am_goto 233), (232, am_const (.long 0) 233), (233, am_retL Ret)]
theorem koX8_book (live : am_E) (Ret : am_R) : ∀ q ∈ kX8_book live Ret, am_ok RX8 cX8_book 10 (some .long) 10 253 live Ret q.1 q.2 :=
  am_kz dzX8_book <|
  am_kd (fun d => ak_iload_n d rfl rfl) <|
  am_kd (fun d => ak_i2l d rfl) <|
  am_kd (fun d => ak_lconst d (by decide +kernel) rfl) <|
  am_kd (fun d => ak_ldc2 wd_997 d rfl) <|
  am_kd (fun d => ak_callS metX8_in ⟨rfl, hy_X8_in⟩ (am_w4 wd_986 wd_987 wd_67 wd_988) (by decide) d rfl) <|
  am_kd (fun d => ak_if_eq d (by decide +kernel) rfl) <|
  am_kd (fun d => ak_iload_n d rfl rfl) <|
  am_kd (fun d => ak_callS metX8_isYear ⟨rfl, hy_X8_isYear⟩ (am_w4 wd_982 wd_983 wd_67 wd_984) (by decide) d rfl) <|
  am_kd (fun d => ak_if_eq d (by decide +kernel) rfl) <|
  am_kd (fun d => ak_iload_n d rfl rfl) <|
  am_kd (fun d => ak_callS metX8_isYear ⟨rfl, hy_X8_isYear⟩ (am_w4 wd_982 wd_983 wd_67 wd_984) (by decide) d rfl) <|
  am_kd (fun d => ak_if_eq d (by decide +kernel) rfl) <|
  am_kd (fun d => ak_iload d rfl) <|
  am_kd (fun d => ak_i2l d rfl) <|
  am_kd (fun d => ak_lconst d (by decide +kernel) rfl) <|
  am_kd (fun d => ak_lconst d (by decide +kernel) rfl) <|
  am_kd (fun d => ak_callS metX8_in ⟨rfl, hy_X8_in⟩ (am_w4 wd_986 wd_987 wd_67 wd_988) (by decide) d rfl) <|
  am_kd (fun d => ak_if_ne d (by decide +kernel) rfl) <|
  am_kd (fun d => ak_ldc2 wd_1153 d rfl) <|
  am_kd (fun d => ak_retL d) <|
  am_kd (fun d => ak_lconst d (by decide +kernel) rfl) <|
  am_kd (fun d => ak_lstore d rfl) <|
  am_kd (fun d => ak_iconst d (by decide +kernel) rfl) <|
  am_kd (fun d => ak_istore d rfl) <|
  am_kd (fun d => ak_iload d rfl) <|
  am_kd (fun d => ak_aload_n d rfl rfl) <|
  am_kd (fun d => ak_getR (C := RX8) (T := TX8) (N := 27) rfl inX8w (by decide) rfl rfl rfl wd_895 d rfl) <|
  am_kd (fun d => ak_iconst d (by decide +kernel) rfl) <|
  am_kd (fun d => ak_iald (t := 0) (fun _ => rfl) rfl d rfl) <|
  am_kd (fun d => ak_icmp_ge d (by decide +kernel) rfl) <|
  am_kd (fun d => ak_aload_n d rfl rfl) <|
  am_kd (fun d => ak_iload d rfl) <|
  am_kd (fun d => ak_iload_n d rfl rfl) <|
  am_kd (fun d => ak_iload_n d rfl rfl) <|
  am_kd (fun d => ak_callV (C := RX8) (F := TX8) (N := 27) metX8_run rfl ⟨rfl, hy_X8_run⟩ (am_w5 wd_1158 wd_1160 wd_42 wd_67 wd_1161) (by decide) d rfl) <|
  am_kd (fun d => ak_iconst d (by decide +kernel) rfl) <|
  am_kd (fun d => ak_istore d rfl) <|
  am_kd (fun d => ak_iload d rfl) <|
  am_kd (fun d => ak_aload_n d rfl rfl) <|
  am_kd (fun d => ak_getR (C := RX8) (T := TX8) (N := 27) rfl inX8w (by decide) rfl rfl rfl wd_895 d rfl) <|
  am_kd (fun d => ak_iconst d (by decide +kernel) rfl) <|
  am_kd (fun d => ak_iald (t := 0) (fun _ => rfl) rfl d rfl) <|
  am_kd (fun d => ak_icmp_ge d (by decide +kernel) rfl) <|
  am_kd (fun d => ak_lload d rfl) <|
  am_kd (fun d => ak_aload_n d rfl rfl) <|
  am_kd (fun d => ak_iload d rfl) <|
  am_kd (fun d => ak_iconst d (by decide +kernel) rfl) <|
  am_kd (fun d => ak_callV (C := RX8) (F := TX8) (N := 27) metX8_ofLoan rfl ⟨rfl, hy_X8_ofLoan⟩ (am_w5 wd_1154 wd_1156 wd_41 wd_67 wd_1157) (by decide) d rfl) <|
  am_kd (fun d => ak_iload d rfl) <|
  am_kd (fun d => ak_icmp_ne d (by decide +kernel) rfl) <|
  am_kd (fun d => ak_aload_n d rfl rfl) <|
  am_kd (fun d => ak_iload d rfl) <|
  am_kd (fun d => ak_bipush d (by decide +kernel) rfl) <|
  am_kd (fun d => ak_callV (C := RX8) (F := TX8) (N := 27) metX8_ofLoan rfl ⟨rfl, hy_X8_ofLoan⟩ (am_w5 wd_1154 wd_1156 wd_41 wd_67 wd_1157) (by decide) d rfl) <|
  am_kd (fun d => ak_iload_n d rfl rfl) <|
  am_kd (fun d => ak_icmp_ne d (by decide +kernel) rfl) <|
  am_kd (fun d => ak_aload_n d rfl rfl) <|
  am_kd (fun d => ak_getR (C := RX8) (T := TX8) (N := 27) rfl inX8w (by decide) rfl rfl rfl wd_913 d rfl) <|
  am_kd (fun d => ak_iload d rfl) <|
  am_kd (fun d => ak_lald (t := 1) (fun _ => rfl) rfl d rfl) <|
  am_kd (fun d => ak_goto d (by decide +kernel)) <|
  am_kd (fun d => ak_lconst d (by decide +kernel) rfl) <|
  am_kd (fun d => ak_ladd d rfl) <|
  am_kd (fun d => ak_lstore d rfl) <|
  am_kd (fun d => ak_iinc d (by decide +kernel) rfl) <|
  am_kd (fun d => ak_goto d (by decide +kernel)) <|
  am_kd (fun d => ak_iinc d (by decide +kernel) rfl) <|
  am_kd (fun d => ak_goto d (by decide +kernel)) <|
  am_kd (fun d => ak_lconst d (by decide +kernel) rfl) <|
  am_kd (fun d => ak_lstore d rfl) <|
  am_kd (fun d => ak_sipush d (by decide +kernel) rfl) <|
  am_kd (fun d => ak_istore d rfl) <|
  am_kd (fun d => ak_iload d rfl) <|
  am_kd (fun d => ak_sipush d (by decide +kernel) rfl) <|
  am_kd (fun d => ak_iconst d (by decide +kernel) rfl) <|
  am_kd (fun d => ak_aload_n d rfl rfl) <|
  am_kd (fun d => ak_getR (C := RX8) (T := TX8) (N := 27) rfl inX8w (by decide) rfl rfl rfl wd_895 d rfl) <|
  am_kd (fun d => ak_iconst d (by decide +kernel) rfl) <|
  am_kd (fun d => ak_iald (t := 0) (fun _ => rfl) rfl d rfl) <|
  am_kd (fun d => ak_imul d rfl) <|
  am_kd (fun d => ak_iadd d rfl) <|
  am_kd (fun d => ak_icmp_ge d (by decide +kernel) rfl) <|
  am_kd (fun d => ak_lload d rfl) <|
  am_kd (fun d => ak_aload_n d rfl rfl) <|
  am_kd (fun d => ak_getR (C := RX8) (T := TX8) (N := 27) rfl inX8w (by decide) rfl rfl rfl wd_895 d rfl) <|
  am_kd (fun d => ak_iload d rfl) <|
  am_kd (fun d => ak_iald (t := 0) (fun _ => rfl) rfl d rfl) <|
  am_kd (fun d => ak_iload_n d rfl rfl) <|
  am_kd (fun d => ak_icmp_ne d (by decide +kernel) rfl) <|
  am_kd (fun d => ak_aload_n d rfl rfl) <|
  am_kd (fun d => ak_getR (C := RX8) (T := TX8) (N := 27) rfl inX8w (by decide) rfl rfl rfl wd_895 d rfl) <|
  am_kd (fun d => ak_iload d rfl) <|
  am_kd (fun d => ak_iconst d (by decide +kernel) rfl) <|
  am_kd (fun d => ak_iadd d rfl) <|
  am_kd (fun d => ak_iald (t := 0) (fun _ => rfl) rfl d rfl) <|
  am_kd (fun d => ak_iload_n d rfl rfl) <|
  am_kd (fun d => ak_icmp_gt d (by decide +kernel) rfl) <|
  am_kd (fun d => ak_aload_n d rfl rfl) <|
  am_kd (fun d => ak_getR (C := RX8) (T := TX8) (N := 27) rfl inX8w (by decide) rfl rfl rfl wd_895 d rfl) <|
  am_kd (fun d => ak_iload d rfl) <|
  am_kd (fun d => ak_iconst d (by decide +kernel) rfl) <|
  am_kd (fun d => ak_iadd d rfl) <|
  am_kd (fun d => ak_iald (t := 0) (fun _ => rfl) rfl d rfl) <|
  am_kd (fun d => ak_i2l d rfl) <|
  am_kd (fun d => ak_goto d (by decide +kernel)) <|
  am_kd (fun d => ak_lconst d (by decide +kernel) rfl) <|
  am_kd (fun d => ak_ladd d rfl) <|
  am_kd (fun d => ak_lstore d rfl) <|
  am_kd (fun d => ak_iinc d (by decide +kernel) rfl) <|
  am_kd (fun d => ak_goto d (by decide +kernel)) <|
  am_kd (fun d => ak_iload d rfl) <|
  am_kd (fun d => ak_if_ne d (by decide +kernel) rfl) <|
  am_kd (fun d => ak_lload d rfl) <|
  am_kd (fun d => ak_goto d (by decide +kernel)) <|
  am_kd (fun d => ak_lload d rfl) <|
  am_kd (fun d => ak_lload d rfl) <|
  am_kd (fun d => ak_lcmp d rfl) <|
  am_kd (fun d => ak_if_le d (by decide +kernel) rfl) <|
  am_kd (fun d => ak_lload d rfl) <|
  am_kd (fun d => ak_lload d rfl) <|
  am_kd (fun d => ak_lsub d rfl) <|
  am_kd (fun d => ak_goto d (by decide +kernel)) <|
  am_kd (fun d => ak_lconst d (by decide +kernel) rfl) <|
  am_kd (fun d => ak_retL d) <| am_kdn
def TX8_book : am_T := fun live as M R => match as with
  | [.ref n, .int b, .int y, .int k, .int w] => am_mn live ∧ n = 200 ∧ r_I M ∧ ∀ v M', r_sc M M' → r_I M' → R (some (.long v)) M'
  | _ => False
def JX8_book : am_E → List Value → am_M → am_R → am_inv := fun live as M0 _ pc => match as with
  | [.ref n, .int b, .int y, .int k, .int w] => (match pc with
    | 47 => some ([0, 1, 2, 3, 4, 5, 7], fun u L st M => ∃ (v : Int64) (i : Int32), L = [(0, .ref 200), (1, .int b), (2, .int y), (3, .int k), (4, .int w), (5, .long v), (7, .int i)] ∧ st = [] ∧ u = (5000 + (13 - i.toInt).toNat * 2, 0) ∧ 0 ≤ i.toInt ∧ y.toInt ≤ 39 ∧ r_sc M0 M ∧ r_I M)
    | 69 => some ([0, 1, 2, 3, 4, 5, 7, 8], fun u L st M => ∃ (v : Int64) (i l : Int32), L = [(0, .ref 200), (1, .int b), (2, .int y), (3, .int k), (4, .int w), (5, .long v), (7, .int i), (8, .int l)] ∧ st = [] ∧ u = (5000 + ((13 - i.toInt).toNat * 2 - 1), (31 - l.toInt).toNat) ∧ (0 ≤ i.toInt ∧ i.toInt < 12) ∧ 0 ≤ l.toInt ∧ y.toInt ≤ 39 ∧ r_sc M0 M ∧ r_I M)
    | 140 => some ([0, 1, 2, 4, 5, 7, 9], fun u L st M => ∃ (v q : Int64) (a : Int32), L = [(0, .ref 200), (1, .int b), (2, .int y), (4, .int w), (5, .long v), (7, .long q), (9, .int a)] ∧ st = [] ∧ u = ((4000 - a.toInt).toNat, 0) ∧ (3513 ≤ a.toInt ∧ a.toInt ≤ 3580) ∧ r_sc M0 M ∧ r_I M)
    | _ => none)
  | _ => none
set_option maxRecDepth 100000 in
set_option maxHeartbeats 4000000 in
theorem metX8_book : am_Met yX8_book cX8_book 10 (some .long) (10) (253) TX8_book := by
  refine am_met (own := RX8) (by decide +kernel) rfl kX8_book koX8_book 150 JX8_book ?_ ?_
  · intro live as M Ret h
    unfold TX8_book at h
    split at h
    · next n b y k w =>
      refine ⟨Nat.le_of_ble_eq_true rfl, ?_⟩
      change am_wp _ _ _ _ [(0, Value.ref n), (1, Value.int b), (2, Value.int y), (3, Value.int k), (4, Value.int w)] _ _
      obtain ⟨hmn, rfl, hR, h⟩ := h
      have hmn2 := hmn
      obtain ⟨i1, i2, rfl⟩ := hmn2
      have l201 : am_len 201 = 3760 := rfl
      have n0 := hR.n0
      have n1 := hR.n1
      have n030 : 0 ≤ (M.1 201 0).toInt ∧ (M.1 201 0).toInt ≤ 30 := ⟨n0.1, by omega⟩
      by_cases z0 : 0 ≤ b ∧ b ≤ 3
      rotate_left
      · skip
        have q0 : (if (0 : Int64) ≤ b.toInt64 ∧ b.toInt64 ≤ (3 : Int64) then (1 : Int32) else 0) = 0 := if_neg (fun r => z0 (by simp only [i_le, i_lt, j_le, Int32.toInt_toInt64, Int32.reduceToInt, Int64.reduceToInt] at r ⊢; omega))
        repeat' (first | (with_reducible exact hmn) | (with_reducible exact n030) | (with_reducible exact n1) | apply And.intro | exact rfl | (intro hx; with_reducible exact absurd q0 hx) | (intro hx; exact absurd hx (by decide)) | (intro hx; exact absurd (by decide) hx) | decide | intro hx | (refine Exists.intro _ (And.intro rfl ?_)))
        all_goals try first | (with_reducible change am_tI _ _) | (change Ret _ _) | (change Ret _ _ _) | (change Exists _)
        all_goals try dsimp only at *
        all_goals try (with_reducible exact absurd ‹(1000 : Int64) = 0› am_z1000)
        all_goals exact h _ _ r_sc.rf hR
      · skip
        have q0 : ¬ ((if (0 : Int64) ≤ b.toInt64 ∧ b.toInt64 ≤ (3 : Int64) then (1 : Int32) else 0) = 0) := by rw [if_pos (by have q := z0; simp only [i_le, i_lt, j_le, Int32.toInt_toInt64, Int32.reduceToInt, Int64.reduceToInt] at q ⊢; omega)]; decide
        by_cases z1 : 0 ≤ y ∧ y < 40
        rotate_left
        · skip
          have q1 : (if 0 ≤ y ∧ y < 40 then (1 : Int32) else 0) = 0 := if_neg z1
          repeat' (first | (with_reducible exact hmn) | (with_reducible exact n030) | (with_reducible exact n1) | apply And.intro | exact rfl | (intro hx; with_reducible exact absurd hx q0) | (intro hx; with_reducible exact absurd q1 hx) | (intro hx; exact absurd hx (by decide)) | (intro hx; exact absurd (by decide) hx) | decide | intro hx | (refine Exists.intro _ (And.intro rfl ?_)))
          all_goals try first | (with_reducible change am_tI _ _) | (change Ret _ _) | (change Ret _ _ _) | (change Exists _)
          all_goals try dsimp only at *
          all_goals try (with_reducible exact absurd ‹(1000 : Int64) = 0› am_z1000)
          all_goals exact h _ _ r_sc.rf hR
        · skip
          have q1 : ¬ ((if 0 ≤ y ∧ y < 40 then (1 : Int32) else 0) = 0) := by rw [if_pos z1]; decide
          by_cases z2 : 0 ≤ k ∧ k < 40
          rotate_left
          · skip
            have q2 : (if 0 ≤ k ∧ k < 40 then (1 : Int32) else 0) = 0 := if_neg z2
            repeat' (first | (with_reducible exact hmn) | (with_reducible exact n030) | (with_reducible exact n1) | apply And.intro | exact rfl | (intro hx; with_reducible exact absurd hx q0) | (intro hx; with_reducible exact absurd hx q1) | (intro hx; with_reducible exact absurd q2 hx) | (intro hx; exact absurd hx (by decide)) | (intro hx; exact absurd (by decide) hx) | decide | intro hx | (refine Exists.intro _ (And.intro rfl ?_)))
            all_goals try first | (with_reducible change am_tI _ _) | (change Ret _ _) | (change Ret _ _ _) | (change Exists _)
            all_goals try dsimp only at *
            all_goals try (with_reducible exact absurd ‹(1000 : Int64) = 0› am_z1000)
            all_goals exact h _ _ r_sc.rf hR
          · skip
            have q2 : ¬ ((if 0 ≤ k ∧ k < 40 then (1 : Int32) else 0) = 0) := by rw [if_pos z2]; decide
            by_cases z3 : 0 ≤ w ∧ w ≤ 1
            rotate_left
            · skip
              have q3 : (if (0 : Int64) ≤ w.toInt64 ∧ w.toInt64 ≤ (1 : Int64) then (1 : Int32) else 0) = 0 := if_neg (fun r => z3 (by simp only [i_le, i_lt, j_le, Int32.toInt_toInt64, Int32.reduceToInt, Int64.reduceToInt] at r ⊢; omega))
              repeat' (first | (with_reducible exact hmn) | (with_reducible exact n030) | (with_reducible exact n1) | apply And.intro | exact rfl | (intro hx; with_reducible exact absurd hx q0) | (intro hx; with_reducible exact absurd hx q1) | (intro hx; with_reducible exact absurd hx q2) | (intro hx; with_reducible exact absurd q3 hx) | (intro hx; exact absurd hx (by decide)) | (intro hx; exact absurd (by decide) hx) | decide | intro hx | (refine Exists.intro _ (And.intro rfl ?_)))
              all_goals try first | (with_reducible change am_tI _ _) | (change Ret _ _) | (change Ret _ _ _) | (change Exists _)
              all_goals try dsimp only at *
              all_goals try (with_reducible exact absurd ‹(1000 : Int64) = 0› am_z1000)
              all_goals exact h _ _ r_sc.rf hR
            · skip
              have q3 : ¬ ((if (0 : Int64) ≤ w.toInt64 ∧ w.toInt64 ≤ (1 : Int64) then (1 : Int32) else 0) = 0) := by rw [if_pos (by have q := z3; simp only [i_le, i_lt, j_le, Int32.toInt_toInt64, Int32.reduceToInt, Int64.reduceToInt] at q ⊢; omega)]; decide
              have hy : am_in y 40 := ⟨by have q := z1.1; simp only [i_le, Int32.reduceToInt] at q; omega, by have q := z1.2; simp only [i_lt, Int32.reduceToInt] at q; omega⟩
              have y39 : y.toInt ≤ 39 := by have q := hy.2; omega
              repeat' (first | (with_reducible exact hmn) | (with_reducible exact hR) | (with_reducible exact n030) | (with_reducible exact n1) | apply And.intro | exact rfl | (intro hx; with_reducible exact absurd hx q0) | (intro hx; with_reducible exact absurd hx q1) | (intro hx; with_reducible exact absurd hx q2) | (intro hx; with_reducible exact absurd hx q3) | ((with_reducible change r_I _); (with_reducible assumption)) | (intro hx; exact absurd hx (by decide)) | (intro hx; exact absurd (by decide) hx) | decide | intro hx | (refine Exists.intro _ (And.intro rfl ?_)))
              all_goals try first | (with_reducible change am_tI _ _) | (change Ret _ _) | (change Ret _ _ _) | (change Exists _)
              all_goals try dsimp only at *
              all_goals try (with_reducible exact absurd ‹(1000 : Int64) = 0› am_z1000)
              all_goals first | exact ⟨_, _, _, rfl, rfl, rfl, by decide, y39, r_sc.rf, hR⟩ | (change r_I _; (repeat' (first | (with_reducible assumption) | ((with_reducible change r_I (am_wJ _ _ _ _)); refine r_I.wJ ?_) | ((with_reducible change r_I (am_wI _ _ _ _)); refine r_I.wI ?_ rfl)))) | ((with_reducible change Ret _ _); exact h _ _ (by (repeat' (first | (with_reducible exact r_sc.rf) | (with_reducible assumption) | ((with_reducible change r_sc _ (am_wI _ _ _ _)); refine r_sc.wI ?_ rfl) | ((with_reducible change r_sc _ (am_wJ _ _ _ _)); refine r_sc.wJ ?_ rfl) | (refine r_sc.tr ?_ (by with_reducible assumption))))) (by (repeat' (first | (with_reducible assumption) | ((with_reducible change r_I (am_wJ _ _ _ _)); refine r_I.wJ ?_) | ((with_reducible change r_I (am_wI _ _ _ _)); refine r_I.wI ?_ rfl))))) | skip
    · exact h.elim
  · intro live as M0 Ret h k pc I hI L st M hi
    unfold TX8_book at h
    split at h
    · next n b y k w =>
      obtain ⟨hmn, rfl, hR, h⟩ := h
      have hmn2 := hmn
      obtain ⟨i1, i2, rfl⟩ := hmn2
      have l201 : am_len 201 = 3760 := rfl
      have w0 : 0 ≤ (0 : Int32).toInt ∧ (0 : Int32).toInt ≤ 7 := ⟨by decide, by decide⟩
      have w6 : 0 ≤ (6 : Int32).toInt ∧ (6 : Int32).toInt ≤ 7 := ⟨by decide, by decide⟩
      have x0l : (0 : Int32).toInt < (am_len 201 : Int) := by rw [l201]; decide
      have x1l : (1 : Int32).toInt < (am_len 201 : Int) := by rw [l201]; decide
      have x2l : (2 : Int32).toInt < (am_len 201 : Int) := by rw [l201]; decide
      have x3l : (3 : Int32).toInt < (am_len 201 : Int) := by rw [l201]; decide
      have x4l : (4 : Int32).toInt < (am_len 201 : Int) := by rw [l201]; decide
      change (match pc with | 47 => _ | 69 => _ | 140 => _ | _ => none) = _ at hI
      split at hI
      · cases hI
        obtain ⟨v, i, rfl, rfl, rfl, e1, y39, e2, e3⟩ := hi
        have n0 : 0 ≤ (M.1 201 (Int32.toNatClampNeg 0)).toInt ∧ (M.1 201 (Int32.toNatClampNeg 0)).toInt ≤ 12 := e3.n0
        by_cases hz : M.1 201 (Int32.toNatClampNeg 0) ≤ i
        · skip
          repeat' (first | (with_reducible exact x0l) | apply And.intro | exact rfl | (intro hx; with_reducible exact absurd hz hx) | (intro hx; exact absurd hx (by decide)) | (intro hx; exact absurd (by decide) hx) | decide | intro hx | (refine Exists.intro _ (And.intro rfl ?_)))
          all_goals try first | (with_reducible change am_tI _ _) | (change Ret _ _) | (change Ret _ _ _) | (change Exists _)
          all_goals try dsimp only at *
          all_goals try (with_reducible exact absurd ‹(1000 : Int64) = 0› am_z1000)
          all_goals exact ⟨_, am_lt_l (by simp only [Int32.reduceToInt]; omega), _, _, _, rfl, rfl, rfl, ⟨by decide, by decide⟩, e2, e3⟩
        · have hz2 := hz
          simp only [i_le] at hz2
          have hp : am_in i 12 := ⟨e1, by omega⟩
          repeat' (first | (with_reducible exact x0l) | (with_reducible exact hmn) | (with_reducible exact hp) | (with_reducible exact y39) | (with_reducible exact e3) | apply And.intro | exact rfl | (intro hx; with_reducible exact absurd hx hz) | ((with_reducible change r_I _); (with_reducible assumption)) | (intro hx; exact absurd hx (by decide)) | (intro hx; exact absurd (by decide) hx) | decide | intro hx | (refine Exists.intro _ (And.intro rfl ?_)))
          all_goals try first | (with_reducible change am_tI _ _) | (change Ret _ _) | (change Ret _ _ _) | (change Exists _)
          all_goals try dsimp only at *
          all_goals try (with_reducible exact absurd ‹(1000 : Int64) = 0› am_z1000)
          all_goals exact ⟨_, am_lt_l (by omega), _, _, _, rfl, rfl, rfl, ⟨e1, by omega⟩, by decide, y39, by (repeat' (first | (with_reducible exact r_sc.rf) | (with_reducible assumption) | ((with_reducible change r_sc _ (am_wI _ _ _ _)); refine r_sc.wI ?_ rfl) | ((with_reducible change r_sc _ (am_wJ _ _ _ _)); refine r_sc.wJ ?_ rfl) | (refine r_sc.tr ?_ (by with_reducible assumption)))), by (repeat' (first | (with_reducible assumption) | ((with_reducible change r_I (am_wJ _ _ _ _)); refine r_I.wJ ?_) | ((with_reducible change r_I (am_wI _ _ _ _)); refine r_I.wI ?_ rfl)))⟩
      · cases hI
        obtain ⟨v, i, l, rfl, rfl, rfl, ⟨e1, e4⟩, e5, y39, e2, e3⟩ := hi
        have hi := i_inc (x := i) (by omega) (by omega)
        have n1 : 0 ≤ (M.1 201 (Int32.toNatClampNeg 1)).toInt ∧ (M.1 201 (Int32.toNatClampNeg 1)).toInt ≤ 30 := e3.n1
        by_cases hz : M.1 201 (Int32.toNatClampNeg 1) ≤ l
        · skip
          repeat' (first | (with_reducible exact x1l) | apply And.intro | exact rfl | (intro hx; with_reducible exact absurd hz hx) | (intro hx; exact absurd hx (by decide)) | (intro hx; exact absurd (by decide) hx) | decide | intro hx | (refine Exists.intro _ (And.intro rfl ?_)))
          all_goals try first | (with_reducible change am_tI _ _) | (change Ret _ _) | (change Ret _ _ _) | (change Exists _)
          all_goals try dsimp only at *
          all_goals try (with_reducible exact absurd ‹(1000 : Int64) = 0› am_z1000)
          all_goals exact ⟨_, am_lt_l (by omega), _, _, rfl, rfl, rfl, by omega, y39, e2, e3⟩
        · have hz2 := hz
          simp only [i_le] at hz2
          have hl : am_in l 30 := ⟨e5, by omega⟩
          have hli := i_inc (x := l) (by omega) (by omega)
          have x2 : l.toInt < ((30 : Nat) : Int) := by omega
          repeat' (first | (with_reducible exact x1l) | (with_reducible exact hmn) | (with_reducible exact hl) | (with_reducible exact w0) | (with_reducible exact w6) | (with_reducible exact e5) | apply And.intro | exact rfl | (intro hx; with_reducible exact absurd hx hz) | (intro hx; exact absurd hx (by decide)) | (intro hx; exact absurd (by decide) hx) | decide | intro hx | (refine Exists.intro _ (And.intro rfl ?_)))
          all_goals try first | (with_reducible change am_tI _ _) | (change Ret _ _) | (change Ret _ _ _) | (change Exists _)
          all_goals try dsimp only at *
          all_goals try (with_reducible exact absurd ‹(1000 : Int64) = 0› am_z1000)
          all_goals first
            | (with_reducible exact x2)
            | exact x2
            | exact ⟨_, am_lt_r (by omega), _, _, _, rfl, rfl, rfl, ⟨e1, e4⟩, by omega, y39, e2, e3⟩
      · cases hI
        obtain ⟨v, q, a, rfl, rfl, rfl, ⟨e1, e4⟩, e2, e3⟩ := hi
        have n4 : 0 ≤ (M.1 201 (Int32.toNatClampNeg 4)).toInt ∧ (M.1 201 (Int32.toNatClampNeg 4)).toInt ≤ 20 := e3.n4
        have em := r_mul (c := 3) (x := M.1 201 (Int32.toNatClampNeg 4)) ⟨by decide, by decide⟩ ⟨n4.1, by omega⟩
        simp only [Int32.reduceToInt] at em
        have eo := r_off (c := 3513) (x := 3 * M.1 201 (Int32.toNatClampNeg 4)) ⟨by decide, by decide⟩ ⟨by omega, by omega⟩
        simp only [em, Int32.reduceToInt] at eo
        by_cases hz : 3513 + 3 * M.1 201 (Int32.toNatClampNeg 4) ≤ a
        · skip
          repeat' (first | (with_reducible exact x4l) | apply And.intro | exact rfl | (intro hx; with_reducible exact absurd hz hx) | (intro hx; exact absurd hx (by decide)) | (intro hx; exact absurd (by decide) hx) | decide | intro hx | (refine Exists.intro _ (And.intro rfl ?_)))
          all_goals try first | (with_reducible change am_tI _ _) | (change Ret _ _) | (change Ret _ _ _) | (change Exists _)
          all_goals try dsimp only at *
          all_goals try (with_reducible exact absurd ‹(1000 : Int64) = 0› am_z1000)
          all_goals exact h _ _ e2 e3
        · have hz2 := hz
          simp only [i_le] at hz2
          have a1 := r_off (c := a) (x := 1) ⟨by omega, by omega⟩ ⟨by decide, by decide⟩
          have a2 := r_off (c := a) (x := 2) ⟨by omega, by omega⟩ ⟨by decide, by decide⟩
          have a3 := r_off (c := a) (x := 3) ⟨by omega, by omega⟩ ⟨by decide, by decide⟩
          simp only [Int32.reduceToInt] at a1 a2 a3
          repeat' (first | (with_reducible exact x4l) | apply And.intro | exact rfl | (intro hx; with_reducible exact absurd hx hz) | (intro hx; exact absurd hx (by decide)) | (intro hx; exact absurd (by decide) hx) | decide | intro hx | (refine Exists.intro _ (And.intro rfl ?_)))
          all_goals try first | (with_reducible change am_tI _ _) | (change Ret _ _) | (change Ret _ _ _) | (change Exists _)
          all_goals try dsimp only at *
          all_goals try (with_reducible exact absurd ‹(1000 : Int64) = 0› am_z1000)
          all_goals first
            | omega
            | (rw [l201]; omega)
            | exact ⟨_, am_lt_l (by omega), _, _, _, rfl, rfl, rfl, ⟨by omega, by omega⟩, e2, e3⟩
      · cases hI
    · exact h.elim
set_option maxRecDepth 100000 in
theorem wd_1305 : Cond.constantLong "LearnLoansModel" 287 347 ∈ am_ws := am_wt6 (List.mem_of_getElem? (i := 48) (by rfl)) (by decide +kernel)
set_option maxRecDepth 100000 in
theorem wd_1306 : Cond.constantLong "LearnLoansModel" 289 31 ∈ am_ws := am_wt6 (List.mem_of_getElem? (i := 49) (by rfl)) (by decide +kernel)
def rwX8_digest : List dz_r := [(0, .ldc2_w 287, 3), (3, .lstore_n 1, 1), (4, .iconst 0, 1), (5, .istore_n 3, 1), (6, .iload_n 3, 1), (7, .bipush 6, 2), (9, .if_icmp .ge 23, 3), (12, .ldc2_w 289, 3), (15, .lload_n 1, 1), (16, .lmul, 1), (17, .aload_n 0, 1), (18, .getfield 7, 3), (21, .iload_n 3, 1), (22, .iaload, 1), (23, .i2l, 1), (24, .ladd, 1), (25, .lstore_n 1, 1), (26, .iinc 3 1, 3), (29, .goto (-23), 3), (32, .iconst 0, 1), (33, .istore_n 3, 1), (34, .iload_n 3, 1), (35, .aload_n 0, 1), (36, .getfield 7, 3), (39, .iconst 0, 1), (40, .iaload, 1), (41, .if_icmp .ge 82, 3), (44, .ldc2_w 289, 3), (47, .lload_n 1, 1), (48, .lmul, 1), (49, .aload_n 0, 1), (50, .getfield 7, 3), (53, .bipush 10, 2), (55, .iload_n 3, 1), (56, .iadd, 1), (57, .iaload, 1), (58, .i2l, 1), (59, .ladd, 1), (60, .lstore_n 1, 1), (61, .ldc2_w 289, 3), (64, .lload_n 1, 1), (65, .lmul, 1), (66, .aload_n 0, 1), (67, .getfield 7, 3), (70, .bipush 22, 2), (72, .iload_n 3, 1), (73, .iadd, 1), (74, .iaload, 1), (75, .i2l, 1), (76, .ladd, 1), (77, .lstore_n 1, 1), (78, .iconst 0, 1), (79, .istore 4, 2), (81, .iload 4, 2), (83, .bipush 40, 2), (85, .if_icmp .ge 32, 3), (88, .ldc2_w 289, 3), (91, .lload_n 1, 1), (92, .lmul, 1), (93, .aload_n 0, 1), (94, .getfield 7, 3), (97, .bipush 34, 2), (99, .bipush 40, 2), (101, .iload_n 3, 1), (102, .imul, 1), (103, .iadd, 1), (104, .iload 4, 2), (106, .iadd, 1), (107, .iaload, 1), (108, .i2l, 1), (109, .ladd, 1), (110, .lstore_n 1, 1), (111, .iinc 4 1, 3), (114, .goto (-33), 3), (117, .iinc 3 1, 3), (120, .goto (-86), 3), (123, .iconst 0, 1), (124, .istore_n 3, 1), (125, .iload_n 3, 1), (126, .bipush 8, 2), (128, .aload_n 0, 1), (129, .getfield 7, 3), (132, .iconst 1, 1), (133, .iaload, 1), (134, .imul, 1), (135, .if_icmp .ge 27, 3), (138, .ldc2_w 289, 3), (141, .lload_n 1, 1), (142, .lmul, 1), (143, .aload_n 0, 1), (144, .getfield 7, 3), (147, .sipush 2838, 3), (150, .iload_n 3, 1), (151, .iadd, 1), (152, .iaload, 1), (153, .i2l, 1), (154, .ladd, 1), (155, .lstore_n 1, 1), (156, .iinc 3 1, 3), (159, .goto (-34), 3), (162, .iconst 0, 1), (163, .istore_n 3, 1), (164, .iload_n 3, 1), (165, .bipush 6, 2), (167, .aload_n 0, 1), (168, .getfield 7, 3), (171, .iconst 2, 1), (172, .iaload, 1), (173, .imul, 1), (174, .if_icmp .ge 27, 3), (177, .ldc2_w 289, 3), (180, .lload_n 1, 1), (181, .lmul, 1), (182, .aload_n 0, 1), (183, .getfield 7, 3), (186, .sipush 2478, 3), (189, .iload_n 3, 1), (190, .iadd, 1), (191, .iaload, 1), (192, .i2l, 1), (193, .ladd, 1), (194, .lstore_n 1, 1), (195, .iinc 3 1, 3), (198, .goto (-34), 3), (201, .iconst 0, 1), (202, .istore_n 3, 1), (203, .iload_n 3, 1), (204, .iconst 3, 1), (205, .aload_n 0, 1), (206, .getfield 7, 3), (209, .iconst 3, 1), (210, .iaload, 1), (211, .imul, 1), (212, .if_icmp .ge 27, 3), (215, .ldc2_w 289, 3), (218, .lload_n 1, 1), (219, .lmul, 1), (220, .aload_n 0, 1), (221, .getfield 7, 3), (224, .sipush 3078, 3), (227, .iload_n 3, 1), (228, .iadd, 1), (229, .iaload, 1), (230, .i2l, 1), (231, .ladd, 1), (232, .lstore_n 1, 1), (233, .iinc 3 1, 3), (236, .goto (-33), 3), (239, .iconst 0, 1), (240, .istore_n 3, 1), (241, .iload_n 3, 1), (242, .iconst 5, 1), (243, .if_icmp .ge 75, 3), (246, .ldc2_w 289, 3), (249, .lload_n 1, 1), (250, .lmul, 1), (251, .aload_n 0, 1), (252, .getfield 7, 3), (255, .sipush 3508, 3), (258, .iload_n 3, 1), (259, .iadd, 1), (260, .iaload, 1), (261, .i2l, 1), (262, .ladd, 1), (263, .lstore_n 1, 1), (264, .iconst 0, 1), (265, .istore 4, 2), (267, .iload 4, 2), (269, .aload_n 0, 1), (270, .getfield 7, 3), (273, .sipush 3508, 3), (276, .iload_n 3, 1), (277, .iadd, 1), (278, .iaload, 1), (279, .if_icmp .ge 33, 3), (282, .ldc2_w 289, 3), (285, .lload_n 1, 1), (286, .lmul, 1), (287, .aload_n 0, 1), (288, .getfield 7, 3), (291, .sipush 3258, 3), (294, .bipush 50, 2), (296, .iload_n 3, 1), (297, .imul, 1), (298, .iadd, 1), (299, .iload 4, 2), (301, .iadd, 1), (302, .iaload, 1), (303, .i2l, 1), (304, .ladd, 1), (305, .lstore_n 1, 1), (306, .iinc 4 1, 3), (309, .goto (-42), 3), (312, .iinc 3 1, 3), (315, .goto (-74), 3), (318, .iconst 0, 1), (319, .istore_n 3, 1), (320, .iload_n 3, 1), (321, .aload_n 0, 1), (322, .getfield 7, 3), (325, .iconst 1, 1), (326, .iaload, 1), (327, .if_icmp .ge 49, 3), (330, .aload_n 0, 1), (331, .aload_n 0, 1), (332, .iload_n 3, 1), (333, .iconst 0, 1), (334, .invokevirtual 202, 3), (337, .bipush 39, 2), (339, .bipush 39, 2), (341, .invokevirtual 239, 3), (344, .ldc2_w 289, 3), (347, .lload_n 1, 1), (348, .lmul, 1), (349, .aload_n 0, 1), (350, .getfield 30, 3), (353, .iload_n 3, 1), (354, .laload, 1), (355, .ladd, 1), (356, .lstore_n 1, 1), (357, .ldc2_w 289, 3), (360, .lload_n 1, 1), (361, .lmul, 1), (362, .aload_n 0, 1), (363, .getfield 36, 3), (366, .iload_n 3, 1), (367, .laload, 1), (368, .ladd, 1), (369, .lstore_n 1, 1), (370, .iinc 3 1, 3), (373, .goto (-53), 3), (376, .lload_n 1, 1), (377, .lreturn, 1)]
theorem dzX8_digest : dz cX8_digest rwX8_digest := dz_all 0 (by decide +kernel)
def kX8_digest (live : am_E) (Ret : am_R) : am_code := [(0, am_const (.long 347) 3), (3, am_lstore 1 5 4), (4, am_const (.int 0) 5), (5, am_istore 3 5 6), (6, am_iload 3 7), (7, am_const (.int 6) 9), (9, am_if2 (fun x y => y ≤ x) 32 12), (12, am_const (.long 31) 15), (15, am_lload 1 16), (16, am_l2 (fun x y => x * y) 17), (17, am_aload 0 18), (18, am_getR live 8 0 21), (21, am_iload 3 22), (22, am_ald live 0 23), (23, am_i2l 24), (24, am_l2 (fun x y => x + y) 25), (25, am_lstore 1 5 26), (26, am_iinc 3 5 1 29), (29, am_goto 6), (32, am_const (.int 0) 33), (33, am_istore 3 5 34), (34, am_iload 3 35), (35, am_aload 0 36), (36, am_getR live 8 0 39), (39, am_const (.int 0) 40), (40, am_ald live 0 41), (41, am_if2 (fun x y => y ≤ x) 123 44), (44, am_const (.long 31) 47), (47, am_lload 1 48), (48, am_l2 (fun x y => x * y) 49), (49, am_aload 0 50), (50, am_getR live 8 0 53), (53, am_const (.int 10) 55), (55, am_iload 3 56), (56, am_i2 (fun x y => x + y) 57), (57, am_ald live 0 58), (58, am_i2l 59), (59, am_l2 (fun x y => x + y) 60), (60, am_lstore 1 5 61), (61, am_const (.long 31) 64), (64, am_lload 1 65), (65, am_l2 (fun x y => x * y) 66), (66, am_aload 0 67), (67, am_getR live 8 0 70), (70, am_const (.int 22) 72), (72, am_iload 3 73), (73, am_i2 (fun x y => x + y) 74), (74, am_ald live 0 75), (75, am_i2l 76), (76, am_l2 (fun x y => x + y) 77), (77, am_lstore 1 5 78), (78, am_const (.int 0) 79), (79, am_istore 4 5 81), (81, am_iload 4 83), (83, am_const (.int 40) 85), (85, am_if2 (fun x y => y ≤ x) 117 88), (88, am_const (.long 31) 91), (91, am_lload 1 92), (92, am_l2 (fun x y => x * y) 93), (93, am_aload 0 94), (94, am_getR live 8 0 97), (97, am_const (.int 34) 99), (99, am_const (.int 40) 101), (101, am_iload 3 102), (102, am_i2 (fun x y => x * y) 103), (103, am_i2 (fun x y => x + y) 104), (104, am_iload 4 106), (106, am_i2 (fun x y => x + y) 107), (107, am_ald live 0 108), (108, am_i2l 109), (109, am_l2 (fun x y => x + y) 110), (110, am_lstore 1 5 111), (111, am_iinc 4 5 1 114), (114, am_goto 81), (117, am_iinc 3 5 1 120), (120, am_goto 34), (123, am_const (.int 0) 124), (124, am_istore 3 5 125), (125, am_iload 3 126), (126, am_const (.int 8) 128), (128, am_aload 0 129), (129, am_getR live 8 0 132), (132, am_const (.int 1) 133), (133, am_ald live 0 134), (134, am_i2 (fun x y => x * y) 135), (135, am_if2 (fun x y => y ≤ x) 162 138), (138, am_const (.long 31) 141), (141, am_lload 1 142), (142, am_l2 (fun x y => x * y) 143), (143, am_aload 0 144), (144, am_getR live 8 0 147), (147, am_const (.int 2838) 150), (150, am_iload 3 151), (151, am_i2 (fun x y => x + y) 152), (152, am_ald live 0 153), (153, am_i2l 154), (154, am_l2 (fun x y => x + y) 155), (155, am_lstore 1 5 156), (156, am_iinc 3 5 1 159), (159, am_goto 125), (162, am_const (.int 0) 163), (163, am_istore 3 5 164), (164, am_iload 3 165), (165, am_const (.int 6) 167), (167, am_aload 0 168), (168, am_getR live 8 0 171), (171, am_const (.int 2) 172), (172, am_ald live 0 173), (173, am_i2 (fun x y => x * y) 174), (174, am_if2 (fun x y => y ≤ x) 201 177), (177, am_const (.long 31) 180), (180, am_lload 1 181), (181, am_l2 (fun x y => x * y) 182), (182, am_aload 0 183), (183, am_getR live 8 0 186), (186, am_const (.int 2478) 189), (189, am_iload 3 190), (190, am_i2 (fun x y => x + y) 191), (191, am_ald live 0 192), (192, am_i2l 193), (193, am_l2 (fun x y => x + y) 194), (194, am_lstore 1 5 195), (195, am_iinc 3 5 1 198), (198, am_goto 164), (201, am_const (.int 0) 202), (202, am_istore 3 5 203), (203, am_iload 3 204), (204, am_const (.int 3) 205), (205, am_aload 0 206), (206, am_getR live 8 0 209), (209, am_const (.int 3) 210), (210, am_ald live 0 211), (211, am_i2 (fun x y => x * y) 212), (212, am_if2 (fun x y => y ≤ x) 239 215), (215, am_const (.long 31) 218), (218, am_lload 1 219), (219, am_l2 (fun x y => x * y) 220), (220, am_aload 0 221), (221, am_getR live 8 0 224), (224, am_const (.int 3078) 227), (227, am_iload 3 228), (228, am_i2 (fun x y => x + y) 229), (229, am_ald live 0 230), (230, am_i2l 231), (231, am_l2 (fun x y => x + y) 232), (232, am_lstore 1 5 233), (233, am_iinc 3 5 1 236), (236, am_goto 203), (239, am_const (.int 0) 240), (240, am_istore 3 5 241), (241, am_iload 3 242), (242, am_const (.int 5) 243), (243, am_if2 (fun x y => y ≤ x) 318 246), (246, am_const (.long 31) 249), (249, am_lload 1 250), (250, am_l2 (fun x y => x * y) 251), (251, am_aload 0 252), (252, am_getR live 8 0 255), (255, am_const (.int 3508) 258), (258, am_iload 3 259), (259, am_i2 (fun x y => x + y) 260), (260, am_ald live 0 261), (261, am_i2l 262), (262, am_l2 (fun x y => x + y) 263), (263, am_lstore 1 5 264), (264, am_const (.int 0) 265), (265, am_istore 4 5 267), (267, am_iload 4 269), (269, am_aload 0 270), (270, am_getR live 8 0 273), (273, am_const (.int 3508) 276), (276, am_iload 3 277), (277, am_i2 (fun x y => x + y) 278), (278, am_ald live 0 279), (279, am_if2 (fun x y => y ≤ x) 312 282), (282, am_const (.long 31) 285), (285, am_lload 1 286), (286, am_l2 (fun x y => x * y) 287), (287, am_aload 0 288), (288, am_getR live 8 0 291), (291, am_const (.int 3258) 294), (294, am_const (.int 50) 296), (296, am_iload 3 297), (297, am_i2 (fun x y => x * y) 298), (298, am_i2 (fun x y => x + y) 299), (299, am_iload 4 301), (301, am_i2 (fun x y => x + y) 302), (302, am_ald live 0 303), (303, am_i2l 304), (304, am_l2 (fun x y => x + y) 305), (305, am_lstore 1 5 306), (306, am_iinc 4 5 1 309), (309, am_goto 267), (312, am_iinc 3 5 1 315), (315, am_goto 241), (318, am_const (.int 0) 319), (319, am_istore 3 5 320), (320, am_iload 3 321), (321, am_aload 0 322), (322, am_getR live 8 0 325), (325, am_const (.int 1) 326), (326, am_ald live 0 327), (327, am_if2 (fun x y => y ≤ x) 376 330), (330, am_aload 0 331), (331, am_aload 0 332), (332, am_iload 3 333), (333, am_const (.int 0) 334), (334, am_callV live 8 2 TX8_ofLoan 337), (337, am_const (.int 39) 339), (339, am_const (.int 39) 341), (341, am_callV live 8 3 TX8_run 344), (344, am_const (.long 31) 347), (347, am_lload 1 348), (348, am_l2 (fun x y => x * y) 349), (349, am_aload 0 350), (350, am_getR live 8 15 353), (353, am_iload 3 354), (354, am_lald live 1 355), (355, am_l2 (fun x y => x + y) 356), (356, am_lstore 1 5 357), (357, am_const (.long 31) 360), (360, am_lload 1 361), (361, am_l2 (fun x y => x * y) 362), (362, am_aload 0 363), (363, am_getR live 8 17 366), (366, am_iload 3 367), (367, am_lald live 1 368), (368, am_l2 (fun x y => x + y) 369), (369, am_lstore 1 5 370), (370, am_iinc 3 5 1 373), (373, am_goto 320), (376, am_lload 1 377), (377, am_retL Ret)]
theorem koX8_digest (live : am_E) (Ret : am_R) : ∀ q ∈ kX8_digest live Ret, am_ok RX8 cX8_digest 5 (some .long) 10 253 live Ret q.1 q.2 :=
  am_kz dzX8_digest <|
  am_kd (fun d => ak_ldc2 wd_1305 d rfl) <|
  am_kd (fun d => ak_lstore_n d rfl rfl) <|
  am_kd (fun d => ak_iconst d (by decide +kernel) rfl) <|
  am_kd (fun d => ak_istore_n d rfl rfl) <|
  am_kd (fun d => ak_iload_n d rfl rfl) <|
  am_kd (fun d => ak_bipush d (by decide +kernel) rfl) <|
  am_kd (fun d => ak_icmp_ge d (by decide +kernel) rfl) <|
  am_kd (fun d => ak_ldc2 wd_1306 d rfl) <|
  am_kd (fun d => ak_lload_n d rfl rfl) <|
  am_kd (fun d => ak_lmul d rfl) <|
  am_kd (fun d => ak_aload_n d rfl rfl) <|
  am_kd (fun d => ak_getR (C := RX8) (T := TX8) (N := 27) rfl inX8w (by decide) rfl rfl rfl wd_895 d rfl) <|
  am_kd (fun d => ak_iload_n d rfl rfl) <|
  am_kd (fun d => ak_iald (t := 0) (fun _ => rfl) rfl d rfl) <|
  am_kd (fun d => ak_i2l d rfl) <|
  am_kd (fun d => ak_ladd d rfl) <|
  am_kd (fun d => ak_lstore_n d rfl rfl) <|
  am_kd (fun d => ak_iinc d (by decide +kernel) rfl) <|
  am_kd (fun d => ak_goto d (by decide +kernel)) <|
  am_kd (fun d => ak_iconst d (by decide +kernel) rfl) <|
  am_kd (fun d => ak_istore_n d rfl rfl) <|
  am_kd (fun d => ak_iload_n d rfl rfl) <|
  am_kd (fun d => ak_aload_n d rfl rfl) <|
  am_kd (fun d => ak_getR (C := RX8) (T := TX8) (N := 27) rfl inX8w (by decide) rfl rfl rfl wd_895 d rfl) <|
  am_kd (fun d => ak_iconst d (by decide +kernel) rfl) <|
  am_kd (fun d => ak_iald (t := 0) (fun _ => rfl) rfl d rfl) <|
  am_kd (fun d => ak_icmp_ge d (by decide +kernel) rfl) <|
  am_kd (fun d => ak_ldc2 wd_1306 d rfl) <|
  am_kd (fun d => ak_lload_n d rfl rfl) <|
  am_kd (fun d => ak_lmul d rfl) <|
  am_kd (fun d => ak_aload_n d rfl rfl) <|
  am_kd (fun d => ak_getR (C := RX8) (T := TX8) (N := 27) rfl inX8w (by decide) rfl rfl rfl wd_895 d rfl) <|
  am_kd (fun d => ak_bipush d (by decide +kernel) rfl) <|
  am_kd (fun d => ak_iload_n d rfl rfl) <|
  am_kd (fun d => ak_iadd d rfl) <|
  am_kd (fun d => ak_iald (t := 0) (fun _ => rfl) rfl d rfl) <|
  am_kd (fun d => ak_i2l d rfl) <|
  am_kd (fun d => ak_ladd d rfl) <|
  am_kd (fun d => ak_lstore_n d rfl rfl) <|
  am_kd (fun d => ak_ldc2 wd_1306 d rfl) <|
  am_kd (fun d => ak_lload_n d rfl rfl) <|
  am_kd (fun d => ak_lmul d rfl) <|
  am_kd (fun d => ak_aload_n d rfl rfl) <|
  am_kd (fun d => ak_getR (C := RX8) (T := TX8) (N := 27) rfl inX8w (by decide) rfl rfl rfl wd_895 d rfl) <|
  am_kd (fun d => ak_bipush d (by decide +kernel) rfl) <|
  am_kd (fun d => ak_iload_n d rfl rfl) <|
  am_kd (fun d => ak_iadd d rfl) <|
  am_kd (fun d => ak_iald (t := 0) (fun _ => rfl) rfl d rfl) <|
  am_kd (fun d => ak_i2l d rfl) <|
  am_kd (fun d => ak_ladd d rfl) <|
  am_kd (fun d => ak_lstore_n d rfl rfl) <|
  am_kd (fun d => ak_iconst d (by decide +kernel) rfl) <|
  am_kd (fun d => ak_istore d rfl) <|
  am_kd (fun d => ak_iload d rfl) <|
  am_kd (fun d => ak_bipush d (by decide +kernel) rfl) <|
  am_kd (fun d => ak_icmp_ge d (by decide +kernel) rfl) <|
  am_kd (fun d => ak_ldc2 wd_1306 d rfl) <|
  am_kd (fun d => ak_lload_n d rfl rfl) <|
  am_kd (fun d => ak_lmul d rfl) <|
  am_kd (fun d => ak_aload_n d rfl rfl) <|
  am_kd (fun d => ak_getR (C := RX8) (T := TX8) (N := 27) rfl inX8w (by decide) rfl rfl rfl wd_895 d rfl) <|
  am_kd (fun d => ak_bipush d (by decide +kernel) rfl) <|
  am_kd (fun d => ak_bipush d (by decide +kernel) rfl) <|
  am_kd (fun d => ak_iload_n d rfl rfl) <|
  am_kd (fun d => ak_imul d rfl) <|
  am_kd (fun d => ak_iadd d rfl) <|
  am_kd (fun d => ak_iload d rfl) <|
  am_kd (fun d => ak_iadd d rfl) <|
  am_kd (fun d => ak_iald (t := 0) (fun _ => rfl) rfl d rfl) <|
  am_kd (fun d => ak_i2l d rfl) <|
  am_kd (fun d => ak_ladd d rfl) <|
  am_kd (fun d => ak_lstore_n d rfl rfl) <|
  am_kd (fun d => ak_iinc d (by decide +kernel) rfl) <|
  am_kd (fun d => ak_goto d (by decide +kernel)) <|
  am_kd (fun d => ak_iinc d (by decide +kernel) rfl) <|
  am_kd (fun d => ak_goto d (by decide +kernel)) <|
  am_kd (fun d => ak_iconst d (by decide +kernel) rfl) <|
  am_kd (fun d => ak_istore_n d rfl rfl) <|
  am_kd (fun d => ak_iload_n d rfl rfl) <|
  am_kd (fun d => ak_bipush d (by decide +kernel) rfl) <|
  am_kd (fun d => ak_aload_n d rfl rfl) <|
  am_kd (fun d => ak_getR (C := RX8) (T := TX8) (N := 27) rfl inX8w (by decide) rfl rfl rfl wd_895 d rfl) <|
  am_kd (fun d => ak_iconst d (by decide +kernel) rfl) <|
  am_kd (fun d => ak_iald (t := 0) (fun _ => rfl) rfl d rfl) <|
  am_kd (fun d => ak_imul d rfl) <|
  am_kd (fun d => ak_icmp_ge d (by decide +kernel) rfl) <|
  am_kd (fun d => ak_ldc2 wd_1306 d rfl) <|
  am_kd (fun d => ak_lload_n d rfl rfl) <|
  am_kd (fun d => ak_lmul d rfl) <|
  am_kd (fun d => ak_aload_n d rfl rfl) <|
  am_kd (fun d => ak_getR (C := RX8) (T := TX8) (N := 27) rfl inX8w (by decide) rfl rfl rfl wd_895 d rfl) <|
  am_kd (fun d => ak_sipush d (by decide +kernel) rfl) <|
  am_kd (fun d => ak_iload_n d rfl rfl) <|
  am_kd (fun d => ak_iadd d rfl) <|
  am_kd (fun d => ak_iald (t := 0) (fun _ => rfl) rfl d rfl) <|
  am_kd (fun d => ak_i2l d rfl) <|
  am_kd (fun d => ak_ladd d rfl) <|
  am_kd (fun d => ak_lstore_n d rfl rfl) <|
  am_kd (fun d => ak_iinc d (by decide +kernel) rfl) <|
  am_kd (fun d => ak_goto d (by decide +kernel)) <|
  am_kd (fun d => ak_iconst d (by decide +kernel) rfl) <|
  am_kd (fun d => ak_istore_n d rfl rfl) <|
  am_kd (fun d => ak_iload_n d rfl rfl) <|
  am_kd (fun d => ak_bipush d (by decide +kernel) rfl) <|
  am_kd (fun d => ak_aload_n d rfl rfl) <|
  am_kd (fun d => ak_getR (C := RX8) (T := TX8) (N := 27) rfl inX8w (by decide) rfl rfl rfl wd_895 d rfl) <|
  am_kd (fun d => ak_iconst d (by decide +kernel) rfl) <|
  am_kd (fun d => ak_iald (t := 0) (fun _ => rfl) rfl d rfl) <|
  am_kd (fun d => ak_imul d rfl) <|
  am_kd (fun d => ak_icmp_ge d (by decide +kernel) rfl) <|
  am_kd (fun d => ak_ldc2 wd_1306 d rfl) <|
  am_kd (fun d => ak_lload_n d rfl rfl) <|
  am_kd (fun d => ak_lmul d rfl) <|
  am_kd (fun d => ak_aload_n d rfl rfl) <|
  am_kd (fun d => ak_getR (C := RX8) (T := TX8) (N := 27) rfl inX8w (by decide) rfl rfl rfl wd_895 d rfl) <|
  am_kd (fun d => ak_sipush d (by decide +kernel) rfl) <|
  am_kd (fun d => ak_iload_n d rfl rfl) <|
  am_kd (fun d => ak_iadd d rfl) <|
  am_kd (fun d => ak_iald (t := 0) (fun _ => rfl) rfl d rfl) <|
  am_kd (fun d => ak_i2l d rfl) <|
  am_kd (fun d => ak_ladd d rfl) <|
  am_kd (fun d => ak_lstore_n d rfl rfl) <|
  am_kd (fun d => ak_iinc d (by decide +kernel) rfl) <|
  am_kd (fun d => ak_goto d (by decide +kernel)) <|
  am_kd (fun d => ak_iconst d (by decide +kernel) rfl) <|
  am_kd (fun d => ak_istore_n d rfl rfl) <|
  am_kd (fun d => ak_iload_n d rfl rfl) <|
  am_kd (fun d => ak_iconst d (by decide +kernel) rfl) <|
  am_kd (fun d => ak_aload_n d rfl rfl) <|
  am_kd (fun d => ak_getR (C := RX8) (T := TX8) (N := 27) rfl inX8w (by decide) rfl rfl rfl wd_895 d rfl) <|
  am_kd (fun d => ak_iconst d (by decide +kernel) rfl) <|
  am_kd (fun d => ak_iald (t := 0) (fun _ => rfl) rfl d rfl) <|
  am_kd (fun d => ak_imul d rfl) <|
  am_kd (fun d => ak_icmp_ge d (by decide +kernel) rfl) <|
  am_kd (fun d => ak_ldc2 wd_1306 d rfl) <|
  am_kd (fun d => ak_lload_n d rfl rfl) <|
  am_kd (fun d => ak_lmul d rfl) <|
  am_kd (fun d => ak_aload_n d rfl rfl) <|
  am_kd (fun d => ak_getR (C := RX8) (T := TX8) (N := 27) rfl inX8w (by decide) rfl rfl rfl wd_895 d rfl) <|
  am_kd (fun d => ak_sipush d (by decide +kernel) rfl) <|
  am_kd (fun d => ak_iload_n d rfl rfl) <|
  am_kd (fun d => ak_iadd d rfl) <|
  am_kd (fun d => ak_iald (t := 0) (fun _ => rfl) rfl d rfl) <|
  am_kd (fun d => ak_i2l d rfl) <|
  am_kd (fun d => ak_ladd d rfl) <|
  am_kd (fun d => ak_lstore_n d rfl rfl) <|
  am_kd (fun d => ak_iinc d (by decide +kernel) rfl) <|
  am_kd (fun d => ak_goto d (by decide +kernel)) <|
  am_kd (fun d => ak_iconst d (by decide +kernel) rfl) <|
  am_kd (fun d => ak_istore_n d rfl rfl) <|
  am_kd (fun d => ak_iload_n d rfl rfl) <|
  am_kd (fun d => ak_iconst d (by decide +kernel) rfl) <|
  am_kd (fun d => ak_icmp_ge d (by decide +kernel) rfl) <|
  am_kd (fun d => ak_ldc2 wd_1306 d rfl) <|
  am_kd (fun d => ak_lload_n d rfl rfl) <|
  am_kd (fun d => ak_lmul d rfl) <|
  am_kd (fun d => ak_aload_n d rfl rfl) <|
  am_kd (fun d => ak_getR (C := RX8) (T := TX8) (N := 27) rfl inX8w (by decide) rfl rfl rfl wd_895 d rfl) <|
  am_kd (fun d => ak_sipush d (by decide +kernel) rfl) <|
  am_kd (fun d => ak_iload_n d rfl rfl) <|
  am_kd (fun d => ak_iadd d rfl) <|
  am_kd (fun d => ak_iald (t := 0) (fun _ => rfl) rfl d rfl) <|
  am_kd (fun d => ak_i2l d rfl) <|
  am_kd (fun d => ak_ladd d rfl) <|
  am_kd (fun d => ak_lstore_n d rfl rfl) <|
  am_kd (fun d => ak_iconst d (by decide +kernel) rfl) <|
  am_kd (fun d => ak_istore d rfl) <|
  am_kd (fun d => ak_iload d rfl) <|
  am_kd (fun d => ak_aload_n d rfl rfl) <|
  am_kd (fun d => ak_getR (C := RX8) (T := TX8) (N := 27) rfl inX8w (by decide) rfl rfl rfl wd_895 d rfl) <|
  am_kd (fun d => ak_sipush d (by decide +kernel) rfl) <|
  am_kd (fun d => ak_iload_n d rfl rfl) <|
  am_kd (fun d => ak_iadd d rfl) <|
  am_kd (fun d => ak_iald (t := 0) (fun _ => rfl) rfl d rfl) <|
  am_kd (fun d => ak_icmp_ge d (by decide +kernel) rfl) <|
  am_kd (fun d => ak_ldc2 wd_1306 d rfl) <|
  am_kd (fun d => ak_lload_n d rfl rfl) <|
  am_kd (fun d => ak_lmul d rfl) <|
  am_kd (fun d => ak_aload_n d rfl rfl) <|
  am_kd (fun d => ak_getR (C := RX8) (T := TX8) (N := 27) rfl inX8w (by decide) rfl rfl rfl wd_895 d rfl) <|
  am_kd (fun d => ak_sipush d (by decide +kernel) rfl) <|
  am_kd (fun d => ak_bipush d (by decide +kernel) rfl) <|
  am_kd (fun d => ak_iload_n d rfl rfl) <|
  am_kd (fun d => ak_imul d rfl) <|
  am_kd (fun d => ak_iadd d rfl) <|
  am_kd (fun d => ak_iload d rfl) <|
  am_kd (fun d => ak_iadd d rfl) <|
  am_kd (fun d => ak_iald (t := 0) (fun _ => rfl) rfl d rfl) <|
  am_kd (fun d => ak_i2l d rfl) <|
  am_kd (fun d => ak_ladd d rfl) <|
  am_kd (fun d => ak_lstore_n d rfl rfl) <|
  am_kd (fun d => ak_iinc d (by decide +kernel) rfl) <|
  am_kd (fun d => ak_goto d (by decide +kernel)) <|
  am_kd (fun d => ak_iinc d (by decide +kernel) rfl) <|
  am_kd (fun d => ak_goto d (by decide +kernel)) <|
  am_kd (fun d => ak_iconst d (by decide +kernel) rfl) <|
  am_kd (fun d => ak_istore_n d rfl rfl) <|
  am_kd (fun d => ak_iload_n d rfl rfl) <|
  am_kd (fun d => ak_aload_n d rfl rfl) <|
  am_kd (fun d => ak_getR (C := RX8) (T := TX8) (N := 27) rfl inX8w (by decide) rfl rfl rfl wd_895 d rfl) <|
  am_kd (fun d => ak_iconst d (by decide +kernel) rfl) <|
  am_kd (fun d => ak_iald (t := 0) (fun _ => rfl) rfl d rfl) <|
  am_kd (fun d => ak_icmp_ge d (by decide +kernel) rfl) <|
  am_kd (fun d => ak_aload_n d rfl rfl) <|
  am_kd (fun d => ak_aload_n d rfl rfl) <|
  am_kd (fun d => ak_iload_n d rfl rfl) <|
  am_kd (fun d => ak_iconst d (by decide +kernel) rfl) <|
  am_kd (fun d => ak_callV (C := RX8) (F := TX8) (N := 27) metX8_ofLoan rfl ⟨rfl, hy_X8_ofLoan⟩ (am_w5 wd_1154 wd_1156 wd_41 wd_67 wd_1157) (by decide) d rfl) <|
  am_kd (fun d => ak_bipush d (by decide +kernel) rfl) <|
  am_kd (fun d => ak_bipush d (by decide +kernel) rfl) <|
  am_kd (fun d => ak_callV (C := RX8) (F := TX8) (N := 27) metX8_run rfl ⟨rfl, hy_X8_run⟩ (am_w5 wd_1158 wd_1160 wd_42 wd_67 wd_1161) (by decide) d rfl) <|
  am_kd (fun d => ak_ldc2 wd_1306 d rfl) <|
  am_kd (fun d => ak_lload_n d rfl rfl) <|
  am_kd (fun d => ak_lmul d rfl) <|
  am_kd (fun d => ak_aload_n d rfl rfl) <|
  am_kd (fun d => ak_getR (C := RX8) (T := TX8) (N := 27) rfl inX8w (by decide) rfl rfl rfl wd_910 d rfl) <|
  am_kd (fun d => ak_iload_n d rfl rfl) <|
  am_kd (fun d => ak_lald (t := 1) (fun _ => rfl) rfl d rfl) <|
  am_kd (fun d => ak_ladd d rfl) <|
  am_kd (fun d => ak_lstore_n d rfl rfl) <|
  am_kd (fun d => ak_ldc2 wd_1306 d rfl) <|
  am_kd (fun d => ak_lload_n d rfl rfl) <|
  am_kd (fun d => ak_lmul d rfl) <|
  am_kd (fun d => ak_aload_n d rfl rfl) <|
  am_kd (fun d => ak_getR (C := RX8) (T := TX8) (N := 27) rfl inX8w (by decide) rfl rfl rfl wd_912 d rfl) <|
  am_kd (fun d => ak_iload_n d rfl rfl) <|
  am_kd (fun d => ak_lald (t := 1) (fun _ => rfl) rfl d rfl) <|
  am_kd (fun d => ak_ladd d rfl) <|
  am_kd (fun d => ak_lstore_n d rfl rfl) <|
  am_kd (fun d => ak_iinc d (by decide +kernel) rfl) <|
  am_kd (fun d => ak_goto d (by decide +kernel)) <|
  am_kd (fun d => ak_lload_n d rfl rfl) <|
  am_kd (fun d => ak_retL d) <| am_kdn
def TX8_digest : am_T := fun live as M R => match as with
  | [.ref n] => am_mn live ∧ n = 200 ∧ r_I M ∧ ∀ v M', r_sc M M' → r_I M' → R (some (.long v)) M'
  | _ => False
def JX8_digest : am_E → List Value → am_M → am_R → am_inv := fun live as M0 _ pc => match as with
  | [.ref n] => (match pc with
    | 6 => some ([0, 1, 3], fun u L st M => ∃ (v : Int64) (i : Int32), L = [(0, .ref 200), (1, .long v), (3, .int i)] ∧ st = [] ∧ u = (9000 + (7 - i.toInt).toNat, 0) ∧ 0 ≤ i.toInt ∧ M = M0)
    | 34 => some ([0, 1, 3], fun u L st M => ∃ (v : Int64) (i : Int32), L = [(0, .ref 200), (1, .long v), (3, .int i)] ∧ st = [] ∧ u = (8000 + (13 - i.toInt).toNat * 2, 0) ∧ 0 ≤ i.toInt ∧ M = M0)
    | 81 => some ([0, 1, 3, 4], fun u L st M => ∃ (v : Int64) (i j : Int32), L = [(0, .ref 200), (1, .long v), (3, .int i), (4, .int j)] ∧ st = [] ∧ u = (8000 + ((13 - i.toInt).toNat * 2 - 1), (41 - j.toInt).toNat) ∧ (0 ≤ i.toInt ∧ i.toInt < 12) ∧ 0 ≤ j.toInt ∧ M = M0)
    | 125 => some ([0, 1, 3], fun u L st M => ∃ (v : Int64) (i : Int32), L = [(0, .ref 200), (1, .long v), (3, .int i)] ∧ st = [] ∧ u = (7000 + (300 - i.toInt).toNat, 0) ∧ 0 ≤ i.toInt ∧ M = M0)
    | 164 => some ([0, 1, 3], fun u L st M => ∃ (v : Int64) (i : Int32), L = [(0, .ref 200), (1, .long v), (3, .int i)] ∧ st = [] ∧ u = (6000 + (400 - i.toInt).toNat, 0) ∧ 0 ≤ i.toInt ∧ M = M0)
    | 203 => some ([0, 1, 3], fun u L st M => ∃ (v : Int64) (i : Int32), L = [(0, .ref 200), (1, .long v), (3, .int i)] ∧ st = [] ∧ u = (5000 + (200 - i.toInt).toNat, 0) ∧ 0 ≤ i.toInt ∧ M = M0)
    | 241 => some ([0, 1, 3], fun u L st M => ∃ (v : Int64) (i : Int32), L = [(0, .ref 200), (1, .long v), (3, .int i)] ∧ st = [] ∧ u = (4000 + (6 - i.toInt).toNat * 2, 0) ∧ 0 ≤ i.toInt ∧ M = M0)
    | 267 => some ([0, 1, 3, 4], fun u L st M => ∃ (v : Int64) (i j : Int32), L = [(0, .ref 200), (1, .long v), (3, .int i), (4, .int j)] ∧ st = [] ∧ u = (4000 + ((6 - i.toInt).toNat * 2 - 1), (51 - j.toInt).toNat) ∧ (0 ≤ i.toInt ∧ i.toInt < 5) ∧ 0 ≤ j.toInt ∧ M = M0)
    | 320 => some ([0, 1, 3], fun u L st M => ∃ (v : Int64) (i : Int32), L = [(0, .ref 200), (1, .long v), (3, .int i)] ∧ st = [] ∧ u = ((31 - i.toInt).toNat, 0) ∧ 0 ≤ i.toInt ∧ r_sc M0 M ∧ r_I M)
    | _ => none)
  | _ => none
set_option maxRecDepth 100000 in
set_option maxHeartbeats 4000000 in
theorem metX8_digest : am_Met yX8_digest cX8_digest 5 (some .long) (10) (253) TX8_digest := by
  refine am_met (own := RX8) (by decide +kernel) rfl kX8_digest koX8_digest 150 JX8_digest ?_ ?_
  · intro live as M Ret h
    unfold TX8_digest at h
    split at h
    · next n =>
      refine ⟨Nat.le_of_ble_eq_true rfl, ?_⟩
      change am_wp _ _ _ _ [(0, Value.ref n)] _ _
      obtain ⟨hmn, rfl, hR, h⟩ := h
      have hmn2 := hmn
      obtain ⟨i1, i2, rfl⟩ := hmn2
      have l201 : am_len 201 = 3760 := rfl
      have n0 := hR.n0
      have n1 := hR.n1
      have n030 : 0 ≤ (M.1 201 0).toInt ∧ (M.1 201 0).toInt ≤ 30 := ⟨n0.1, by omega⟩
      repeat' (first | (with_reducible exact hmn) | (with_reducible exact hR) | (with_reducible exact n030) | (with_reducible exact n1) | apply And.intro | exact rfl | ((with_reducible change r_I _); (with_reducible assumption)) | (intro hx; exact absurd hx (by decide)) | (intro hx; exact absurd (by decide) hx) | decide | intro hx | (refine Exists.intro _ (And.intro rfl ?_)))
      all_goals try first | (with_reducible change am_tI _ _) | (change Ret _ _) | (change Ret _ _ _) | (change Exists _)
      all_goals try dsimp only at *
      all_goals try (with_reducible exact absurd ‹(1000 : Int64) = 0› am_z1000)
      all_goals first | exact ⟨_, _, _, rfl, rfl, rfl, by decide, rfl⟩ | (change r_I _; (repeat' (first | (with_reducible assumption) | ((with_reducible change r_I (am_wJ _ _ _ _)); refine r_I.wJ ?_) | ((with_reducible change r_I (am_wI _ _ _ _)); refine r_I.wI ?_ rfl)))) | ((with_reducible change Ret _ _); exact h _ _ (by (repeat' (first | (with_reducible exact r_sc.rf) | (with_reducible assumption) | ((with_reducible change r_sc _ (am_wI _ _ _ _)); refine r_sc.wI ?_ rfl) | ((with_reducible change r_sc _ (am_wJ _ _ _ _)); refine r_sc.wJ ?_ rfl) | (refine r_sc.tr ?_ (by with_reducible assumption))))) (by (repeat' (first | (with_reducible assumption) | ((with_reducible change r_I (am_wJ _ _ _ _)); refine r_I.wJ ?_) | ((with_reducible change r_I (am_wI _ _ _ _)); refine r_I.wI ?_ rfl))))) | skip
    · exact h.elim
  · intro live as M0 Ret h k pc I hI L st M hi
    unfold TX8_digest at h
    split at h
    · next n =>
      obtain ⟨hmn, rfl, hR, h⟩ := h
      have hmn2 := hmn
      obtain ⟨i1, i2, rfl⟩ := hmn2
      have l201 : am_len 201 = 3760 := rfl
      have w0 : 0 ≤ (0 : Int32).toInt ∧ (0 : Int32).toInt ≤ 7 := ⟨by decide, by decide⟩
      have w6 : 0 ≤ (6 : Int32).toInt ∧ (6 : Int32).toInt ≤ 7 := ⟨by decide, by decide⟩
      have x0l : (0 : Int32).toInt < (am_len 201 : Int) := by rw [l201]; decide
      have x1l : (1 : Int32).toInt < (am_len 201 : Int) := by rw [l201]; decide
      have x2l : (2 : Int32).toInt < (am_len 201 : Int) := by rw [l201]; decide
      have x3l : (3 : Int32).toInt < (am_len 201 : Int) := by rw [l201]; decide
      have x4l : (4 : Int32).toInt < (am_len 201 : Int) := by rw [l201]; decide
      change (match pc with | 6 => _ | 34 => _ | 81 => _ | 125 => _ | 164 => _ | 203 => _ | 241 => _ | 267 => _ | 320 => _ | _ => none) = _ at hI
      split at hI
      · cases hI
        obtain ⟨v, i, rfl, rfl, rfl, e1, rfl⟩ := hi
        by_cases hz : (6 : Int32) ≤ i
        · skip
          repeat' (first | apply And.intro | exact rfl | (intro hx; with_reducible exact absurd hz hx) | intro hx | (refine Exists.intro _ (And.intro rfl ?_)))
          all_goals try first | (with_reducible change am_tI _ _) | (change Ret _ _) | (change Ret _ _ _) | (change Exists _)
          all_goals try dsimp only at *
          all_goals try (with_reducible exact absurd ‹(1000 : Int64) = 0› am_z1000)
          all_goals exact ⟨_, am_lt_l (by simp only [Int32.reduceToInt]; omega), _, _, rfl, rfl, rfl, by decide, rfl⟩
        · have hz2 := hz
          simp only [i_le, Int32.reduceToInt] at hz2
          have hi := i_inc (x := i) (by omega) (by omega)
          repeat' (first | apply And.intro | exact rfl | (intro hx; with_reducible exact absurd hx hz) | intro hx | (refine Exists.intro _ (And.intro rfl ?_)))
          all_goals try first | (with_reducible change am_tI _ _) | (change Ret _ _) | (change Ret _ _ _) | (change Exists _)
          all_goals try dsimp only at *
          all_goals try (with_reducible exact absurd ‹(1000 : Int64) = 0› am_z1000)
          all_goals first
            | omega
            | (rw [l201]; omega)
            | exact ⟨_, am_lt_l (by omega), _, _, rfl, rfl, rfl, by omega, rfl⟩
      · cases hI
        obtain ⟨v, i, rfl, rfl, rfl, e1, rfl⟩ := hi
        have n0 : 0 ≤ (M.1 201 (Int32.toNatClampNeg 0)).toInt ∧ (M.1 201 (Int32.toNatClampNeg 0)).toInt ≤ 12 := hR.n0
        by_cases hz : M.1 201 (Int32.toNatClampNeg 0) ≤ i
        · skip
          repeat' (first | (with_reducible exact x0l) | apply And.intro | exact rfl | (intro hx; with_reducible exact absurd hz hx) | (intro hx; exact absurd hx (by decide)) | (intro hx; exact absurd (by decide) hx) | decide | intro hx | (refine Exists.intro _ (And.intro rfl ?_)))
          all_goals try first | (with_reducible change am_tI _ _) | (change Ret _ _) | (change Ret _ _ _) | (change Exists _)
          all_goals try dsimp only at *
          all_goals try (with_reducible exact absurd ‹(1000 : Int64) = 0› am_z1000)
          all_goals exact ⟨_, am_lt_l (by simp only [Int32.reduceToInt]; omega), _, _, rfl, rfl, rfl, by decide, rfl⟩
        · have hz2 := hz
          simp only [i_le] at hz2
          have e10 := r_off (c := 10) (x := i) ⟨by decide, by decide⟩ ⟨by omega, by omega⟩
          have e22 := r_off (c := 22) (x := i) ⟨by decide, by decide⟩ ⟨by omega, by omega⟩
          simp only [Int32.reduceToInt] at e10 e22
          repeat' (first | (with_reducible exact x0l) | apply And.intro | exact rfl | (intro hx; with_reducible exact absurd hx hz) | (intro hx; exact absurd hx (by decide)) | (intro hx; exact absurd (by decide) hx) | decide | intro hx | (refine Exists.intro _ (And.intro rfl ?_)))
          all_goals try first | (with_reducible change am_tI _ _) | (change Ret _ _) | (change Ret _ _ _) | (change Exists _)
          all_goals try dsimp only at *
          all_goals try (with_reducible exact absurd ‹(1000 : Int64) = 0› am_z1000)
          all_goals first
            | omega
            | (rw [l201]; omega)
            | exact ⟨_, am_lt_l (by omega), _, _, _, rfl, rfl, rfl, ⟨e1, by omega⟩, by decide, rfl⟩
      · cases hI
        obtain ⟨v, i, j, rfl, rfl, rfl, ⟨e1, e4⟩, e5, rfl⟩ := hi
        have hi := i_inc (x := i) (by omega) (by omega)
        by_cases hz : (40 : Int32) ≤ j
        · skip
          repeat' (first | apply And.intro | exact rfl | (intro hx; with_reducible exact absurd hz hx) | intro hx | (refine Exists.intro _ (And.intro rfl ?_)))
          all_goals try first | (with_reducible change am_tI _ _) | (change Ret _ _) | (change Ret _ _ _) | (change Exists _)
          all_goals try dsimp only at *
          all_goals try (with_reducible exact absurd ‹(1000 : Int64) = 0› am_z1000)
          all_goals exact ⟨_, am_lt_l (by omega), _, _, rfl, rfl, rfl, by omega, rfl⟩
        · have hz2 := hz
          simp only [i_le, Int32.reduceToInt] at hz2
          have hj := i_inc (x := j) (by omega) (by omega)
          have e40 := r_mul (c := 40) (x := i) ⟨by decide, by decide⟩ ⟨by omega, by omega⟩
          simp only [Int32.reduceToInt] at e40
          have ea := r_off (c := 34) (x := 40 * i) ⟨by decide, by decide⟩ ⟨by omega, by omega⟩
          simp only [e40, Int32.reduceToInt] at ea
          have eb := r_off (c := 34 + 40 * i) (x := j) ⟨by omega, by omega⟩ ⟨by omega, by omega⟩
          repeat' (first | apply And.intro | exact rfl | (intro hx; with_reducible exact absurd hx hz) | intro hx | (refine Exists.intro _ (And.intro rfl ?_)))
          all_goals try first | (with_reducible change am_tI _ _) | (change Ret _ _) | (change Ret _ _ _) | (change Exists _)
          all_goals try dsimp only at *
          all_goals try (with_reducible exact absurd ‹(1000 : Int64) = 0› am_z1000)
          all_goals first
            | omega
            | (rw [l201]; omega)
            | exact ⟨_, am_lt_r (by omega), _, _, _, rfl, rfl, rfl, ⟨e1, e4⟩, by omega, rfl⟩
      · cases hI
        obtain ⟨v, i, rfl, rfl, rfl, e1, rfl⟩ := hi
        have n1 : 0 ≤ (M.1 201 (Int32.toNatClampNeg 1)).toInt ∧ (M.1 201 (Int32.toNatClampNeg 1)).toInt ≤ 30 := hR.n1
        have em := r_mul (c := 8) (x := M.1 201 (Int32.toNatClampNeg 1)) ⟨by decide, by decide⟩ ⟨n1.1, by omega⟩
        simp only [Int32.reduceToInt] at em
        by_cases hz : 8 * M.1 201 (Int32.toNatClampNeg 1) ≤ i
        · skip
          repeat' (first | (with_reducible exact x1l) | apply And.intro | exact rfl | (intro hx; with_reducible exact absurd hz hx) | (intro hx; exact absurd hx (by decide)) | (intro hx; exact absurd (by decide) hx) | decide | intro hx | (refine Exists.intro _ (And.intro rfl ?_)))
          all_goals try first | (with_reducible change am_tI _ _) | (change Ret _ _) | (change Ret _ _ _) | (change Exists _)
          all_goals try dsimp only at *
          all_goals try (with_reducible exact absurd ‹(1000 : Int64) = 0› am_z1000)
          all_goals exact ⟨_, am_lt_l (by simp only [Int32.reduceToInt]; omega), _, _, rfl, rfl, rfl, by decide, rfl⟩
        · have hz2 := hz
          simp only [i_le] at hz2
          have hi := i_inc (x := i) (by omega) (by omega)
          have eo := r_off (c := 2838) (x := i) ⟨by decide, by decide⟩ ⟨by omega, by omega⟩
          simp only [Int32.reduceToInt] at eo
          repeat' (first | (with_reducible exact x1l) | apply And.intro | exact rfl | (intro hx; with_reducible exact absurd hx hz) | (intro hx; exact absurd hx (by decide)) | (intro hx; exact absurd (by decide) hx) | decide | intro hx | (refine Exists.intro _ (And.intro rfl ?_)))
          all_goals try first | (with_reducible change am_tI _ _) | (change Ret _ _) | (change Ret _ _ _) | (change Exists _)
          all_goals try dsimp only at *
          all_goals try (with_reducible exact absurd ‹(1000 : Int64) = 0› am_z1000)
          all_goals first
            | omega
            | (rw [l201]; omega)
            | exact ⟨_, am_lt_l (by omega), _, _, rfl, rfl, rfl, by omega, rfl⟩
      · cases hI
        obtain ⟨v, i, rfl, rfl, rfl, e1, rfl⟩ := hi
        have n2 : 0 ≤ (M.1 201 (Int32.toNatClampNeg 2)).toInt ∧ (M.1 201 (Int32.toNatClampNeg 2)).toInt ≤ 60 := hR.n2
        have em := r_mul (c := 6) (x := M.1 201 (Int32.toNatClampNeg 2)) ⟨by decide, by decide⟩ ⟨n2.1, by omega⟩
        simp only [Int32.reduceToInt] at em
        by_cases hz : 6 * M.1 201 (Int32.toNatClampNeg 2) ≤ i
        · skip
          repeat' (first | (with_reducible exact x2l) | apply And.intro | exact rfl | (intro hx; with_reducible exact absurd hz hx) | (intro hx; exact absurd hx (by decide)) | (intro hx; exact absurd (by decide) hx) | decide | intro hx | (refine Exists.intro _ (And.intro rfl ?_)))
          all_goals try first | (with_reducible change am_tI _ _) | (change Ret _ _) | (change Ret _ _ _) | (change Exists _)
          all_goals try dsimp only at *
          all_goals try (with_reducible exact absurd ‹(1000 : Int64) = 0› am_z1000)
          all_goals exact ⟨_, am_lt_l (by simp only [Int32.reduceToInt]; omega), _, _, rfl, rfl, rfl, by decide, rfl⟩
        · have hz2 := hz
          simp only [i_le] at hz2
          have hi := i_inc (x := i) (by omega) (by omega)
          have eo := r_off (c := 2478) (x := i) ⟨by decide, by decide⟩ ⟨by omega, by omega⟩
          simp only [Int32.reduceToInt] at eo
          repeat' (first | (with_reducible exact x2l) | apply And.intro | exact rfl | (intro hx; with_reducible exact absurd hx hz) | (intro hx; exact absurd hx (by decide)) | (intro hx; exact absurd (by decide) hx) | decide | intro hx | (refine Exists.intro _ (And.intro rfl ?_)))
          all_goals try first | (with_reducible change am_tI _ _) | (change Ret _ _) | (change Ret _ _ _) | (change Exists _)
          all_goals try dsimp only at *
          all_goals try (with_reducible exact absurd ‹(1000 : Int64) = 0› am_z1000)
          all_goals first
            | omega
            | (rw [l201]; omega)
            | exact ⟨_, am_lt_l (by omega), _, _, rfl, rfl, rfl, by omega, rfl⟩
      · cases hI
        obtain ⟨v, i, rfl, rfl, rfl, e1, rfl⟩ := hi
        have n3 : 0 ≤ (M.1 201 (Int32.toNatClampNeg 3)).toInt ∧ (M.1 201 (Int32.toNatClampNeg 3)).toInt ≤ 60 := hR.n3
        have em := r_mul (c := 3) (x := M.1 201 (Int32.toNatClampNeg 3)) ⟨by decide, by decide⟩ ⟨n3.1, by omega⟩
        simp only [Int32.reduceToInt] at em
        by_cases hz : 3 * M.1 201 (Int32.toNatClampNeg 3) ≤ i
        · skip
          repeat' (first | (with_reducible exact x3l) | apply And.intro | exact rfl | (intro hx; with_reducible exact absurd hz hx) | (intro hx; exact absurd hx (by decide)) | (intro hx; exact absurd (by decide) hx) | decide | intro hx | (refine Exists.intro _ (And.intro rfl ?_)))
          all_goals try first | (with_reducible change am_tI _ _) | (change Ret _ _) | (change Ret _ _ _) | (change Exists _)
          all_goals try dsimp only at *
          all_goals try (with_reducible exact absurd ‹(1000 : Int64) = 0› am_z1000)
          all_goals exact ⟨_, am_lt_l (by simp only [Int32.reduceToInt]; omega), _, _, rfl, rfl, rfl, by decide, rfl⟩
        · have hz2 := hz
          simp only [i_le] at hz2
          have hi := i_inc (x := i) (by omega) (by omega)
          have eo := r_off (c := 3078) (x := i) ⟨by decide, by decide⟩ ⟨by omega, by omega⟩
          simp only [Int32.reduceToInt] at eo
          repeat' (first | (with_reducible exact x3l) | apply And.intro | exact rfl | (intro hx; with_reducible exact absurd hx hz) | (intro hx; exact absurd hx (by decide)) | (intro hx; exact absurd (by decide) hx) | decide | intro hx | (refine Exists.intro _ (And.intro rfl ?_)))
          all_goals try first | (with_reducible change am_tI _ _) | (change Ret _ _) | (change Ret _ _ _) | (change Exists _)
          all_goals try dsimp only at *
          all_goals try (with_reducible exact absurd ‹(1000 : Int64) = 0› am_z1000)
          all_goals first
            | omega
            | (rw [l201]; omega)
            | exact ⟨_, am_lt_l (by omega), _, _, rfl, rfl, rfl, by omega, rfl⟩
      · cases hI
        obtain ⟨v, i, rfl, rfl, rfl, e1, rfl⟩ := hi
        by_cases hz : (5 : Int32) ≤ i
        · skip
          repeat' (first | apply And.intro | exact rfl | (intro hx; with_reducible exact absurd hz hx) | intro hx | (refine Exists.intro _ (And.intro rfl ?_)))
          all_goals try first | (with_reducible change am_tI _ _) | (change Ret _ _) | (change Ret _ _ _) | (change Exists _)
          all_goals try dsimp only at *
          all_goals try (with_reducible exact absurd ‹(1000 : Int64) = 0› am_z1000)
          all_goals exact ⟨_, am_lt_l (by simp only [Int32.reduceToInt]; omega), _, _, rfl, rfl, rfl, by decide, r_sc.rf, hR⟩
        · have hz2 := hz
          simp only [i_le, Int32.reduceToInt] at hz2
          have ea := r_off (c := 3508) (x := i) ⟨by decide, by decide⟩ ⟨by omega, by omega⟩
          simp only [Int32.reduceToInt] at ea
          repeat' (first | apply And.intro | exact rfl | (intro hx; with_reducible exact absurd hx hz) | intro hx | (refine Exists.intro _ (And.intro rfl ?_)))
          all_goals try first | (with_reducible change am_tI _ _) | (change Ret _ _) | (change Ret _ _ _) | (change Exists _)
          all_goals try dsimp only at *
          all_goals try (with_reducible exact absurd ‹(1000 : Int64) = 0› am_z1000)
          all_goals first
            | omega
            | (rw [l201]; omega)
            | exact ⟨_, am_lt_l (by omega), _, _, _, rfl, rfl, rfl, ⟨e1, by omega⟩, by decide, rfl⟩
      · cases hI
        obtain ⟨v, i, j, rfl, rfl, rfl, ⟨e1, e4⟩, e5, rfl⟩ := hi
        have hi := i_inc (x := i) (by omega) (by omega)
        have ht5 : am_in i 5 := ⟨e1, by omega⟩
        have ea := r_off (c := 3508) (x := i) ⟨by decide, by decide⟩ ⟨by omega, by omega⟩
        simp only [Int32.reduceToInt] at ea
        have htx : (M.1 201 (3508 + i).toNatClampNeg).toInt ≤ 50 := by
          have q := hR.tx (g_cl ht5)
          have q2 := i_clamp (x := 3508 + i) (by omega)
          have q3 := i_clamp (x := i) e1
          rw [show (3508 + i).toNatClampNeg = 3508 + i.toNatClampNeg by omega]
          exact q.2
        by_cases hz : M.1 201 (3508 + i).toNatClampNeg ≤ j
        · skip
          repeat' (first | apply And.intro | exact rfl | (intro hx; with_reducible exact absurd hz hx) | intro hx | (refine Exists.intro _ (And.intro rfl ?_)))
          all_goals try first | (with_reducible change am_tI _ _) | (change Ret _ _) | (change Ret _ _ _) | (change Exists _)
          all_goals try dsimp only at *
          all_goals try (with_reducible exact absurd ‹(1000 : Int64) = 0› am_z1000)
          all_goals first
            | omega
            | (rw [l201]; omega)
            | exact ⟨_, am_lt_l (by omega), _, _, rfl, rfl, rfl, by omega, rfl⟩
        · have hz2 := hz
          simp only [i_le] at hz2
          have hj := i_inc (x := j) (by omega) (by omega)
          have e50 := r_mul (c := 50) (x := i) ⟨by decide, by decide⟩ ⟨by omega, by omega⟩
          simp only [Int32.reduceToInt] at e50
          have eb := r_off (c := 3258) (x := 50 * i) ⟨by decide, by decide⟩ ⟨by omega, by omega⟩
          simp only [e50, Int32.reduceToInt] at eb
          have ec := r_off (c := 3258 + 50 * i) (x := j) ⟨by omega, by omega⟩ ⟨by omega, by omega⟩
          repeat' (first | apply And.intro | exact rfl | (intro hx; with_reducible exact absurd hx hz) | intro hx | (refine Exists.intro _ (And.intro rfl ?_)))
          all_goals try first | (with_reducible change am_tI _ _) | (change Ret _ _) | (change Ret _ _ _) | (change Exists _)
          all_goals try dsimp only at *
          all_goals try (with_reducible exact absurd ‹(1000 : Int64) = 0› am_z1000)
          all_goals first
            | omega
            | (rw [l201]; omega)
            | exact ⟨_, am_lt_r (by omega), _, _, _, rfl, rfl, rfl, ⟨e1, e4⟩, by omega, rfl⟩
      · cases hI
        obtain ⟨v, i, rfl, rfl, rfl, e1, e2, e3⟩ := hi
        have n1 : 0 ≤ (M.1 201 (Int32.toNatClampNeg 1)).toInt ∧ (M.1 201 (Int32.toNatClampNeg 1)).toInt ≤ 30 := e3.n1
        have y39 : (39 : Int32).toInt ≤ 39 := by decide
        by_cases hz : M.1 201 (Int32.toNatClampNeg 1) ≤ i
        · skip
          repeat' (first | (with_reducible exact x1l) | apply And.intro | exact rfl | (intro hx; with_reducible exact absurd hz hx) | (intro hx; exact absurd hx (by decide)) | (intro hx; exact absurd (by decide) hx) | decide | intro hx | (refine Exists.intro _ (And.intro rfl ?_)))
          all_goals try first | (with_reducible change am_tI _ _) | (change Ret _ _) | (change Ret _ _ _) | (change Exists _)
          all_goals try dsimp only at *
          all_goals try (with_reducible exact absurd ‹(1000 : Int64) = 0› am_z1000)
          all_goals exact h _ _ e2 e3
        · have hz2 := hz
          simp only [i_le] at hz2
          have hl : am_in i 30 := ⟨e1, by omega⟩
          have hp := r_pers e3 hl
          have hi := i_inc (x := i) (by omega) (by omega)
          have x2 : i.toInt < ((30 : Nat) : Int) := by omega
          repeat' (first | (with_reducible exact x1l) | (with_reducible exact hmn) | (with_reducible exact hl) | (with_reducible exact hp) | (with_reducible exact w0) | (with_reducible exact y39) | (with_reducible exact e1) | (with_reducible exact e3) | apply And.intro | exact rfl | (intro hx; with_reducible exact absurd hx hz) | ((with_reducible change r_I _); (with_reducible assumption)) | (intro hx; exact absurd hx (by decide)) | (intro hx; exact absurd (by decide) hx) | decide | intro hx | (refine Exists.intro _ (And.intro rfl ?_)))
          all_goals try first | (with_reducible change am_tI _ _) | (change Ret _ _) | (change Ret _ _ _) | (change Exists _)
          all_goals try dsimp only at *
          all_goals try (with_reducible exact absurd ‹(1000 : Int64) = 0› am_z1000)
          all_goals first
            | (with_reducible exact x2)
            | exact x2
            | exact ⟨_, am_lt_l (by omega), _, _, rfl, rfl, rfl, by omega, by (repeat' (first | (with_reducible exact r_sc.rf) | (with_reducible assumption) | ((with_reducible change r_sc _ (am_wI _ _ _ _)); refine r_sc.wI ?_ rfl) | ((with_reducible change r_sc _ (am_wJ _ _ _ _)); refine r_sc.wJ ?_ rfl) | (refine r_sc.tr ?_ (by with_reducible assumption)))), by (repeat' (first | (with_reducible assumption) | ((with_reducible change r_I (am_wJ _ _ _ _)); refine r_I.wJ ?_) | ((with_reducible change r_I (am_wI _ _ _ _)); refine r_I.wI ?_ rfl)))⟩
      · cases hI
    · exact h.elim
end
-- part 70.rel.lean.txt
section
/-! the relation of class and reference: what both hold of what is told -/
/-- (offset of the name in a house's block, first place there, place among the reference's numbers, how many) -/
def rl_c : List (Nat × Nat × Nat × Nat) := [(1, 7, 0, 1), (13, 2, 1, 1), (15, 2, 3, 1), (34, 2, 4, 1), (0, 12, 5, 1), (2, 0, 10, 12), (3, 0, 22, 12), (4, 0, 34, 480), (9, 0, 514, 4), (10, 0, 518, 40), (5, 0, 558, 480), (6, 0, 1038, 480), (7, 0, 1518, 480), (8, 0, 1998, 480), (14, 0, 2838, 240), (16, 0, 3078, 180), (20, 0, 3258, 50), (23, 0, 3308, 50), (26, 0, 3358, 50), (29, 0, 3408, 50), (32, 0, 3458, 50), (19, 5, 3508, 1), (22, 5, 3509, 1), (25, 5, 3510, 1), (28, 5, 3511, 1), (31, 5, 3512, 1), (35, 0, 3513, 60), (36, 0, 3573, 160), (37, 0, 3733, 12), (38, 0, 3745, 9)]
/-- the class's block b in A, the reference's array r from o on in B -/
def rl (b r o : Nat) (A B : am_M) : Prop := ∃ _ : Unit, (∀ q ∈ rl_c, ∀ k, k < q.2.2.2 → A.1 (b + q.1) (q.2.1 + k) = B.1 r (o + (q.2.2.1 + k))) ∧ A.1 (b + 11) 2 = B.1 r (o + 2) ∧ ∀ k, k < 6 * (A.1 (b + 11) 2).toNatClampNeg → A.1 (b + 12) k = B.1 r (o + (2478 + k))
theorem rl_c_names : ∀ q ∈ rl_c, ∀ q' ∈ rl_c, q.1 = q'.1 → q = q' := by decide
theorem rl_c_apart : ∀ q ∈ rl_c, ∀ q' ∈ rl_c, q = q' ∨ q.2.2.1 + q.2.2.2 ≤ q'.2.2.1 ∨ q'.2.2.1 + q'.2.2.2 ≤ q.2.2.1 := by decide
theorem rl_c_off : ∀ q ∈ rl_c, q.1 ≠ 11 ∧ q.1 ≠ 12 ∧ (q.2.2.1 + q.2.2.2 ≤ 2 ∨ 3 ≤ q.2.2.1) ∧ (q.2.2.1 + q.2.2.2 ≤ 2478 ∨ 2838 ≤ q.2.2.1) := by decide
theorem rl.c {b r o : Nat} {A B : am_M} (h : rl b r o A B) {q : Nat × Nat × Nat × Nat} (hq : q ∈ rl_c) {k : Nat} (hk : k < q.2.2.2) : A.1 (b + q.1) (q.2.1 + k) = B.1 r (o + (q.2.2.1 + k)) := by obtain ⟨-, h, -⟩ := h; exact h q hq k hk
/-- a number put on both sides -/
theorem rl.put {b r o : Nat} {A B : am_M} (h : rl b r o A B) {q : Nat × Nat × Nat × Nat} (hq : q ∈ rl_c) {k : Nat} (hk : k < q.2.2.2) (v : Int32) (ha : (A.1 (b + 11) 2).toNatClampNeg ≤ 60) : rl b r o (am_wI A (b + q.1) (q.2.1 + k) v) (am_wI B r (o + (q.2.2.1 + k)) v) := by
  have ho := rl_c_off q hq
  obtain ⟨-, h1, h2, h3⟩ := h
  have e11 : (am_wI A (b + q.1) (q.2.1 + k) v).1 (b + 11) 2 = A.1 (b + 11) 2 := by rw [am_wI_1, if_neg (fun z => ho.1 (by omega))]
  refine ⟨(), fun q' hq' k' hk' => ?_, ?_, fun k' hk' => ?_⟩
  · rw [am_wI_1, am_wI_1]
    by_cases e : q' = q
    · subst e
      by_cases e2 : k' = k
      · subst e2
        rw [if_pos ⟨rfl, rfl⟩, if_pos ⟨rfl, rfl⟩]
      · rw [if_neg (fun z => e2 (by omega)), if_neg (fun z => e2 (by omega))]
        exact h1 _ hq' _ hk'
    · have n1 : q'.1 ≠ q.1 := fun z => e (rl_c_names q' hq' q hq z)
      have n2 := (rl_c_apart q' hq' q hq).resolve_left e
      rw [if_neg (fun z => n1 (by omega)), if_neg (fun z => by omega)]
      exact h1 _ hq' _ hk'
  · rw [e11, am_wI_1, if_neg (fun z => by omega)]
    exact h2
  · rw [e11] at hk'
    rw [am_wI_1, if_neg (fun z => ho.2.1 (by omega)), am_wI_1, if_neg (fun z => by omega)]
    exact h3 _ hk'
/-- the sides are looked at by their own names alone -/
theorem rl.cg {b r o : Nat} {A B A' B' : am_M} (h : rl b r o A B) (h1 : ∀ a k, b ≤ a → a < b + 39 → A'.1 a k = A.1 a k) (h2 : ∀ k, o ≤ k → k < o + 3760 → B'.1 r k = B.1 r k) (ha : (A.1 (b + 11) 2).toNatClampNeg ≤ 60) : rl b r o A' B' := by
  obtain ⟨-, a1, a2, a3⟩ := h
  have hl : ∀ q ∈ rl_c, q.1 < 39 ∧ q.2.2.1 + q.2.2.2 ≤ 3760 := by decide
  have e11 := h1 (b + 11) 2 (by omega) (by omega)
  refine ⟨(), fun q hq k hk => ?_, ?_, fun k hk => ?_⟩
  · have := hl q hq
    rw [h1 _ _ (by omega) (by omega), h2 _ (by omega) (by omega)]
    exact a1 q hq k hk
  · rw [e11, h2 _ (by omega) (by omega)]
    exact a2
  · rw [e11] at hk
    rw [h1 _ _ (by omega) (by omega), h2 _ (by omega) (by omega)]
    exact a3 k hk
/-- a stretch laid on both sides -/
theorem rl.lay {b r o : Nat} {A B : am_M} (h : rl b r o A B) {q : Nat × Nat × Nat × Nat} (hq : q ∈ rl_c) (lo hi : Int) (v : Int32) (h0 : 0 ≤ lo) (hh : hi < (q.2.2.2 : Int)) (ha : (A.1 (b + 11) 2).toNatClampNeg ≤ 60) : rl b r o (am_lay A (b + q.1) (q.2.1 + lo) (q.2.1 + hi) v) (am_lay B r ((o + q.2.2.1 : Nat) + lo) ((o + q.2.2.1 : Nat) + hi) v) := by
  have ho := rl_c_off q hq
  obtain ⟨-, h1, h2, h3⟩ := h
  have e11 : (am_lay A (b + q.1) (q.2.1 + lo) (q.2.1 + hi) v).1 (b + 11) 2 = A.1 (b + 11) 2 := by rw [am_lay_1, if_neg (fun z => ho.1 (by omega))]
  refine ⟨(), fun q' hq' k' hk' => ?_, ?_, fun k' hk' => ?_⟩
  · rw [am_lay_1, am_lay_1]
    by_cases e : q' = q
    · subst e
      by_cases e2 : lo ≤ (k' : Int) ∧ (k' : Int) ≤ hi
      · rw [if_pos ⟨rfl, by omega, by omega⟩, if_pos ⟨rfl, by omega, by omega⟩]
      · rw [if_neg (fun z => e2 (by omega)), if_neg (fun z => e2 (by omega))]
        exact h1 _ hq' _ hk'
    · have n1 : q'.1 ≠ q.1 := fun z => e (rl_c_names q' hq' q hq z)
      have n2 := (rl_c_apart q' hq' q hq).resolve_left e
      rw [if_neg (fun z => n1 (by omega)), if_neg (fun z => by omega)]
      exact h1 _ hq' _ hk'
  · rw [e11, am_lay_1, if_neg (fun z => by omega)]
    exact h2
  · rw [e11] at hk'
    rw [am_lay_1, if_neg (fun z => ho.2.1 (by omega)), am_lay_1, if_neg (fun z => by omega)]
    exact h3 _ hk'
/-- a house taken over on both sides -/
theorem rl.cpy {b m r o r' o' : Nat} {A A' B B' : am_M} (h : rl m r o A B) (h1 : ∀ u k, g_hit g_sh0 u k = true → A'.1 (b + u) k = A.1 (m + u) k) (h2 : ∀ k, k < 3760 → B'.1 r' (o' + k) = B.1 r (o + k)) (ha : (A.1 (m + 11) 2).toNatClampNeg ≤ 60) : rl b r' o' A' B' := by
  obtain ⟨-, a1, a2, a3⟩ := h
  have hl : ∀ q ∈ rl_c, q.2.2.1 + q.2.2.2 ≤ 3760 ∧ ∃ s ∈ g_sh0, s.1 = q.1 ∧ s.2.1 ≤ q.2.1 ∧ q.2.1 + q.2.2.2 ≤ s.2.1 + s.2.2 := by decide
  have hit : ∀ s ∈ g_sh0, ∀ k, s.2.1 ≤ k → k < s.2.1 + s.2.2 → g_hit g_sh0 s.1 k = true := fun s hs k k1 k2 => by
    unfold g_hit
    exact List.any_eq_true.mpr ⟨s, hs, by rw [Bool.and_eq_true, Bool.and_eq_true]; exact ⟨⟨Nat.beq_refl _, Nat.ble_eq.mpr k1⟩, Nat.ble_eq.mpr k2⟩⟩
  have e11 : A'.1 (b + 11) 2 = A.1 (m + 11) 2 := h1 11 2 (hit (11, 2, 1) (by decide) 2 (by decide) (by decide))
  refine ⟨(), fun q hq k hk => ?_, ?_, fun k hk => ?_⟩
  · obtain ⟨l1, s, hs, s1, s2, s3⟩ := hl q hq
    rw [h1 q.1 _ (s1 ▸ hit s hs _ (by omega) (by omega)), h2 _ (by omega)]
    exact a1 q hq k hk
  · rw [e11, h2 _ (by decide)]
    exact a2
  · rw [e11] at hk
    rw [h1 12 k (hit (12, 0, 366) (by decide) k (Nat.zero_le _) (by show k < 0 + 366; omega)), h2 _ (by omega)]
    exact a3 k hk
end
-- part 71.li.lean.txt
section
/-! what holds between calls, of both -/
/-- what may stand at a place of the reference's numbers -/
def t_v (k : Nat) (v : Int) : Prop := (k = 0 → 0 ≤ v ∧ v ≤ 12) ∧ (k = 1 → 0 ≤ v ∧ v ≤ 30) ∧ (k = 2 → 0 ≤ v ∧ v ≤ 60) ∧ (k = 3 → 0 ≤ v ∧ v ≤ 60) ∧ (k = 4 → 0 ≤ v ∧ v ≤ 20) ∧ (k = 5 → 0 ≤ v ∧ v ≤ 9) ∧ (10 ≤ k ∧ k < 22 → 0 ≤ v ∧ v ≤ 39) ∧ (22 ≤ k ∧ k < 34 → -1 ≤ v ∧ v ≤ 39) ∧ (34 ≤ k ∧ k < 514 → 0 ≤ v ∧ v ≤ 3) ∧ (514 ≤ k ∧ k < 518 → 1 ≤ v ∧ v ≤ 5000) ∧ (518 ≤ k ∧ k < 558 → -100 ≤ v ∧ v ≤ 500) ∧ ((558 ≤ k ∧ k < 1038) ∨ (1518 ≤ k ∧ k < 1998) → 0 ≤ v ∧ v ≤ 10000000) ∧ ((1038 ≤ k ∧ k < 1518) ∨ (1998 ≤ k ∧ k < 2478) → -1 ≤ v ∧ v ≤ 39) ∧ (2478 ≤ k ∧ k < 2838 ∧ k % 6 = 0 → 0 ≤ v ∧ v ≤ 4) ∧ (2478 ≤ k ∧ k < 2838 ∧ k % 6 = 1 → 0 ≤ v ∧ v ≤ 5) ∧ (2478 ≤ k ∧ k < 2838 ∧ k % 6 = 2 → 0 ≤ v ∧ v ≤ 10000000) ∧ (2478 ≤ k ∧ k < 2838 ∧ 3 ≤ k % 6 → 0 ≤ v ∧ v ≤ 39) ∧ (2838 ≤ k ∧ k < 3078 ∧ (k + 2) % 8 = 0 → 0 ≤ v ∧ v ≤ 11) ∧ (2838 ≤ k ∧ k < 3078 ∧ (k + 2) % 8 = 1 → 0 ≤ v ∧ v ≤ 4) ∧ (2838 ≤ k ∧ k < 3078 ∧ (k + 2) % 8 = 2 → 0 ≤ v ∧ v ≤ 39) ∧ (2838 ≤ k ∧ k < 3078 ∧ (k + 2) % 8 = 3 → 0 ≤ v ∧ v ≤ 10000000) ∧ (2838 ≤ k ∧ k < 3078 ∧ (k + 2) % 8 = 4 → 0 ≤ v ∧ v ≤ 1) ∧ (2838 ≤ k ∧ k < 3078 ∧ (k + 2) % 8 = 5 → -1 ≤ v ∧ v ≤ 39) ∧ (2838 ≤ k ∧ k < 3078 ∧ (k + 2) % 8 = 6 → -1 ≤ v ∧ v ≤ 3) ∧ (2838 ≤ k ∧ k < 3078 ∧ (k + 2) % 8 = 7 → -1 ≤ v ∧ v ≤ 39) ∧ (3078 ≤ k ∧ k < 3258 ∧ k % 3 = 0 → 0 ≤ v ∧ v ≤ 29) ∧ (3078 ≤ k ∧ k < 3258 ∧ k % 3 = 1 → 0 ≤ v ∧ v ≤ 4) ∧ (3078 ≤ k ∧ k < 3258 ∧ k % 3 = 2 → 0 ≤ v ∧ v ≤ 39) ∧ (3258 ≤ k ∧ k < 3508 → 0 ≤ v ∧ v ≤ 127) ∧ (3508 ≤ k ∧ k < 3513 → 0 ≤ v ∧ v ≤ 50) ∧ (3513 ≤ k ∧ k < 3573 ∧ k % 3 = 0 → 0 ≤ v ∧ v ≤ 3) ∧ (3513 ≤ k ∧ k < 3573 ∧ k % 3 = 1 → 0 ≤ v ∧ v ≤ 39) ∧ (3513 ≤ k ∧ k < 3573 ∧ k % 3 = 2 → 0 ≤ v ∧ v ≤ 1000000000) ∧ (3573 ≤ k ∧ k < 3733 → 0 ≤ v ∧ v ≤ 10000000) ∧ (3733 ≤ k ∧ k < 3745 → 0 ≤ v ∧ v ≤ 10) ∧ (3745 ≤ k ∧ k < 3754 → 0 ≤ v ∧ v ≤ 10000000)
def t_ok (f : Nat → Int32) : Prop := ∃ _ : Unit, ∀ k, k < 3760 → t_v k (f k).toInt
theorem t_ok.v {f : Nat → Int32} (h : t_ok f) {k : Nat} (hk : k < 3760) : t_v k (f k).toInt := by obtain ⟨-, h⟩ := h; exact h k hk
theorem t_v.a0 {k : Nat} {v : Int} (h : t_v k v) (q : k = 0) : 0 ≤ v ∧ v ≤ 12 := by obtain ⟨h, -⟩ := h; exact h q
theorem t_v.a1 {k : Nat} {v : Int} (h : t_v k v) (q : k = 1) : 0 ≤ v ∧ v ≤ 30 := by obtain ⟨-, h, -⟩ := h; exact h q
theorem t_v.a2 {k : Nat} {v : Int} (h : t_v k v) (q : k = 2) : 0 ≤ v ∧ v ≤ 60 := by obtain ⟨-, -, h, -⟩ := h; exact h q
theorem t_v.a3 {k : Nat} {v : Int} (h : t_v k v) (q : k = 3) : 0 ≤ v ∧ v ≤ 60 := by obtain ⟨-, -, -, h, -⟩ := h; exact h q
theorem t_v.a4 {k : Nat} {v : Int} (h : t_v k v) (q : k = 4) : 0 ≤ v ∧ v ≤ 20 := by obtain ⟨-, -, -, -, h, -⟩ := h; exact h q
theorem t_v.a5 {k : Nat} {v : Int} (h : t_v k v) (q : k = 5) : 0 ≤ v ∧ v ≤ 9 := by obtain ⟨-, -, -, -, -, h, -⟩ := h; exact h q
theorem t_v.a6 {k : Nat} {v : Int} (h : t_v k v) (q : 10 ≤ k ∧ k < 22) : 0 ≤ v ∧ v ≤ 39 := by obtain ⟨-, -, -, -, -, -, h, -⟩ := h; exact h q
theorem t_v.a7 {k : Nat} {v : Int} (h : t_v k v) (q : 22 ≤ k ∧ k < 34) : -1 ≤ v ∧ v ≤ 39 := by obtain ⟨-, -, -, -, -, -, -, h, -⟩ := h; exact h q
theorem t_v.a8 {k : Nat} {v : Int} (h : t_v k v) (q : 34 ≤ k ∧ k < 514) : 0 ≤ v ∧ v ≤ 3 := by obtain ⟨-, -, -, -, -, -, -, -, h, -⟩ := h; exact h q
theorem t_v.a9 {k : Nat} {v : Int} (h : t_v k v) (q : 514 ≤ k ∧ k < 518) : 1 ≤ v ∧ v ≤ 5000 := by obtain ⟨-, -, -, -, -, -, -, -, -, h, -⟩ := h; exact h q
theorem t_v.a10 {k : Nat} {v : Int} (h : t_v k v) (q : 518 ≤ k ∧ k < 558) : -100 ≤ v ∧ v ≤ 500 := by obtain ⟨-, -, -, -, -, -, -, -, -, -, h, -⟩ := h; exact h q
theorem t_v.a11 {k : Nat} {v : Int} (h : t_v k v) (q : (558 ≤ k ∧ k < 1038) ∨ (1518 ≤ k ∧ k < 1998)) : 0 ≤ v ∧ v ≤ 10000000 := by obtain ⟨-, -, -, -, -, -, -, -, -, -, -, h, -⟩ := h; exact h q
theorem t_v.a12 {k : Nat} {v : Int} (h : t_v k v) (q : (1038 ≤ k ∧ k < 1518) ∨ (1998 ≤ k ∧ k < 2478)) : -1 ≤ v ∧ v ≤ 39 := by obtain ⟨-, -, -, -, -, -, -, -, -, -, -, -, h, -⟩ := h; exact h q
theorem t_v.a13 {k : Nat} {v : Int} (h : t_v k v) (q : 2478 ≤ k ∧ k < 2838 ∧ k % 6 = 0) : 0 ≤ v ∧ v ≤ 4 := by obtain ⟨-, -, -, -, -, -, -, -, -, -, -, -, -, h, -⟩ := h; exact h q
theorem t_v.a14 {k : Nat} {v : Int} (h : t_v k v) (q : 2478 ≤ k ∧ k < 2838 ∧ k % 6 = 1) : 0 ≤ v ∧ v ≤ 5 := by obtain ⟨-, -, -, -, -, -, -, -, -, -, -, -, -, -, h, -⟩ := h; exact h q
theorem t_v.a15 {k : Nat} {v : Int} (h : t_v k v) (q : 2478 ≤ k ∧ k < 2838 ∧ k % 6 = 2) : 0 ≤ v ∧ v ≤ 10000000 := by obtain ⟨-, -, -, -, -, -, -, -, -, -, -, -, -, -, -, h, -⟩ := h; exact h q
theorem t_v.a16 {k : Nat} {v : Int} (h : t_v k v) (q : 2478 ≤ k ∧ k < 2838 ∧ 3 ≤ k % 6) : 0 ≤ v ∧ v ≤ 39 := by obtain ⟨-, -, -, -, -, -, -, -, -, -, -, -, -, -, -, -, h, -⟩ := h; exact h q
theorem t_v.a17 {k : Nat} {v : Int} (h : t_v k v) (q : 2838 ≤ k ∧ k < 3078 ∧ (k + 2) % 8 = 0) : 0 ≤ v ∧ v ≤ 11 := by obtain ⟨-, -, -, -, -, -, -, -, -, -, -, -, -, -, -, -, -, h, -⟩ := h; exact h q
theorem t_v.a18 {k : Nat} {v : Int} (h : t_v k v) (q : 2838 ≤ k ∧ k < 3078 ∧ (k + 2) % 8 = 1) : 0 ≤ v ∧ v ≤ 4 := by obtain ⟨-, -, -, -, -, -, -, -, -, -, -, -, -, -, -, -, -, -, h, -⟩ := h; exact h q
theorem t_v.a19 {k : Nat} {v : Int} (h : t_v k v) (q : 2838 ≤ k ∧ k < 3078 ∧ (k + 2) % 8 = 2) : 0 ≤ v ∧ v ≤ 39 := by obtain ⟨-, -, -, -, -, -, -, -, -, -, -, -, -, -, -, -, -, -, -, h, -⟩ := h; exact h q
theorem t_v.a20 {k : Nat} {v : Int} (h : t_v k v) (q : 2838 ≤ k ∧ k < 3078 ∧ (k + 2) % 8 = 3) : 0 ≤ v ∧ v ≤ 10000000 := by obtain ⟨-, -, -, -, -, -, -, -, -, -, -, -, -, -, -, -, -, -, -, -, h, -⟩ := h; exact h q
theorem t_v.a21 {k : Nat} {v : Int} (h : t_v k v) (q : 2838 ≤ k ∧ k < 3078 ∧ (k + 2) % 8 = 4) : 0 ≤ v ∧ v ≤ 1 := by obtain ⟨-, -, -, -, -, -, -, -, -, -, -, -, -, -, -, -, -, -, -, -, -, h, -⟩ := h; exact h q
theorem t_v.a22 {k : Nat} {v : Int} (h : t_v k v) (q : 2838 ≤ k ∧ k < 3078 ∧ (k + 2) % 8 = 5) : -1 ≤ v ∧ v ≤ 39 := by obtain ⟨-, -, -, -, -, -, -, -, -, -, -, -, -, -, -, -, -, -, -, -, -, -, h, -⟩ := h; exact h q
theorem t_v.a23 {k : Nat} {v : Int} (h : t_v k v) (q : 2838 ≤ k ∧ k < 3078 ∧ (k + 2) % 8 = 6) : -1 ≤ v ∧ v ≤ 3 := by obtain ⟨-, -, -, -, -, -, -, -, -, -, -, -, -, -, -, -, -, -, -, -, -, -, -, h, -⟩ := h; exact h q
theorem t_v.a24 {k : Nat} {v : Int} (h : t_v k v) (q : 2838 ≤ k ∧ k < 3078 ∧ (k + 2) % 8 = 7) : -1 ≤ v ∧ v ≤ 39 := by obtain ⟨-, -, -, -, -, -, -, -, -, -, -, -, -, -, -, -, -, -, -, -, -, -, -, -, h, -⟩ := h; exact h q
theorem t_v.a25 {k : Nat} {v : Int} (h : t_v k v) (q : 3078 ≤ k ∧ k < 3258 ∧ k % 3 = 0) : 0 ≤ v ∧ v ≤ 29 := by obtain ⟨-, -, -, -, -, -, -, -, -, -, -, -, -, -, -, -, -, -, -, -, -, -, -, -, -, h, -⟩ := h; exact h q
theorem t_v.a26 {k : Nat} {v : Int} (h : t_v k v) (q : 3078 ≤ k ∧ k < 3258 ∧ k % 3 = 1) : 0 ≤ v ∧ v ≤ 4 := by obtain ⟨-, -, -, -, -, -, -, -, -, -, -, -, -, -, -, -, -, -, -, -, -, -, -, -, -, -, h, -⟩ := h; exact h q
theorem t_v.a27 {k : Nat} {v : Int} (h : t_v k v) (q : 3078 ≤ k ∧ k < 3258 ∧ k % 3 = 2) : 0 ≤ v ∧ v ≤ 39 := by obtain ⟨-, -, -, -, -, -, -, -, -, -, -, -, -, -, -, -, -, -, -, -, -, -, -, -, -, -, -, h, -⟩ := h; exact h q
theorem t_v.a28 {k : Nat} {v : Int} (h : t_v k v) (q : 3258 ≤ k ∧ k < 3508) : 0 ≤ v ∧ v ≤ 127 := by obtain ⟨-, -, -, -, -, -, -, -, -, -, -, -, -, -, -, -, -, -, -, -, -, -, -, -, -, -, -, -, h, -⟩ := h; exact h q
theorem t_v.a29 {k : Nat} {v : Int} (h : t_v k v) (q : 3508 ≤ k ∧ k < 3513) : 0 ≤ v ∧ v ≤ 50 := by obtain ⟨-, -, -, -, -, -, -, -, -, -, -, -, -, -, -, -, -, -, -, -, -, -, -, -, -, -, -, -, -, h, -⟩ := h; exact h q
theorem t_v.a30 {k : Nat} {v : Int} (h : t_v k v) (q : 3513 ≤ k ∧ k < 3573 ∧ k % 3 = 0) : 0 ≤ v ∧ v ≤ 3 := by obtain ⟨-, -, -, -, -, -, -, -, -, -, -, -, -, -, -, -, -, -, -, -, -, -, -, -, -, -, -, -, -, -, h, -⟩ := h; exact h q
theorem t_v.a31 {k : Nat} {v : Int} (h : t_v k v) (q : 3513 ≤ k ∧ k < 3573 ∧ k % 3 = 1) : 0 ≤ v ∧ v ≤ 39 := by obtain ⟨-, -, -, -, -, -, -, -, -, -, -, -, -, -, -, -, -, -, -, -, -, -, -, -, -, -, -, -, -, -, -, h, -⟩ := h; exact h q
theorem t_v.a32 {k : Nat} {v : Int} (h : t_v k v) (q : 3513 ≤ k ∧ k < 3573 ∧ k % 3 = 2) : 0 ≤ v ∧ v ≤ 1000000000 := by obtain ⟨-, -, -, -, -, -, -, -, -, -, -, -, -, -, -, -, -, -, -, -, -, -, -, -, -, -, -, -, -, -, -, -, h, -⟩ := h; exact h q
theorem t_v.a33 {k : Nat} {v : Int} (h : t_v k v) (q : 3573 ≤ k ∧ k < 3733) : 0 ≤ v ∧ v ≤ 10000000 := by obtain ⟨-, -, -, -, -, -, -, -, -, -, -, -, -, -, -, -, -, -, -, -, -, -, -, -, -, -, -, -, -, -, -, -, -, h, -⟩ := h; exact h q
theorem t_v.a34 {k : Nat} {v : Int} (h : t_v k v) (q : 3733 ≤ k ∧ k < 3745) : 0 ≤ v ∧ v ≤ 10 := by obtain ⟨-, -, -, -, -, -, -, -, -, -, -, -, -, -, -, -, -, -, -, -, -, -, -, -, -, -, -, -, -, -, -, -, -, -, h, -⟩ := h; exact h q
theorem t_v.a35 {k : Nat} {v : Int} (h : t_v k v) (q : 3745 ≤ k ∧ k < 3754) : 0 ≤ v ∧ v ≤ 10000000 := by obtain ⟨-, -, -, -, -, -, -, -, -, -, -, -, -, -, -, -, -, -, -, -, -, -, -, -, -, -, -, -, -, -, -, -, -, -, -, h⟩ := h; exact h q
theorem t_v.ba {k : Nat} {v : Int} (z : k < 10) (w : (k = 0 → 0 ≤ v ∧ v ≤ 12) ∧ (k = 1 → 0 ≤ v ∧ v ≤ 30) ∧ (k = 2 → 0 ≤ v ∧ v ≤ 60) ∧ (k = 3 → 0 ≤ v ∧ v ≤ 60) ∧ (k = 4 → 0 ≤ v ∧ v ≤ 20) ∧ (k = 5 → 0 ≤ v ∧ v ≤ 9)) : t_v k v := by
  obtain ⟨h0, h1, h2, h3, h4, h5⟩ := w
  exact ⟨h0, h1, h2, h3, h4, h5, fun q => absurd q (by omega), fun q => absurd q (by omega), fun q => absurd q (by omega), fun q => absurd q (by omega), fun q => absurd q (by omega), fun q => absurd q (by omega), fun q => absurd q (by omega), fun q => absurd q (by omega), fun q => absurd q (by omega), fun q => absurd q (by omega), fun q => absurd q (by omega), fun q => absurd q (by omega), fun q => absurd q (by omega), fun q => absurd q (by omega), fun q => absurd q (by omega), fun q => absurd q (by omega), fun q => absurd q (by omega), fun q => absurd q (by omega), fun q => absurd q (by omega), fun q => absurd q (by omega), fun q => absurd q (by omega), fun q => absurd q (by omega), fun q => absurd q (by omega), fun q => absurd q (by omega), fun q => absurd q (by omega), fun q => absurd q (by omega), fun q => absurd q (by omega), fun q => absurd q (by omega), fun q => absurd q (by omega), fun q => absurd q (by omega)⟩
theorem t_v.m0 {k : Nat} {v : Int} (z : k = 0) (w : 0 ≤ v ∧ v ≤ 12) : t_v k v := t_v.ba (by omega) ⟨fun _ => w, fun q => absurd q (by omega), fun q => absurd q (by omega), fun q => absurd q (by omega), fun q => absurd q (by omega), fun q => absurd q (by omega)⟩
theorem t_v.m1 {k : Nat} {v : Int} (z : k = 1) (w : 0 ≤ v ∧ v ≤ 30) : t_v k v := t_v.ba (by omega) ⟨fun q => absurd q (by omega), fun _ => w, fun q => absurd q (by omega), fun q => absurd q (by omega), fun q => absurd q (by omega), fun q => absurd q (by omega)⟩
theorem t_v.m2 {k : Nat} {v : Int} (z : k = 2) (w : 0 ≤ v ∧ v ≤ 60) : t_v k v := t_v.ba (by omega) ⟨fun q => absurd q (by omega), fun q => absurd q (by omega), fun _ => w, fun q => absurd q (by omega), fun q => absurd q (by omega), fun q => absurd q (by omega)⟩
theorem t_v.m3 {k : Nat} {v : Int} (z : k = 3) (w : 0 ≤ v ∧ v ≤ 60) : t_v k v := t_v.ba (by omega) ⟨fun q => absurd q (by omega), fun q => absurd q (by omega), fun q => absurd q (by omega), fun _ => w, fun q => absurd q (by omega), fun q => absurd q (by omega)⟩
theorem t_v.m4 {k : Nat} {v : Int} (z : k = 4) (w : 0 ≤ v ∧ v ≤ 20) : t_v k v := t_v.ba (by omega) ⟨fun q => absurd q (by omega), fun q => absurd q (by omega), fun q => absurd q (by omega), fun q => absurd q (by omega), fun _ => w, fun q => absurd q (by omega)⟩
theorem t_v.m5 {k : Nat} {v : Int} (z : k = 5) (w : 0 ≤ v ∧ v ≤ 9) : t_v k v := t_v.ba (by omega) ⟨fun q => absurd q (by omega), fun q => absurd q (by omega), fun q => absurd q (by omega), fun q => absurd q (by omega), fun q => absurd q (by omega), fun _ => w⟩
theorem t_v.bb {k : Nat} {v : Int} (z : 10 ≤ k ∧ k < 558) (w : (10 ≤ k ∧ k < 22 → 0 ≤ v ∧ v ≤ 39) ∧ (22 ≤ k ∧ k < 34 → -1 ≤ v ∧ v ≤ 39) ∧ (34 ≤ k ∧ k < 514 → 0 ≤ v ∧ v ≤ 3) ∧ (514 ≤ k ∧ k < 518 → 1 ≤ v ∧ v ≤ 5000) ∧ (518 ≤ k ∧ k < 558 → -100 ≤ v ∧ v ≤ 500)) : t_v k v := by
  obtain ⟨h6, h7, h8, h9, h10⟩ := w
  exact ⟨fun q => absurd q (by omega), fun q => absurd q (by omega), fun q => absurd q (by omega), fun q => absurd q (by omega), fun q => absurd q (by omega), fun q => absurd q (by omega), h6, h7, h8, h9, h10, fun q => absurd q (by omega), fun q => absurd q (by omega), fun q => absurd q (by omega), fun q => absurd q (by omega), fun q => absurd q (by omega), fun q => absurd q (by omega), fun q => absurd q (by omega), fun q => absurd q (by omega), fun q => absurd q (by omega), fun q => absurd q (by omega), fun q => absurd q (by omega), fun q => absurd q (by omega), fun q => absurd q (by omega), fun q => absurd q (by omega), fun q => absurd q (by omega), fun q => absurd q (by omega), fun q => absurd q (by omega), fun q => absurd q (by omega), fun q => absurd q (by omega), fun q => absurd q (by omega), fun q => absurd q (by omega), fun q => absurd q (by omega), fun q => absurd q (by omega), fun q => absurd q (by omega), fun q => absurd q (by omega)⟩
theorem t_v.m6 {k : Nat} {v : Int} (z : 10 ≤ k ∧ k < 22) (w : 0 ≤ v ∧ v ≤ 39) : t_v k v := t_v.bb (by omega) ⟨fun _ => w, fun q => absurd q (by omega), fun q => absurd q (by omega), fun q => absurd q (by omega), fun q => absurd q (by omega)⟩
theorem t_v.m7 {k : Nat} {v : Int} (z : 22 ≤ k ∧ k < 34) (w : -1 ≤ v ∧ v ≤ 39) : t_v k v := t_v.bb (by omega) ⟨fun q => absurd q (by omega), fun _ => w, fun q => absurd q (by omega), fun q => absurd q (by omega), fun q => absurd q (by omega)⟩
theorem t_v.m8 {k : Nat} {v : Int} (z : 34 ≤ k ∧ k < 514) (w : 0 ≤ v ∧ v ≤ 3) : t_v k v := t_v.bb (by omega) ⟨fun q => absurd q (by omega), fun q => absurd q (by omega), fun _ => w, fun q => absurd q (by omega), fun q => absurd q (by omega)⟩
theorem t_v.m9 {k : Nat} {v : Int} (z : 514 ≤ k ∧ k < 518) (w : 1 ≤ v ∧ v ≤ 5000) : t_v k v := t_v.bb (by omega) ⟨fun q => absurd q (by omega), fun q => absurd q (by omega), fun q => absurd q (by omega), fun _ => w, fun q => absurd q (by omega)⟩
theorem t_v.m10 {k : Nat} {v : Int} (z : 518 ≤ k ∧ k < 558) (w : -100 ≤ v ∧ v ≤ 500) : t_v k v := t_v.bb (by omega) ⟨fun q => absurd q (by omega), fun q => absurd q (by omega), fun q => absurd q (by omega), fun q => absurd q (by omega), fun _ => w⟩
theorem t_v.bc {k : Nat} {v : Int} (z : 558 ≤ k ∧ k < 2478) (w : ((558 ≤ k ∧ k < 1038) ∨ (1518 ≤ k ∧ k < 1998) → 0 ≤ v ∧ v ≤ 10000000) ∧ ((1038 ≤ k ∧ k < 1518) ∨ (1998 ≤ k ∧ k < 2478) → -1 ≤ v ∧ v ≤ 39)) : t_v k v := by
  obtain ⟨h11, h12⟩ := w
  exact ⟨fun q => absurd q (by omega), fun q => absurd q (by omega), fun q => absurd q (by omega), fun q => absurd q (by omega), fun q => absurd q (by omega), fun q => absurd q (by omega), fun q => absurd q (by omega), fun q => absurd q (by omega), fun q => absurd q (by omega), fun q => absurd q (by omega), fun q => absurd q (by omega), h11, h12, fun q => absurd q (by omega), fun q => absurd q (by omega), fun q => absurd q (by omega), fun q => absurd q (by omega), fun q => absurd q (by omega), fun q => absurd q (by omega), fun q => absurd q (by omega), fun q => absurd q (by omega), fun q => absurd q (by omega), fun q => absurd q (by omega), fun q => absurd q (by omega), fun q => absurd q (by omega), fun q => absurd q (by omega), fun q => absurd q (by omega), fun q => absurd q (by omega), fun q => absurd q (by omega), fun q => absurd q (by omega), fun q => absurd q (by omega), fun q => absurd q (by omega), fun q => absurd q (by omega), fun q => absurd q (by omega), fun q => absurd q (by omega), fun q => absurd q (by omega)⟩
theorem t_v.m11 {k : Nat} {v : Int} (z : (558 ≤ k ∧ k < 1038) ∨ (1518 ≤ k ∧ k < 1998)) (w : 0 ≤ v ∧ v ≤ 10000000) : t_v k v := t_v.bc (by omega) ⟨fun _ => w, fun q => absurd q (by omega)⟩
theorem t_v.m12 {k : Nat} {v : Int} (z : (1038 ≤ k ∧ k < 1518) ∨ (1998 ≤ k ∧ k < 2478)) (w : -1 ≤ v ∧ v ≤ 39) : t_v k v := t_v.bc (by omega) ⟨fun q => absurd q (by omega), fun _ => w⟩
theorem t_v.bd {k : Nat} {v : Int} (z : 2478 ≤ k ∧ k < 2838) (w : (2478 ≤ k ∧ k < 2838 ∧ k % 6 = 0 → 0 ≤ v ∧ v ≤ 4) ∧ (2478 ≤ k ∧ k < 2838 ∧ k % 6 = 1 → 0 ≤ v ∧ v ≤ 5) ∧ (2478 ≤ k ∧ k < 2838 ∧ k % 6 = 2 → 0 ≤ v ∧ v ≤ 10000000) ∧ (2478 ≤ k ∧ k < 2838 ∧ 3 ≤ k % 6 → 0 ≤ v ∧ v ≤ 39)) : t_v k v := by
  obtain ⟨h13, h14, h15, h16⟩ := w
  exact ⟨fun q => absurd q (by omega), fun q => absurd q (by omega), fun q => absurd q (by omega), fun q => absurd q (by omega), fun q => absurd q (by omega), fun q => absurd q (by omega), fun q => absurd q (by omega), fun q => absurd q (by omega), fun q => absurd q (by omega), fun q => absurd q (by omega), fun q => absurd q (by omega), fun q => absurd q (by omega), fun q => absurd q (by omega), h13, h14, h15, h16, fun q => absurd q (by omega), fun q => absurd q (by omega), fun q => absurd q (by omega), fun q => absurd q (by omega), fun q => absurd q (by omega), fun q => absurd q (by omega), fun q => absurd q (by omega), fun q => absurd q (by omega), fun q => absurd q (by omega), fun q => absurd q (by omega), fun q => absurd q (by omega), fun q => absurd q (by omega), fun q => absurd q (by omega), fun q => absurd q (by omega), fun q => absurd q (by omega), fun q => absurd q (by omega), fun q => absurd q (by omega), fun q => absurd q (by omega), fun q => absurd q (by omega)⟩
theorem t_v.m13 {k : Nat} {v : Int} (z : 2478 ≤ k ∧ k < 2838 ∧ k % 6 = 0) (w : 0 ≤ v ∧ v ≤ 4) : t_v k v := t_v.bd (by omega) ⟨fun _ => w, fun q => absurd q (by omega), fun q => absurd q (by omega), fun q => absurd q (by omega)⟩
theorem t_v.m14 {k : Nat} {v : Int} (z : 2478 ≤ k ∧ k < 2838 ∧ k % 6 = 1) (w : 0 ≤ v ∧ v ≤ 5) : t_v k v := t_v.bd (by omega) ⟨fun q => absurd q (by omega), fun _ => w, fun q => absurd q (by omega), fun q => absurd q (by omega)⟩
theorem t_v.m15 {k : Nat} {v : Int} (z : 2478 ≤ k ∧ k < 2838 ∧ k % 6 = 2) (w : 0 ≤ v ∧ v ≤ 10000000) : t_v k v := t_v.bd (by omega) ⟨fun q => absurd q (by omega), fun q => absurd q (by omega), fun _ => w, fun q => absurd q (by omega)⟩
theorem t_v.m16 {k : Nat} {v : Int} (z : 2478 ≤ k ∧ k < 2838 ∧ 3 ≤ k % 6) (w : 0 ≤ v ∧ v ≤ 39) : t_v k v := t_v.bd (by omega) ⟨fun q => absurd q (by omega), fun q => absurd q (by omega), fun q => absurd q (by omega), fun _ => w⟩
theorem t_v.be {k : Nat} {v : Int} (z : 2838 ≤ k ∧ k < 3078) (w : (2838 ≤ k ∧ k < 3078 ∧ (k + 2) % 8 = 0 → 0 ≤ v ∧ v ≤ 11) ∧ (2838 ≤ k ∧ k < 3078 ∧ (k + 2) % 8 = 1 → 0 ≤ v ∧ v ≤ 4) ∧ (2838 ≤ k ∧ k < 3078 ∧ (k + 2) % 8 = 2 → 0 ≤ v ∧ v ≤ 39) ∧ (2838 ≤ k ∧ k < 3078 ∧ (k + 2) % 8 = 3 → 0 ≤ v ∧ v ≤ 10000000) ∧ (2838 ≤ k ∧ k < 3078 ∧ (k + 2) % 8 = 4 → 0 ≤ v ∧ v ≤ 1) ∧ (2838 ≤ k ∧ k < 3078 ∧ (k + 2) % 8 = 5 → -1 ≤ v ∧ v ≤ 39) ∧ (2838 ≤ k ∧ k < 3078 ∧ (k + 2) % 8 = 6 → -1 ≤ v ∧ v ≤ 3) ∧ (2838 ≤ k ∧ k < 3078 ∧ (k + 2) % 8 = 7 → -1 ≤ v ∧ v ≤ 39)) : t_v k v := by
  obtain ⟨h17, h18, h19, h20, h21, h22, h23, h24⟩ := w
  exact ⟨fun q => absurd q (by omega), fun q => absurd q (by omega), fun q => absurd q (by omega), fun q => absurd q (by omega), fun q => absurd q (by omega), fun q => absurd q (by omega), fun q => absurd q (by omega), fun q => absurd q (by omega), fun q => absurd q (by omega), fun q => absurd q (by omega), fun q => absurd q (by omega), fun q => absurd q (by omega), fun q => absurd q (by omega), fun q => absurd q (by omega), fun q => absurd q (by omega), fun q => absurd q (by omega), fun q => absurd q (by omega), h17, h18, h19, h20, h21, h22, h23, h24, fun q => absurd q (by omega), fun q => absurd q (by omega), fun q => absurd q (by omega), fun q => absurd q (by omega), fun q => absurd q (by omega), fun q => absurd q (by omega), fun q => absurd q (by omega), fun q => absurd q (by omega), fun q => absurd q (by omega), fun q => absurd q (by omega), fun q => absurd q (by omega)⟩
theorem t_v.m17 {k : Nat} {v : Int} (z : 2838 ≤ k ∧ k < 3078 ∧ (k + 2) % 8 = 0) (w : 0 ≤ v ∧ v ≤ 11) : t_v k v := t_v.be (by omega) ⟨fun _ => w, fun q => absurd q (by omega), fun q => absurd q (by omega), fun q => absurd q (by omega), fun q => absurd q (by omega), fun q => absurd q (by omega), fun q => absurd q (by omega), fun q => absurd q (by omega)⟩
theorem t_v.m18 {k : Nat} {v : Int} (z : 2838 ≤ k ∧ k < 3078 ∧ (k + 2) % 8 = 1) (w : 0 ≤ v ∧ v ≤ 4) : t_v k v := t_v.be (by omega) ⟨fun q => absurd q (by omega), fun _ => w, fun q => absurd q (by omega), fun q => absurd q (by omega), fun q => absurd q (by omega), fun q => absurd q (by omega), fun q => absurd q (by omega), fun q => absurd q (by omega)⟩
theorem t_v.m19 {k : Nat} {v : Int} (z : 2838 ≤ k ∧ k < 3078 ∧ (k + 2) % 8 = 2) (w : 0 ≤ v ∧ v ≤ 39) : t_v k v := t_v.be (by omega) ⟨fun q => absurd q (by omega), fun q => absurd q (by omega), fun _ => w, fun q => absurd q (by omega), fun q => absurd q (by omega), fun q => absurd q (by omega), fun q => absurd q (by omega), fun q => absurd q (by omega)⟩
theorem t_v.m20 {k : Nat} {v : Int} (z : 2838 ≤ k ∧ k < 3078 ∧ (k + 2) % 8 = 3) (w : 0 ≤ v ∧ v ≤ 10000000) : t_v k v := t_v.be (by omega) ⟨fun q => absurd q (by omega), fun q => absurd q (by omega), fun q => absurd q (by omega), fun _ => w, fun q => absurd q (by omega), fun q => absurd q (by omega), fun q => absurd q (by omega), fun q => absurd q (by omega)⟩
theorem t_v.m21 {k : Nat} {v : Int} (z : 2838 ≤ k ∧ k < 3078 ∧ (k + 2) % 8 = 4) (w : 0 ≤ v ∧ v ≤ 1) : t_v k v := t_v.be (by omega) ⟨fun q => absurd q (by omega), fun q => absurd q (by omega), fun q => absurd q (by omega), fun q => absurd q (by omega), fun _ => w, fun q => absurd q (by omega), fun q => absurd q (by omega), fun q => absurd q (by omega)⟩
theorem t_v.m22 {k : Nat} {v : Int} (z : 2838 ≤ k ∧ k < 3078 ∧ (k + 2) % 8 = 5) (w : -1 ≤ v ∧ v ≤ 39) : t_v k v := t_v.be (by omega) ⟨fun q => absurd q (by omega), fun q => absurd q (by omega), fun q => absurd q (by omega), fun q => absurd q (by omega), fun q => absurd q (by omega), fun _ => w, fun q => absurd q (by omega), fun q => absurd q (by omega)⟩
theorem t_v.m23 {k : Nat} {v : Int} (z : 2838 ≤ k ∧ k < 3078 ∧ (k + 2) % 8 = 6) (w : -1 ≤ v ∧ v ≤ 3) : t_v k v := t_v.be (by omega) ⟨fun q => absurd q (by omega), fun q => absurd q (by omega), fun q => absurd q (by omega), fun q => absurd q (by omega), fun q => absurd q (by omega), fun q => absurd q (by omega), fun _ => w, fun q => absurd q (by omega)⟩
theorem t_v.m24 {k : Nat} {v : Int} (z : 2838 ≤ k ∧ k < 3078 ∧ (k + 2) % 8 = 7) (w : -1 ≤ v ∧ v ≤ 39) : t_v k v := t_v.be (by omega) ⟨fun q => absurd q (by omega), fun q => absurd q (by omega), fun q => absurd q (by omega), fun q => absurd q (by omega), fun q => absurd q (by omega), fun q => absurd q (by omega), fun q => absurd q (by omega), fun _ => w⟩
theorem t_v.bf {k : Nat} {v : Int} (z : 3078 ≤ k ∧ k < 3258) (w : (3078 ≤ k ∧ k < 3258 ∧ k % 3 = 0 → 0 ≤ v ∧ v ≤ 29) ∧ (3078 ≤ k ∧ k < 3258 ∧ k % 3 = 1 → 0 ≤ v ∧ v ≤ 4) ∧ (3078 ≤ k ∧ k < 3258 ∧ k % 3 = 2 → 0 ≤ v ∧ v ≤ 39)) : t_v k v := by
  obtain ⟨h25, h26, h27⟩ := w
  exact ⟨fun q => absurd q (by omega), fun q => absurd q (by omega), fun q => absurd q (by omega), fun q => absurd q (by omega), fun q => absurd q (by omega), fun q => absurd q (by omega), fun q => absurd q (by omega), fun q => absurd q (by omega), fun q => absurd q (by omega), fun q => absurd q (by omega), fun q => absurd q (by omega), fun q => absurd q (by omega), fun q => absurd q (by omega), fun q => absurd q (by omega), fun q => absurd q (by omega), fun q => absurd q (by omega), fun q => absurd q (by omega), fun q => absurd q (by omega), fun q => absurd q (by omega), fun q => absurd q (by omega), fun q => absurd q (by omega), fun q => absurd q (by omega), fun q => absurd q (by omega), fun q => absurd q (by omega), fun q => absurd q (by omega), h25, h26, h27, fun q => absurd q (by omega), fun q => absurd q (by omega), fun q => absurd q (by omega), fun q => absurd q (by omega), fun q => absurd q (by omega), fun q => absurd q (by omega), fun q => absurd q (by omega), fun q => absurd q (by omega)⟩
theorem t_v.m25 {k : Nat} {v : Int} (z : 3078 ≤ k ∧ k < 3258 ∧ k % 3 = 0) (w : 0 ≤ v ∧ v ≤ 29) : t_v k v := t_v.bf (by omega) ⟨fun _ => w, fun q => absurd q (by omega), fun q => absurd q (by omega)⟩
theorem t_v.m26 {k : Nat} {v : Int} (z : 3078 ≤ k ∧ k < 3258 ∧ k % 3 = 1) (w : 0 ≤ v ∧ v ≤ 4) : t_v k v := t_v.bf (by omega) ⟨fun q => absurd q (by omega), fun _ => w, fun q => absurd q (by omega)⟩
theorem t_v.m27 {k : Nat} {v : Int} (z : 3078 ≤ k ∧ k < 3258 ∧ k % 3 = 2) (w : 0 ≤ v ∧ v ≤ 39) : t_v k v := t_v.bf (by omega) ⟨fun q => absurd q (by omega), fun q => absurd q (by omega), fun _ => w⟩
theorem t_v.bg {k : Nat} {v : Int} (z : 3258 ≤ k ∧ k < 3513) (w : (3258 ≤ k ∧ k < 3508 → 0 ≤ v ∧ v ≤ 127) ∧ (3508 ≤ k ∧ k < 3513 → 0 ≤ v ∧ v ≤ 50)) : t_v k v := by
  obtain ⟨h28, h29⟩ := w
  exact ⟨fun q => absurd q (by omega), fun q => absurd q (by omega), fun q => absurd q (by omega), fun q => absurd q (by omega), fun q => absurd q (by omega), fun q => absurd q (by omega), fun q => absurd q (by omega), fun q => absurd q (by omega), fun q => absurd q (by omega), fun q => absurd q (by omega), fun q => absurd q (by omega), fun q => absurd q (by omega), fun q => absurd q (by omega), fun q => absurd q (by omega), fun q => absurd q (by omega), fun q => absurd q (by omega), fun q => absurd q (by omega), fun q => absurd q (by omega), fun q => absurd q (by omega), fun q => absurd q (by omega), fun q => absurd q (by omega), fun q => absurd q (by omega), fun q => absurd q (by omega), fun q => absurd q (by omega), fun q => absurd q (by omega), fun q => absurd q (by omega), fun q => absurd q (by omega), fun q => absurd q (by omega), h28, h29, fun q => absurd q (by omega), fun q => absurd q (by omega), fun q => absurd q (by omega), fun q => absurd q (by omega), fun q => absurd q (by omega), fun q => absurd q (by omega)⟩
theorem t_v.m28 {k : Nat} {v : Int} (z : 3258 ≤ k ∧ k < 3508) (w : 0 ≤ v ∧ v ≤ 127) : t_v k v := t_v.bg (by omega) ⟨fun _ => w, fun q => absurd q (by omega)⟩
theorem t_v.m29 {k : Nat} {v : Int} (z : 3508 ≤ k ∧ k < 3513) (w : 0 ≤ v ∧ v ≤ 50) : t_v k v := t_v.bg (by omega) ⟨fun q => absurd q (by omega), fun _ => w⟩
theorem t_v.bh {k : Nat} {v : Int} (z : 3513 ≤ k ∧ k < 3573) (w : (3513 ≤ k ∧ k < 3573 ∧ k % 3 = 0 → 0 ≤ v ∧ v ≤ 3) ∧ (3513 ≤ k ∧ k < 3573 ∧ k % 3 = 1 → 0 ≤ v ∧ v ≤ 39) ∧ (3513 ≤ k ∧ k < 3573 ∧ k % 3 = 2 → 0 ≤ v ∧ v ≤ 1000000000)) : t_v k v := by
  obtain ⟨h30, h31, h32⟩ := w
  exact ⟨fun q => absurd q (by omega), fun q => absurd q (by omega), fun q => absurd q (by omega), fun q => absurd q (by omega), fun q => absurd q (by omega), fun q => absurd q (by omega), fun q => absurd q (by omega), fun q => absurd q (by omega), fun q => absurd q (by omega), fun q => absurd q (by omega), fun q => absurd q (by omega), fun q => absurd q (by omega), fun q => absurd q (by omega), fun q => absurd q (by omega), fun q => absurd q (by omega), fun q => absurd q (by omega), fun q => absurd q (by omega), fun q => absurd q (by omega), fun q => absurd q (by omega), fun q => absurd q (by omega), fun q => absurd q (by omega), fun q => absurd q (by omega), fun q => absurd q (by omega), fun q => absurd q (by omega), fun q => absurd q (by omega), fun q => absurd q (by omega), fun q => absurd q (by omega), fun q => absurd q (by omega), fun q => absurd q (by omega), fun q => absurd q (by omega), h30, h31, h32, fun q => absurd q (by omega), fun q => absurd q (by omega), fun q => absurd q (by omega)⟩
theorem t_v.m30 {k : Nat} {v : Int} (z : 3513 ≤ k ∧ k < 3573 ∧ k % 3 = 0) (w : 0 ≤ v ∧ v ≤ 3) : t_v k v := t_v.bh (by omega) ⟨fun _ => w, fun q => absurd q (by omega), fun q => absurd q (by omega)⟩
theorem t_v.m31 {k : Nat} {v : Int} (z : 3513 ≤ k ∧ k < 3573 ∧ k % 3 = 1) (w : 0 ≤ v ∧ v ≤ 39) : t_v k v := t_v.bh (by omega) ⟨fun q => absurd q (by omega), fun _ => w, fun q => absurd q (by omega)⟩
theorem t_v.m32 {k : Nat} {v : Int} (z : 3513 ≤ k ∧ k < 3573 ∧ k % 3 = 2) (w : 0 ≤ v ∧ v ≤ 1000000000) : t_v k v := t_v.bh (by omega) ⟨fun q => absurd q (by omega), fun q => absurd q (by omega), fun _ => w⟩
theorem t_v.bi {k : Nat} {v : Int} (z : 3573 ≤ k) (w : (3573 ≤ k ∧ k < 3733 → 0 ≤ v ∧ v ≤ 10000000) ∧ (3733 ≤ k ∧ k < 3745 → 0 ≤ v ∧ v ≤ 10) ∧ (3745 ≤ k ∧ k < 3754 → 0 ≤ v ∧ v ≤ 10000000)) : t_v k v := by
  obtain ⟨h33, h34, h35⟩ := w
  exact ⟨fun q => absurd q (by omega), fun q => absurd q (by omega), fun q => absurd q (by omega), fun q => absurd q (by omega), fun q => absurd q (by omega), fun q => absurd q (by omega), fun q => absurd q (by omega), fun q => absurd q (by omega), fun q => absurd q (by omega), fun q => absurd q (by omega), fun q => absurd q (by omega), fun q => absurd q (by omega), fun q => absurd q (by omega), fun q => absurd q (by omega), fun q => absurd q (by omega), fun q => absurd q (by omega), fun q => absurd q (by omega), fun q => absurd q (by omega), fun q => absurd q (by omega), fun q => absurd q (by omega), fun q => absurd q (by omega), fun q => absurd q (by omega), fun q => absurd q (by omega), fun q => absurd q (by omega), fun q => absurd q (by omega), fun q => absurd q (by omega), fun q => absurd q (by omega), fun q => absurd q (by omega), fun q => absurd q (by omega), fun q => absurd q (by omega), fun q => absurd q (by omega), fun q => absurd q (by omega), fun q => absurd q (by omega), h33, h34, h35⟩
theorem t_v.m33 {k : Nat} {v : Int} (z : 3573 ≤ k ∧ k < 3733) (w : 0 ≤ v ∧ v ≤ 10000000) : t_v k v := t_v.bi (by omega) ⟨fun _ => w, fun q => absurd q (by omega), fun q => absurd q (by omega)⟩
theorem t_v.m34 {k : Nat} {v : Int} (z : 3733 ≤ k ∧ k < 3745) (w : 0 ≤ v ∧ v ≤ 10) : t_v k v := t_v.bi (by omega) ⟨fun q => absurd q (by omega), fun _ => w, fun q => absurd q (by omega)⟩
theorem t_v.m35 {k : Nat} {v : Int} (z : 3745 ≤ k ∧ k < 3754) (w : 0 ≤ v ∧ v ≤ 10000000) : t_v k v := t_v.bi (by omega) ⟨fun q => absurd q (by omega), fun q => absurd q (by omega), fun _ => w⟩
theorem t_ok.up {f f' : Nat → Int32} (h : t_ok f) (e : ∀ k, k < 3760 → f' k = f k ∨ t_v k (f' k).toInt) : t_ok f' := ⟨(), fun k hk => by
  rcases e k hk with q | q
  · rw [q]; exact h.v hk
  · exact q⟩
/-- the plan of a loan in a year, as the reference finds it -/
def r_plm (f : Nat → Int32) (l y : Nat) : Nat → Int32
  | 0 => f (2839 + 8 * l)
  | m + 1 => if (f (3078 + 3 * m)).toInt = (l : Int) ∧ (f (3080 + 3 * m)).toInt ≤ (y : Int) then f (3079 + 3 * m) else r_plm f l y m
theorem r_plm_cg {f f' : Nat → Int32} {l y : Nat} (h0 : f' (2839 + 8 * l) = f (2839 + 8 * l)) : ∀ m, (∀ k, 3078 ≤ k → k < 3078 + 3 * m → f' k = f k) → r_plm f' l y m = r_plm f l y m
  | 0, _ => h0
  | m + 1, h => by
    unfold r_plm
    rw [h (3078 + 3 * m) (by omega) (by omega), h (3079 + 3 * m) (by omega) (by omega), h (3080 + 3 * m) (by omega) (by omega), r_plm_cg h0 m (fun k z1 z2 => h k z1 (by omega))]
def t_rel (g f : Nat → Int32) : Prop := ∃ _ : Unit, (∀ l : Nat, l < 30 → (l : Int) < (f 1).toInt → (f (2838 + 8 * l)).toInt < (f 0).toInt) ∧ (∀ m : Nat, m < 60 → (m : Int) < (f 3).toInt → (f (3078 + 3 * m)).toInt < (f 1).toInt) ∧ (∀ a : Nat, a < 60 → am_isNum (f (2479 + 6 * a)) (f (2480 + 6 * a))) ∧ ∀ l : Nat, l < 30 → (l : Int) < (f 1).toInt → ∀ y : Nat, y < 40 → g (40 * l + y) = r_plm f l y (f 3).toNatClampNeg
/-- places that tell of each other -/
def t_dep (k : Nat) : Prop := k = 0 ∨ k = 1 ∨ k = 3 ∨ (2478 ≤ k ∧ k < 2838) ∨ (2838 ≤ k ∧ k < 3078 ∧ (k + 2) % 8 ≤ 1) ∨ (3078 ≤ k ∧ k < 3258)
theorem t_rel.cg {g g' f f' : Nat → Int32} (h : t_rel g f) (ok : t_ok f) (hg : ∀ k, k < 1200 → g' k = g k) (hf : ∀ k, k < 3760 → t_dep k → f' k = f k) : t_rel g' f' := by
  obtain ⟨-, h1, h2, h3, h4⟩ := h
  have e0 : f' 0 = f 0 := hf 0 (by decide) (Or.inl rfl)
  have e1 : f' 1 = f 1 := hf 1 (by decide) (Or.inr (Or.inl rfl))
  have e3 : f' 3 = f 3 := hf 3 (by decide) (Or.inr (Or.inr (Or.inl rfl)))
  have b3 := (ok.v (k := 3) (by decide)).a3 rfl
  have c3 := i_clamp b3.1
  refine ⟨(), fun l hl z => ?_, fun m hm z => ?_, fun a ha => ?_, fun l hl z y hy => ?_⟩
  · rw [e1] at z
    rw [e0, hf (2838 + 8 * l) (by omega) (by unfold t_dep; omega)]
    exact h1 l hl z
  · rw [e3] at z
    rw [e1, hf (3078 + 3 * m) (by omega) (by unfold t_dep; omega)]
    exact h2 m hm z
  · rw [hf (2479 + 6 * a) (by omega) (by unfold t_dep; omega), hf (2480 + 6 * a) (by omega) (by unfold t_dep; omega)]
    exact h3 a ha
  · rw [e1] at z
    rw [e3, hg _ (by omega), h4 l hl z y hy]
    exact (r_plm_cg (hf _ (by omega) (by unfold t_dep; omega)) _ (fun k z1 z2 => hf k (by omega) (by unfold t_dep; omega))).symm
/-- what is told: the class's block b in A, the reference's array r from o on in B -/
def lb (b r o : Nat) (A B : am_M) : Prop := ∃ _ : Unit, rl b r o A B ∧ t_ok (fun k => B.1 r (o + k)) ∧ t_rel (A.1 (b + 17)) (fun k => B.1 r (o + k)) ∧ (∀ k, k < 1200 → am_in (A.1 (b + 17) k) 5) ∧ ∀ t, t < 5 → am_rg (A.1 (b + (19 + 3 * t)) 2) 50
theorem lb.r {b r o : Nat} {A B : am_M} (h : lb b r o A B) : rl b r o A B := by obtain ⟨-, h, -⟩ := h; exact h
theorem lb.t {b r o : Nat} {A B : am_M} (h : lb b r o A B) : t_ok (fun k => B.1 r (o + k)) := by obtain ⟨-, -, h, -⟩ := h; exact h
theorem lb.l {b r o : Nat} {A B : am_M} (h : lb b r o A B) : t_rel (A.1 (b + 17)) (fun k => B.1 r (o + k)) := by obtain ⟨-, -, -, h, -⟩ := h; exact h
theorem lb.p {b r o : Nat} {A B : am_M} (h : lb b r o A B) {k : Nat} (hk : k < 1200) : am_in (A.1 (b + 17) k) 5 := by obtain ⟨-, -, -, -, h, -⟩ := h; exact h k hk
theorem lb.c {b r o : Nat} {A B : am_M} (h : lb b r o A B) {t : Nat} (ht : t < 5) : am_rg (A.1 (b + (19 + 3 * t)) 2) 50 := by obtain ⟨-, -, -, -, -, h⟩ := h; exact h t ht
theorem lb.a {b r o : Nat} {A B : am_M} (h : lb b r o A B) : (A.1 (b + 11) 2).toNatClampNeg ≤ 60 := by
  have q := (h.t.v (k := 2) (by decide)).a2 rfl
  have e : A.1 (b + 11) 2 = B.1 r (o + 2) := by obtain ⟨-, -, e, -⟩ := h.r; exact e
  rw [e]
  have c := i_clamp q.1
  omega
theorem lb.cg {b r o : Nat} {A B A' B' : am_M} (h : lb b r o A B) (h1 : ∀ a k, b ≤ a → a < b + 39 → A'.1 a k = A.1 a k) (h2 : ∀ k, k < 3760 → B'.1 r (o + k) = B.1 r (o + k)) : lb b r o A' B' := by
  have h17 : A'.1 (b + 17) = A.1 (b + 17) := funext fun k => h1 _ k (by omega) (by omega)
  refine ⟨(), h.r.cg h1 (fun k z1 z2 => ?_) h.a, h.t.up (fun k hk => Or.inl (h2 k hk)), h.l.cg h.t (fun k _ => by rw [h17]) (fun k hk _ => h2 k hk), fun k hk => ?_, fun t ht => ?_⟩
  · have e := h2 (k - o) (by omega)
    rwa [show o + (k - o) = k by omega] at e
  · rw [h17]; exact h.p hk
  · rw [h1 _ _ (by omega) (by omega)]; exact h.c ht
/-- a house taken over on both sides -/
theorem lb.cpy {b m r o r' o' : Nat} {A A' B B' : am_M} (h : lb m r o A B) (h1 : ∀ u k, g_hit g_sh0 u k = true → A'.1 (b + u) k = A.1 (m + u) k) (h2 : ∀ k, k < 3760 → B'.1 r' (o' + k) = B.1 r (o + k)) : lb b r' o' A' B' := by
  have hit : ∀ s ∈ g_sh0, ∀ k, s.2.1 ≤ k → k < s.2.1 + s.2.2 → g_hit g_sh0 s.1 k = true := fun s hs k k1 k2 => by
    unfold g_hit
    exact List.any_eq_true.mpr ⟨s, hs, by rw [Bool.and_eq_true, Bool.and_eq_true]; exact ⟨⟨Nat.beq_refl _, Nat.ble_eq.mpr k1⟩, Nat.ble_eq.mpr k2⟩⟩
  have h17 : ∀ k, k < 1200 → A'.1 (b + 17) k = A.1 (m + 17) k := fun k hk => h1 17 k (hit (17, 0, 1200) (by decide) k (Nat.zero_le _) (by show k < 0 + 1200; omega))
  have ht2 : ∀ t, t < 5 → (19 + 3 * t, 2, 1) ∈ g_sh0 := by decide
  refine ⟨(), h.r.cpy h1 h2 h.a, h.t.up (fun k hk => Or.inl (h2 k hk)), h.l.cg h.t h17 (fun k hk _ => h2 k hk), fun k hk => ?_, fun t ht => ?_⟩
  · rw [h17 k hk]; exact h.p hk
  · rw [h1 (19 + 3 * t) 2 (hit (19 + 3 * t, 2, 1) (ht2 t ht) 2 (Nat.le_refl _) (by show 2 < 2 + 1; omega))]; exact h.c ht
/-- a number put on both sides, of which no other tells -/
theorem lb.put {b r o : Nat} {A B : am_M} (h : lb b r o A B) {u k0 b0 n k n1 k1 k2 : Nat} (hq : (u, k0, b0, n) ∈ rl_c) (hk : k < n) (e1 : n1 = b + u) (e2 : k1 = k0 + k) (e3 : k2 = o + (b0 + k)) (v : Int32) (hv : t_v (b0 + k) v.toInt) (hd : ¬ t_dep (b0 + k)) : lb b r o (am_wI A n1 k1 v) (am_wI B r k2 v) := by
  subst e1 e2 e3
  have hn : u ≠ 17 ∧ ∀ t, t < 5 → u = 19 + 3 * t → k0 = 5 := (show ∀ q ∈ rl_c, q.1 ≠ 17 ∧ ∀ t, t < 5 → q.1 = 19 + 3 * t → q.2.1 = 5 by decide) (u, k0, b0, n) hq
  have h17 : (am_wI A (b + u) (k0 + k) v).1 (b + 17) = A.1 (b + 17) := funext fun j => by rw [am_wI_1, if_neg (fun z => hn.1 (by omega))]
  have hB : ∀ j, (am_wI B r (o + (b0 + k)) v).1 r (o + j) = if j = b0 + k then v else B.1 r (o + j) := fun j => by
    rw [am_wI_1]
    by_cases z : j = b0 + k
    · rw [if_pos ⟨rfl, by omega⟩, if_pos z]
    · rw [if_neg (fun q => z (by omega)), if_neg z]
  refine ⟨(), h.r.put hq hk v h.a, h.t.up (fun j hj => ?_), h.l.cg h.t (fun j _ => by rw [h17]) (fun j hj hdj => ?_), fun j hj => ?_, fun t ht => ?_⟩
  · (try dsimp only)
    rw [hB]
    by_cases z : j = b0 + k
    · subst z; rw [if_pos rfl]; exact Or.inr hv
    · rw [if_neg z]; exact Or.inl rfl
  · (try dsimp only)
    rw [hB, if_neg (show ¬ j = b0 + k from fun z => hd (z ▸ hdj))]
  · rw [h17]; exact h.p hj
  · rw [am_wI_1, if_neg (fun z => ?_)]
    · exact h.c ht
    · have := hn.2 t ht (by omega)
      omega
/-- a stretch laid on both sides, of which no other tells -/
theorem lb.lay {b r o : Nat} {A B : am_M} (h : lb b r o A B) {u b0 n n1 : Nat} {lo hi l1 h1 l2 h2 : Int} (hq : (u, 0, b0, n) ∈ rl_c) (h0 : 0 ≤ lo) (hh : hi < (n : Int)) (e1 : n1 = b + u) (e2 : ∀ j : Nat, (l1 ≤ (j : Int) ∧ (j : Int) ≤ h1) ↔ (lo ≤ (j : Int) ∧ (j : Int) ≤ hi)) (e3 : ∀ j : Nat, (l2 ≤ (j : Int) ∧ (j : Int) ≤ h2) ↔ (((o + b0 : Nat) : Int) + lo ≤ (j : Int) ∧ (j : Int) ≤ ((o + b0 : Nat) : Int) + hi)) (v : Int32) (hv : ∀ j : Nat, lo ≤ (j : Int) → (j : Int) ≤ hi → t_v (b0 + j) v.toInt) (hd : ∀ j : Nat, lo ≤ (j : Int) → (j : Int) ≤ hi → ¬ t_dep (b0 + j)) : lb b r o (am_lay A n1 l1 h1 v) (am_lay B r l2 h2 v) := by
  subst e1
  rw [am_lay_eq e2, am_lay_eq e3]
  have hn : u ≠ 17 ∧ ∀ t, t < 5 → u ≠ 19 + 3 * t := (show ∀ q ∈ rl_c, q.2.1 = 0 → q.1 ≠ 17 ∧ ∀ t, t < 5 → q.1 ≠ 19 + 3 * t by decide) (u, 0, b0, n) hq rfl
  have h17 : (am_lay A (b + u) lo hi v).1 (b + 17) = A.1 (b + 17) := funext fun j => by rw [am_lay_1, if_neg (fun z => hn.1 (by omega))]
  have hB : ∀ j : Nat, (am_lay B r (((o + b0 : Nat) : Int) + lo) (((o + b0 : Nat) : Int) + hi) v).1 r (o + j) = if ((b0 : Int) + lo ≤ (j : Int) ∧ (j : Int) ≤ (b0 : Int) + hi) then v else B.1 r (o + j) := fun j => by
    rw [am_lay_1]
    by_cases z : ((b0 : Int) + lo ≤ (j : Int) ∧ (j : Int) ≤ (b0 : Int) + hi)
    · rw [if_pos ⟨rfl, by omega, by omega⟩, if_pos z]
    · rw [if_neg (fun q => z (by omega)), if_neg z]
  have hr := h.r.lay hq lo hi v h0 hh h.a
  rw [show (((u, 0, b0, n) : Nat × Nat × Nat × Nat).2.1 : Int) = 0 from rfl, Int.zero_add, Int.zero_add] at hr
  refine ⟨(), hr, h.t.up (fun j hj => ?_), h.l.cg h.t (fun j _ => by rw [h17]) (fun j hj hdj => ?_), fun j hj => ?_, fun t ht => ?_⟩
  · (try dsimp only)
    rw [hB]
    by_cases z : ((b0 : Int) + lo ≤ (j : Int) ∧ (j : Int) ≤ (b0 : Int) + hi)
    · rw [if_pos z]
      have q := hv (j - b0) (by omega) (by omega)
      rw [show b0 + (j - b0) = j by omega] at q
      exact Or.inr q
    · rw [if_neg z]; exact Or.inl rfl
  · (try dsimp only)
    rw [hB, if_neg (fun z => ?_)]
    have q := hd (j - b0) (by omega) (by omega)
    rw [show b0 + (j - b0) = j by omega] at q
    exact q hdj
  · rw [h17]; exact h.p hj
  · rw [am_lay_1, if_neg (fun z => hn.2 t ht (by omega))]
    exact h.c ht
theorem rl.e {A B : am_M} (h : rl 20 201 0 A B) {o k0 b0 n : Nat} (hq : (o, k0, b0, n) ∈ rl_c) {k : Nat} (hk : k < n) : A.1 (20 + o) (k0 + k) = B.1 201 (b0 + k) := by
  have q := h.c hq hk
  rw [Nat.zero_add] at q
  exact q
/-- the reference's own between calls: nothing is tried, no plan leads -/
def r_N (M : am_M) : Prop := M.1 200 3 = -1 ∧ M.1 200 7 = -1
/-- between calls -/
def LI (i1 i2 : Bool) (M : am_M) : Prop := ∃ _ : Unit, lb 20 201 0 M M ∧ (M.1 31 1 = 6 ∧ M.1 33 1 = 8 ∧ M.1 35 1 = 3 ∧ M.1 54 1 = 3) ∧ (g_sI M ∧ r_N M) ∧ (i1 = true → lb 60 202 0 M M) ∧ (i2 = true → lb 100 202 3760 M M) ∧ M.1 203 0 = (if i1 then 1 else 0) ∧ M.1 203 1 = (if i2 then 1 else 0)
section LIS
variable {i1 i2 : Bool} {M : am_M}
theorem LI.b (h : LI i1 i2 M) : lb 20 201 0 M M := by obtain ⟨-, h, -⟩ := h; exact h
theorem LI.w (h : LI i1 i2 M) : M.1 31 1 = 6 ∧ M.1 33 1 = 8 ∧ M.1 35 1 = 3 ∧ M.1 54 1 = 3 := by obtain ⟨-, -, h, -⟩ := h; exact h
theorem LI.s (h : LI i1 i2 M) : g_sI M := by obtain ⟨-, -, -, ⟨h, -⟩, -⟩ := h; exact h
theorem LI.rn (h : LI i1 i2 M) : r_N M := by obtain ⟨-, -, -, ⟨-, h⟩, -⟩ := h; exact h
theorem LI.n7 (h : LI i1 i2 M) : M.1 200 7 = -1 := h.rn.2
theorem LI.n3t (h : LI i1 i2 M) : M.1 200 3 = -1 := h.rn.1
theorem LI.rs (h : LI i1 i2 M) : r_S M := Or.inl h.rn.2
theorem LI.im (h : LI i1 i2 M) : (i1 = true → lb 60 202 0 M M) ∧ (i2 = true → lb 100 202 3760 M M) ∧ M.1 203 0 = (if i1 then 1 else 0) ∧ M.1 203 1 = (if i2 then 1 else 0) := by obtain ⟨-, -, -, -, h1, h2, h3, h4⟩ := h; exact ⟨h1, h2, h3, h4⟩
theorem LI.v (h : LI i1 i2 M) {k : Nat} (hk : k < 3760) : t_v k (M.1 201 k).toInt := by
  have q := h.b.t.v hk
  (try dsimp only at q)
  rwa [Nat.zero_add] at q
theorem LI.e (h : LI i1 i2 M) {o k0 b0 n : Nat} (hq : (o, k0, b0, n) ∈ rl_c) {k : Nat} (hk : k < n) : M.1 (20 + o) (k0 + k) = M.1 201 (b0 + k) := h.b.r.e hq hk
theorem LI.e0 (h : LI i1 i2 M) : M.1 21 7 = M.1 201 0 := h.e (o := 1) (k0 := 7) (b0 := 0) (n := 1) (by decide) (k := 0) (by decide)
theorem LI.e1 (h : LI i1 i2 M) : M.1 33 2 = M.1 201 1 := h.e (o := 13) (k0 := 2) (b0 := 1) (n := 1) (by decide) (k := 0) (by decide)
theorem LI.e2 (h : LI i1 i2 M) : M.1 31 2 = M.1 201 2 := by
  obtain ⟨-, -, e, -⟩ := h.b.r
  exact e
theorem LI.e3 (h : LI i1 i2 M) : M.1 35 2 = M.1 201 3 := h.e (o := 15) (k0 := 2) (b0 := 3) (n := 1) (by decide) (k := 0) (by decide)
theorem LI.e4 (h : LI i1 i2 M) : M.1 54 2 = M.1 201 4 := h.e (o := 34) (k0 := 2) (b0 := 4) (n := 1) (by decide) (k := 0) (by decide)
theorem LI.e5 (h : LI i1 i2 M) : M.1 20 12 = M.1 201 5 := h.e (o := 0) (k0 := 12) (b0 := 5) (n := 1) (by decide) (k := 0) (by decide)
theorem LI.n0 (h : LI i1 i2 M) : 0 ≤ (M.1 201 0).toInt ∧ (M.1 201 0).toInt ≤ 12 := (h.v (k := 0) (by decide)).a0 rfl
theorem LI.n1 (h : LI i1 i2 M) : 0 ≤ (M.1 201 1).toInt ∧ (M.1 201 1).toInt ≤ 30 := (h.v (k := 1) (by decide)).a1 rfl
theorem LI.n2 (h : LI i1 i2 M) : 0 ≤ (M.1 201 2).toInt ∧ (M.1 201 2).toInt ≤ 60 := (h.v (k := 2) (by decide)).a2 rfl
theorem LI.n3 (h : LI i1 i2 M) : 0 ≤ (M.1 201 3).toInt ∧ (M.1 201 3).toInt ≤ 60 := (h.v (k := 3) (by decide)).a3 rfl
theorem LI.n4 (h : LI i1 i2 M) : 0 ≤ (M.1 201 4).toInt ∧ (M.1 201 4).toInt ≤ 20 := (h.v (k := 4) (by decide)).a4 rfl
theorem LI.n5 (h : LI i1 i2 M) : 0 ≤ (M.1 201 5).toInt ∧ (M.1 201 5).toInt ≤ 9 := (h.v (k := 5) (by decide)).a5 rfl
theorem LI.T (h : LI i1 i2 M) : r_T M := by
  refine ⟨(), ⟨am_rg.o h.n0.1 h.n0.2, am_rg.o h.n1.1 h.n1.2, am_rg.o h.n2.1 h.n2.2, am_rg.o h.n3.1 h.n3.2, am_rg.o h.n4.1 h.n4.2, am_rg.o h.n5.1 h.n5.2⟩, fun k hk => ?_, fun l hl => ⟨?_, ?_⟩, fun m hm => ?_, fun t ht => ?_⟩
  · have q := (h.v (k := 34 + k) (by omega)).a8 ⟨by omega, by omega⟩
    exact ⟨q.1, by omega⟩
  · have q := (h.v (k := 2838 + 8 * l) (by omega)).a17 ⟨by omega, by omega, by omega⟩
    exact ⟨q.1, by omega⟩
  · have q := (h.v (k := 2839 + 8 * l) (by omega)).a18 ⟨by omega, by omega, by omega⟩
    exact ⟨q.1, by omega⟩
  · have q := (h.v (k := 3079 + 3 * m) (by omega)).a26 ⟨by omega, by omega, by omega⟩
    exact ⟨q.1, by omega⟩
  · have q := (h.v (k := 3508 + t) (by omega)).a29 ⟨by omega, by omega⟩
    exact am_rg.o q.1 q.2
theorem LI.i (h : LI i1 i2 M) : r_I M := ⟨(), h.T, h.rs⟩
theorem LI.h (h : LI i1 i2 M) : g_hI M := by
  have hw := h.w
  refine ⟨(), ?_, ⟨hw.1, ?_⟩, ⟨hw.2.1, ?_⟩, ⟨hw.2.2.1, ?_⟩, ⟨hw.2.2.2, ?_⟩, ?_, fun l hl => ?_⟩
  · rw [h.e0]; exact am_rg.o h.n0.1 h.n0.2
  · rw [h.e2]; exact am_rg.o h.n2.1 h.n2.2
  · rw [h.e1]; exact am_rg.o h.n1.1 h.n1.2
  · rw [h.e3]; exact am_rg.o h.n3.1 h.n3.2
  · rw [h.e4]; exact am_rg.o h.n4.1 h.n4.2
  · rw [h.e5]; exact am_rg.o h.n5.1 h.n5.2
  · have e := h.e (o := 14) (k0 := 0) (b0 := 2838) (n := 240) (by decide) (k := 8 * l) (by omega)
    rw [Nat.zero_add] at e
    rw [show M.1 34 (8 * l) = M.1 201 (2838 + 8 * l) from e]
    exact (h.i.lo hl).1
theorem LI.g (h : LI i1 i2 M) : g_rI M := by
  have hi := h.i
  have tx : ∀ t, t < 5 → (19 + 3 * t, 5, 3508 + t, 1) ∈ rl_c → am_t0 M (39 + 3 * t) := fun t ht hq => by
    have e := h.e hq (k := 0) (by decide)
    have n : 20 + (19 + 3 * t) = 39 + 3 * t := by omega
    have e' : M.1 (39 + 3 * t) 5 = M.1 201 (3508 + t) := by rw [← n]; exact e
    have c := h.b.c ht
    rw [n] at c
    have q := hi.tx ht
    rw [← e'] at q
    exact ⟨(), c.i, q⟩
  refine ⟨(), ⟨(), fun k hk => h.b.p hk, fun k hk => ?_, tx 0 (by decide) (by decide), tx 1 (by decide) (by decide), tx 2 (by decide) (by decide), tx 3 (by decide) (by decide), tx 4 (by decide) (by decide)⟩, h.s⟩
  have e := h.e (o := 4) (k0 := 0) (b0 := 34) (n := 480) (by decide) (k := k) hk
  rw [Nat.zero_add] at e
  rw [show M.1 24 k = M.1 201 (34 + k) from e]
  exact hi.ld hk
/-- the class's half of a call done, the reference still as it was -/
theorem LI.ri (h : LI i1 i2 M) {N : am_M} (e : ∀ a k, 200 ≤ a → N.1 a k = M.1 a k) : r_I N := by
  refine ⟨(), h.T.cg (fun k => e 201 k (by decide)), ?_⟩
  have q := h.rs
  unfold r_S at q ⊢
  rw [e 200 7 (by decide)]
  exact q
theorem LI.up (h : LI i1 i2 M) {F : am_M} (hl : lb 20 201 0 F F) (hw : ∀ a, a = 31 ∨ a = 33 ∨ a = 35 ∨ a = 54 → F.1 a 1 = M.1 a 1) (hs : g_sI F) (hr : r_N F) (hi : ∀ a k, (59 ≤ a ∧ a < 140) ∨ a = 202 ∨ a = 203 → F.1 a k = M.1 a k) : LI i1 i2 F := by
  obtain ⟨m1, m2, m3, m4⟩ := h.im
  obtain ⟨w1, w2, w3, w4⟩ := h.w
  refine ⟨(), hl, ⟨?_, ?_, ?_, ?_⟩, ⟨hs, hr⟩, fun z => (m1 z).cg (fun a k z1 z2 => hi a k (by omega)) (fun k hk => hi 202 _ (by omega)), fun z => (m2 z).cg (fun a k z1 z2 => hi a k (by omega)) (fun k hk => hi 202 _ (by omega)), ?_, ?_⟩
  · rw [hw 31 (by omega)]; exact w1
  · rw [hw 33 (by omega)]; exact w2
  · rw [hw 35 (by omega)]; exact w3
  · rw [hw 54 (by omega)]; exact w4
  · rw [hi 203 0 (by omega)]; exact m3
  · rw [hi 203 1 (by omega)]; exact m4
theorem g_sI.cg {M M' : am_M} (h : g_sI M) (e : ∀ a k, 4 ≤ a → a ≤ 8 → M'.1 a k = M.1 a k) : g_sI M' := by
  obtain ⟨-, b1, b2, b3, b4, b5, b6, b7, b8, b9⟩ := h
  refine ⟨(), ?_, fun k hk => ?_, fun k hk => ?_, ?_, ?_, ?_, ?_, ?_, ?_⟩
  all_goals rw [e _ _ (by decide) (by decide)]
  · exact b1
  · exact b2 k hk
  · exact b3 k hk
  · exact b4
  · exact b5
  · exact b6
  · exact b7
  · exact b8
  · exact b9
/-- told on both sides: what is put stands in A and in B -/
theorem LI.told (h : LI i1 i2 M) {F A B : am_M} (hl : lb 20 201 0 A B) (hA : ∀ a k, 20 ≤ a → a < 59 → F.1 a k = A.1 a k) (hB : ∀ k, F.1 201 k = B.1 201 k) (ho : ∀ a k, (a < 20 ∨ 59 ≤ a) → a ≠ 201 → F.1 a k = M.1 a k) (hw : ∀ a, a = 31 ∨ a = 33 ∨ a = 35 ∨ a = 54 → F.1 a 1 = M.1 a 1) : LI i1 i2 F := by
  refine h.up (hl.cg (fun a k z1 z2 => hA a k z1 (by omega)) (fun k _ => hB _)) hw (h.s.cg (fun a k z1 z2 => ho a k (by omega) (by omega))) ?_ (fun a k z => ho a k (by omega) (by omega))
  exact ⟨(ho 200 3 (by omega) (by omega)).trans h.rn.1, (ho 200 7 (by omega) (by omega)).trans h.rn.2⟩
/-- asked: the class's own has changed -/
theorem LI.sv (h : LI i1 i2 M) {N : am_M} (c : ∀ a k, 11 ≤ a → N.1 a k = M.1 a k) (hg : g_rI N) : LI i1 i2 N := by
  refine h.up (h.b.cg (fun a k z1 z2 => c a k (by omega)) (fun k _ => c 201 _ (by decide))) (fun a z => c a 1 (by omega)) hg.s ?_ (fun a k z => c a k (by omega))
  exact ⟨(c 200 3 (by decide)).trans h.rn.1, (c 200 7 (by decide)).trans h.rn.2⟩
theorem LI.sc (h : LI i1 i2 M) {N : am_M} (c : g_sc M N) (hg : g_rI N) : LI i1 i2 N := h.sv (fun _ k z => c.i k z) hg
theorem LI.gv (h : LI i1 i2 M) {N : am_M} (c : g_sv M N) (hg : g_rI N) : LI i1 i2 N := by
  obtain ⟨-, c⟩ := c
  exact h.sv (fun a k z => (c a k z).1) hg
/-- asked: the act that was tried stands behind the acts -/
theorem LI.sa (h : LI i1 i2 M) {N : am_M} (c : g_sa M N) (hg : g_rI N) : LI i1 i2 N := by
  obtain ⟨-, c⟩ := c
  have cc : ∀ a k, 11 ≤ a → a ≠ 32 → N.1 a k = M.1 a k := fun a k z1 z2 => (c a k z1 (fun q => absurd q z2)).1
  have hb := h.b
  have e2 : N.1 31 2 = M.1 31 2 := cc 31 2 (by decide) (by decide)
  refine h.up ⟨(), ?_, hb.t.up (fun k hk => Or.inl (cc 201 _ (by decide) (by decide))), hb.l.cg hb.t (fun k _ => cc 37 k (by decide) (by decide)) (fun k hk _ => cc 201 _ (by decide) (by decide)), fun k hk => ?_, fun t ht => ?_⟩ (fun a z => cc a 1 (by omega) (by omega)) hg.s ?_ (fun a k z => cc a k (by omega) (by omega))
  · obtain ⟨-, a1, a2, a3⟩ := hb.r
    refine ⟨(), fun q hq k hk => ?_, ?_, fun k hk => ?_⟩
    · rw [cc (20 + q.1) _ (by omega) (fun z => (rl_c_off q hq).2.1 (by omega)), cc 201 _ (by decide) (by decide)]
      exact a1 q hq k hk
    · rw [e2, cc 201 _ (by decide) (by decide)]
      exact a2
    · rw [e2] at hk
      rw [cc 201 _ (by decide) (by decide), (c 32 k (by decide) (fun _ => hk)).1]
      exact a3 k hk
  · rw [cc 37 k (by decide) (by decide)]; exact hb.p hk
  · rw [cc _ _ (by omega) (by omega)]; exact hb.c ht
  · exact ⟨(cc 200 3 (by decide) (by decide)).trans h.rn.1, (cc 200 7 (by decide) (by decide)).trans h.rn.2⟩
/-- asked: the reference's own has changed -/
theorem LI.rc (h : LI i1 i2 M) {N : am_M} (c : r_sc M N) : LI i1 i2 N := by
  have e : ∀ a k, (a < 200 ∨ (201 ≤ a ∧ a ≤ 203)) → N.1 a k = M.1 a k := fun a k z => (c.g a k z).1
  exact h.up (h.b.cg (fun a k z1 z2 => e a k (by omega)) (fun k _ => e 201 _ (by omega))) (fun a z => e a 1 (by omega)) (h.s.cg (fun a k z1 z2 => e a k (by omega))) ⟨c.f3.trans h.rn.1, c.f7.trans h.rn.2⟩ (fun a k z => e a k (by omega))
end LIS
end
