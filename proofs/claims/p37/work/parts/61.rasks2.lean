/-! general: the reference's calls that ask, II -/
theorem r_di4 {x : Int32} (h1 : 0 ≤ x.toInt) (h2 : x.toInt ≤ 1000) : am_in (x - x / 4 * 4) 4 ∧ (0 ≤ (x / 4).toInt ∧ (x / 4).toInt ≤ 1000) := by
  have e := r_rem (x := x) (y := 4) h1 (by decide)
  have e2 := i_div (x := x) (y := 4) h1 (by decide)
  simp only [Int32.reduceToInt] at e e2
  exact ⟨⟨e.1, e.2⟩, by omega, by omega⟩
theorem hy_X8_back : yX8_back.cls ≠ "java/lang/invoke/MethodHandle" ∧ yX8_back.cls ≠ "java/lang/invoke/VarHandle" ∧ (parseMethodDescriptor yX8_back.desc).map (fun d => d.parameters.length) = some 0 := ⟨by decide +kernel, by decide +kernel, by decide +kernel⟩
set_option maxRecDepth 100000 in
theorem wd_1258 : Cond.methodLink "LearnLoansModel" 259 yX8_back ∈ am_ws := am_wt6 (List.mem_of_getElem? (i := 1) (by rfl)) (by decide +kernel)
set_option maxRecDepth 100000 in
theorem wd_1260 : Cond.instanceMethod yX8_back ∈ am_ws := am_wt6 (List.mem_of_getElem? (i := 3) (by rfl)) (by decide +kernel)
set_option maxRecDepth 100000 in
theorem wd_54 : Cond.selects "LearnLoansModel" yX8_back yX8_back ∈ am_ws := am_wsi (List.mem_of_getElem? (i := 54) (by rfl)) (by decide +kernel)
set_option maxRecDepth 100000 in
theorem wd_1261 : Cond.code yX8_back cX8_back 2 none ∈ am_ws := am_wt6 (List.mem_of_getElem? (i := 4) (by rfl)) (by decide +kernel)
set_option maxRecDepth 100000 in
theorem wd_920 : Cond.fieldLink "LearnLoansModel" 262 "LearnLoansModel" "takenWay" "J" ∈ am_ws := am_wt4 (List.mem_of_getElem? (i := 143) (by rfl)) (by decide +kernel)
set_option maxRecDepth 100000 in
theorem wd_921 : Cond.fieldLink "LearnLoansModel" 265 "LearnLoansModel" "neverWay" "J" ∈ am_ws := am_wt4 (List.mem_of_getElem? (i := 144) (by rfl)) (by decide +kernel)
theorem hy_X8_chanceOf : yX8_chanceOf.cls ≠ "java/lang/invoke/MethodHandle" ∧ yX8_chanceOf.cls ≠ "java/lang/invoke/VarHandle" ∧ (parseMethodDescriptor yX8_chanceOf.desc).map (fun d => d.parameters.length) = some 2 := ⟨by decide +kernel, by decide +kernel, by decide +kernel⟩
set_option maxRecDepth 100000 in
theorem wd_1262 : Cond.methodLink "LearnLoansModel" 268 yX8_chanceOf ∈ am_ws := am_wt6 (List.mem_of_getElem? (i := 5) (by rfl)) (by decide +kernel)
set_option maxRecDepth 100000 in
theorem wd_1264 : Cond.instanceMethod yX8_chanceOf ∈ am_ws := am_wt6 (List.mem_of_getElem? (i := 7) (by rfl)) (by decide +kernel)
set_option maxRecDepth 100000 in
theorem wd_55 : Cond.selects "LearnLoansModel" yX8_chanceOf yX8_chanceOf ∈ am_ws := am_wsi (List.mem_of_getElem? (i := 55) (by rfl)) (by decide +kernel)
set_option maxRecDepth 100000 in
theorem wd_1265 : Cond.code yX8_chanceOf cX8_chanceOf 3 (some .int) ∈ am_ws := am_wt6 (List.mem_of_getElem? (i := 8) (by rfl)) (by decide +kernel)
def rwX8_goWay : List dz_r := [(0, .aload_n 0, 1), (1, .invokevirtual 259, 3), (4, .aload_n 0, 1), (5, .lconst 0, 1), (6, .putfield 262, 3), (9, .aload_n 0, 1), (10, .lconst 0, 1), (11, .putfield 265, 3), (14, .lconst 1, 1), (15, .lstore 7, 2), (17, .iload_n 2, 1), (18, .istore 9, 2), (20, .iload_n 3, 1), (21, .istore 10, 2), (23, .iconst 0, 1), (24, .istore 11, 2), (26, .iload 11, 2), (28, .iload 6, 2), (30, .if_icmp .ge 126, 3), (33, .iload 11, 2), (35, .ifCond .le 31, 3), (38, .lload 7, 2), (40, .aload_n 0, 1), (41, .iload 9, 2), (43, .iload 10, 2), (45, .iconst 4, 1), (46, .irem, 1), (47, .invokevirtual 268, 3), (50, .i2l, 1), (51, .lmul, 1), (52, .lstore 7, 2), (54, .iload 10, 2), (56, .iconst 4, 1), (57, .irem, 1), (58, .istore 9, 2), (60, .iload 10, 2), (62, .iconst 4, 1), (63, .idiv, 1), (64, .istore 10, 2), (66, .aload_n 0, 1), (67, .iload_n 1, 1), (68, .iload 5, 2), (70, .iload 11, 2), (72, .iadd, 1), (73, .iload 9, 2), (75, .ifCond .ne 8, 3), (78, .iload 4, 2), (80, .goto 14, 3), (83, .iload 9, 2), (85, .iconst 1, 1), (86, .if_icmp .ne 7, 3), (89, .iconst 0, 1), (90, .goto 4, 3), (93, .iconst (-1), 1), (94, .iload 9, 2), (96, .iconst 2, 1), (97, .if_icmp .ne 7, 3), (100, .iconst 1, 1), (101, .goto 4, 3), (104, .iconst 0, 1), (105, .iload 9, 2), (107, .iconst 3, 1), (108, .if_icmp .ne 7, 3), (111, .iconst 1, 1), (112, .goto 4, 3), (115, .iconst 0, 1), (116, .lconst 0, 1), (117, .invokevirtual 229, 3), (120, .aload_n 0, 1), (121, .dup, 1), (122, .getfield 262, 3), (125, .aload_n 0, 1), (126, .iload_n 1, 1), (127, .iconst 1, 1), (128, .invokevirtual 243, 3), (131, .ladd, 1), (132, .putfield 262, 3), (135, .aload_n 0, 1), (136, .dup, 1), (137, .getfield 265, 3), (140, .aload_n 0, 1), (141, .iload_n 1, 1), (142, .iconst 2, 1), (143, .invokevirtual 243, 3), (146, .ladd, 1), (147, .putfield 265, 3), (150, .iinc 11 1, 3), (153, .goto (-127), 3), (156, .aload_n 0, 1), (157, .dup, 1), (158, .getfield 265, 3), (161, .aload_n 0, 1), (162, .iload_n 1, 1), (163, .iconst 0, 1), (164, .invokevirtual 243, 3), (167, .ladd, 1), (168, .putfield 265, 3), (171, .lload 7, 2), (173, .lreturn, 1)]
theorem dzX8_goWay : dz cX8_goWay rwX8_goWay := dz_all 0 (by decide +kernel)
def kX8_goWay (live : am_E) (Ret : am_R) : am_code := [(0, am_aload 0 1), (1, am_callV live 8 0 TX8_back 4), (4, am_aload 0 5), (5, am_const (.long 0) 6), (6, am_putJ live 8 25 9), (9, am_aload 0 10), (10, am_const (.long 0) 11), (11, am_putJ live 8 26 14), (14, am_const (.long 1) 15), (15, am_lstore 7 12 17), (17, am_iload 2 18), (18, am_istore 9 12 20), (20, am_iload 3 21), (21, am_istore 10 12 23), (23, am_const (.int 0) 24), (24, am_istore 11 12 26), (26, am_iload 11 28), (28, am_iload 6 30), (30, am_if2 (fun x y => y ≤ x) 156 33), (33, am_iload 11 35), (35, am_if1 (fun x => x ≤ 0) 66 38), (38, am_lload 7 40), (40, am_aload 0 41), (41, am_iload 9 43), (43, am_iload 10 45), (45, am_const (.int 4) 46), (46, am_i2z (fun x y => x - x / y * y) 47), (47, am_callV live 8 2 TX8_chanceOf 50), (50, am_i2l 51), (51, am_l2 (fun x y => x * y) 52), (52, am_lstore 7 12 54), (54, am_iload 10 56), (56, am_const (.int 4) 57), (57, am_i2z (fun x y => x - x / y * y) 58), (58, am_istore 9 12 60), (60, am_iload 10 62), (62, am_const (.int 4) 63), (63, am_i2z (fun x y => x / y) 64), (64, am_istore 10 12 66), (66, am_aload 0 67), (67, am_iload 1 68), (68, am_iload 5 70), (70, am_iload 11 72), (72, am_i2 (fun x y => x + y) 73), (73, am_iload 9 75), (75, am_if1 (fun x => x = 0) 78 83), (78, am_iload 4 80), (80, am_goto 94), (83, am_iload 9 85), (85, am_const (.int 1) 86), (86, am_if2 (fun x y => x = y) 89 93), (89, am_const (.int 0) 90), (90, am_goto 94), (93, am_const (.int (-1)) 94), (94, am_iload 9 96), (96, am_const (.int 2) 97), (97, am_if2 (fun x y => x = y) 100 104), (100, am_const (.int 1) 101), (101, am_goto 105), (104, am_const (.int 0) 105), (105, am_iload 9 107), (107, am_const (.int 3) 108), (108, am_if2 (fun x y => x = y) 111 115), (111, am_const (.int 1) 112), (112, am_goto 116), (115, am_const (.int 0) 116), (116, am_const (.long 0) 117), (117, am_callV live 8 6 TX8_stepYear 120), (120, am_aload 0 121), (121, am_dup 122), (122, am_getJ live 8 25 125), (125, am_aload 0 126), (126, am_iload 1 127), (127, am_const (.int 1) 128), (128, am_callV live 8 2 TX8_allOf 131), (131, am_l2 (fun x y => x + y) 132), (132, am_putJ live 8 25 135), (135, am_aload 0 136), (136, am_dup 137), (137, am_getJ live 8 26 140), (140, am_aload 0 141), (141, am_iload 1 142), (142, am_const (.int 2) 143), (143, am_callV live 8 2 TX8_allOf 146), (146, am_l2 (fun x y => x + y) 147), (147, am_putJ live 8 26 150), (150, am_iinc 11 12 1 153), (153, am_goto 26), (156, am_aload 0 157), (157, am_dup 158), (158, am_getJ live 8 26 161), (161, am_aload 0 162), (162, am_iload 1 163), (163, am_const (.int 0) 164), (164, am_callV live 8 2 TX8_allOf 167), (167, am_l2 (fun x y => x + y) 168), (168, am_putJ live 8 26 171), (171, am_lload 7 173), (173, am_retL Ret)]
theorem koX8_goWay (live : am_E) (Ret : am_R) : ∀ q ∈ kX8_goWay live Ret, am_ok RX8 cX8_goWay 12 (some .long) 9 228 live Ret q.1 q.2 :=
  am_kz dzX8_goWay <|
  am_kd (fun d => ak_aload_n d rfl rfl) <|
  am_kd (fun d => ak_callV (C := RX8) (F := TX8) (N := 27) metX8_back rfl ⟨rfl, hy_X8_back⟩ (am_w5 wd_1258 wd_1260 wd_54 wd_67 wd_1261) (by decide) d rfl) <|
  am_kd (fun d => ak_aload_n d rfl rfl) <|
  am_kd (fun d => ak_lconst d (by decide +kernel) rfl) <|
  am_kd (fun d => ak_putJ (C := RX8) (T := TX8) (N := 27) rfl inX8w tyX8_ok nmX8 (by decide) rfl rfl rfl rfl (by decide +kernel) wd_920 d rfl) <|
  am_kd (fun d => ak_aload_n d rfl rfl) <|
  am_kd (fun d => ak_lconst d (by decide +kernel) rfl) <|
  am_kd (fun d => ak_putJ (C := RX8) (T := TX8) (N := 27) rfl inX8w tyX8_ok nmX8 (by decide) rfl rfl rfl rfl (by decide +kernel) wd_921 d rfl) <|
  am_kd (fun d => ak_lconst d (by decide +kernel) rfl) <|
  am_kd (fun d => ak_lstore d rfl) <|
  am_kd (fun d => ak_iload_n d rfl rfl) <|
  am_kd (fun d => ak_istore d rfl) <|
  am_kd (fun d => ak_iload_n d rfl rfl) <|
  am_kd (fun d => ak_istore d rfl) <|
  am_kd (fun d => ak_iconst d (by decide +kernel) rfl) <|
  am_kd (fun d => ak_istore d rfl) <|
  am_kd (fun d => ak_iload d rfl) <|
  am_kd (fun d => ak_iload d rfl) <|
  am_kd (fun d => ak_icmp_ge d (by decide +kernel) rfl) <|
  am_kd (fun d => ak_iload d rfl) <|
  am_kd (fun d => ak_if_le d (by decide +kernel) rfl) <|
  am_kd (fun d => ak_lload d rfl) <|
  am_kd (fun d => ak_aload_n d rfl rfl) <|
  am_kd (fun d => ak_iload d rfl) <|
  am_kd (fun d => ak_iload d rfl) <|
  am_kd (fun d => ak_iconst d (by decide +kernel) rfl) <|
  am_kd (fun d => ak_irem d rfl) <|
  am_kd (fun d => ak_callV (C := RX8) (F := TX8) (N := 27) metX8_chanceOf rfl ⟨rfl, hy_X8_chanceOf⟩ (am_w5 wd_1262 wd_1264 wd_55 wd_67 wd_1265) (by decide) d rfl) <|
  am_kd (fun d => ak_i2l d rfl) <|
  am_kd (fun d => ak_lmul d rfl) <|
  am_kd (fun d => ak_lstore d rfl) <|
  am_kd (fun d => ak_iload d rfl) <|
  am_kd (fun d => ak_iconst d (by decide +kernel) rfl) <|
  am_kd (fun d => ak_irem d rfl) <|
  am_kd (fun d => ak_istore d rfl) <|
  am_kd (fun d => ak_iload d rfl) <|
  am_kd (fun d => ak_iconst d (by decide +kernel) rfl) <|
  am_kd (fun d => ak_idiv d rfl) <|
  am_kd (fun d => ak_istore d rfl) <|
  am_kd (fun d => ak_aload_n d rfl rfl) <|
  am_kd (fun d => ak_iload_n d rfl rfl) <|
  am_kd (fun d => ak_iload d rfl) <|
  am_kd (fun d => ak_iload d rfl) <|
  am_kd (fun d => ak_iadd d rfl) <|
  am_kd (fun d => ak_iload d rfl) <|
  am_kd (fun d => ak_if_ne d (by decide +kernel) rfl) <|
  am_kd (fun d => ak_iload d rfl) <|
  am_kd (fun d => ak_goto d (by decide +kernel)) <|
  am_kd (fun d => ak_iload d rfl) <|
  am_kd (fun d => ak_iconst d (by decide +kernel) rfl) <|
  am_kd (fun d => ak_icmp_ne d (by decide +kernel) rfl) <|
  am_kd (fun d => ak_iconst d (by decide +kernel) rfl) <|
  am_kd (fun d => ak_goto d (by decide +kernel)) <|
  am_kd (fun d => ak_iconst d (by decide +kernel) rfl) <|
  am_kd (fun d => ak_iload d rfl) <|
  am_kd (fun d => ak_iconst d (by decide +kernel) rfl) <|
  am_kd (fun d => ak_icmp_ne d (by decide +kernel) rfl) <|
  am_kd (fun d => ak_iconst d (by decide +kernel) rfl) <|
  am_kd (fun d => ak_goto d (by decide +kernel)) <|
  am_kd (fun d => ak_iconst d (by decide +kernel) rfl) <|
  am_kd (fun d => ak_iload d rfl) <|
  am_kd (fun d => ak_iconst d (by decide +kernel) rfl) <|
  am_kd (fun d => ak_icmp_ne d (by decide +kernel) rfl) <|
  am_kd (fun d => ak_iconst d (by decide +kernel) rfl) <|
  am_kd (fun d => ak_goto d (by decide +kernel)) <|
  am_kd (fun d => ak_iconst d (by decide +kernel) rfl) <|
  am_kd (fun d => ak_lconst d (by decide +kernel) rfl) <|
  am_kd (fun d => ak_callV (C := RX8) (F := TX8) (N := 27) metX8_stepYear rfl ⟨rfl, hy_X8_stepYear⟩ (am_w5 wd_1166 wd_1168 wd_44 wd_67 wd_1169) (by decide) d rfl) <|
  am_kd (fun d => ak_aload_n d rfl rfl) <|
  am_kd (fun d => ak_dup d rfl) <|
  am_kd (fun d => ak_getJ (C := RX8) (T := TX8) (N := 27) rfl inX8w (by decide) rfl rfl rfl wd_920 d rfl) <|
  am_kd (fun d => ak_aload_n d rfl rfl) <|
  am_kd (fun d => ak_iload_n d rfl rfl) <|
  am_kd (fun d => ak_iconst d (by decide +kernel) rfl) <|
  am_kd (fun d => ak_callV (C := RX8) (F := TX8) (N := 27) metX8_allOf rfl ⟨rfl, hy_X8_allOf⟩ (am_w5 wd_1195 wd_1197 wd_50 wd_67 wd_1198) (by decide) d rfl) <|
  am_kd (fun d => ak_ladd d rfl) <|
  am_kd (fun d => ak_putJ (C := RX8) (T := TX8) (N := 27) rfl inX8w tyX8_ok nmX8 (by decide) rfl rfl rfl rfl (by decide +kernel) wd_920 d rfl) <|
  am_kd (fun d => ak_aload_n d rfl rfl) <|
  am_kd (fun d => ak_dup d rfl) <|
  am_kd (fun d => ak_getJ (C := RX8) (T := TX8) (N := 27) rfl inX8w (by decide) rfl rfl rfl wd_921 d rfl) <|
  am_kd (fun d => ak_aload_n d rfl rfl) <|
  am_kd (fun d => ak_iload_n d rfl rfl) <|
  am_kd (fun d => ak_iconst d (by decide +kernel) rfl) <|
  am_kd (fun d => ak_callV (C := RX8) (F := TX8) (N := 27) metX8_allOf rfl ⟨rfl, hy_X8_allOf⟩ (am_w5 wd_1195 wd_1197 wd_50 wd_67 wd_1198) (by decide) d rfl) <|
  am_kd (fun d => ak_ladd d rfl) <|
  am_kd (fun d => ak_putJ (C := RX8) (T := TX8) (N := 27) rfl inX8w tyX8_ok nmX8 (by decide) rfl rfl rfl rfl (by decide +kernel) wd_921 d rfl) <|
  am_kd (fun d => ak_iinc d (by decide +kernel) rfl) <|
  am_kd (fun d => ak_goto d (by decide +kernel)) <|
  am_kd (fun d => ak_aload_n d rfl rfl) <|
  am_kd (fun d => ak_dup d rfl) <|
  am_kd (fun d => ak_getJ (C := RX8) (T := TX8) (N := 27) rfl inX8w (by decide) rfl rfl rfl wd_921 d rfl) <|
  am_kd (fun d => ak_aload_n d rfl rfl) <|
  am_kd (fun d => ak_iload_n d rfl rfl) <|
  am_kd (fun d => ak_iconst d (by decide +kernel) rfl) <|
  am_kd (fun d => ak_callV (C := RX8) (F := TX8) (N := 27) metX8_allOf rfl ⟨rfl, hy_X8_allOf⟩ (am_w5 wd_1195 wd_1197 wd_50 wd_67 wd_1198) (by decide) d rfl) <|
  am_kd (fun d => ak_ladd d rfl) <|
  am_kd (fun d => ak_putJ (C := RX8) (T := TX8) (N := 27) rfl inX8w tyX8_ok nmX8 (by decide) rfl rfl rfl rfl (by decide +kernel) wd_921 d rfl) <|
  am_kd (fun d => ak_lload d rfl) <|
  am_kd (fun d => ak_retL d) <| am_kdn
def TX8_goWay : am_T := fun live as M R => match as with
  | [.ref n, .int p, .int f, .int w, .int c, .int y, .int m] => am_mn live ∧ n = 200 ∧ am_in p 12 ∧ am_in f 4 ∧ (0 ≤ w.toInt ∧ w.toInt ≤ 1000) ∧ (0 ≤ y.toInt ∧ y.toInt + m.toInt ≤ 40) ∧ r_I M ∧ ∀ v M', r_sc M M' → r_I M' → R (some (.long v)) M'
  | _ => False
def JX8_goWay : am_E → List Value → am_M → am_R → am_inv := fun live as M0 _ pc => match as with
  | [.ref n, .int p, .int f, .int w, .int c, .int y, .int m] => (match pc with
    | 26 => some ([0, 1, 4, 5, 6, 7, 9, 10, 11], fun u L st M => ∃ (v : Int64) (s t k : Int32), L = [(0, .ref 200), (1, .int p), (4, .int c), (5, .int y), (6, .int m), (7, .long v), (9, .int s), (10, .int t), (11, .int k)] ∧ st = [] ∧ u = ((50 - k.toInt).toNat, 9) ∧ (am_in s 4 ∧ 0 ≤ t.toInt ∧ t.toInt ≤ 1000) ∧ 0 ≤ k.toInt ∧ r_sc M0 M ∧ r_I M)
    | 66 => some ([0, 1, 4, 5, 6, 7, 9, 10, 11], fun u L st M => ∃ (v : Int64) (s t k : Int32), L = [(0, .ref 200), (1, .int p), (4, .int c), (5, .int y), (6, .int m), (7, .long v), (9, .int s), (10, .int t), (11, .int k)] ∧ st = [] ∧ u = ((50 - k.toInt).toNat, 8) ∧ (am_in s 4 ∧ 0 ≤ t.toInt ∧ t.toInt ≤ 1000) ∧ (0 ≤ k.toInt ∧ k.toInt < m.toInt) ∧ r_sc M0 M ∧ r_I M)
    | _ => none)
  | _ => none
set_option maxRecDepth 100000 in
set_option maxHeartbeats 4000000 in
theorem metX8_goWay : am_Met yX8_goWay cX8_goWay 12 (some .long) (9) (228) TX8_goWay := by
  refine am_met (own := RX8) (by decide +kernel) rfl kX8_goWay koX8_goWay 150 JX8_goWay ?_ ?_
  · intro live as M Ret h
    unfold TX8_goWay at h
    split at h
    · next n p f w c y m =>
      refine ⟨Nat.le_of_ble_eq_true rfl, ?_⟩
      change am_wp _ _ _ _ [(0, Value.ref n), (1, Value.int p), (2, Value.int f), (3, Value.int w), (4, Value.int c), (5, Value.int y), (6, Value.int m)] _ _
      obtain ⟨hmn, rfl, hp, hf, ⟨w1, w2⟩, hy, hR, h⟩ := h
      have hmn2 := hmn
      obtain ⟨i1, i2, rfl⟩ := hmn2
      repeat' (first | (with_reducible exact hmn) | (with_reducible exact hR) | apply And.intro | exact rfl | ((with_reducible change r_I _); (with_reducible assumption)) | intro hx | (refine Exists.intro _ (And.intro rfl ?_)))
      all_goals try first | (with_reducible change am_tI _ _) | (change Ret _ _) | (change Ret _ _ _) | (change Exists _)
      all_goals try dsimp only at *
      all_goals try (with_reducible exact absurd ‹(1000 : Int64) = 0› am_z1000)
      exact ⟨_, _, _, _, _, rfl, rfl, rfl, ⟨hf, w1, w2⟩, by decide, by (repeat' (first | (with_reducible exact r_sc.rf) | (with_reducible assumption) | ((with_reducible change r_sc _ (am_wI _ _ _ _)); refine r_sc.wI ?_ rfl) | ((with_reducible change r_sc _ (am_wJ _ _ _ _)); refine r_sc.wJ ?_ rfl) | (refine r_sc.tr ?_ (by with_reducible assumption)))), by (repeat' (first | (with_reducible assumption) | ((with_reducible change r_I (am_wJ _ _ _ _)); refine r_I.wJ ?_) | ((with_reducible change r_I (am_wI _ _ _ _)); refine r_I.wI ?_ rfl)))⟩
    · exact h.elim
  · intro live as M0 Ret h k pc I hI L st M hi
    unfold TX8_goWay at h
    split at h
    · next n p f w c y m =>
      obtain ⟨hmn, rfl, hp, hf, ⟨w1, w2⟩, ⟨y1, y2⟩, hR, h⟩ := h
      have hmn2 := hmn
      obtain ⟨i1, i2, rfl⟩ := hmn2
      have a0 : am_in (0 : Int32) 4 := ⟨by decide, by decide⟩
      have a1 : am_in (1 : Int32) 4 := ⟨by decide, by decide⟩
      change (match pc with | 26 => _ | 66 => _ | _ => none) = _ at hI
      split at hI
      · cases hI
        obtain ⟨v, s, t, k, rfl, rfl, rfl, ⟨hs, t1, t2⟩, e1, e2, e3⟩ := hi
        by_cases hz : m ≤ k
        · skip
          repeat' (first | (with_reducible exact hmn) | (with_reducible exact e3) | apply And.intro | exact rfl | (intro hx; with_reducible exact absurd hz hx) | ((with_reducible change r_I _); (with_reducible assumption)) | intro hx | (refine Exists.intro _ (And.intro rfl ?_)))
          all_goals try first | (with_reducible change am_tI _ _) | (change Ret _ _) | (change Ret _ _ _) | (change Exists _)
          all_goals try dsimp only at *
          all_goals try (with_reducible exact absurd ‹(1000 : Int64) = 0› am_z1000)
          all_goals exact h _ _ (by (repeat' (first | (with_reducible exact r_sc.rf) | (with_reducible assumption) | ((with_reducible change r_sc _ (am_wI _ _ _ _)); refine r_sc.wI ?_ rfl) | ((with_reducible change r_sc _ (am_wJ _ _ _ _)); refine r_sc.wJ ?_ rfl) | (refine r_sc.tr ?_ (by with_reducible assumption))))) (by (repeat' (first | (with_reducible assumption) | ((with_reducible change r_I (am_wJ _ _ _ _)); refine r_I.wJ ?_) | ((with_reducible change r_I (am_wI _ _ _ _)); refine r_I.wI ?_ rfl))))
        · have hz2 := hz
          simp only [i_le] at hz2
          have hd := r_di4 t1 t2
          have h40 : ¬ (4 : Int32) = 0 := by decide
          repeat' (first | (with_reducible exact hmn) | (with_reducible exact hs) | (with_reducible exact hd) | (with_reducible exact 1) | (with_reducible exact h40) | apply And.intro | exact rfl | (intro hx; with_reducible exact absurd hx hz) | (intro hx; exact absurd hx (by decide)) | (intro hx; exact absurd (by decide) hx) | decide | intro hx | (refine Exists.intro _ (And.intro rfl ?_)))
          all_goals try first | (with_reducible change am_tI _ _) | (change Ret _ _) | (change Ret _ _ _) | (change Exists _)
          all_goals try dsimp only at *
          all_goals try (with_reducible exact absurd ‹(1000 : Int64) = 0› am_z1000)
          all_goals first
            | exact absurd (by with_reducible assumption) h40
            | (with_reducible exact hd.1.1)
            | (with_reducible exact hd.1.2)
            | exact hd.1.1
            | exact hd.1.2
            | exact ⟨_, am_lt_r (by omega), _, _, _, _, rfl, rfl, rfl, ⟨hs, t1, t2⟩, ⟨e1, by omega⟩, e2, e3⟩
            | exact ⟨_, am_lt_r (by omega), _, _, _, _, rfl, rfl, rfl, ⟨hd.1, hd.2.1, hd.2.2⟩, ⟨e1, by omega⟩, e2, e3⟩
            | skip
      · cases hI
        obtain ⟨v, s, t, k, rfl, rfl, rfl, ⟨hs, t1, t2⟩, ⟨e1, e4⟩, e2, e3⟩ := hi
        have hk := i_inc (x := k) (by omega) (by omega)
        have eyk := i_add (x := y) (y := k) (by omega) (by omega)
        have hyk : am_in (y + k) 40 := ⟨by omega, by omega⟩
        have hc4 : s = 0 ∨ s = 1 ∨ s = 2 ∨ s = 3 := by
          have h1 := hs.1
          have h2 := hs.2
          simp only [i_eq, Int32.reduceToInt]
          omega
        rcases hc4 with rfl | rfl | rfl | rfl
        · skip
          repeat' (first | (with_reducible exact hmn) | (with_reducible exact hp) | (with_reducible exact hyk) | (with_reducible exact a0) | (with_reducible exact a1) | (with_reducible exact e3) | apply And.intro | exact rfl | ((with_reducible change r_I _); (with_reducible assumption)) | (intro hx; exact absurd hx (by decide)) | (intro hx; exact absurd (by decide) hx) | decide | intro hx | (refine Exists.intro _ (And.intro rfl ?_)))
          all_goals try first | (with_reducible change am_tI _ _) | (change Ret _ _) | (change Ret _ _ _) | (change Exists _)
          all_goals try dsimp only at *
          all_goals try (with_reducible exact absurd ‹(1000 : Int64) = 0› am_z1000)
          all_goals first
            | (change r_I _; (repeat' (first | (with_reducible assumption) | ((with_reducible change r_I (am_wJ _ _ _ _)); refine r_I.wJ ?_) | ((with_reducible change r_I (am_wI _ _ _ _)); refine r_I.wI ?_ rfl))))
            | exact ⟨_, am_lt_l (by omega), _, _, _, _, rfl, rfl, rfl, ⟨hs, t1, t2⟩, by omega, by (repeat' (first | (with_reducible exact r_sc.rf) | (with_reducible assumption) | ((with_reducible change r_sc _ (am_wI _ _ _ _)); refine r_sc.wI ?_ rfl) | ((with_reducible change r_sc _ (am_wJ _ _ _ _)); refine r_sc.wJ ?_ rfl) | (refine r_sc.tr ?_ (by with_reducible assumption)))), by (repeat' (first | (with_reducible assumption) | ((with_reducible change r_I (am_wJ _ _ _ _)); refine r_I.wJ ?_) | ((with_reducible change r_I (am_wI _ _ _ _)); refine r_I.wI ?_ rfl)))⟩
        · skip
          repeat' (first | (with_reducible exact hmn) | (with_reducible exact hp) | (with_reducible exact hyk) | (with_reducible exact a0) | (with_reducible exact a1) | (with_reducible exact e3) | apply And.intro | exact rfl | ((with_reducible change r_I _); (with_reducible assumption)) | (intro hx; exact absurd hx (by decide)) | (intro hx; exact absurd (by decide) hx) | decide | intro hx | (refine Exists.intro _ (And.intro rfl ?_)))
          all_goals try first | (with_reducible change am_tI _ _) | (change Ret _ _) | (change Ret _ _ _) | (change Exists _)
          all_goals try dsimp only at *
          all_goals try (with_reducible exact absurd ‹(1000 : Int64) = 0› am_z1000)
          all_goals first
            | (change r_I _; (repeat' (first | (with_reducible assumption) | ((with_reducible change r_I (am_wJ _ _ _ _)); refine r_I.wJ ?_) | ((with_reducible change r_I (am_wI _ _ _ _)); refine r_I.wI ?_ rfl))))
            | exact ⟨_, am_lt_l (by omega), _, _, _, _, rfl, rfl, rfl, ⟨hs, t1, t2⟩, by omega, by (repeat' (first | (with_reducible exact r_sc.rf) | (with_reducible assumption) | ((with_reducible change r_sc _ (am_wI _ _ _ _)); refine r_sc.wI ?_ rfl) | ((with_reducible change r_sc _ (am_wJ _ _ _ _)); refine r_sc.wJ ?_ rfl) | (refine r_sc.tr ?_ (by with_reducible assumption)))), by (repeat' (first | (with_reducible assumption) | ((with_reducible change r_I (am_wJ _ _ _ _)); refine r_I.wJ ?_) | ((with_reducible change r_I (am_wI _ _ _ _)); refine r_I.wI ?_ rfl)))⟩
        · skip
          repeat' (first | (with_reducible exact hmn) | (with_reducible exact hp) | (with_reducible exact hyk) | (with_reducible exact a0) | (with_reducible exact a1) | (with_reducible exact e3) | apply And.intro | exact rfl | ((with_reducible change r_I _); (with_reducible assumption)) | (intro hx; exact absurd hx (by decide)) | (intro hx; exact absurd (by decide) hx) | decide | intro hx | (refine Exists.intro _ (And.intro rfl ?_)))
          all_goals try first | (with_reducible change am_tI _ _) | (change Ret _ _) | (change Ret _ _ _) | (change Exists _)
          all_goals try dsimp only at *
          all_goals try (with_reducible exact absurd ‹(1000 : Int64) = 0› am_z1000)
          all_goals first
            | (change r_I _; (repeat' (first | (with_reducible assumption) | ((with_reducible change r_I (am_wJ _ _ _ _)); refine r_I.wJ ?_) | ((with_reducible change r_I (am_wI _ _ _ _)); refine r_I.wI ?_ rfl))))
            | exact ⟨_, am_lt_l (by omega), _, _, _, _, rfl, rfl, rfl, ⟨hs, t1, t2⟩, by omega, by (repeat' (first | (with_reducible exact r_sc.rf) | (with_reducible assumption) | ((with_reducible change r_sc _ (am_wI _ _ _ _)); refine r_sc.wI ?_ rfl) | ((with_reducible change r_sc _ (am_wJ _ _ _ _)); refine r_sc.wJ ?_ rfl) | (refine r_sc.tr ?_ (by with_reducible assumption)))), by (repeat' (first | (with_reducible assumption) | ((with_reducible change r_I (am_wJ _ _ _ _)); refine r_I.wJ ?_) | ((with_reducible change r_I (am_wI _ _ _ _)); refine r_I.wI ?_ rfl)))⟩
        · skip
          repeat' (first | (with_reducible exact hmn) | (with_reducible exact hp) | (with_reducible exact hyk) | (with_reducible exact a0) | (with_reducible exact a1) | (with_reducible exact e3) | apply And.intro | exact rfl | ((with_reducible change r_I _); (with_reducible assumption)) | (intro hx; exact absurd hx (by decide)) | (intro hx; exact absurd (by decide) hx) | decide | intro hx | (refine Exists.intro _ (And.intro rfl ?_)))
          all_goals try first | (with_reducible change am_tI _ _) | (change Ret _ _) | (change Ret _ _ _) | (change Exists _)
          all_goals try dsimp only at *
          all_goals try (with_reducible exact absurd ‹(1000 : Int64) = 0› am_z1000)
          all_goals first
            | (change r_I _; (repeat' (first | (with_reducible assumption) | ((with_reducible change r_I (am_wJ _ _ _ _)); refine r_I.wJ ?_) | ((with_reducible change r_I (am_wI _ _ _ _)); refine r_I.wI ?_ rfl))))
            | exact ⟨_, am_lt_l (by omega), _, _, _, _, rfl, rfl, rfl, ⟨hs, t1, t2⟩, by omega, by (repeat' (first | (with_reducible exact r_sc.rf) | (with_reducible assumption) | ((with_reducible change r_sc _ (am_wI _ _ _ _)); refine r_sc.wI ?_ rfl) | ((with_reducible change r_sc _ (am_wJ _ _ _ _)); refine r_sc.wJ ?_ rfl) | (refine r_sc.tr ?_ (by with_reducible assumption)))), by (repeat' (first | (with_reducible assumption) | ((with_reducible change r_I (am_wJ _ _ _ _)); refine r_I.wJ ?_) | ((with_reducible change r_I (am_wI _ _ _ _)); refine r_I.wI ?_ rfl)))⟩
      · cases hI
    · exact h.elim
theorem hy_X8_keep : yX8_keep.cls ≠ "java/lang/invoke/MethodHandle" ∧ yX8_keep.cls ≠ "java/lang/invoke/VarHandle" ∧ (parseMethodDescriptor yX8_keep.desc).map (fun d => d.parameters.length) = some 0 := ⟨by decide +kernel, by decide +kernel, by decide +kernel⟩
set_option maxRecDepth 100000 in
theorem wd_1249 : Cond.methodLink "LearnLoansModel" 271 yX8_keep ∈ am_ws := am_wt5 (List.mem_of_getElem? (i := 232) (by rfl)) (by decide +kernel)
set_option maxRecDepth 100000 in
theorem wd_1251 : Cond.instanceMethod yX8_keep ∈ am_ws := am_wt5 (List.mem_of_getElem? (i := 234) (by rfl)) (by decide +kernel)
set_option maxRecDepth 100000 in
theorem wd_52 : Cond.selects "LearnLoansModel" yX8_keep yX8_keep ∈ am_ws := am_wsi (List.mem_of_getElem? (i := 52) (by rfl)) (by decide +kernel)
set_option maxRecDepth 100000 in
theorem wd_1252 : Cond.code yX8_keep cX8_keep 2 none ∈ am_ws := am_wt5 (List.mem_of_getElem? (i := 235) (by rfl)) (by decide +kernel)
set_option maxRecDepth 100000 in
theorem wd_1253 : Cond.constantLong "LearnLoansModel" 274 (-1) ∈ am_ws := am_wt5 (List.mem_of_getElem? (i := 236) (by rfl)) (by decide +kernel)
theorem hy_X8_goWay : yX8_goWay.cls ≠ "java/lang/invoke/MethodHandle" ∧ yX8_goWay.cls ≠ "java/lang/invoke/VarHandle" ∧ (parseMethodDescriptor yX8_goWay.desc).map (fun d => d.parameters.length) = some 6 := ⟨by decide +kernel, by decide +kernel, by decide +kernel⟩
set_option maxRecDepth 100000 in
theorem wd_1254 : Cond.methodLink "LearnLoansModel" 276 yX8_goWay ∈ am_ws := am_wt5 (List.mem_of_getElem? (i := 237) (by rfl)) (by decide +kernel)
set_option maxRecDepth 100000 in
theorem wd_1256 : Cond.instanceMethod yX8_goWay ∈ am_ws := am_wt5 (List.mem_of_getElem? (i := 239) (by rfl)) (by decide +kernel)
set_option maxRecDepth 100000 in
theorem wd_53 : Cond.selects "LearnLoansModel" yX8_goWay yX8_goWay ∈ am_ws := am_wsi (List.mem_of_getElem? (i := 53) (by rfl)) (by decide +kernel)
set_option maxRecDepth 100000 in
theorem wd_1257 : Cond.code yX8_goWay cX8_goWay 12 (some .long) ∈ am_ws := am_wt6 (List.mem_of_getElem? (i := 0) (by rfl)) (by decide +kernel)
def rwX8_foretold : List dz_r := [(0, .aload_n 0, 1), (1, .iload_n 1, 1), (2, .invokevirtual 76, 3), (5, .ifCond .eq 71, 3), (8, .iload_n 2, 1), (9, .i2l, 1), (10, .lconst 0, 1), (11, .ldc2_w 79, 3), (14, .invokestatic 66, 3), (17, .ifCond .eq 59, 3), (20, .iload_n 3, 1), (21, .i2l, 1), (22, .lconst 0, 1), (23, .ldc2_w 87, 3), (26, .invokestatic 66, 3), (29, .ifCond .eq 47, 3), (32, .iload 4, 2), (34, .invokestatic 72, 3), (37, .ifCond .eq 39, 3), (40, .iload 5, 2), (42, .i2l, 1), (43, .lconst 1, 1), (44, .ldc2_w 102, 3), (47, .invokestatic 66, 3), (50, .ifCond .eq 26, 3), (53, .iload 4, 2), (55, .iload 5, 2), (57, .iadd, 1), (58, .bipush 40, 2), (60, .if_icmp .gt 16, 3), (63, .iload 6, 2), (65, .i2l, 1), (66, .lconst 0, 1), (67, .ldc2_w 79, 3), (70, .invokestatic 66, 3), (73, .ifCond .ne 7, 3), (76, .ldc2_w 237, 3), (79, .lreturn, 1), (80, .aload_n 0, 1), (81, .iload_n 1, 1), (82, .iload 4, 2), (84, .iconst 1, 1), (85, .isub, 1), (86, .bipush 39, 2), (88, .invokevirtual 239, 3), (91, .aload_n 0, 1), (92, .invokevirtual 271, 3), (95, .lconst 0, 1), (96, .lstore 7, 2), (98, .lconst 0, 1), (99, .lstore 9, 2), (101, .ldc2_w 274, 3), (104, .lstore 11, 2), (106, .ldc2_w 274, 3), (109, .lstore 13, 2), (111, .iconst 0, 1), (112, .istore 15, 2), (114, .iload 15, 2), (116, .iconst 1, 1), (117, .iconst 2, 1), (118, .iload 5, 2), (120, .iconst 1, 1), (121, .isub, 1), (122, .imul, 1), (123, .ishl, 1), (124, .if_icmp .ge 104, 3), (127, .aload_n 0, 1), (128, .iload_n 1, 1), (129, .iload_n 2, 1), (130, .iload 15, 2), (132, .iload_n 3, 1), (133, .iload 4, 2), (135, .iload 5, 2), (137, .invokevirtual 276, 3), (140, .lstore 16, 2), (142, .lload 16, 2), (144, .lconst 0, 1), (145, .lcmp, 1), (146, .ifCond .le 76, 3), (149, .lload 7, 2), (151, .lload 16, 2), (153, .aload_n 0, 1), (154, .getfield 262, 3), (157, .lmul, 1), (158, .ladd, 1), (159, .lstore 7, 2), (161, .lload 9, 2), (163, .lload 16, 2), (165, .aload_n 0, 1), (166, .getfield 265, 3), (169, .lmul, 1), (170, .ladd, 1), (171, .lstore 9, 2), (173, .lload 11, 2), (175, .lconst 0, 1), (176, .lcmp, 1), (177, .ifCond .lt 13, 3), (180, .aload_n 0, 1), (181, .getfield 262, 3), (184, .lload 11, 2), (186, .lcmp, 1), (187, .ifCond .ge 10, 3), (190, .aload_n 0, 1), (191, .getfield 262, 3), (194, .goto 5, 3), (197, .lload 11, 2), (199, .lstore 11, 2), (201, .aload_n 0, 1), (202, .getfield 262, 3), (205, .lload 13, 2), (207, .lcmp, 1), (208, .ifCond .le 10, 3), (211, .aload_n 0, 1), (212, .getfield 262, 3), (215, .goto 5, 3), (218, .lload 13, 2), (220, .lstore 13, 2), (222, .iinc 15 1, 3), (225, .goto (-111), 3), (228, .iload 6, 2), (230, .ifCond .ne 8, 3), (233, .lload 7, 2), (235, .goto 27, 3), (238, .iload 6, 2), (240, .iconst 1, 1), (241, .if_icmp .ne 8, 3), (244, .lload 11, 2), (246, .goto 16, 3), (249, .iload 6, 2), (251, .iconst 2, 1), (252, .if_icmp .ne 8, 3), (255, .lload 13, 2), (257, .goto 5, 3), (260, .lload 9, 2), (262, .lreturn, 1)]
theorem dzX8_foretold : dz cX8_foretold rwX8_foretold := dz_all 0 (by decide +kernel)
def kX8_foretold (live : am_E) (Ret : am_R) : am_code := [(0, am_aload 0 1), (1, am_iload 1 2), (2, am_callV live 8 1 TX8_isPerson 5), (5, am_if1 (fun x => x = 0) 76 8), (8, am_iload 2 9), (9, am_i2l 10), (10, am_const (.long 0) 11), (11, am_const (.long 3) 14), (14, am_callS live 3 TX8_in 17), (17, am_if1 (fun x => x = 0) 76 20), (20, am_iload 3 21), (21, am_i2l 22), (22, am_const (.long 0) 23), (23, am_const (.long 10000000) 26), (26, am_callS live 3 TX8_in 29), (29, am_if1 (fun x => x = 0) 76 32), (32, am_iload 4 34), (34, am_callS live 1 TX8_isYear 37), (37, am_if1 (fun x => x = 0) 76 40), (40, am_iload 5 42), (42, am_i2l 43), (43, am_const (.long 1) 44), (44, am_const (.long 5) 47), (47, am_callS live 3 TX8_in 50), (50, am_if1 (fun x => x = 0) 76 53), (53, am_iload 4 55), (55, am_iload 5 57), (57, am_i2 (fun x y => x + y) 58), (58, am_const (.int 40) 60), (60, am_if2 (fun x y => y < x) 76 63), (63, am_iload 6 65), (65, am_i2l 66), (66, am_const (.long 0) 67), (67, am_const (.long 3) 70), (70, am_callS live 3 TX8_in 73), (73, am_if1 (fun x => x = 0) 76 80), (76, am_const (.long (-2)) 79), (79, am_retL Ret), (80, am_aload 0 81), (81, am_iload 1 82), (82, am_iload 4 84), (84, am_const (.int 1) 85), (85, am_i2 (fun x y => x - y) 86), (86, am_const (.int 39) 88), (88, am_callV live 8 3 TX8_run 91), (91, am_aload 0 92), (92, am_callV live 8 0 TX8_keep 95), (95, am_const (.long 0) 96), (96, am_lstore 7 18 98), (98, am_const (.long 0) 99), (99, am_lstore 9 18 101), (101, am_const (.long (-1)) 104), (104, am_lstore 11 18 106), (106, am_const (.long (-1)) 109), (109, am_lstore 13 18 111), (111, am_const (.int 0) 112), (112, am_istore 15 18 114), (114, am_iload 15 116), (116, am_const (.int 1) 117), (117, am_const (.int 2) 118), (118, am_iload 5 120), (120, am_const (.int 1) 121), (121, am_i2 (fun x y => x - y) 122), (122, am_i2 (fun x y => x * y) 123), (123, am_i2 (fun x y => x <<< (y &&& 31)) 124), (124, am_if2 (fun x y => y ≤ x) 228 127), (127, am_aload 0 128), (128, am_iload 1 129), (129, am_iload 2 130), (130, am_iload 15 132), (132, am_iload 3 133), (133, am_iload 4 135), (135, am_iload 5 137), (137, am_callV live 8 6 TX8_goWay 140), (140, am_lstore 16 18 142), (142, am_lload 16 144), (144, am_const (.long 0) 145), (145, am_lcmp 146), (146, am_if1 (fun x => x ≤ 0) 222 149), (149, am_lload 7 151), (151, am_lload 16 153), (153, am_aload 0 154), (154, am_getJ live 8 25 157), (157, am_l2 (fun x y => x * y) 158), (158, am_l2 (fun x y => x + y) 159), (159, am_lstore 7 18 161), (161, am_lload 9 163), (163, am_lload 16 165), (165, am_aload 0 166), (166, am_getJ live 8 26 169), (169, am_l2 (fun x y => x * y) 170), (170, am_l2 (fun x y => x + y) 171), (171, am_lstore 9 18 173), (173, am_lload 11 175), (175, am_const (.long 0) 176), (176, am_lcmp 177), (177, am_if1 (fun x => x < 0) 190 180), (180, am_aload 0 181), (181, am_getJ live 8 25 184), (184, am_lload 11 186), (186, am_lcmp 187), (187, am_if1 (fun x => 0 ≤ x) 197 190), (190, am_aload 0 191), (191, am_getJ live 8 25 194), (194, am_goto 199), (197, am_lload 11 199), (199, am_lstore 11 18 201), (201, am_aload 0 202), (202, am_getJ live 8 25 205), (205, am_lload 13 207), (207, am_lcmp 208), (208, am_if1 (fun x => x ≤ 0) 218 211), (211, am_aload 0 212), (212, am_getJ live 8 25 215), (215, am_goto 220), (218, am_lload 13 220), (220, am_lstore 13 18 222), (222, am_iinc 15 18 1 225), (225, am_goto 114), (228, am_iload 6 230), (230, am_if1 (fun x => x = 0) 233 238), (233, am_lload 7 235), (235, am_goto 262), (238, am_iload 6 240), (240, am_const (.int 1) 241), (241, am_if2 (fun x y => x = y) 244 249), (244, am_lload 11 246), (246, am_goto 262), (249, am_iload 6 251), (251, am_const (.int 2) 252), (252, am_if2 (fun x y => x = y) 255 260), (255, am_lload 13 257), (257, am_goto 262), (260, am_lload 9 262), (262, am_retL Ret)]
theorem koX8_foretold (live : am_E) (Ret : am_R) : ∀ q ∈ kX8_foretold live Ret, am_ok RX8 cX8_foretold 18 (some .long) 10 259 live Ret q.1 q.2 :=
  am_kz dzX8_foretold <|
  am_kd (fun d => ak_aload_n d rfl rfl) <|
  am_kd (fun d => ak_iload_n d rfl rfl) <|
  am_kd (fun d => ak_callV (C := RX8) (F := TX8) (N := 27) metX8_isPerson rfl ⟨rfl, hy_X8_isPerson⟩ (am_w5 wd_993 wd_995 wd_27 wd_67 wd_996) (by decide) d rfl) <|
  am_kd (fun d => ak_if_eq d (by decide +kernel) rfl) <|
  am_kd (fun d => ak_iload_n d rfl rfl) <|
  am_kd (fun d => ak_i2l d rfl) <|
  am_kd (fun d => ak_lconst d (by decide +kernel) rfl) <|
  am_kd (fun d => ak_ldc2 wd_997 d rfl) <|
  am_kd (fun d => ak_callS metX8_in ⟨rfl, hy_X8_in⟩ (am_w4 wd_986 wd_987 wd_67 wd_988) (by decide) d rfl) <|
  am_kd (fun d => ak_if_eq d (by decide +kernel) rfl) <|
  am_kd (fun d => ak_iload_n d rfl rfl) <|
  am_kd (fun d => ak_i2l d rfl) <|
  am_kd (fun d => ak_lconst d (by decide +kernel) rfl) <|
  am_kd (fun d => ak_ldc2 wd_1017 d rfl) <|
  am_kd (fun d => ak_callS metX8_in ⟨rfl, hy_X8_in⟩ (am_w4 wd_986 wd_987 wd_67 wd_988) (by decide) d rfl) <|
  am_kd (fun d => ak_if_eq d (by decide +kernel) rfl) <|
  am_kd (fun d => ak_iload d rfl) <|
  am_kd (fun d => ak_callS metX8_isYear ⟨rfl, hy_X8_isYear⟩ (am_w4 wd_982 wd_983 wd_67 wd_984) (by decide) d rfl) <|
  am_kd (fun d => ak_if_eq d (by decide +kernel) rfl) <|
  am_kd (fun d => ak_iload d rfl) <|
  am_kd (fun d => ak_i2l d rfl) <|
  am_kd (fun d => ak_lconst d (by decide +kernel) rfl) <|
  am_kd (fun d => ak_ldc2 wd_1041 d rfl) <|
  am_kd (fun d => ak_callS metX8_in ⟨rfl, hy_X8_in⟩ (am_w4 wd_986 wd_987 wd_67 wd_988) (by decide) d rfl) <|
  am_kd (fun d => ak_if_eq d (by decide +kernel) rfl) <|
  am_kd (fun d => ak_iload d rfl) <|
  am_kd (fun d => ak_iload d rfl) <|
  am_kd (fun d => ak_iadd d rfl) <|
  am_kd (fun d => ak_bipush d (by decide +kernel) rfl) <|
  am_kd (fun d => ak_icmp_gt d (by decide +kernel) rfl) <|
  am_kd (fun d => ak_iload d rfl) <|
  am_kd (fun d => ak_i2l d rfl) <|
  am_kd (fun d => ak_lconst d (by decide +kernel) rfl) <|
  am_kd (fun d => ak_ldc2 wd_997 d rfl) <|
  am_kd (fun d => ak_callS metX8_in ⟨rfl, hy_X8_in⟩ (am_w4 wd_986 wd_987 wd_67 wd_988) (by decide) d rfl) <|
  am_kd (fun d => ak_if_ne d (by decide +kernel) rfl) <|
  am_kd (fun d => ak_ldc2 wd_1153 d rfl) <|
  am_kd (fun d => ak_retL d) <|
  am_kd (fun d => ak_aload_n d rfl rfl) <|
  am_kd (fun d => ak_iload_n d rfl rfl) <|
  am_kd (fun d => ak_iload d rfl) <|
  am_kd (fun d => ak_iconst d (by decide +kernel) rfl) <|
  am_kd (fun d => ak_isub d rfl) <|
  am_kd (fun d => ak_bipush d (by decide +kernel) rfl) <|
  am_kd (fun d => ak_callV (C := RX8) (F := TX8) (N := 27) metX8_run rfl ⟨rfl, hy_X8_run⟩ (am_w5 wd_1158 wd_1160 wd_42 wd_67 wd_1161) (by decide) d rfl) <|
  am_kd (fun d => ak_aload_n d rfl rfl) <|
  am_kd (fun d => ak_callV (C := RX8) (F := TX8) (N := 27) metX8_keep rfl ⟨rfl, hy_X8_keep⟩ (am_w5 wd_1249 wd_1251 wd_52 wd_67 wd_1252) (by decide) d rfl) <|
  am_kd (fun d => ak_lconst d (by decide +kernel) rfl) <|
  am_kd (fun d => ak_lstore d rfl) <|
  am_kd (fun d => ak_lconst d (by decide +kernel) rfl) <|
  am_kd (fun d => ak_lstore d rfl) <|
  am_kd (fun d => ak_ldc2 wd_1253 d rfl) <|
  am_kd (fun d => ak_lstore d rfl) <|
  am_kd (fun d => ak_ldc2 wd_1253 d rfl) <|
  am_kd (fun d => ak_lstore d rfl) <|
  am_kd (fun d => ak_iconst d (by decide +kernel) rfl) <|
  am_kd (fun d => ak_istore d rfl) <|
  am_kd (fun d => ak_iload d rfl) <|
  am_kd (fun d => ak_iconst d (by decide +kernel) rfl) <|
  am_kd (fun d => ak_iconst d (by decide +kernel) rfl) <|
  am_kd (fun d => ak_iload d rfl) <|
  am_kd (fun d => ak_iconst d (by decide +kernel) rfl) <|
  am_kd (fun d => ak_isub d rfl) <|
  am_kd (fun d => ak_imul d rfl) <|
  am_kd (fun d => ak_ishl d rfl) <|
  am_kd (fun d => ak_icmp_ge d (by decide +kernel) rfl) <|
  am_kd (fun d => ak_aload_n d rfl rfl) <|
  am_kd (fun d => ak_iload_n d rfl rfl) <|
  am_kd (fun d => ak_iload_n d rfl rfl) <|
  am_kd (fun d => ak_iload d rfl) <|
  am_kd (fun d => ak_iload_n d rfl rfl) <|
  am_kd (fun d => ak_iload d rfl) <|
  am_kd (fun d => ak_iload d rfl) <|
  am_kd (fun d => ak_callV (C := RX8) (F := TX8) (N := 27) metX8_goWay rfl ⟨rfl, hy_X8_goWay⟩ (am_w5 wd_1254 wd_1256 wd_53 wd_67 wd_1257) (by decide) d rfl) <|
  am_kd (fun d => ak_lstore d rfl) <|
  am_kd (fun d => ak_lload d rfl) <|
  am_kd (fun d => ak_lconst d (by decide +kernel) rfl) <|
  am_kd (fun d => ak_lcmp d rfl) <|
  am_kd (fun d => ak_if_le d (by decide +kernel) rfl) <|
  am_kd (fun d => ak_lload d rfl) <|
  am_kd (fun d => ak_lload d rfl) <|
  am_kd (fun d => ak_aload_n d rfl rfl) <|
  am_kd (fun d => ak_getJ (C := RX8) (T := TX8) (N := 27) rfl inX8w (by decide) rfl rfl rfl wd_920 d rfl) <|
  am_kd (fun d => ak_lmul d rfl) <|
  am_kd (fun d => ak_ladd d rfl) <|
  am_kd (fun d => ak_lstore d rfl) <|
  am_kd (fun d => ak_lload d rfl) <|
  am_kd (fun d => ak_lload d rfl) <|
  am_kd (fun d => ak_aload_n d rfl rfl) <|
  am_kd (fun d => ak_getJ (C := RX8) (T := TX8) (N := 27) rfl inX8w (by decide) rfl rfl rfl wd_921 d rfl) <|
  am_kd (fun d => ak_lmul d rfl) <|
  am_kd (fun d => ak_ladd d rfl) <|
  am_kd (fun d => ak_lstore d rfl) <|
  am_kd (fun d => ak_lload d rfl) <|
  am_kd (fun d => ak_lconst d (by decide +kernel) rfl) <|
  am_kd (fun d => ak_lcmp d rfl) <|
  am_kd (fun d => ak_if_lt d (by decide +kernel) rfl) <|
  am_kd (fun d => ak_aload_n d rfl rfl) <|
  am_kd (fun d => ak_getJ (C := RX8) (T := TX8) (N := 27) rfl inX8w (by decide) rfl rfl rfl wd_920 d rfl) <|
  am_kd (fun d => ak_lload d rfl) <|
  am_kd (fun d => ak_lcmp d rfl) <|
  am_kd (fun d => ak_if_ge d (by decide +kernel) rfl) <|
  am_kd (fun d => ak_aload_n d rfl rfl) <|
  am_kd (fun d => ak_getJ (C := RX8) (T := TX8) (N := 27) rfl inX8w (by decide) rfl rfl rfl wd_920 d rfl) <|
  am_kd (fun d => ak_goto d (by decide +kernel)) <|
  am_kd (fun d => ak_lload d rfl) <|
  am_kd (fun d => ak_lstore d rfl) <|
  am_kd (fun d => ak_aload_n d rfl rfl) <|
  am_kd (fun d => ak_getJ (C := RX8) (T := TX8) (N := 27) rfl inX8w (by decide) rfl rfl rfl wd_920 d rfl) <|
  am_kd (fun d => ak_lload d rfl) <|
  am_kd (fun d => ak_lcmp d rfl) <|
  am_kd (fun d => ak_if_le d (by decide +kernel) rfl) <|
  am_kd (fun d => ak_aload_n d rfl rfl) <|
  am_kd (fun d => ak_getJ (C := RX8) (T := TX8) (N := 27) rfl inX8w (by decide) rfl rfl rfl wd_920 d rfl) <|
  am_kd (fun d => ak_goto d (by decide +kernel)) <|
  am_kd (fun d => ak_lload d rfl) <|
  am_kd (fun d => ak_lstore d rfl) <|
  am_kd (fun d => ak_iinc d (by decide +kernel) rfl) <|
  am_kd (fun d => ak_goto d (by decide +kernel)) <|
  am_kd (fun d => ak_iload d rfl) <|
  am_kd (fun d => ak_if_ne d (by decide +kernel) rfl) <|
  am_kd (fun d => ak_lload d rfl) <|
  am_kd (fun d => ak_goto d (by decide +kernel)) <|
  am_kd (fun d => ak_iload d rfl) <|
  am_kd (fun d => ak_iconst d (by decide +kernel) rfl) <|
  am_kd (fun d => ak_icmp_ne d (by decide +kernel) rfl) <|
  am_kd (fun d => ak_lload d rfl) <|
  am_kd (fun d => ak_goto d (by decide +kernel)) <|
  am_kd (fun d => ak_iload d rfl) <|
  am_kd (fun d => ak_iconst d (by decide +kernel) rfl) <|
  am_kd (fun d => ak_icmp_ne d (by decide +kernel) rfl) <|
  am_kd (fun d => ak_lload d rfl) <|
  am_kd (fun d => ak_goto d (by decide +kernel)) <|
  am_kd (fun d => ak_lload d rfl) <|
  am_kd (fun d => ak_retL d) <| am_kdn
def TX8_foretold : am_T := fun live as M R => match as with
  | [.ref n, .int p, .int s, .int c, .int y, .int w, .int k] => am_mn live ∧ n = 200 ∧ r_I M ∧ ∀ v M', r_sc M M' → r_I M' → R (some (.long v)) M'
  | _ => False
def JX8_foretold : am_E → List Value → am_M → am_R → am_inv := fun live as M0 _ pc => match as with
  | [.ref n, .int p, .int s, .int c, .int y, .int w, .int k] => (match pc with
    | 114 => some ([0, 1, 2, 3, 4, 5, 6, 7, 9, 11, 13, 15], fun u L st M => ∃ (a b d e : Int64) (i : Int32), L = [(0, .ref 200), (1, .int p), (2, .int s), (3, .int c), (4, .int y), (5, .int w), (6, .int k), (7, .long a), (9, .long b), (11, .long d), (13, .long e), (15, .int i)] ∧ st = [] ∧ u = ((1000 - i.toInt).toNat, 9) ∧ 0 ≤ i.toInt ∧ (am_in p 12 ∧ am_in s 4 ∧ (0 ≤ y.toInt ∧ y.toInt + w.toInt ≤ 40) ∧ 1 ≤ w.toInt ∧ w.toInt ≤ 5) ∧ r_sc M0 M ∧ r_I M)
    | _ => none)
  | _ => none
set_option maxRecDepth 100000 in
set_option maxHeartbeats 4000000 in
theorem metX8_foretold : am_Met yX8_foretold cX8_foretold 18 (some .long) (10) (259) TX8_foretold := by
  refine am_met (own := RX8) (by decide +kernel) rfl kX8_foretold koX8_foretold 150 JX8_foretold ?_ ?_
  · intro live as M Ret h
    unfold TX8_foretold at h
    split at h
    · next n p s c y w k =>
      refine ⟨Nat.le_of_ble_eq_true rfl, ?_⟩
      change am_wp _ _ _ _ [(0, Value.ref n), (1, Value.int p), (2, Value.int s), (3, Value.int c), (4, Value.int y), (5, Value.int w), (6, Value.int k)] _ _
      obtain ⟨hmn, rfl, hR, h⟩ := h
      have hmn2 := hmn
      obtain ⟨i1, i2, rfl⟩ := hmn2
      have l201 : am_len 201 = 3760 := rfl
      have n0 := hR.n0
      have n1 := hR.n1
      have n030 : 0 ≤ (M.1 201 0).toInt ∧ (M.1 201 0).toInt ≤ 30 := ⟨n0.1, by omega⟩
      by_cases z0 : 0 ≤ p ∧ p < M.1 201 0
      rotate_left
      · skip
        have q0 : (if 0 ≤ p ∧ p < M.1 201 0 then (1 : Int32) else 0) = 0 := if_neg z0
        repeat' (first | (with_reducible exact hmn) | (with_reducible exact n030) | (with_reducible exact n1) | apply And.intro | exact rfl | (intro hx; with_reducible exact absurd q0 hx) | (intro hx; exact absurd hx (by decide)) | (intro hx; exact absurd (by decide) hx) | decide | intro hx | (refine Exists.intro _ (And.intro rfl ?_)))
        all_goals try first | (with_reducible change am_tI _ _) | (change Ret _ _) | (change Ret _ _ _) | (change Exists _)
        all_goals try dsimp only at *
        all_goals try (with_reducible exact absurd ‹(1000 : Int64) = 0› am_z1000)
        all_goals exact h _ _ r_sc.rf hR
      · skip
        have q0 : ¬ ((if 0 ≤ p ∧ p < M.1 201 0 then (1 : Int32) else 0) = 0) := by rw [if_pos z0]; decide
        by_cases z1 : 0 ≤ s ∧ s ≤ 3
        rotate_left
        · skip
          have q1 : (if (0 : Int64) ≤ s.toInt64 ∧ s.toInt64 ≤ (3 : Int64) then (1 : Int32) else 0) = 0 := if_neg (fun r => z1 (by simp only [i_le, i_lt, j_le, Int32.toInt_toInt64, Int32.reduceToInt, Int64.reduceToInt] at r ⊢; omega))
          repeat' (first | (with_reducible exact hmn) | (with_reducible exact n030) | (with_reducible exact n1) | apply And.intro | exact rfl | (intro hx; with_reducible exact absurd hx q0) | (intro hx; with_reducible exact absurd q1 hx) | (intro hx; exact absurd hx (by decide)) | (intro hx; exact absurd (by decide) hx) | decide | intro hx | (refine Exists.intro _ (And.intro rfl ?_)))
          all_goals try first | (with_reducible change am_tI _ _) | (change Ret _ _) | (change Ret _ _ _) | (change Exists _)
          all_goals try dsimp only at *
          all_goals try (with_reducible exact absurd ‹(1000 : Int64) = 0› am_z1000)
          all_goals exact h _ _ r_sc.rf hR
        · skip
          have q1 : ¬ ((if (0 : Int64) ≤ s.toInt64 ∧ s.toInt64 ≤ (3 : Int64) then (1 : Int32) else 0) = 0) := by rw [if_pos (by have q := z1; simp only [i_le, i_lt, j_le, Int32.toInt_toInt64, Int32.reduceToInt, Int64.reduceToInt] at q ⊢; omega)]; decide
          by_cases z2 : 0 ≤ c ∧ c ≤ 10000000
          rotate_left
          · skip
            have q2 : (if (0 : Int64) ≤ c.toInt64 ∧ c.toInt64 ≤ (10000000 : Int64) then (1 : Int32) else 0) = 0 := if_neg (fun r => z2 (by simp only [i_le, i_lt, j_le, Int32.toInt_toInt64, Int32.reduceToInt, Int64.reduceToInt] at r ⊢; omega))
            repeat' (first | (with_reducible exact hmn) | (with_reducible exact n030) | (with_reducible exact n1) | apply And.intro | exact rfl | (intro hx; with_reducible exact absurd hx q0) | (intro hx; with_reducible exact absurd hx q1) | (intro hx; with_reducible exact absurd q2 hx) | (intro hx; exact absurd hx (by decide)) | (intro hx; exact absurd (by decide) hx) | decide | intro hx | (refine Exists.intro _ (And.intro rfl ?_)))
            all_goals try first | (with_reducible change am_tI _ _) | (change Ret _ _) | (change Ret _ _ _) | (change Exists _)
            all_goals try dsimp only at *
            all_goals try (with_reducible exact absurd ‹(1000 : Int64) = 0› am_z1000)
            all_goals exact h _ _ r_sc.rf hR
          · skip
            have q2 : ¬ ((if (0 : Int64) ≤ c.toInt64 ∧ c.toInt64 ≤ (10000000 : Int64) then (1 : Int32) else 0) = 0) := by rw [if_pos (by have q := z2; simp only [i_le, i_lt, j_le, Int32.toInt_toInt64, Int32.reduceToInt, Int64.reduceToInt] at q ⊢; omega)]; decide
            by_cases z3 : 0 ≤ y ∧ y < 40
            rotate_left
            · skip
              have q3 : (if 0 ≤ y ∧ y < 40 then (1 : Int32) else 0) = 0 := if_neg z3
              repeat' (first | (with_reducible exact hmn) | (with_reducible exact n030) | (with_reducible exact n1) | apply And.intro | exact rfl | (intro hx; with_reducible exact absurd hx q0) | (intro hx; with_reducible exact absurd hx q1) | (intro hx; with_reducible exact absurd hx q2) | (intro hx; with_reducible exact absurd q3 hx) | (intro hx; exact absurd hx (by decide)) | (intro hx; exact absurd (by decide) hx) | decide | intro hx | (refine Exists.intro _ (And.intro rfl ?_)))
              all_goals try first | (with_reducible change am_tI _ _) | (change Ret _ _) | (change Ret _ _ _) | (change Exists _)
              all_goals try dsimp only at *
              all_goals try (with_reducible exact absurd ‹(1000 : Int64) = 0› am_z1000)
              all_goals exact h _ _ r_sc.rf hR
            · skip
              have q3 : ¬ ((if 0 ≤ y ∧ y < 40 then (1 : Int32) else 0) = 0) := by rw [if_pos z3]; decide
              by_cases z4 : 1 ≤ w ∧ w ≤ 5
              rotate_left
              · skip
                have q4 : (if (1 : Int64) ≤ w.toInt64 ∧ w.toInt64 ≤ (5 : Int64) then (1 : Int32) else 0) = 0 := if_neg (fun r => z4 (by simp only [i_le, i_lt, j_le, Int32.toInt_toInt64, Int32.reduceToInt, Int64.reduceToInt] at r ⊢; omega))
                repeat' (first | (with_reducible exact hmn) | (with_reducible exact n030) | (with_reducible exact n1) | apply And.intro | exact rfl | (intro hx; with_reducible exact absurd hx q0) | (intro hx; with_reducible exact absurd hx q1) | (intro hx; with_reducible exact absurd hx q2) | (intro hx; with_reducible exact absurd hx q3) | (intro hx; with_reducible exact absurd q4 hx) | (intro hx; exact absurd hx (by decide)) | (intro hx; exact absurd (by decide) hx) | decide | intro hx | (refine Exists.intro _ (And.intro rfl ?_)))
                all_goals try first | (with_reducible change am_tI _ _) | (change Ret _ _) | (change Ret _ _ _) | (change Exists _)
                all_goals try dsimp only at *
                all_goals try (with_reducible exact absurd ‹(1000 : Int64) = 0› am_z1000)
                all_goals exact h _ _ r_sc.rf hR
              · skip
                have q4 : ¬ ((if (1 : Int64) ≤ w.toInt64 ∧ w.toInt64 ≤ (5 : Int64) then (1 : Int32) else 0) = 0) := by rw [if_pos (by have q := z4; simp only [i_le, i_lt, j_le, Int32.toInt_toInt64, Int32.reduceToInt, Int64.reduceToInt] at q ⊢; omega)]; decide
                have hy2 : 0 ≤ y.toInt ∧ y.toInt < 40 := ⟨by have q := z3.1; simp only [i_le, Int32.reduceToInt] at q; omega, by have q := z3.2; simp only [i_lt, Int32.reduceToInt] at q; omega⟩
                have hw2 : 1 ≤ w.toInt ∧ w.toInt ≤ 5 := ⟨by have q := z4.1; simp only [i_le, Int32.reduceToInt] at q; omega, by have q := z4.2; simp only [i_le, Int32.reduceToInt] at q; omega⟩
                have eyw := i_add (x := y) (y := w) (by omega) (by omega)
                by_cases z5 : y + w ≤ 40
                rotate_left
                · skip
                  have y5 : (40 : Int32) < y + w := Int32.not_le.mp z5
                  repeat' (first | (with_reducible exact hmn) | (with_reducible exact n030) | (with_reducible exact n1) | apply And.intro | exact rfl | (intro hx; with_reducible exact absurd hx q0) | (intro hx; with_reducible exact absurd hx q1) | (intro hx; with_reducible exact absurd hx q2) | (intro hx; with_reducible exact absurd hx q3) | (intro hx; with_reducible exact absurd hx q4) | (intro hx; with_reducible exact absurd hx z5) | (intro hx; with_reducible exact absurd y5 hx) | (intro hx; exact absurd hx (by decide)) | (intro hx; exact absurd (by decide) hx) | decide | intro hx | (refine Exists.intro _ (And.intro rfl ?_)))
                  all_goals try first | (with_reducible change am_tI _ _) | (change Ret _ _) | (change Ret _ _ _) | (change Exists _)
                  all_goals try dsimp only at *
                  all_goals try (with_reducible exact absurd ‹(1000 : Int64) = 0› am_z1000)
                  all_goals exact h _ _ r_sc.rf hR
                · skip
                  have y5 : ¬ (40 : Int32) < y + w := Int32.not_lt.mpr z5
                  by_cases z6 : 0 ≤ k ∧ k ≤ 3
                  rotate_left
                  · skip
                    have q6 : (if (0 : Int64) ≤ k.toInt64 ∧ k.toInt64 ≤ (3 : Int64) then (1 : Int32) else 0) = 0 := if_neg (fun r => z6 (by simp only [i_le, i_lt, j_le, Int32.toInt_toInt64, Int32.reduceToInt, Int64.reduceToInt] at r ⊢; omega))
                    repeat' (first | (with_reducible exact hmn) | (with_reducible exact n030) | (with_reducible exact n1) | apply And.intro | exact rfl | (intro hx; with_reducible exact absurd hx q0) | (intro hx; with_reducible exact absurd hx q1) | (intro hx; with_reducible exact absurd hx q2) | (intro hx; with_reducible exact absurd hx q3) | (intro hx; with_reducible exact absurd hx q4) | (intro hx; with_reducible exact absurd hx y5) | (intro hx; with_reducible exact absurd z5 hx) | (intro hx; with_reducible exact absurd q6 hx) | (intro hx; exact absurd hx (by decide)) | (intro hx; exact absurd (by decide) hx) | decide | intro hx | (refine Exists.intro _ (And.intro rfl ?_)))
                    all_goals try first | (with_reducible change am_tI _ _) | (change Ret _ _) | (change Ret _ _ _) | (change Exists _)
                    all_goals try dsimp only at *
                    all_goals try (with_reducible exact absurd ‹(1000 : Int64) = 0› am_z1000)
                    all_goals exact h _ _ r_sc.rf hR
                  · skip
                    have q6 : ¬ ((if (0 : Int64) ≤ k.toInt64 ∧ k.toInt64 ≤ (3 : Int64) then (1 : Int32) else 0) = 0) := by rw [if_pos (by have q := z6; simp only [i_le, i_lt, j_le, Int32.toInt_toInt64, Int32.reduceToInt, Int64.reduceToInt] at q ⊢; omega)]; decide
                    have hp : am_in p 12 := ⟨by have q := z0.1; simp only [i_le, Int32.reduceToInt] at q; omega, by have q := z0.2; simp only [i_lt] at q; omega⟩
                    have hs : am_in s 4 := ⟨by have q := z1.1; simp only [i_le, Int32.reduceToInt] at q; omega, by have q := z1.2; simp only [i_le, Int32.reduceToInt] at q; omega⟩
                    have hyw : y.toInt + w.toInt ≤ 40 := by have q := z5; simp only [i_le, Int32.reduceToInt] at q; omega
                    have hy : am_in y 40 := ⟨by have q := z3.1; simp only [i_le, Int32.reduceToInt] at q; omega, by have q := z3.2; simp only [i_lt, Int32.reduceToInt] at q; omega⟩
                    have em := i_sub (x := y) (y := 1) (by simp only [Int32.reduceToInt]; have := hy.1; omega) (by simp only [Int32.reduceToInt]; have := hy.2; omega)
                    simp only [Int32.reduceToInt] at em
                    have ym : (y - 1).toInt ≤ 39 := by have q := hy.2; omega
                    repeat' (first | (with_reducible exact hmn) | (with_reducible exact hR) | (with_reducible exact n030) | (with_reducible exact n1) | (with_reducible exact hp) | (with_reducible exact ym) | apply And.intro | exact rfl | (intro hx; with_reducible exact absurd hx q0) | (intro hx; with_reducible exact absurd hx q1) | (intro hx; with_reducible exact absurd hx q2) | (intro hx; with_reducible exact absurd hx q3) | (intro hx; with_reducible exact absurd hx q4) | (intro hx; with_reducible exact absurd hx y5) | (intro hx; with_reducible exact absurd hx q6) | (intro hx; with_reducible exact absurd z5 hx) | ((with_reducible change r_I _); (with_reducible assumption)) | (intro hx; exact absurd hx (by decide)) | (intro hx; exact absurd (by decide) hx) | decide | intro hx | (refine Exists.intro _ (And.intro rfl ?_)))
                    all_goals try first | (with_reducible change am_tI _ _) | (change Ret _ _) | (change Ret _ _ _) | (change Exists _)
                    all_goals try dsimp only at *
                    all_goals try (with_reducible exact absurd ‹(1000 : Int64) = 0› am_z1000)
                    all_goals first | exact ⟨_, _, _, _, _, _, rfl, rfl, rfl, by decide, ⟨hp, hs, ⟨hy2.1, hyw⟩, hw2.1, hw2.2⟩, by (repeat' (first | (with_reducible exact r_sc.rf) | (with_reducible assumption) | ((with_reducible change r_sc _ (am_wI _ _ _ _)); refine r_sc.wI ?_ rfl) | ((with_reducible change r_sc _ (am_wJ _ _ _ _)); refine r_sc.wJ ?_ rfl) | (refine r_sc.tr ?_ (by with_reducible assumption)))), by (repeat' (first | (with_reducible assumption) | ((with_reducible change r_I (am_wJ _ _ _ _)); refine r_I.wJ ?_) | ((with_reducible change r_I (am_wI _ _ _ _)); refine r_I.wI ?_ rfl)))⟩ | (change r_I _; (repeat' (first | (with_reducible assumption) | ((with_reducible change r_I (am_wJ _ _ _ _)); refine r_I.wJ ?_) | ((with_reducible change r_I (am_wI _ _ _ _)); refine r_I.wI ?_ rfl)))) | ((with_reducible change Ret _ _); exact h _ _ (by (repeat' (first | (with_reducible exact r_sc.rf) | (with_reducible assumption) | ((with_reducible change r_sc _ (am_wI _ _ _ _)); refine r_sc.wI ?_ rfl) | ((with_reducible change r_sc _ (am_wJ _ _ _ _)); refine r_sc.wJ ?_ rfl) | (refine r_sc.tr ?_ (by with_reducible assumption))))) (by (repeat' (first | (with_reducible assumption) | ((with_reducible change r_I (am_wJ _ _ _ _)); refine r_I.wJ ?_) | ((with_reducible change r_I (am_wI _ _ _ _)); refine r_I.wI ?_ rfl))))) | skip
    · exact h.elim
  · intro live as M0 Ret h k pc I hI L st M hi
    unfold TX8_foretold at h
    split at h
    · next n p s c y w k =>
      obtain ⟨hmn, rfl, hR, h⟩ := h
      have hmn2 := hmn
      obtain ⟨i1, i2, rfl⟩ := hmn2
      have l201 : am_len 201 = 3760 := rfl
      change (match pc with | 114 => _ | _ => none) = _ at hI
      split at hI
      · cases hI
        obtain ⟨a, b, d, e, i, rfl, rfl, rfl, e1, ⟨hp, hs, hy, hw1, hw2⟩, e2, e3⟩ := hi
        have hb : (1 <<< ((2 * (w - 1)) &&& 31) : Int32).toInt ≤ 256 := by
          have hc : w = 1 ∨ w = 2 ∨ w = 3 ∨ w = 4 ∨ w = 5 := by simp only [i_eq, Int32.reduceToInt]; omega
          rcases hc with rfl | rfl | rfl | rfl | rfl <;> decide
        by_cases hz : 1 <<< ((2 * (w - 1)) &&& 31) ≤ i
        · skip
          repeat' (first | (with_reducible exact hmn) | apply And.intro | exact rfl | (intro hx; with_reducible exact absurd hz hx) | intro hx | (refine Exists.intro _ (And.intro rfl ?_)))
          all_goals try first | (with_reducible change am_tI _ _) | (change Ret _ _) | (change Ret _ _ _) | (change Exists _)
          all_goals try dsimp only at *
          all_goals try (with_reducible exact absurd ‹(1000 : Int64) = 0› am_z1000)
          all_goals exact h _ _ e2 e3
        · have hz2 := hz
          simp only [i_le] at hz2
          have hi := i_inc (x := i) (by omega) (by omega)
          have hw : 0 ≤ i.toInt ∧ i.toInt ≤ 1000 := ⟨e1, by omega⟩
          repeat' (first | (with_reducible exact hmn) | (with_reducible exact hp) | (with_reducible exact hs) | (with_reducible exact hw) | (with_reducible exact hy) | (with_reducible exact e3) | apply And.intro | exact rfl | (intro hx; with_reducible exact absurd hx hz) | ((with_reducible change r_I _); (with_reducible assumption)) | intro hx | (refine Exists.intro _ (And.intro rfl ?_)))
          all_goals try first | (with_reducible change am_tI _ _) | (change Ret _ _) | (change Ret _ _ _) | (change Exists _)
          all_goals try dsimp only at *
          all_goals try (with_reducible exact absurd ‹(1000 : Int64) = 0› am_z1000)
          all_goals exact ⟨_, am_lt_l (by omega), _, _, _, _, _, rfl, rfl, rfl, by omega, ⟨hp, hs, hy, hw1, hw2⟩, by (repeat' (first | (with_reducible exact r_sc.rf) | (with_reducible assumption) | ((with_reducible change r_sc _ (am_wI _ _ _ _)); refine r_sc.wI ?_ rfl) | ((with_reducible change r_sc _ (am_wJ _ _ _ _)); refine r_sc.wJ ?_ rfl) | (refine r_sc.tr ?_ (by with_reducible assumption)))), by (repeat' (first | (with_reducible assumption) | ((with_reducible change r_I (am_wJ _ _ _ _)); refine r_I.wJ ?_) | ((with_reducible change r_I (am_wI _ _ _ _)); refine r_I.wI ?_ rfl)))⟩
      · cases hI
    · exact h.elim
theorem hy_X8_far : yX8_far.cls ≠ "java/lang/invoke/MethodHandle" ∧ yX8_far.cls ≠ "java/lang/invoke/VarHandle" ∧ (parseMethodDescriptor yX8_far.desc).map (fun d => d.parameters.length) = some 2 := ⟨by decide +kernel, by decide +kernel, by decide +kernel⟩
set_option maxRecDepth 100000 in
theorem wd_1286 : Cond.methodLink "LearnLoansModel" 284 yX8_far ∈ am_ws := am_wt6 (List.mem_of_getElem? (i := 29) (by rfl)) (by decide +kernel)
set_option maxRecDepth 100000 in
theorem wd_1287 : Cond.static yX8_far ∈ am_ws := am_wt6 (List.mem_of_getElem? (i := 30) (by rfl)) (by decide +kernel)
set_option maxRecDepth 100000 in
theorem wd_1288 : Cond.code yX8_far cX8_far 2 (some .int) ∈ am_ws := am_wt6 (List.mem_of_getElem? (i := 31) (by rfl)) (by decide +kernel)
def rwX8_best : List dz_r := [(0, .iload_n 1, 1), (1, .invokestatic 104, 3), (4, .ifCond .eq 34, 3), (7, .iload_n 2, 1), (8, .invokestatic 107, 3), (11, .ifCond .eq 27, 3), (14, .iload_n 3, 1), (15, .invokestatic 72, 3), (18, .ifCond .eq 20, 3), (21, .iload 4, 2), (23, .invokestatic 72, 3), (26, .ifCond .eq 12, 3), (29, .aload_n 0, 1), (30, .iload 5, 2), (32, .invokevirtual 76, 3), (35, .ifCond .ne 6, 3), (38, .bipush (-2), 2), (40, .ireturn, 1), (41, .aload_n 0, 1), (42, .iload_n 1, 1), (43, .iload_n 2, 1), (44, .iload 5, 2), (46, .iload 4, 2), (48, .invokevirtual 127, 3), (51, .istore 8, 2), (53, .iconst (-1), 1), (54, .istore 9, 2), (56, .iconst 0, 1), (57, .istore 10, 2), (59, .iload 10, 2), (61, .aload_n 0, 1), (62, .getfield 7, 3), (65, .iconst 5, 1), (66, .iaload, 1), (67, .if_icmp .ge 115, 3), (70, .aload_n 0, 1), (71, .getfield 7, 3), (74, .sipush 3745, 3), (77, .iload 10, 2), (79, .iadd, 1), (80, .iaload, 1), (81, .istore 11, 2), (83, .iload_n 2, 1), (84, .iload 11, 2), (86, .invokestatic 110, 3), (89, .ifCond .eq 87, 3), (92, .aload_n 0, 1), (93, .iload_n 1, 1), (94, .iload_n 2, 1), (95, .iload 11, 2), (97, .iload_n 3, 1), (98, .iload 4, 2), (100, .invokevirtual 280, 3), (103, .lload 6, 2), (105, .lcmp, 1), (106, .ifCond .lt 70, 3), (109, .iload 9, 2), (111, .ifCond .lt 44, 3), (114, .iload 11, 2), (116, .iload 8, 2), (118, .invokestatic 284, 3), (121, .iload 9, 2), (123, .iload 8, 2), (125, .invokestatic 284, 3), (128, .if_icmp .lt 27, 3), (131, .iload 11, 2), (133, .iload 8, 2), (135, .invokestatic 284, 3), (138, .iload 9, 2), (140, .iload 8, 2), (142, .invokestatic 284, 3), (145, .if_icmp .ne 14, 3), (148, .iload 11, 2), (150, .iload 9, 2), (152, .if_icmp .ge 7, 3), (155, .iconst 1, 1), (156, .goto 4, 3), (159, .iconst 0, 1), (160, .istore 12, 2), (162, .iload 12, 2), (164, .ifCond .eq 8, 3), (167, .iload 11, 2), (169, .goto 5, 3), (172, .iload 9, 2), (174, .istore 9, 2), (176, .iinc 10 1, 3), (179, .goto (-120), 3), (182, .iload 9, 2), (184, .ireturn, 1)]
theorem dzX8_best : dz cX8_best rwX8_best := dz_all 0 (by decide +kernel)
def kX8_best (live : am_E) (Ret : am_R) : am_code := [(0, am_iload 1 1), (1, am_callS live 1 TX8_isPlan 4), (4, am_if1 (fun x => x = 0) 38 7), (7, am_iload 2 8), (8, am_callS live 1 TX8_isWhat 11), (11, am_if1 (fun x => x = 0) 38 14), (14, am_iload 3 15), (15, am_callS live 1 TX8_isYear 18), (18, am_if1 (fun x => x = 0) 38 21), (21, am_iload 4 23), (23, am_callS live 1 TX8_isYear 26), (26, am_if1 (fun x => x = 0) 38 29), (29, am_aload 0 30), (30, am_iload 5 32), (32, am_callV live 8 1 TX8_isPerson 35), (35, am_if1 (fun x => x = 0) 38 41), (38, am_const (.int (-2)) 40), (40, am_retI Ret), (41, am_aload 0 42), (42, am_iload 1 43), (43, am_iload 2 44), (44, am_iload 5 46), (46, am_iload 4 48), (48, am_callV live 8 4 TX8_inForce 51), (51, am_istore 8 13 53), (53, am_const (.int (-1)) 54), (54, am_istore 9 13 56), (56, am_const (.int 0) 57), (57, am_istore 10 13 59), (59, am_iload 10 61), (61, am_aload 0 62), (62, am_getR live 8 0 65), (65, am_const (.int 5) 66), (66, am_ald live 0 67), (67, am_if2 (fun x y => y ≤ x) 182 70), (70, am_aload 0 71), (71, am_getR live 8 0 74), (74, am_const (.int 3745) 77), (77, am_iload 10 79), (79, am_i2 (fun x y => x + y) 80), (80, am_ald live 0 81), (81, am_istore 11 13 83), (83, am_iload 2 84), (84, am_iload 11 86), (86, am_callS live 2 TX8_mayBe 89), (89, am_if1 (fun x => x = 0) 176 92), (92, am_aload 0 93), (93, am_iload 1 94), (94, am_iload 2 95), (95, am_iload 11 97), (97, am_iload 3 98), (98, am_iload 4 100), (100, am_callV live 8 5 TX8_triedOf 103), (103, am_lload 6 105), (105, am_lcmp 106), (106, am_if1 (fun x => x < 0) 176 109), (109, am_iload 9 111), (111, am_if1 (fun x => x < 0) 155 114), (114, am_iload 11 116), (116, am_iload 8 118), (118, am_callS live 2 TX8_far 121), (121, am_iload 9 123), (123, am_iload 8 125), (125, am_callS live 2 TX8_far 128), (128, am_if2 (fun x y => x < y) 155 131), (131, am_iload 11 133), (133, am_iload 8 135), (135, am_callS live 2 TX8_far 138), (138, am_iload 9 140), (140, am_iload 8 142), (142, am_callS live 2 TX8_far 145), (145, am_if2 (fun x y => x = y) 148 159), (148, am_iload 11 150), (150, am_iload 9 152), (152, am_if2 (fun x y => y ≤ x) 159 155), (155, am_const (.int 1) 156), (156, am_goto 160), (159, am_const (.int 0) 160), (160, am_istore 12 13 162), (162, am_iload 12 164), (164, am_if1 (fun x => x = 0) 172 167), (167, am_iload 11 169), (169, am_goto 174), (172, am_iload 9 174), (174, am_istore 9 13 176), (176, am_iinc 10 13 1 179), (179, am_goto 59), (182, am_iload 9 184), (184, am_retI Ret)]
theorem koX8_best (live : am_E) (Ret : am_R) : ∀ q ∈ kX8_best live Ret, am_ok RX8 cX8_best 13 (some .int) 11 281 live Ret q.1 q.2 :=
  am_kz dzX8_best <|
  am_kd (fun d => ak_iload_n d rfl rfl) <|
  am_kd (fun d => ak_callS metX8_isPlan ⟨rfl, hy_X8_isPlan⟩ (am_w4 wd_1034 wd_1035 wd_67 wd_1036) (by decide) d rfl) <|
  am_kd (fun d => ak_if_eq d (by decide +kernel) rfl) <|
  am_kd (fun d => ak_iload_n d rfl rfl) <|
  am_kd (fun d => ak_callS metX8_isWhat ⟨rfl, hy_X8_isWhat⟩ (am_w4 wd_1038 wd_1039 wd_67 wd_1040) (by decide) d rfl) <|
  am_kd (fun d => ak_if_eq d (by decide +kernel) rfl) <|
  am_kd (fun d => ak_iload_n d rfl rfl) <|
  am_kd (fun d => ak_callS metX8_isYear ⟨rfl, hy_X8_isYear⟩ (am_w4 wd_982 wd_983 wd_67 wd_984) (by decide) d rfl) <|
  am_kd (fun d => ak_if_eq d (by decide +kernel) rfl) <|
  am_kd (fun d => ak_iload d rfl) <|
  am_kd (fun d => ak_callS metX8_isYear ⟨rfl, hy_X8_isYear⟩ (am_w4 wd_982 wd_983 wd_67 wd_984) (by decide) d rfl) <|
  am_kd (fun d => ak_if_eq d (by decide +kernel) rfl) <|
  am_kd (fun d => ak_aload_n d rfl rfl) <|
  am_kd (fun d => ak_iload d rfl) <|
  am_kd (fun d => ak_callV (C := RX8) (F := TX8) (N := 27) metX8_isPerson rfl ⟨rfl, hy_X8_isPerson⟩ (am_w5 wd_993 wd_995 wd_27 wd_67 wd_996) (by decide) d rfl) <|
  am_kd (fun d => ak_if_ne d (by decide +kernel) rfl) <|
  am_kd (fun d => ak_bipush d (by decide +kernel) rfl) <|
  am_kd (fun d => ak_retI d) <|
  am_kd (fun d => ak_aload_n d rfl rfl) <|
  am_kd (fun d => ak_iload_n d rfl rfl) <|
  am_kd (fun d => ak_iload_n d rfl rfl) <|
  am_kd (fun d => ak_iload d rfl) <|
  am_kd (fun d => ak_iload d rfl) <|
  am_kd (fun d => ak_callV (C := RX8) (F := TX8) (N := 27) metX8_inForce rfl ⟨rfl, hy_X8_inForce⟩ (am_w5 wd_1053 wd_1055 wd_29 wd_67 wd_1056) (by decide) d rfl) <|
  am_kd (fun d => ak_istore d rfl) <|
  am_kd (fun d => ak_iconst d (by decide +kernel) rfl) <|
  am_kd (fun d => ak_istore d rfl) <|
  am_kd (fun d => ak_iconst d (by decide +kernel) rfl) <|
  am_kd (fun d => ak_istore d rfl) <|
  am_kd (fun d => ak_iload d rfl) <|
  am_kd (fun d => ak_aload_n d rfl rfl) <|
  am_kd (fun d => ak_getR (C := RX8) (T := TX8) (N := 27) rfl inX8w (by decide) rfl rfl rfl wd_895 d rfl) <|
  am_kd (fun d => ak_iconst d (by decide +kernel) rfl) <|
  am_kd (fun d => ak_iald (t := 0) (fun _ => rfl) rfl d rfl) <|
  am_kd (fun d => ak_icmp_ge d (by decide +kernel) rfl) <|
  am_kd (fun d => ak_aload_n d rfl rfl) <|
  am_kd (fun d => ak_getR (C := RX8) (T := TX8) (N := 27) rfl inX8w (by decide) rfl rfl rfl wd_895 d rfl) <|
  am_kd (fun d => ak_sipush d (by decide +kernel) rfl) <|
  am_kd (fun d => ak_iload d rfl) <|
  am_kd (fun d => ak_iadd d rfl) <|
  am_kd (fun d => ak_iald (t := 0) (fun _ => rfl) rfl d rfl) <|
  am_kd (fun d => ak_istore d rfl) <|
  am_kd (fun d => ak_iload_n d rfl rfl) <|
  am_kd (fun d => ak_iload d rfl) <|
  am_kd (fun d => ak_callS metX8_mayBe ⟨rfl, hy_X8_mayBe⟩ (am_w4 wd_1042 wd_1043 wd_67 wd_1044) (by decide) d rfl) <|
  am_kd (fun d => ak_if_eq d (by decide +kernel) rfl) <|
  am_kd (fun d => ak_aload_n d rfl rfl) <|
  am_kd (fun d => ak_iload_n d rfl rfl) <|
  am_kd (fun d => ak_iload_n d rfl rfl) <|
  am_kd (fun d => ak_iload d rfl) <|
  am_kd (fun d => ak_iload_n d rfl rfl) <|
  am_kd (fun d => ak_iload d rfl) <|
  am_kd (fun d => ak_callV (C := RX8) (F := TX8) (N := 27) metX8_triedOf rfl ⟨rfl, hy_X8_triedOf⟩ (am_w5 wd_1270 wd_1272 wd_56 wd_67 wd_1273) (by decide) d rfl) <|
  am_kd (fun d => ak_lload d rfl) <|
  am_kd (fun d => ak_lcmp d rfl) <|
  am_kd (fun d => ak_if_lt d (by decide +kernel) rfl) <|
  am_kd (fun d => ak_iload d rfl) <|
  am_kd (fun d => ak_if_lt d (by decide +kernel) rfl) <|
  am_kd (fun d => ak_iload d rfl) <|
  am_kd (fun d => ak_iload d rfl) <|
  am_kd (fun d => ak_callS metX8_far ⟨rfl, hy_X8_far⟩ (am_w4 wd_1286 wd_1287 wd_67 wd_1288) (by decide) d rfl) <|
  am_kd (fun d => ak_iload d rfl) <|
  am_kd (fun d => ak_iload d rfl) <|
  am_kd (fun d => ak_callS metX8_far ⟨rfl, hy_X8_far⟩ (am_w4 wd_1286 wd_1287 wd_67 wd_1288) (by decide) d rfl) <|
  am_kd (fun d => ak_icmp_lt d (by decide +kernel) rfl) <|
  am_kd (fun d => ak_iload d rfl) <|
  am_kd (fun d => ak_iload d rfl) <|
  am_kd (fun d => ak_callS metX8_far ⟨rfl, hy_X8_far⟩ (am_w4 wd_1286 wd_1287 wd_67 wd_1288) (by decide) d rfl) <|
  am_kd (fun d => ak_iload d rfl) <|
  am_kd (fun d => ak_iload d rfl) <|
  am_kd (fun d => ak_callS metX8_far ⟨rfl, hy_X8_far⟩ (am_w4 wd_1286 wd_1287 wd_67 wd_1288) (by decide) d rfl) <|
  am_kd (fun d => ak_icmp_ne d (by decide +kernel) rfl) <|
  am_kd (fun d => ak_iload d rfl) <|
  am_kd (fun d => ak_iload d rfl) <|
  am_kd (fun d => ak_icmp_ge d (by decide +kernel) rfl) <|
  am_kd (fun d => ak_iconst d (by decide +kernel) rfl) <|
  am_kd (fun d => ak_goto d (by decide +kernel)) <|
  am_kd (fun d => ak_iconst d (by decide +kernel) rfl) <|
  am_kd (fun d => ak_istore d rfl) <|
  am_kd (fun d => ak_iload d rfl) <|
  am_kd (fun d => ak_if_eq d (by decide +kernel) rfl) <|
  am_kd (fun d => ak_iload d rfl) <|
  am_kd (fun d => ak_goto d (by decide +kernel)) <|
  am_kd (fun d => ak_iload d rfl) <|
  am_kd (fun d => ak_istore d rfl) <|
  am_kd (fun d => ak_iinc d (by decide +kernel) rfl) <|
  am_kd (fun d => ak_goto d (by decide +kernel)) <|
  am_kd (fun d => ak_iload d rfl) <|
  am_kd (fun d => ak_retI d) <| am_kdn
def TX8_best : am_T := fun live as M R => match as with
  | [.ref n, .int pl, .int w, .int f, .int y, .int p, .long a] => am_mn live ∧ n = 200 ∧ r_I M ∧ M.1 200 3 = -1 ∧ ∀ v M', r_sc M M' → r_I M' → R (some (.int v)) M'
  | _ => False
def JX8_best : am_E → List Value → am_M → am_R → am_inv := fun live as M0 _ pc => match as with
  | [.ref n, .int pl, .int w, .int f, .int y, .int p, .long a] => (match pc with
    | 59 => some ([0, 1, 2, 3, 4, 6, 8, 9, 10], fun u L st M => ∃ o b i : Int32, L = [(0, .ref 200), (1, .int pl), (2, .int w), (3, .int f), (4, .int y), (6, .long a), (8, .int o), (9, .int b), (10, .int i)] ∧ st = [] ∧ u = ((20 - i.toInt).toNat, 9) ∧ 0 ≤ i.toInt ∧ (y.toInt ≤ 39 ∧ 0 ≤ w ∧ w < 6) ∧ r_sc M0 M ∧ r_I M)
    | 162 => some ([0, 1, 2, 3, 4, 6, 8, 9, 10, 11, 12], fun u L st M => ∃ o b i v z : Int32, L = [(0, .ref 200), (1, .int pl), (2, .int w), (3, .int f), (4, .int y), (6, .long a), (8, .int o), (9, .int b), (10, .int i), (11, .int v), (12, .int z)] ∧ st = [] ∧ u = ((20 - i.toInt).toNat, 8) ∧ (0 ≤ i.toInt ∧ i.toInt < 9) ∧ (y.toInt ≤ 39 ∧ 0 ≤ w ∧ w < 6) ∧ r_sc M0 M ∧ r_I M)
    | _ => none)
  | _ => none
set_option maxRecDepth 100000 in
set_option maxHeartbeats 4000000 in
theorem metX8_best : am_Met yX8_best cX8_best 13 (some .int) (11) (281) TX8_best := by
  refine am_met (own := RX8) (by decide +kernel) rfl kX8_best koX8_best 150 JX8_best ?_ ?_
  · intro live as M Ret h
    unfold TX8_best at h
    split at h
    · next n pl w f y p a =>
      refine ⟨Nat.le_of_ble_eq_true rfl, ?_⟩
      change am_wp _ _ _ _ [(0, Value.ref n), (1, Value.int pl), (2, Value.int w), (3, Value.int f), (4, Value.int y), (5, Value.int p), (6, Value.long a)] _ _
      obtain ⟨hmn, rfl, hR, hn3, h⟩ := h
      have hmn2 := hmn
      obtain ⟨i1, i2, rfl⟩ := hmn2
      have l201 : am_len 201 = 3760 := rfl
      have n0 := hR.n0
      have n1 := hR.n1
      have n030 : 0 ≤ (M.1 201 0).toInt ∧ (M.1 201 0).toInt ≤ 30 := ⟨n0.1, by omega⟩
      by_cases z0 : 0 ≤ pl ∧ pl < 5
      rotate_left
      · skip
        have q0 : (if 0 ≤ pl ∧ pl < 5 then (1 : Int32) else 0) = 0 := if_neg z0
        repeat' (first | (with_reducible exact hmn) | (with_reducible exact n030) | (with_reducible exact n1) | apply And.intro | exact rfl | (intro hx; with_reducible exact absurd q0 hx) | (intro hx; exact absurd hx (by decide)) | (intro hx; exact absurd (by decide) hx) | decide | intro hx | (refine Exists.intro _ (And.intro rfl ?_)))
        all_goals try first | (with_reducible change am_tI _ _) | (change Ret _ _) | (change Ret _ _ _) | (change Exists _)
        all_goals try dsimp only at *
        all_goals try (with_reducible exact absurd ‹(1000 : Int64) = 0› am_z1000)
        all_goals exact h _ _ r_sc.rf hR
      · skip
        have q0 : ¬ ((if 0 ≤ pl ∧ pl < 5 then (1 : Int32) else 0) = 0) := by rw [if_pos z0]; decide
        by_cases z1 : 0 ≤ w ∧ w < 6
        rotate_left
        · skip
          have q1 : (if 0 ≤ w ∧ w < 6 then (1 : Int32) else 0) = 0 := if_neg z1
          repeat' (first | (with_reducible exact hmn) | (with_reducible exact n030) | (with_reducible exact n1) | apply And.intro | exact rfl | (intro hx; with_reducible exact absurd hx q0) | (intro hx; with_reducible exact absurd q1 hx) | (intro hx; exact absurd hx (by decide)) | (intro hx; exact absurd (by decide) hx) | decide | intro hx | (refine Exists.intro _ (And.intro rfl ?_)))
          all_goals try first | (with_reducible change am_tI _ _) | (change Ret _ _) | (change Ret _ _ _) | (change Exists _)
          all_goals try dsimp only at *
          all_goals try (with_reducible exact absurd ‹(1000 : Int64) = 0› am_z1000)
          all_goals exact h _ _ r_sc.rf hR
        · skip
          have q1 : ¬ ((if 0 ≤ w ∧ w < 6 then (1 : Int32) else 0) = 0) := by rw [if_pos z1]; decide
          by_cases z2 : 0 ≤ f ∧ f < 40
          rotate_left
          · skip
            have q2 : (if 0 ≤ f ∧ f < 40 then (1 : Int32) else 0) = 0 := if_neg z2
            repeat' (first | (with_reducible exact hmn) | (with_reducible exact n030) | (with_reducible exact n1) | apply And.intro | exact rfl | (intro hx; with_reducible exact absurd hx q0) | (intro hx; with_reducible exact absurd hx q1) | (intro hx; with_reducible exact absurd q2 hx) | (intro hx; exact absurd hx (by decide)) | (intro hx; exact absurd (by decide) hx) | decide | intro hx | (refine Exists.intro _ (And.intro rfl ?_)))
            all_goals try first | (with_reducible change am_tI _ _) | (change Ret _ _) | (change Ret _ _ _) | (change Exists _)
            all_goals try dsimp only at *
            all_goals try (with_reducible exact absurd ‹(1000 : Int64) = 0› am_z1000)
            all_goals exact h _ _ r_sc.rf hR
          · skip
            have q2 : ¬ ((if 0 ≤ f ∧ f < 40 then (1 : Int32) else 0) = 0) := by rw [if_pos z2]; decide
            by_cases z3 : 0 ≤ y ∧ y < 40
            rotate_left
            · skip
              have q3 : (if 0 ≤ y ∧ y < 40 then (1 : Int32) else 0) = 0 := if_neg z3
              repeat' (first | (with_reducible exact hmn) | (with_reducible exact n030) | (with_reducible exact n1) | apply And.intro | exact rfl | (intro hx; with_reducible exact absurd hx q0) | (intro hx; with_reducible exact absurd hx q1) | (intro hx; with_reducible exact absurd hx q2) | (intro hx; with_reducible exact absurd q3 hx) | (intro hx; exact absurd hx (by decide)) | (intro hx; exact absurd (by decide) hx) | decide | intro hx | (refine Exists.intro _ (And.intro rfl ?_)))
              all_goals try first | (with_reducible change am_tI _ _) | (change Ret _ _) | (change Ret _ _ _) | (change Exists _)
              all_goals try dsimp only at *
              all_goals try (with_reducible exact absurd ‹(1000 : Int64) = 0› am_z1000)
              all_goals exact h _ _ r_sc.rf hR
            · skip
              have q3 : ¬ ((if 0 ≤ y ∧ y < 40 then (1 : Int32) else 0) = 0) := by rw [if_pos z3]; decide
              by_cases z4 : 0 ≤ p ∧ p < M.1 201 0
              rotate_left
              · skip
                have q4 : (if 0 ≤ p ∧ p < M.1 201 0 then (1 : Int32) else 0) = 0 := if_neg z4
                repeat' (first | (with_reducible exact hmn) | (with_reducible exact n030) | (with_reducible exact n1) | apply And.intro | exact rfl | (intro hx; with_reducible exact absurd hx q0) | (intro hx; with_reducible exact absurd hx q1) | (intro hx; with_reducible exact absurd hx q2) | (intro hx; with_reducible exact absurd hx q3) | (intro hx; with_reducible exact absurd q4 hx) | (intro hx; exact absurd hx (by decide)) | (intro hx; exact absurd (by decide) hx) | decide | intro hx | (refine Exists.intro _ (And.intro rfl ?_)))
                all_goals try first | (with_reducible change am_tI _ _) | (change Ret _ _) | (change Ret _ _ _) | (change Exists _)
                all_goals try dsimp only at *
                all_goals try (with_reducible exact absurd ‹(1000 : Int64) = 0› am_z1000)
                all_goals exact h _ _ r_sc.rf hR
              · skip
                have q4 : ¬ ((if 0 ≤ p ∧ p < M.1 201 0 then (1 : Int32) else 0) = 0) := by rw [if_pos z4]; decide
                have hp : am_in p 12 := ⟨by have q := z4.1; simp only [i_le, Int32.reduceToInt] at q; omega, by have q := z4.2; simp only [i_lt] at q; omega⟩
                have hy : am_in y 40 := ⟨by have q := z3.1; simp only [i_le, Int32.reduceToInt] at q; omega, by have q := z3.2; simp only [i_lt, Int32.reduceToInt] at q; omega⟩
                have y39 : y.toInt ≤ 39 := by have q := hy.2; omega
                repeat' (first | (with_reducible exact hmn) | (with_reducible exact hR) | (with_reducible exact n030) | (with_reducible exact n1) | (with_reducible exact hp) | (with_reducible exact y39) | apply And.intro | exact rfl | (intro hx; with_reducible exact absurd hx q0) | (intro hx; with_reducible exact absurd hx q1) | (intro hx; with_reducible exact absurd hx q2) | (intro hx; with_reducible exact absurd hx q3) | (intro hx; with_reducible exact absurd hx q4) | ((with_reducible change r_I _); (with_reducible assumption)) | (intro hx; exact absurd hx (by decide)) | (intro hx; exact absurd (by decide) hx) | decide | intro hx | (refine Exists.intro _ (And.intro rfl ?_)))
                all_goals try first | (with_reducible change am_tI _ _) | (change Ret _ _) | (change Ret _ _ _) | (change Exists _)
                all_goals try dsimp only at *
                all_goals try (with_reducible exact absurd ‹(1000 : Int64) = 0› am_z1000)
                all_goals first | exact ⟨_, _, _, _, rfl, rfl, rfl, by decide, ⟨y39, z1.1, z1.2⟩, r_sc.rf, hR⟩ | (change r_I _; (repeat' (first | (with_reducible assumption) | ((with_reducible change r_I (am_wJ _ _ _ _)); refine r_I.wJ ?_) | ((with_reducible change r_I (am_wI _ _ _ _)); refine r_I.wI ?_ rfl)))) | ((with_reducible change Ret _ _); exact h _ _ (by (repeat' (first | (with_reducible exact r_sc.rf) | (with_reducible assumption) | ((with_reducible change r_sc _ (am_wI _ _ _ _)); refine r_sc.wI ?_ rfl) | ((with_reducible change r_sc _ (am_wJ _ _ _ _)); refine r_sc.wJ ?_ rfl) | (refine r_sc.tr ?_ (by with_reducible assumption))))) (by (repeat' (first | (with_reducible assumption) | ((with_reducible change r_I (am_wJ _ _ _ _)); refine r_I.wJ ?_) | ((with_reducible change r_I (am_wI _ _ _ _)); refine r_I.wI ?_ rfl))))) | skip
    · exact h.elim
  · intro live as M0 Ret h k pc I hI L st M hi
    unfold TX8_best at h
    split at h
    · next n pl w f y p a =>
      obtain ⟨hmn, rfl, hR, hn3, h⟩ := h
      have hmn2 := hmn
      obtain ⟨i1, i2, rfl⟩ := hmn2
      have l201 : am_len 201 = 3760 := rfl
      have x5l : (5 : Int32).toInt < (am_len 201 : Int) := by rw [l201]; decide
      change (match pc with | 59 => _ | 162 => _ | _ => none) = _ at hI
      split at hI
      · cases hI
        obtain ⟨o, b, i, rfl, rfl, rfl, e1, ⟨y39, w1, w2⟩, e2, e3⟩ := hi
        have n5 : 0 ≤ (M.1 201 (Int32.toNatClampNeg 5)).toInt ∧ (M.1 201 (Int32.toNatClampNeg 5)).toInt ≤ 9 := e3.n5
        by_cases hz : M.1 201 (Int32.toNatClampNeg 5) ≤ i
        · skip
          repeat' (first | (with_reducible exact x5l) | apply And.intro | exact rfl | (intro hx; with_reducible exact absurd hz hx) | (intro hx; exact absurd hx (by decide)) | (intro hx; exact absurd (by decide) hx) | decide | intro hx | (refine Exists.intro _ (And.intro rfl ?_)))
          all_goals try first | (with_reducible change am_tI _ _) | (change Ret _ _) | (change Ret _ _ _) | (change Exists _)
          all_goals try dsimp only at *
          all_goals try (with_reducible exact absurd ‹(1000 : Int64) = 0› am_z1000)
          all_goals exact h _ _ e2 e3
        · have hz2 := hz
          simp only [i_le] at hz2
          have hi := i_inc (x := i) (by omega) (by omega)
          have ea := r_off (c := 3745) (x := i) ⟨by decide, by decide⟩ ⟨by omega, by omega⟩
          simp only [Int32.reduceToInt] at ea
          have x1 : 0 ≤ (3745 + i).toInt := by omega
          have x2 : (3745 + i).toInt < (am_len 201 : Int) := by rw [l201]; omega
          have hm3 := e2.f3.trans hn3
          repeat' (first | (with_reducible exact x5l) | (with_reducible exact x1) | (with_reducible exact x2) | (with_reducible exact hmn) | (with_reducible exact y39) | (with_reducible exact w1) | (with_reducible exact w2) | (with_reducible exact e3) | (with_reducible exact hm3) | apply And.intro | exact rfl | (intro hx; with_reducible exact absurd hx hz) | ((with_reducible change r_I _); (with_reducible assumption)) | (intro hx; exact absurd hx (by decide)) | (intro hx; exact absurd (by decide) hx) | decide | intro hx | (refine Exists.intro _ (And.intro rfl ?_)))
          all_goals try first | (with_reducible change am_tI _ _) | (change Ret _ _) | (change Ret _ _ _) | (change Exists _)
          all_goals try dsimp only at *
          all_goals try (with_reducible exact absurd ‹(1000 : Int64) = 0› am_z1000)
          all_goals first
            | exact ⟨_, am_lt_l (by omega), _, _, _, rfl, rfl, rfl, by omega, ⟨y39, w1, w2⟩, by (repeat' (first | (with_reducible exact r_sc.rf) | (with_reducible assumption) | ((with_reducible change r_sc _ (am_wI _ _ _ _)); refine r_sc.wI ?_ rfl) | ((with_reducible change r_sc _ (am_wJ _ _ _ _)); refine r_sc.wJ ?_ rfl) | (refine r_sc.tr ?_ (by with_reducible assumption)))), by (repeat' (first | (with_reducible assumption) | ((with_reducible change r_I (am_wJ _ _ _ _)); refine r_I.wJ ?_) | ((with_reducible change r_I (am_wI _ _ _ _)); refine r_I.wI ?_ rfl)))⟩
            | exact ⟨_, am_lt_r (by omega), _, _, _, _, _, rfl, rfl, rfl, ⟨e1, by omega⟩, ⟨y39, w1, w2⟩, by (repeat' (first | (with_reducible exact r_sc.rf) | (with_reducible assumption) | ((with_reducible change r_sc _ (am_wI _ _ _ _)); refine r_sc.wI ?_ rfl) | ((with_reducible change r_sc _ (am_wJ _ _ _ _)); refine r_sc.wJ ?_ rfl) | (refine r_sc.tr ?_ (by with_reducible assumption)))), by (repeat' (first | (with_reducible assumption) | ((with_reducible change r_I (am_wJ _ _ _ _)); refine r_I.wJ ?_) | ((with_reducible change r_I (am_wI _ _ _ _)); refine r_I.wI ?_ rfl)))⟩
            | skip
      · cases hI
        obtain ⟨o, b, i, v, z, rfl, rfl, rfl, ⟨e1, e4⟩, ⟨y39, w1, w2⟩, e2, e3⟩ := hi
        have hi := i_inc (x := i) (by omega) (by omega)
        repeat' (first | apply And.intro | exact rfl | intro hx | (refine Exists.intro _ (And.intro rfl ?_)))
        all_goals try first | (with_reducible change am_tI _ _) | (change Ret _ _) | (change Ret _ _ _) | (change Exists _)
        all_goals try dsimp only at *
        all_goals try (with_reducible exact absurd ‹(1000 : Int64) = 0› am_z1000)
        all_goals exact ⟨_, am_lt_l (by omega), _, _, _, rfl, rfl, rfl, by omega, ⟨y39, w1, w2⟩, e2, e3⟩
      · cases hI
    · exact h.elim
