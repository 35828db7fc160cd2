/-! general: the reference's calls that ask, II -/
theorem r_di4 {x : Int32} (h1 : 0 ≤ x.toInt) (h2 : x.toInt ≤ 1000) : am_in (x - x / 4 * 4) 4 ∧ (0 ≤ (x / 4).toInt ∧ (x / 4).toInt ≤ 1000) := by
  have e := r_rem (x := x) (y := 4) h1 (by decide)
  have e2 := i_div (x := x) (y := 4) h1 (by decide)
  simp only [Int32.reduceToInt] at e e2
  exact ⟨⟨e.1, e.2⟩, by omega, by omega⟩
set_option maxRecDepth 100000 in
theorem wd_1258 : Cond.methodLink "LearnLoansModel" 259 yX8_back ∈ am_ws := am_wsi (List.mem_of_getElem? (i := 1258) (by rfl)) (by decide +kernel)
set_option maxRecDepth 100000 in
theorem wd_1260 : Cond.instanceMethod yX8_back ∈ am_ws := am_wsi (List.mem_of_getElem? (i := 1260) (by rfl)) (by decide +kernel)
set_option maxRecDepth 100000 in
theorem wd_54 : Cond.selects "LearnLoansModel" yX8_back yX8_back ∈ am_ws := am_wsi (List.mem_of_getElem? (i := 54) (by rfl)) (by decide +kernel)
set_option maxRecDepth 100000 in
theorem wd_1261 : Cond.code yX8_back cX8_back 2 none ∈ am_ws := am_wsi (List.mem_of_getElem? (i := 1261) (by rfl)) (by decide +kernel)
set_option maxRecDepth 100000 in
theorem wd_920 : Cond.fieldLink "LearnLoansModel" 262 "LearnLoansModel" "takenWay" "J" ∈ am_ws := am_wsi (List.mem_of_getElem? (i := 920) (by rfl)) (by decide +kernel)
set_option maxRecDepth 100000 in
theorem wd_921 : Cond.fieldLink "LearnLoansModel" 265 "LearnLoansModel" "neverWay" "J" ∈ am_ws := am_wsi (List.mem_of_getElem? (i := 921) (by rfl)) (by decide +kernel)
set_option maxRecDepth 100000 in
theorem wd_1262 : Cond.methodLink "LearnLoansModel" 268 yX8_chanceOf ∈ am_ws := am_wsi (List.mem_of_getElem? (i := 1262) (by rfl)) (by decide +kernel)
set_option maxRecDepth 100000 in
theorem wd_1264 : Cond.instanceMethod yX8_chanceOf ∈ am_ws := am_wsi (List.mem_of_getElem? (i := 1264) (by rfl)) (by decide +kernel)
set_option maxRecDepth 100000 in
theorem wd_55 : Cond.selects "LearnLoansModel" yX8_chanceOf yX8_chanceOf ∈ am_ws := am_wsi (List.mem_of_getElem? (i := 55) (by rfl)) (by decide +kernel)
set_option maxRecDepth 100000 in
theorem wd_1265 : Cond.code yX8_chanceOf cX8_chanceOf 3 (some .int) ∈ am_ws := am_wsi (List.mem_of_getElem? (i := 1265) (by rfl)) (by decide +kernel)
theorem dX8_goWay_0 : decode cX8_goWay 0 = .ok (.aload_n 0, 1) := by decide +kernel
theorem dX8_goWay_1 : decode cX8_goWay 1 = .ok (.invokevirtual 259, 3) := by decide +kernel
theorem dX8_goWay_4 : decode cX8_goWay 4 = .ok (.aload_n 0, 1) := by decide +kernel
theorem dX8_goWay_5 : decode cX8_goWay 5 = .ok (.lconst 0, 1) := by decide +kernel
theorem dX8_goWay_6 : decode cX8_goWay 6 = .ok (.putfield 262, 3) := by decide +kernel
theorem dX8_goWay_9 : decode cX8_goWay 9 = .ok (.aload_n 0, 1) := by decide +kernel
theorem dX8_goWay_10 : decode cX8_goWay 10 = .ok (.lconst 0, 1) := by decide +kernel
theorem dX8_goWay_11 : decode cX8_goWay 11 = .ok (.putfield 265, 3) := by decide +kernel
theorem dX8_goWay_14 : decode cX8_goWay 14 = .ok (.lconst 1, 1) := by decide +kernel
theorem dX8_goWay_15 : decode cX8_goWay 15 = .ok (.lstore 7, 2) := by decide +kernel
theorem dX8_goWay_17 : decode cX8_goWay 17 = .ok (.iload_n 2, 1) := by decide +kernel
theorem dX8_goWay_18 : decode cX8_goWay 18 = .ok (.istore 9, 2) := by decide +kernel
theorem dX8_goWay_20 : decode cX8_goWay 20 = .ok (.iload_n 3, 1) := by decide +kernel
theorem dX8_goWay_21 : decode cX8_goWay 21 = .ok (.istore 10, 2) := by decide +kernel
theorem dX8_goWay_23 : decode cX8_goWay 23 = .ok (.iconst 0, 1) := by decide +kernel
theorem dX8_goWay_24 : decode cX8_goWay 24 = .ok (.istore 11, 2) := by decide +kernel
theorem dX8_goWay_26 : decode cX8_goWay 26 = .ok (.iload 11, 2) := by decide +kernel
theorem dX8_goWay_28 : decode cX8_goWay 28 = .ok (.iload 6, 2) := by decide +kernel
theorem dX8_goWay_30 : decode cX8_goWay 30 = .ok (.if_icmp .ge 126, 3) := by decide +kernel
theorem dX8_goWay_33 : decode cX8_goWay 33 = .ok (.iload 11, 2) := by decide +kernel
theorem dX8_goWay_35 : decode cX8_goWay 35 = .ok (.ifCond .le 31, 3) := by decide +kernel
theorem dX8_goWay_38 : decode cX8_goWay 38 = .ok (.lload 7, 2) := by decide +kernel
theorem dX8_goWay_40 : decode cX8_goWay 40 = .ok (.aload_n 0, 1) := by decide +kernel
theorem dX8_goWay_41 : decode cX8_goWay 41 = .ok (.iload 9, 2) := by decide +kernel
theorem dX8_goWay_43 : decode cX8_goWay 43 = .ok (.iload 10, 2) := by decide +kernel
theorem dX8_goWay_45 : decode cX8_goWay 45 = .ok (.iconst 4, 1) := by decide +kernel
theorem dX8_goWay_46 : decode cX8_goWay 46 = .ok (.irem, 1) := by decide +kernel
theorem dX8_goWay_47 : decode cX8_goWay 47 = .ok (.invokevirtual 268, 3) := by decide +kernel
theorem dX8_goWay_50 : decode cX8_goWay 50 = .ok (.i2l, 1) := by decide +kernel
theorem dX8_goWay_51 : decode cX8_goWay 51 = .ok (.lmul, 1) := by decide +kernel
theorem dX8_goWay_52 : decode cX8_goWay 52 = .ok (.lstore 7, 2) := by decide +kernel
theorem dX8_goWay_54 : decode cX8_goWay 54 = .ok (.iload 10, 2) := by decide +kernel
theorem dX8_goWay_56 : decode cX8_goWay 56 = .ok (.iconst 4, 1) := by decide +kernel
theorem dX8_goWay_57 : decode cX8_goWay 57 = .ok (.irem, 1) := by decide +kernel
theorem dX8_goWay_58 : decode cX8_goWay 58 = .ok (.istore 9, 2) := by decide +kernel
theorem dX8_goWay_60 : decode cX8_goWay 60 = .ok (.iload 10, 2) := by decide +kernel
theorem dX8_goWay_62 : decode cX8_goWay 62 = .ok (.iconst 4, 1) := by decide +kernel
theorem dX8_goWay_63 : decode cX8_goWay 63 = .ok (.idiv, 1) := by decide +kernel
theorem dX8_goWay_64 : decode cX8_goWay 64 = .ok (.istore 10, 2) := by decide +kernel
theorem dX8_goWay_66 : decode cX8_goWay 66 = .ok (.aload_n 0, 1) := by decide +kernel
theorem dX8_goWay_67 : decode cX8_goWay 67 = .ok (.iload_n 1, 1) := by decide +kernel
theorem dX8_goWay_68 : decode cX8_goWay 68 = .ok (.iload 5, 2) := by decide +kernel
theorem dX8_goWay_70 : decode cX8_goWay 70 = .ok (.iload 11, 2) := by decide +kernel
theorem dX8_goWay_72 : decode cX8_goWay 72 = .ok (.iadd, 1) := by decide +kernel
theorem dX8_goWay_73 : decode cX8_goWay 73 = .ok (.iload 9, 2) := by decide +kernel
theorem dX8_goWay_75 : decode cX8_goWay 75 = .ok (.ifCond .ne 8, 3) := by decide +kernel
theorem dX8_goWay_78 : decode cX8_goWay 78 = .ok (.iload 4, 2) := by decide +kernel
theorem dX8_goWay_80 : decode cX8_goWay 80 = .ok (.goto 14, 3) := by decide +kernel
theorem dX8_goWay_83 : decode cX8_goWay 83 = .ok (.iload 9, 2) := by decide +kernel
theorem dX8_goWay_85 : decode cX8_goWay 85 = .ok (.iconst 1, 1) := by decide +kernel
theorem dX8_goWay_86 : decode cX8_goWay 86 = .ok (.if_icmp .ne 7, 3) := by decide +kernel
theorem dX8_goWay_89 : decode cX8_goWay 89 = .ok (.iconst 0, 1) := by decide +kernel
theorem dX8_goWay_90 : decode cX8_goWay 90 = .ok (.goto 4, 3) := by decide +kernel
theorem dX8_goWay_93 : decode cX8_goWay 93 = .ok (.iconst (-1), 1) := by decide +kernel
theorem dX8_goWay_94 : decode cX8_goWay 94 = .ok (.iload 9, 2) := by decide +kernel
theorem dX8_goWay_96 : decode cX8_goWay 96 = .ok (.iconst 2, 1) := by decide +kernel
theorem dX8_goWay_97 : decode cX8_goWay 97 = .ok (.if_icmp .ne 7, 3) := by decide +kernel
theorem dX8_goWay_100 : decode cX8_goWay 100 = .ok (.iconst 1, 1) := by decide +kernel
theorem dX8_goWay_101 : decode cX8_goWay 101 = .ok (.goto 4, 3) := by decide +kernel
theorem dX8_goWay_104 : decode cX8_goWay 104 = .ok (.iconst 0, 1) := by decide +kernel
theorem dX8_goWay_105 : decode cX8_goWay 105 = .ok (.iload 9, 2) := by decide +kernel
theorem dX8_goWay_107 : decode cX8_goWay 107 = .ok (.iconst 3, 1) := by decide +kernel
theorem dX8_goWay_108 : decode cX8_goWay 108 = .ok (.if_icmp .ne 7, 3) := by decide +kernel
theorem dX8_goWay_111 : decode cX8_goWay 111 = .ok (.iconst 1, 1) := by decide +kernel
theorem dX8_goWay_112 : decode cX8_goWay 112 = .ok (.goto 4, 3) := by decide +kernel
theorem dX8_goWay_115 : decode cX8_goWay 115 = .ok (.iconst 0, 1) := by decide +kernel
theorem dX8_goWay_116 : decode cX8_goWay 116 = .ok (.lconst 0, 1) := by decide +kernel
theorem dX8_goWay_117 : decode cX8_goWay 117 = .ok (.invokevirtual 229, 3) := by decide +kernel
theorem dX8_goWay_120 : decode cX8_goWay 120 = .ok (.aload_n 0, 1) := by decide +kernel
theorem dX8_goWay_121 : decode cX8_goWay 121 = .ok (.dup, 1) := by decide +kernel
theorem dX8_goWay_122 : decode cX8_goWay 122 = .ok (.getfield 262, 3) := by decide +kernel
theorem dX8_goWay_125 : decode cX8_goWay 125 = .ok (.aload_n 0, 1) := by decide +kernel
theorem dX8_goWay_126 : decode cX8_goWay 126 = .ok (.iload_n 1, 1) := by decide +kernel
theorem dX8_goWay_127 : decode cX8_goWay 127 = .ok (.iconst 1, 1) := by decide +kernel
theorem dX8_goWay_128 : decode cX8_goWay 128 = .ok (.invokevirtual 243, 3) := by decide +kernel
theorem dX8_goWay_131 : decode cX8_goWay 131 = .ok (.ladd, 1) := by decide +kernel
theorem dX8_goWay_132 : decode cX8_goWay 132 = .ok (.putfield 262, 3) := by decide +kernel
theorem dX8_goWay_135 : decode cX8_goWay 135 = .ok (.aload_n 0, 1) := by decide +kernel
theorem dX8_goWay_136 : decode cX8_goWay 136 = .ok (.dup, 1) := by decide +kernel
theorem dX8_goWay_137 : decode cX8_goWay 137 = .ok (.getfield 265, 3) := by decide +kernel
theorem dX8_goWay_140 : decode cX8_goWay 140 = .ok (.aload_n 0, 1) := by decide +kernel
theorem dX8_goWay_141 : decode cX8_goWay 141 = .ok (.iload_n 1, 1) := by decide +kernel
theorem dX8_goWay_142 : decode cX8_goWay 142 = .ok (.iconst 2, 1) := by decide +kernel
theorem dX8_goWay_143 : decode cX8_goWay 143 = .ok (.invokevirtual 243, 3) := by decide +kernel
theorem dX8_goWay_146 : decode cX8_goWay 146 = .ok (.ladd, 1) := by decide +kernel
theorem dX8_goWay_147 : decode cX8_goWay 147 = .ok (.putfield 265, 3) := by decide +kernel
theorem dX8_goWay_150 : decode cX8_goWay 150 = .ok (.iinc 11 1, 3) := by decide +kernel
theorem dX8_goWay_153 : decode cX8_goWay 153 = .ok (.goto (-127), 3) := by decide +kernel
theorem dX8_goWay_156 : decode cX8_goWay 156 = .ok (.aload_n 0, 1) := by decide +kernel
theorem dX8_goWay_157 : decode cX8_goWay 157 = .ok (.dup, 1) := by decide +kernel
theorem dX8_goWay_158 : decode cX8_goWay 158 = .ok (.getfield 265, 3) := by decide +kernel
theorem dX8_goWay_161 : decode cX8_goWay 161 = .ok (.aload_n 0, 1) := by decide +kernel
theorem dX8_goWay_162 : decode cX8_goWay 162 = .ok (.iload_n 1, 1) := by decide +kernel
theorem dX8_goWay_163 : decode cX8_goWay 163 = .ok (.iconst 0, 1) := by decide +kernel
theorem dX8_goWay_164 : decode cX8_goWay 164 = .ok (.invokevirtual 243, 3) := by decide +kernel
theorem dX8_goWay_167 : decode cX8_goWay 167 = .ok (.ladd, 1) := by decide +kernel
theorem dX8_goWay_168 : decode cX8_goWay 168 = .ok (.putfield 265, 3) := by decide +kernel
theorem dX8_goWay_171 : decode cX8_goWay 171 = .ok (.lload 7, 2) := by decide +kernel
theorem dX8_goWay_173 : decode cX8_goWay 173 = .ok (.lreturn, 1) := by decide +kernel
def kX8_goWay (live : am_E) (Ret : am_R) : am_code := [(0, am_aload 0 1), (1, am_callV live 8 0 TX8_back 4), (4, am_aload 0 5), (5, am_const (.long 0) 6), (6, am_putJ live 8 25 9), (9, am_aload 0 10), (10, am_const (.long 0) 11), (11, am_putJ live 8 26 14), (14, am_const (.long 1) 15), (15, am_lstore 7 12 17), (17, am_iload 2 18), (18, am_istore 9 12 20), (20, am_iload 3 21), (21, am_istore 10 12 23), (23, am_const (.int 0) 24), (24, am_istore 11 12 26), (26, am_iload 11 28), (28, am_iload 6 30), (30, am_if2 (fun x y => y ≤ x) 156 33), (33, am_iload 11 35), (35, am_if1 (fun x => x ≤ 0) 66 38), (38, am_lload 7 40), (40, am_aload 0 41), (41, am_iload 9 43), (43, am_iload 10 45), (45, am_const (.int 4) 46), (46, am_i2z (fun x y => x - x / y * y) 47), (47, am_callV live 8 2 TX8_chanceOf 50), (50, am_i2l 51), (51, am_l2 (fun x y => x * y) 52), (52, am_lstore 7 12 54), (54, am_iload 10 56), (56, am_const (.int 4) 57), (57, am_i2z (fun x y => x - x / y * y) 58), (58, am_istore 9 12 60), (60, am_iload 10 62), (62, am_const (.int 4) 63), (63, am_i2z (fun x y => x / y) 64), (64, am_istore 10 12 66), (66, am_aload 0 67), (67, am_iload 1 68), (68, am_iload 5 70), (70, am_iload 11 72), (72, am_i2 (fun x y => x + y) 73), (73, am_iload 9 75), (75, am_if1 (fun x => x = 0) 78 83), (78, am_iload 4 80), (80, am_goto 94), (83, am_iload 9 85), (85, am_const (.int 1) 86), (86, am_if2 (fun x y => x = y) 89 93), (89, am_const (.int 0) 90), (90, am_goto 94), (93, am_const (.int (-1)) 94), (94, am_iload 9 96), (96, am_const (.int 2) 97), (97, am_if2 (fun x y => x = y) 100 104), (100, am_const (.int 1) 101), (101, am_goto 105), (104, am_const (.int 0) 105), (105, am_iload 9 107), (107, am_const (.int 3) 108), (108, am_if2 (fun x y => x = y) 111 115), (111, am_const (.int 1) 112), (112, am_goto 116), (115, am_const (.int 0) 116), (116, am_const (.long 0) 117), (117, am_callV live 8 6 TX8_stepYear 120), (120, am_aload 0 121), (121, am_dup 122), (122, am_getJ live 8 25 125), (125, am_aload 0 126), (126, am_iload 1 127), (127, am_const (.int 1) 128), (128, am_callV live 8 2 TX8_allOf 131), (131, am_l2 (fun x y => x + y) 132), (132, am_putJ live 8 25 135), (135, am_aload 0 136), (136, am_dup 137), (137, am_getJ live 8 26 140), (140, am_aload 0 141), (141, am_iload 1 142), (142, am_const (.int 2) 143), (143, am_callV live 8 2 TX8_allOf 146), (146, am_l2 (fun x y => x + y) 147), (147, am_putJ live 8 26 150), (150, am_iinc 11 12 1 153), (153, am_goto 26), (156, am_aload 0 157), (157, am_dup 158), (158, am_getJ live 8 26 161), (161, am_aload 0 162), (162, am_iload 1 163), (163, am_const (.int 0) 164), (164, am_callV live 8 2 TX8_allOf 167), (167, am_l2 (fun x y => x + y) 168), (168, am_putJ live 8 26 171), (171, am_lload 7 173), (173, am_retL Ret)]
theorem koX8_goWay (live : am_E) (Ret : am_R) : ∀ q ∈ kX8_goWay live Ret, am_ok RX8 cX8_goWay 12 (some .long) 9 228 live Ret q.1 q.2 :=
  am_kc (ak_aload_n dX8_goWay_0 rfl rfl) <|
  am_kc (ak_callV (C := RX8) (F := TX8) (N := 27) metX8_back rfl ⟨rfl, by decide +kernel, by decide +kernel, by decide +kernel⟩ (am_w5 wd_1258 wd_1260 wd_54 wd_67 wd_1261) (by decide) dX8_goWay_1 rfl) <|
  am_kc (ak_aload_n dX8_goWay_4 rfl rfl) <|
  am_kc (ak_lconst dX8_goWay_5 (by decide +kernel) rfl) <|
  am_kc (ak_putJ (C := RX8) (T := TX8) (N := 27) rfl inX8w tyX8_ok nmX8 (by decide) rfl rfl rfl rfl (by decide +kernel) wd_920 dX8_goWay_6 rfl) <|
  am_kc (ak_aload_n dX8_goWay_9 rfl rfl) <|
  am_kc (ak_lconst dX8_goWay_10 (by decide +kernel) rfl) <|
  am_kc (ak_putJ (C := RX8) (T := TX8) (N := 27) rfl inX8w tyX8_ok nmX8 (by decide) rfl rfl rfl rfl (by decide +kernel) wd_921 dX8_goWay_11 rfl) <|
  am_kc (ak_lconst dX8_goWay_14 (by decide +kernel) rfl) <|
  am_kc (ak_lstore dX8_goWay_15 rfl) <|
  am_kc (ak_iload_n dX8_goWay_17 rfl rfl) <|
  am_kc (ak_istore dX8_goWay_18 rfl) <|
  am_kc (ak_iload_n dX8_goWay_20 rfl rfl) <|
  am_kc (ak_istore dX8_goWay_21 rfl) <|
  am_kc (ak_iconst dX8_goWay_23 (by decide +kernel) rfl) <|
  am_kc (ak_istore dX8_goWay_24 rfl) <|
  am_kc (ak_iload dX8_goWay_26 rfl) <|
  am_kc (ak_iload dX8_goWay_28 rfl) <|
  am_kc (ak_icmp_ge dX8_goWay_30 (by decide +kernel) rfl) <|
  am_kc (ak_iload dX8_goWay_33 rfl) <|
  am_kc (ak_if_le dX8_goWay_35 (by decide +kernel) rfl) <|
  am_kc (ak_lload dX8_goWay_38 rfl) <|
  am_kc (ak_aload_n dX8_goWay_40 rfl rfl) <|
  am_kc (ak_iload dX8_goWay_41 rfl) <|
  am_kc (ak_iload dX8_goWay_43 rfl) <|
  am_kc (ak_iconst dX8_goWay_45 (by decide +kernel) rfl) <|
  am_kc (ak_irem dX8_goWay_46 rfl) <|
  am_kc (ak_callV (C := RX8) (F := TX8) (N := 27) metX8_chanceOf rfl ⟨rfl, by decide +kernel, by decide +kernel, by decide +kernel⟩ (am_w5 wd_1262 wd_1264 wd_55 wd_67 wd_1265) (by decide) dX8_goWay_47 rfl) <|
  am_kc (ak_i2l dX8_goWay_50 rfl) <|
  am_kc (ak_lmul dX8_goWay_51 rfl) <|
  am_kc (ak_lstore dX8_goWay_52 rfl) <|
  am_kc (ak_iload dX8_goWay_54 rfl) <|
  am_kc (ak_iconst dX8_goWay_56 (by decide +kernel) rfl) <|
  am_kc (ak_irem dX8_goWay_57 rfl) <|
  am_kc (ak_istore dX8_goWay_58 rfl) <|
  am_kc (ak_iload dX8_goWay_60 rfl) <|
  am_kc (ak_iconst dX8_goWay_62 (by decide +kernel) rfl) <|
  am_kc (ak_idiv dX8_goWay_63 rfl) <|
  am_kc (ak_istore dX8_goWay_64 rfl) <|
  am_kc (ak_aload_n dX8_goWay_66 rfl rfl) <|
  am_kc (ak_iload_n dX8_goWay_67 rfl rfl) <|
  am_kc (ak_iload dX8_goWay_68 rfl) <|
  am_kc (ak_iload dX8_goWay_70 rfl) <|
  am_kc (ak_iadd dX8_goWay_72 rfl) <|
  am_kc (ak_iload dX8_goWay_73 rfl) <|
  am_kc (ak_if_ne dX8_goWay_75 (by decide +kernel) rfl) <|
  am_kc (ak_iload dX8_goWay_78 rfl) <|
  am_kc (ak_goto dX8_goWay_80 (by decide +kernel)) <|
  am_kc (ak_iload dX8_goWay_83 rfl) <|
  am_kc (ak_iconst dX8_goWay_85 (by decide +kernel) rfl) <|
  am_kc (ak_icmp_ne dX8_goWay_86 (by decide +kernel) rfl) <|
  am_kc (ak_iconst dX8_goWay_89 (by decide +kernel) rfl) <|
  am_kc (ak_goto dX8_goWay_90 (by decide +kernel)) <|
  am_kc (ak_iconst dX8_goWay_93 (by decide +kernel) rfl) <|
  am_kc (ak_iload dX8_goWay_94 rfl) <|
  am_kc (ak_iconst dX8_goWay_96 (by decide +kernel) rfl) <|
  am_kc (ak_icmp_ne dX8_goWay_97 (by decide +kernel) rfl) <|
  am_kc (ak_iconst dX8_goWay_100 (by decide +kernel) rfl) <|
  am_kc (ak_goto dX8_goWay_101 (by decide +kernel)) <|
  am_kc (ak_iconst dX8_goWay_104 (by decide +kernel) rfl) <|
  am_kc (ak_iload dX8_goWay_105 rfl) <|
  am_kc (ak_iconst dX8_goWay_107 (by decide +kernel) rfl) <|
  am_kc (ak_icmp_ne dX8_goWay_108 (by decide +kernel) rfl) <|
  am_kc (ak_iconst dX8_goWay_111 (by decide +kernel) rfl) <|
  am_kc (ak_goto dX8_goWay_112 (by decide +kernel)) <|
  am_kc (ak_iconst dX8_goWay_115 (by decide +kernel) rfl) <|
  am_kc (ak_lconst dX8_goWay_116 (by decide +kernel) rfl) <|
  am_kc (ak_callV (C := RX8) (F := TX8) (N := 27) metX8_stepYear rfl ⟨rfl, by decide +kernel, by decide +kernel, by decide +kernel⟩ (am_w5 wd_1166 wd_1168 wd_44 wd_67 wd_1169) (by decide) dX8_goWay_117 rfl) <|
  am_kc (ak_aload_n dX8_goWay_120 rfl rfl) <|
  am_kc (ak_dup dX8_goWay_121 rfl) <|
  am_kc (ak_getJ (C := RX8) (T := TX8) (N := 27) rfl inX8w (by decide) rfl rfl rfl wd_920 dX8_goWay_122 rfl) <|
  am_kc (ak_aload_n dX8_goWay_125 rfl rfl) <|
  am_kc (ak_iload_n dX8_goWay_126 rfl rfl) <|
  am_kc (ak_iconst dX8_goWay_127 (by decide +kernel) rfl) <|
  am_kc (ak_callV (C := RX8) (F := TX8) (N := 27) metX8_allOf rfl ⟨rfl, by decide +kernel, by decide +kernel, by decide +kernel⟩ (am_w5 wd_1195 wd_1197 wd_50 wd_67 wd_1198) (by decide) dX8_goWay_128 rfl) <|
  am_kc (ak_ladd dX8_goWay_131 rfl) <|
  am_kc (ak_putJ (C := RX8) (T := TX8) (N := 27) rfl inX8w tyX8_ok nmX8 (by decide) rfl rfl rfl rfl (by decide +kernel) wd_920 dX8_goWay_132 rfl) <|
  am_kc (ak_aload_n dX8_goWay_135 rfl rfl) <|
  am_kc (ak_dup dX8_goWay_136 rfl) <|
  am_kc (ak_getJ (C := RX8) (T := TX8) (N := 27) rfl inX8w (by decide) rfl rfl rfl wd_921 dX8_goWay_137 rfl) <|
  am_kc (ak_aload_n dX8_goWay_140 rfl rfl) <|
  am_kc (ak_iload_n dX8_goWay_141 rfl rfl) <|
  am_kc (ak_iconst dX8_goWay_142 (by decide +kernel) rfl) <|
  am_kc (ak_callV (C := RX8) (F := TX8) (N := 27) metX8_allOf rfl ⟨rfl, by decide +kernel, by decide +kernel, by decide +kernel⟩ (am_w5 wd_1195 wd_1197 wd_50 wd_67 wd_1198) (by decide) dX8_goWay_143 rfl) <|
  am_kc (ak_ladd dX8_goWay_146 rfl) <|
  am_kc (ak_putJ (C := RX8) (T := TX8) (N := 27) rfl inX8w tyX8_ok nmX8 (by decide) rfl rfl rfl rfl (by decide +kernel) wd_921 dX8_goWay_147 rfl) <|
  am_kc (ak_iinc dX8_goWay_150 (by decide +kernel) rfl) <|
  am_kc (ak_goto dX8_goWay_153 (by decide +kernel)) <|
  am_kc (ak_aload_n dX8_goWay_156 rfl rfl) <|
  am_kc (ak_dup dX8_goWay_157 rfl) <|
  am_kc (ak_getJ (C := RX8) (T := TX8) (N := 27) rfl inX8w (by decide) rfl rfl rfl wd_921 dX8_goWay_158 rfl) <|
  am_kc (ak_aload_n dX8_goWay_161 rfl rfl) <|
  am_kc (ak_iload_n dX8_goWay_162 rfl rfl) <|
  am_kc (ak_iconst dX8_goWay_163 (by decide +kernel) rfl) <|
  am_kc (ak_callV (C := RX8) (F := TX8) (N := 27) metX8_allOf rfl ⟨rfl, by decide +kernel, by decide +kernel, by decide +kernel⟩ (am_w5 wd_1195 wd_1197 wd_50 wd_67 wd_1198) (by decide) dX8_goWay_164 rfl) <|
  am_kc (ak_ladd dX8_goWay_167 rfl) <|
  am_kc (ak_putJ (C := RX8) (T := TX8) (N := 27) rfl inX8w tyX8_ok nmX8 (by decide) rfl rfl rfl rfl (by decide +kernel) wd_921 dX8_goWay_168 rfl) <|
  am_kc (ak_lload dX8_goWay_171 rfl) <|
  am_kc (ak_retL dX8_goWay_173) <| am_kn
def TX8_goWay : am_T := fun live as M R => match as with
  | [.ref n, .int p, .int f, .int w, .int c, .int y, .int m] => am_mn live ∧ n = 200 ∧ am_in p 12 ∧ am_in f 4 ∧ (0 ≤ w.toInt ∧ w.toInt ≤ 1000) ∧ (0 ≤ y.toInt ∧ y.toInt + m.toInt ≤ 40) ∧ r_I M ∧ ∀ v M', r_sc M M' → r_I M' → R (some (.long v)) M'
  | _ => False
def JX8_goWay : am_E → List Value → am_M → am_R → am_inv := fun live as M0 _ pc => match as with
  | [.ref n, .int p, .int f, .int w, .int c, .int y, .int m] => (match pc with
    | 26 => some ([0, 1, 4, 5, 6, 7, 9, 10, 11], fun u L st M => ∃ (v : Int64) (s t k : Int32), L = [(0, .ref 200), (1, .int p), (4, .int c), (5, .int y), (6, .int m), (7, .long v), (9, .int s), (10, .int t), (11, .int k)] ∧ st = [] ∧ u = ((50 - k.toInt).toNat, 9) ∧ (am_in s 4 ∧ 0 ≤ t.toInt ∧ t.toInt ≤ 1000) ∧ 0 ≤ k.toInt ∧ r_sc M0 M ∧ r_I M)
    | 66 => some ([0, 1, 4, 5, 6, 7, 9, 10, 11], fun u L st M => ∃ (v : Int64) (s t k : Int32), L = [(0, .ref 200), (1, .int p), (4, .int c), (5, .int y), (6, .int m), (7, .long v), (9, .int s), (10, .int t), (11, .int k)] ∧ st = [] ∧ u = ((50 - k.toInt).toNat, 8) ∧ (am_in s 4 ∧ 0 ≤ t.toInt ∧ t.toInt ≤ 1000) ∧ (0 ≤ k.toInt ∧ k.toInt < m.toInt) ∧ r_sc M0 M ∧ r_I M)
    | _ => none)
  | _ => none
set_option maxRecDepth 100000 in
set_option maxHeartbeats 4000000 in
theorem metX8_goWay : am_Met yX8_goWay cX8_goWay 12 (some .long) (9) (228) TX8_goWay := by
  refine am_met (own := RX8) (by decide +kernel) rfl kX8_goWay koX8_goWay 150 JX8_goWay ?_ ?_
  · intro live as M Ret h
    unfold TX8_goWay at h
    split at h
    · next n p f w c y m =>
      refine ⟨Nat.le_of_ble_eq_true rfl, ?_⟩
      change am_wp _ _ _ _ [(0, Value.ref n), (1, Value.int p), (2, Value.int f), (3, Value.int w), (4, Value.int c), (5, Value.int y), (6, Value.int m)] _ _
      obtain ⟨hmn, rfl, hp, hf, ⟨w1, w2⟩, hy, hR, h⟩ := h
      have hmn2 := hmn
      obtain ⟨i1, i2, rfl⟩ := hmn2
      repeat' (first | (with_reducible exact hmn) | (with_reducible exact hR) | apply And.intro | exact rfl | ((with_reducible change r_I _); (with_reducible assumption)) | intro hx | (refine Exists.intro _ (And.intro rfl ?_)))
      all_goals try first | (with_reducible change am_tI _ _) | (change Ret _ _) | (change Ret _ _ _) | (change Exists _)
      all_goals try dsimp only at *
      all_goals try exact absurd ‹(1000 : Int64) = 0› (by decide)
      exact ⟨_, _, _, _, _, rfl, rfl, rfl, ⟨hf, w1, w2⟩, by decide, by (repeat' (first | (with_reducible exact r_sc.rf) | (with_reducible assumption) | ((with_reducible change r_sc _ (am_wI _ _ _ _)); refine r_sc.wI ?_ rfl) | ((with_reducible change r_sc _ (am_wJ _ _ _ _)); refine r_sc.wJ ?_ rfl) | (refine r_sc.tr ?_ (by with_reducible assumption)))), by (repeat' (first | (with_reducible assumption) | ((with_reducible change r_I (am_wJ _ _ _ _)); refine r_I.wJ ?_) | ((with_reducible change r_I (am_wI _ _ _ _)); refine r_I.wI ?_ rfl)))⟩
    · exact h.elim
  · intro live as M0 Ret h k pc I hI L st M hi
    unfold TX8_goWay at h
    split at h
    · next n p f w c y m =>
      obtain ⟨hmn, rfl, hp, hf, ⟨w1, w2⟩, ⟨y1, y2⟩, hR, h⟩ := h
      have hmn2 := hmn
      obtain ⟨i1, i2, rfl⟩ := hmn2
      have a0 : am_in (0 : Int32) 4 := ⟨by decide, by decide⟩
      have a1 : am_in (1 : Int32) 4 := ⟨by decide, by decide⟩
      change (match pc with | 26 => _ | 66 => _ | _ => none) = _ at hI
      split at hI
      · cases hI
        obtain ⟨v, s, t, k, rfl, rfl, rfl, ⟨hs, t1, t2⟩, e1, e2, e3⟩ := hi
        by_cases hz : m ≤ k
        · skip
          repeat' (first | (with_reducible exact hmn) | (with_reducible exact e3) | apply And.intro | exact rfl | (intro hx; with_reducible exact absurd hz hx) | ((with_reducible change r_I _); (with_reducible assumption)) | intro hx | (refine Exists.intro _ (And.intro rfl ?_)))
          all_goals try first | (with_reducible change am_tI _ _) | (change Ret _ _) | (change Ret _ _ _) | (change Exists _)
          all_goals try dsimp only at *
          all_goals try exact absurd ‹(1000 : Int64) = 0› (by decide)
          all_goals exact h _ _ (by (repeat' (first | (with_reducible exact r_sc.rf) | (with_reducible assumption) | ((with_reducible change r_sc _ (am_wI _ _ _ _)); refine r_sc.wI ?_ rfl) | ((with_reducible change r_sc _ (am_wJ _ _ _ _)); refine r_sc.wJ ?_ rfl) | (refine r_sc.tr ?_ (by with_reducible assumption))))) (by (repeat' (first | (with_reducible assumption) | ((with_reducible change r_I (am_wJ _ _ _ _)); refine r_I.wJ ?_) | ((with_reducible change r_I (am_wI _ _ _ _)); refine r_I.wI ?_ rfl))))
        · have hz2 := hz
          simp only [i_le] at hz2
          have hd := r_di4 t1 t2
          have h40 : ¬ (4 : Int32) = 0 := by decide
          repeat' (first | (with_reducible exact hmn) | (with_reducible exact hs) | (with_reducible exact hd) | (with_reducible exact 1) | (with_reducible exact h40) | apply And.intro | exact rfl | (intro hx; with_reducible exact absurd hx hz) | (intro hx; exact absurd hx (by decide)) | (intro hx; exact absurd (by decide) hx) | decide | intro hx | (refine Exists.intro _ (And.intro rfl ?_)))
          all_goals try first | (with_reducible change am_tI _ _) | (change Ret _ _) | (change Ret _ _ _) | (change Exists _)
          all_goals try dsimp only at *
          all_goals try exact absurd ‹(1000 : Int64) = 0› (by decide)
          all_goals first
            | exact absurd (by with_reducible assumption) h40
            | exact hd.1.1
            | exact hd.1.2
            | exact ⟨_, am_lt_r (by omega), _, _, _, _, rfl, rfl, rfl, ⟨hs, t1, t2⟩, ⟨e1, by omega⟩, e2, e3⟩
            | exact ⟨_, am_lt_r (by omega), _, _, _, _, rfl, rfl, rfl, ⟨hd.1, hd.2.1, hd.2.2⟩, ⟨e1, by omega⟩, e2, e3⟩
            | skip
      · cases hI
        obtain ⟨v, s, t, k, rfl, rfl, rfl, ⟨hs, t1, t2⟩, ⟨e1, e4⟩, e2, e3⟩ := hi
        have hk := i_inc (x := k) (by omega) (by omega)
        have eyk := i_add (x := y) (y := k) (by omega) (by omega)
        have hyk : am_in (y + k) 40 := ⟨by omega, by omega⟩
        have hc4 : s = 0 ∨ s = 1 ∨ s = 2 ∨ s = 3 := by
          have h1 := hs.1
          have h2 := hs.2
          simp only [i_eq, Int32.reduceToInt]
          omega
        rcases hc4 with rfl | rfl | rfl | rfl
        · skip
          repeat' (first | (with_reducible exact hmn) | (with_reducible exact hp) | (with_reducible exact hyk) | (with_reducible exact a0) | (with_reducible exact a1) | (with_reducible exact e3) | apply And.intro | exact rfl | ((with_reducible change r_I _); (with_reducible assumption)) | (intro hx; exact absurd hx (by decide)) | (intro hx; exact absurd (by decide) hx) | decide | intro hx | (refine Exists.intro _ (And.intro rfl ?_)))
          all_goals try first | (with_reducible change am_tI _ _) | (change Ret _ _) | (change Ret _ _ _) | (change Exists _)
          all_goals try dsimp only at *
          all_goals try exact absurd ‹(1000 : Int64) = 0› (by decide)
          all_goals first
            | (change r_I _; (repeat' (first | (with_reducible assumption) | ((with_reducible change r_I (am_wJ _ _ _ _)); refine r_I.wJ ?_) | ((with_reducible change r_I (am_wI _ _ _ _)); refine r_I.wI ?_ rfl))))
            | exact ⟨_, am_lt_l (by omega), _, _, _, _, rfl, rfl, rfl, ⟨hs, t1, t2⟩, by omega, by (repeat' (first | (with_reducible exact r_sc.rf) | (with_reducible assumption) | ((with_reducible change r_sc _ (am_wI _ _ _ _)); refine r_sc.wI ?_ rfl) | ((with_reducible change r_sc _ (am_wJ _ _ _ _)); refine r_sc.wJ ?_ rfl) | (refine r_sc.tr ?_ (by with_reducible assumption)))), by (repeat' (first | (with_reducible assumption) | ((with_reducible change r_I (am_wJ _ _ _ _)); refine r_I.wJ ?_) | ((with_reducible change r_I (am_wI _ _ _ _)); refine r_I.wI ?_ rfl)))⟩
        · skip
          repeat' (first | (with_reducible exact hmn) | (with_reducible exact hp) | (with_reducible exact hyk) | (with_reducible exact a0) | (with_reducible exact a1) | (with_reducible exact e3) | apply And.intro | exact rfl | ((with_reducible change r_I _); (with_reducible assumption)) | (intro hx; exact absurd hx (by decide)) | (intro hx; exact absurd (by decide) hx) | decide | intro hx | (refine Exists.intro _ (And.intro rfl ?_)))
          all_goals try first | (with_reducible change am_tI _ _) | (change Ret _ _) | (change Ret _ _ _) | (change Exists _)
          all_goals try dsimp only at *
          all_goals try exact absurd ‹(1000 : Int64) = 0› (by decide)
          all_goals first
            | (change r_I _; (repeat' (first | (with_reducible assumption) | ((with_reducible change r_I (am_wJ _ _ _ _)); refine r_I.wJ ?_) | ((with_reducible change r_I (am_wI _ _ _ _)); refine r_I.wI ?_ rfl))))
            | exact ⟨_, am_lt_l (by omega), _, _, _, _, rfl, rfl, rfl, ⟨hs, t1, t2⟩, by omega, by (repeat' (first | (with_reducible exact r_sc.rf) | (with_reducible assumption) | ((with_reducible change r_sc _ (am_wI _ _ _ _)); refine r_sc.wI ?_ rfl) | ((with_reducible change r_sc _ (am_wJ _ _ _ _)); refine r_sc.wJ ?_ rfl) | (refine r_sc.tr ?_ (by with_reducible assumption)))), by (repeat' (first | (with_reducible assumption) | ((with_reducible change r_I (am_wJ _ _ _ _)); refine r_I.wJ ?_) | ((with_reducible change r_I (am_wI _ _ _ _)); refine r_I.wI ?_ rfl)))⟩
        · skip
          repeat' (first | (with_reducible exact hmn) | (with_reducible exact hp) | (with_reducible exact hyk) | (with_reducible exact a0) | (with_reducible exact a1) | (with_reducible exact e3) | apply And.intro | exact rfl | ((with_reducible change r_I _); (with_reducible assumption)) | (intro hx; exact absurd hx (by decide)) | (intro hx; exact absurd (by decide) hx) | decide | intro hx | (refine Exists.intro _ (And.intro rfl ?_)))
          all_goals try first | (with_reducible change am_tI _ _) | (change Ret _ _) | (change Ret _ _ _) | (change Exists _)
          all_goals try dsimp only at *
          all_goals try exact absurd ‹(1000 : Int64) = 0› (by decide)
          all_goals first
            | (change r_I _; (repeat' (first | (with_reducible assumption) | ((with_reducible change r_I (am_wJ _ _ _ _)); refine r_I.wJ ?_) | ((with_reducible change r_I (am_wI _ _ _ _)); refine r_I.wI ?_ rfl))))
            | exact ⟨_, am_lt_l (by omega), _, _, _, _, rfl, rfl, rfl, ⟨hs, t1, t2⟩, by omega, by (repeat' (first | (with_reducible exact r_sc.rf) | (with_reducible assumption) | ((with_reducible change r_sc _ (am_wI _ _ _ _)); refine r_sc.wI ?_ rfl) | ((with_reducible change r_sc _ (am_wJ _ _ _ _)); refine r_sc.wJ ?_ rfl) | (refine r_sc.tr ?_ (by with_reducible assumption)))), by (repeat' (first | (with_reducible assumption) | ((with_reducible change r_I (am_wJ _ _ _ _)); refine r_I.wJ ?_) | ((with_reducible change r_I (am_wI _ _ _ _)); refine r_I.wI ?_ rfl)))⟩
        · skip
          repeat' (first | (with_reducible exact hmn) | (with_reducible exact hp) | (with_reducible exact hyk) | (with_reducible exact a0) | (with_reducible exact a1) | (with_reducible exact e3) | apply And.intro | exact rfl | ((with_reducible change r_I _); (with_reducible assumption)) | (intro hx; exact absurd hx (by decide)) | (intro hx; exact absurd (by decide) hx) | decide | intro hx | (refine Exists.intro _ (And.intro rfl ?_)))
          all_goals try first | (with_reducible change am_tI _ _) | (change Ret _ _) | (change Ret _ _ _) | (change Exists _)
          all_goals try dsimp only at *
          all_goals try exact absurd ‹(1000 : Int64) = 0› (by decide)
          all_goals first
            | (change r_I _; (repeat' (first | (with_reducible assumption) | ((with_reducible change r_I (am_wJ _ _ _ _)); refine r_I.wJ ?_) | ((with_reducible change r_I (am_wI _ _ _ _)); refine r_I.wI ?_ rfl))))
            | exact ⟨_, am_lt_l (by omega), _, _, _, _, rfl, rfl, rfl, ⟨hs, t1, t2⟩, by omega, by (repeat' (first | (with_reducible exact r_sc.rf) | (with_reducible assumption) | ((with_reducible change r_sc _ (am_wI _ _ _ _)); refine r_sc.wI ?_ rfl) | ((with_reducible change r_sc _ (am_wJ _ _ _ _)); refine r_sc.wJ ?_ rfl) | (refine r_sc.tr ?_ (by with_reducible assumption)))), by (repeat' (first | (with_reducible assumption) | ((with_reducible change r_I (am_wJ _ _ _ _)); refine r_I.wJ ?_) | ((with_reducible change r_I (am_wI _ _ _ _)); refine r_I.wI ?_ rfl)))⟩
      · cases hI
    · exact h.elim
set_option maxRecDepth 100000 in
theorem wd_1249 : Cond.methodLink "LearnLoansModel" 271 yX8_keep ∈ am_ws := am_wsi (List.mem_of_getElem? (i := 1249) (by rfl)) (by decide +kernel)
set_option maxRecDepth 100000 in
theorem wd_1251 : Cond.instanceMethod yX8_keep ∈ am_ws := am_wsi (List.mem_of_getElem? (i := 1251) (by rfl)) (by decide +kernel)
set_option maxRecDepth 100000 in
theorem wd_52 : Cond.selects "LearnLoansModel" yX8_keep yX8_keep ∈ am_ws := am_wsi (List.mem_of_getElem? (i := 52) (by rfl)) (by decide +kernel)
set_option maxRecDepth 100000 in
theorem wd_1252 : Cond.code yX8_keep cX8_keep 2 none ∈ am_ws := am_wsi (List.mem_of_getElem? (i := 1252) (by rfl)) (by decide +kernel)
set_option maxRecDepth 100000 in
theorem wd_1253 : Cond.constantLong "LearnLoansModel" 274 (-1) ∈ am_ws := am_wsi (List.mem_of_getElem? (i := 1253) (by rfl)) (by decide +kernel)
set_option maxRecDepth 100000 in
theorem wd_1254 : Cond.methodLink "LearnLoansModel" 276 yX8_goWay ∈ am_ws := am_wsi (List.mem_of_getElem? (i := 1254) (by rfl)) (by decide +kernel)
set_option maxRecDepth 100000 in
theorem wd_1256 : Cond.instanceMethod yX8_goWay ∈ am_ws := am_wsi (List.mem_of_getElem? (i := 1256) (by rfl)) (by decide +kernel)
set_option maxRecDepth 100000 in
theorem wd_53 : Cond.selects "LearnLoansModel" yX8_goWay yX8_goWay ∈ am_ws := am_wsi (List.mem_of_getElem? (i := 53) (by rfl)) (by decide +kernel)
set_option maxRecDepth 100000 in
theorem wd_1257 : Cond.code yX8_goWay cX8_goWay 12 (some .long) ∈ am_ws := am_wsi (List.mem_of_getElem? (i := 1257) (by rfl)) (by decide +kernel)
theorem dX8_foretold_0 : decode cX8_foretold 0 = .ok (.aload_n 0, 1) := by decide +kernel
theorem dX8_foretold_1 : decode cX8_foretold 1 = .ok (.iload_n 1, 1) := by decide +kernel
theorem dX8_foretold_2 : decode cX8_foretold 2 = .ok (.invokevirtual 76, 3) := by decide +kernel
theorem dX8_foretold_5 : decode cX8_foretold 5 = .ok (.ifCond .eq 71, 3) := by decide +kernel
theorem dX8_foretold_8 : decode cX8_foretold 8 = .ok (.iload_n 2, 1) := by decide +kernel
theorem dX8_foretold_9 : decode cX8_foretold 9 = .ok (.i2l, 1) := by decide +kernel
theorem dX8_foretold_10 : decode cX8_foretold 10 = .ok (.lconst 0, 1) := by decide +kernel
theorem dX8_foretold_11 : decode cX8_foretold 11 = .ok (.ldc2_w 79, 3) := by decide +kernel
theorem dX8_foretold_14 : decode cX8_foretold 14 = .ok (.invokestatic 66, 3) := by decide +kernel
theorem dX8_foretold_17 : decode cX8_foretold 17 = .ok (.ifCond .eq 59, 3) := by decide +kernel
theorem dX8_foretold_20 : decode cX8_foretold 20 = .ok (.iload_n 3, 1) := by decide +kernel
theorem dX8_foretold_21 : decode cX8_foretold 21 = .ok (.i2l, 1) := by decide +kernel
theorem dX8_foretold_22 : decode cX8_foretold 22 = .ok (.lconst 0, 1) := by decide +kernel
theorem dX8_foretold_23 : decode cX8_foretold 23 = .ok (.ldc2_w 87, 3) := by decide +kernel
theorem dX8_foretold_26 : decode cX8_foretold 26 = .ok (.invokestatic 66, 3) := by decide +kernel
theorem dX8_foretold_29 : decode cX8_foretold 29 = .ok (.ifCond .eq 47, 3) := by decide +kernel
theorem dX8_foretold_32 : decode cX8_foretold 32 = .ok (.iload 4, 2) := by decide +kernel
theorem dX8_foretold_34 : decode cX8_foretold 34 = .ok (.invokestatic 72, 3) := by decide +kernel
theorem dX8_foretold_37 : decode cX8_foretold 37 = .ok (.ifCond .eq 39, 3) := by decide +kernel
theorem dX8_foretold_40 : decode cX8_foretold 40 = .ok (.iload 5, 2) := by decide +kernel
theorem dX8_foretold_42 : decode cX8_foretold 42 = .ok (.i2l, 1) := by decide +kernel
theorem dX8_foretold_43 : decode cX8_foretold 43 = .ok (.lconst 1, 1) := by decide +kernel
theorem dX8_foretold_44 : decode cX8_foretold 44 = .ok (.ldc2_w 102, 3) := by decide +kernel
theorem dX8_foretold_47 : decode cX8_foretold 47 = .ok (.invokestatic 66, 3) := by decide +kernel
theorem dX8_foretold_50 : decode cX8_foretold 50 = .ok (.ifCond .eq 26, 3) := by decide +kernel
theorem dX8_foretold_53 : decode cX8_foretold 53 = .ok (.iload 4, 2) := by decide +kernel
theorem dX8_foretold_55 : decode cX8_foretold 55 = .ok (.iload 5, 2) := by decide +kernel
theorem dX8_foretold_57 : decode cX8_foretold 57 = .ok (.iadd, 1) := by decide +kernel
theorem dX8_foretold_58 : decode cX8_foretold 58 = .ok (.bipush 40, 2) := by decide +kernel
theorem dX8_foretold_60 : decode cX8_foretold 60 = .ok (.if_icmp .gt 16, 3) := by decide +kernel
theorem dX8_foretold_63 : decode cX8_foretold 63 = .ok (.iload 6, 2) := by decide +kernel
theorem dX8_foretold_65 : decode cX8_foretold 65 = .ok (.i2l, 1) := by decide +kernel
theorem dX8_foretold_66 : decode cX8_foretold 66 = .ok (.lconst 0, 1) := by decide +kernel
theorem dX8_foretold_67 : decode cX8_foretold 67 = .ok (.ldc2_w 79, 3) := by decide +kernel
theorem dX8_foretold_70 : decode cX8_foretold 70 = .ok (.invokestatic 66, 3) := by decide +kernel
theorem dX8_foretold_73 : decode cX8_foretold 73 = .ok (.ifCond .ne 7, 3) := by decide +kernel
theorem dX8_foretold_76 : decode cX8_foretold 76 = .ok (.ldc2_w 237, 3) := by decide +kernel
theorem dX8_foretold_79 : decode cX8_foretold 79 = .ok (.lreturn, 1) := by decide +kernel
theorem dX8_foretold_80 : decode cX8_foretold 80 = .ok (.aload_n 0, 1) := by decide +kernel
theorem dX8_foretold_81 : decode cX8_foretold 81 = .ok (.iload_n 1, 1) := by decide +kernel
theorem dX8_foretold_82 : decode cX8_foretold 82 = .ok (.iload 4, 2) := by decide +kernel
theorem dX8_foretold_84 : decode cX8_foretold 84 = .ok (.iconst 1, 1) := by decide +kernel
theorem dX8_foretold_85 : decode cX8_foretold 85 = .ok (.isub, 1) := by decide +kernel
theorem dX8_foretold_86 : decode cX8_foretold 86 = .ok (.bipush 39, 2) := by decide +kernel
theorem dX8_foretold_88 : decode cX8_foretold 88 = .ok (.invokevirtual 239, 3) := by decide +kernel
theorem dX8_foretold_91 : decode cX8_foretold 91 = .ok (.aload_n 0, 1) := by decide +kernel
theorem dX8_foretold_92 : decode cX8_foretold 92 = .ok (.invokevirtual 271, 3) := by decide +kernel
theorem dX8_foretold_95 : decode cX8_foretold 95 = .ok (.lconst 0, 1) := by decide +kernel
theorem dX8_foretold_96 : decode cX8_foretold 96 = .ok (.lstore 7, 2) := by decide +kernel
theorem dX8_foretold_98 : decode cX8_foretold 98 = .ok (.lconst 0, 1) := by decide +kernel
theorem dX8_foretold_99 : decode cX8_foretold 99 = .ok (.lstore 9, 2) := by decide +kernel
theorem dX8_foretold_101 : decode cX8_foretold 101 = .ok (.ldc2_w 274, 3) := by decide +kernel
theorem dX8_foretold_104 : decode cX8_foretold 104 = .ok (.lstore 11, 2) := by decide +kernel
theorem dX8_foretold_106 : decode cX8_foretold 106 = .ok (.ldc2_w 274, 3) := by decide +kernel
theorem dX8_foretold_109 : decode cX8_foretold 109 = .ok (.lstore 13, 2) := by decide +kernel
theorem dX8_foretold_111 : decode cX8_foretold 111 = .ok (.iconst 0, 1) := by decide +kernel
theorem dX8_foretold_112 : decode cX8_foretold 112 = .ok (.istore 15, 2) := by decide +kernel
theorem dX8_foretold_114 : decode cX8_foretold 114 = .ok (.iload 15, 2) := by decide +kernel
theorem dX8_foretold_116 : decode cX8_foretold 116 = .ok (.iconst 1, 1) := by decide +kernel
theorem dX8_foretold_117 : decode cX8_foretold 117 = .ok (.iconst 2, 1) := by decide +kernel
theorem dX8_foretold_118 : decode cX8_foretold 118 = .ok (.iload 5, 2) := by decide +kernel
theorem dX8_foretold_120 : decode cX8_foretold 120 = .ok (.iconst 1, 1) := by decide +kernel
theorem dX8_foretold_121 : decode cX8_foretold 121 = .ok (.isub, 1) := by decide +kernel
theorem dX8_foretold_122 : decode cX8_foretold 122 = .ok (.imul, 1) := by decide +kernel
theorem dX8_foretold_123 : decode cX8_foretold 123 = .ok (.ishl, 1) := by decide +kernel
theorem dX8_foretold_124 : decode cX8_foretold 124 = .ok (.if_icmp .ge 104, 3) := by decide +kernel
theorem dX8_foretold_127 : decode cX8_foretold 127 = .ok (.aload_n 0, 1) := by decide +kernel
theorem dX8_foretold_128 : decode cX8_foretold 128 = .ok (.iload_n 1, 1) := by decide +kernel
theorem dX8_foretold_129 : decode cX8_foretold 129 = .ok (.iload_n 2, 1) := by decide +kernel
theorem dX8_foretold_130 : decode cX8_foretold 130 = .ok (.iload 15, 2) := by decide +kernel
theorem dX8_foretold_132 : decode cX8_foretold 132 = .ok (.iload_n 3, 1) := by decide +kernel
theorem dX8_foretold_133 : decode cX8_foretold 133 = .ok (.iload 4, 2) := by decide +kernel
theorem dX8_foretold_135 : decode cX8_foretold 135 = .ok (.iload 5, 2) := by decide +kernel
theorem dX8_foretold_137 : decode cX8_foretold 137 = .ok (.invokevirtual 276, 3) := by decide +kernel
theorem dX8_foretold_140 : decode cX8_foretold 140 = .ok (.lstore 16, 2) := by decide +kernel
theorem dX8_foretold_142 : decode cX8_foretold 142 = .ok (.lload 16, 2) := by decide +kernel
theorem dX8_foretold_144 : decode cX8_foretold 144 = .ok (.lconst 0, 1) := by decide +kernel
theorem dX8_foretold_145 : decode cX8_foretold 145 = .ok (.lcmp, 1) := by decide +kernel
theorem dX8_foretold_146 : decode cX8_foretold 146 = .ok (.ifCond .le 76, 3) := by decide +kernel
theorem dX8_foretold_149 : decode cX8_foretold 149 = .ok (.lload 7, 2) := by decide +kernel
theorem dX8_foretold_151 : decode cX8_foretold 151 = .ok (.lload 16, 2) := by decide +kernel
theorem dX8_foretold_153 : decode cX8_foretold 153 = .ok (.aload_n 0, 1) := by decide +kernel
theorem dX8_foretold_154 : decode cX8_foretold 154 = .ok (.getfield 262, 3) := by decide +kernel
theorem dX8_foretold_157 : decode cX8_foretold 157 = .ok (.lmul, 1) := by decide +kernel
theorem dX8_foretold_158 : decode cX8_foretold 158 = .ok (.ladd, 1) := by decide +kernel
theorem dX8_foretold_159 : decode cX8_foretold 159 = .ok (.lstore 7, 2) := by decide +kernel
theorem dX8_foretold_161 : decode cX8_foretold 161 = .ok (.lload 9, 2) := by decide +kernel
theorem dX8_foretold_163 : decode cX8_foretold 163 = .ok (.lload 16, 2) := by decide +kernel
theorem dX8_foretold_165 : decode cX8_foretold 165 = .ok (.aload_n 0, 1) := by decide +kernel
theorem dX8_foretold_166 : decode cX8_foretold 166 = .ok (.getfield 265, 3) := by decide +kernel
theorem dX8_foretold_169 : decode cX8_foretold 169 = .ok (.lmul, 1) := by decide +kernel
theorem dX8_foretold_170 : decode cX8_foretold 170 = .ok (.ladd, 1) := by decide +kernel
theorem dX8_foretold_171 : decode cX8_foretold 171 = .ok (.lstore 9, 2) := by decide +kernel
theorem dX8_foretold_173 : decode cX8_foretold 173 = .ok (.lload 11, 2) := by decide +kernel
theorem dX8_foretold_175 : decode cX8_foretold 175 = .ok (.lconst 0, 1) := by decide +kernel
theorem dX8_foretold_176 : decode cX8_foretold 176 = .ok (.lcmp, 1) := by decide +kernel
theorem dX8_foretold_177 : decode cX8_foretold 177 = .ok (.ifCond .lt 13, 3) := by decide +kernel
theorem dX8_foretold_180 : decode cX8_foretold 180 = .ok (.aload_n 0, 1) := by decide +kernel
theorem dX8_foretold_181 : decode cX8_foretold 181 = .ok (.getfield 262, 3) := by decide +kernel
theorem dX8_foretold_184 : decode cX8_foretold 184 = .ok (.lload 11, 2) := by decide +kernel
theorem dX8_foretold_186 : decode cX8_foretold 186 = .ok (.lcmp, 1) := by decide +kernel
theorem dX8_foretold_187 : decode cX8_foretold 187 = .ok (.ifCond .ge 10, 3) := by decide +kernel
theorem dX8_foretold_190 : decode cX8_foretold 190 = .ok (.aload_n 0, 1) := by decide +kernel
theorem dX8_foretold_191 : decode cX8_foretold 191 = .ok (.getfield 262, 3) := by decide +kernel
theorem dX8_foretold_194 : decode cX8_foretold 194 = .ok (.goto 5, 3) := by decide +kernel
theorem dX8_foretold_197 : decode cX8_foretold 197 = .ok (.lload 11, 2) := by decide +kernel
theorem dX8_foretold_199 : decode cX8_foretold 199 = .ok (.lstore 11, 2) := by decide +kernel
theorem dX8_foretold_201 : decode cX8_foretold 201 = .ok (.aload_n 0, 1) := by decide +kernel
theorem dX8_foretold_202 : decode cX8_foretold 202 = .ok (.getfield 262, 3) := by decide +kernel
theorem dX8_foretold_205 : decode cX8_foretold 205 = .ok (.lload 13, 2) := by decide +kernel
theorem dX8_foretold_207 : decode cX8_foretold 207 = .ok (.lcmp, 1) := by decide +kernel
theorem dX8_foretold_208 : decode cX8_foretold 208 = .ok (.ifCond .le 10, 3) := by decide +kernel
theorem dX8_foretold_211 : decode cX8_foretold 211 = .ok (.aload_n 0, 1) := by decide +kernel
theorem dX8_foretold_212 : decode cX8_foretold 212 = .ok (.getfield 262, 3) := by decide +kernel
theorem dX8_foretold_215 : decode cX8_foretold 215 = .ok (.goto 5, 3) := by decide +kernel
theorem dX8_foretold_218 : decode cX8_foretold 218 = .ok (.lload 13, 2) := by decide +kernel
theorem dX8_foretold_220 : decode cX8_foretold 220 = .ok (.lstore 13, 2) := by decide +kernel
theorem dX8_foretold_222 : decode cX8_foretold 222 = .ok (.iinc 15 1, 3) := by decide +kernel
theorem dX8_foretold_225 : decode cX8_foretold 225 = .ok (.goto (-111), 3) := by decide +kernel
theorem dX8_foretold_228 : decode cX8_foretold 228 = .ok (.iload 6, 2) := by decide +kernel
theorem dX8_foretold_230 : decode cX8_foretold 230 = .ok (.ifCond .ne 8, 3) := by decide +kernel
theorem dX8_foretold_233 : decode cX8_foretold 233 = .ok (.lload 7, 2) := by decide +kernel
theorem dX8_foretold_235 : decode cX8_foretold 235 = .ok (.goto 27, 3) := by decide +kernel
theorem dX8_foretold_238 : decode cX8_foretold 238 = .ok (.iload 6, 2) := by decide +kernel
theorem dX8_foretold_240 : decode cX8_foretold 240 = .ok (.iconst 1, 1) := by decide +kernel
theorem dX8_foretold_241 : decode cX8_foretold 241 = .ok (.if_icmp .ne 8, 3) := by decide +kernel
theorem dX8_foretold_244 : decode cX8_foretold 244 = .ok (.lload 11, 2) := by decide +kernel
theorem dX8_foretold_246 : decode cX8_foretold 246 = .ok (.goto 16, 3) := by decide +kernel
theorem dX8_foretold_249 : decode cX8_foretold 249 = .ok (.iload 6, 2) := by decide +kernel
theorem dX8_foretold_251 : decode cX8_foretold 251 = .ok (.iconst 2, 1) := by decide +kernel
theorem dX8_foretold_252 : decode cX8_foretold 252 = .ok (.if_icmp .ne 8, 3) := by decide +kernel
theorem dX8_foretold_255 : decode cX8_foretold 255 = .ok (.lload 13, 2) := by decide +kernel
theorem dX8_foretold_257 : decode cX8_foretold 257 = .ok (.goto 5, 3) := by decide +kernel
theorem dX8_foretold_260 : decode cX8_foretold 260 = .ok (.lload 9, 2) := by decide +kernel
theorem dX8_foretold_262 : decode cX8_foretold 262 = .ok (.lreturn, 1) := by decide +kernel
def kX8_foretold (live : am_E) (Ret : am_R) : am_code := [(0, am_aload 0 1), (1, am_iload 1 2), (2, am_callV live 8 1 TX8_isPerson 5), (5, am_if1 (fun x => x = 0) 76 8), (8, am_iload 2 9), (9, am_i2l 10), (10, am_const (.long 0) 11), (11, am_const (.long 3) 14), (14, am_callS live 3 TX8_in 17), (17, am_if1 (fun x => x = 0) 76 20), (20, am_iload 3 21), (21, am_i2l 22), (22, am_const (.long 0) 23), (23, am_const (.long 10000000) 26), (26, am_callS live 3 TX8_in 29), (29, am_if1 (fun x => x = 0) 76 32), (32, am_iload 4 34), (34, am_callS live 1 TX8_isYear 37), (37, am_if1 (fun x => x = 0) 76 40), (40, am_iload 5 42), (42, am_i2l 43), (43, am_const (.long 1) 44), (44, am_const (.long 5) 47), (47, am_callS live 3 TX8_in 50), (50, am_if1 (fun x => x = 0) 76 53), (53, am_iload 4 55), (55, am_iload 5 57), (57, am_i2 (fun x y => x + y) 58), (58, am_const (.int 40) 60), (60, am_if2 (fun x y => y < x) 76 63), (63, am_iload 6 65), (65, am_i2l 66), (66, am_const (.long 0) 67), (67, am_const (.long 3) 70), (70, am_callS live 3 TX8_in 73), (73, am_if1 (fun x => x = 0) 76 80), (76, am_const (.long (-2)) 79), (79, am_retL Ret), (80, am_aload 0 81), (81, am_iload 1 82), (82, am_iload 4 84), (84, am_const (.int 1) 85), (85, am_i2 (fun x y => x - y) 86), (86, am_const (.int 39) 88), (88, am_callV live 8 3 TX8_run 91), (91, am_aload 0 92), (92, am_callV live 8 0 TX8_keep 95), (95, am_const (.long 0) 96), (96, am_lstore 7 18 98), (98, am_const (.long 0) 99), (99, am_lstore 9 18 101), (101, am_const (.long (-1)) 104), (104, am_lstore 11 18 106), (106, am_const (.long (-1)) 109), (109, am_lstore 13 18 111), (111, am_const (.int 0) 112), (112, am_istore 15 18 114), (114, am_iload 15 116), (116, am_const (.int 1) 117), (117, am_const (.int 2) 118), (118, am_iload 5 120), (120, am_const (.int 1) 121), (121, am_i2 (fun x y => x - y) 122), (122, am_i2 (fun x y => x * y) 123), (123, am_i2 (fun x y => x <<< (y &&& 31)) 124), (124, am_if2 (fun x y => y ≤ x) 228 127), (127, am_aload 0 128), (128, am_iload 1 129), (129, am_iload 2 130), (130, am_iload 15 132), (132, am_iload 3 133), (133, am_iload 4 135), (135, am_iload 5 137), (137, am_callV live 8 6 TX8_goWay 140), (140, am_lstore 16 18 142), (142, am_lload 16 144), (144, am_const (.long 0) 145), (145, am_lcmp 146), (146, am_if1 (fun x => x ≤ 0) 222 149), (149, am_lload 7 151), (151, am_lload 16 153), (153, am_aload 0 154), (154, am_getJ live 8 25 157), (157, am_l2 (fun x y => x * y) 158), (158, am_l2 (fun x y => x + y) 159), (159, am_lstore 7 18 161), (161, am_lload 9 163), (163, am_lload 16 165), (165, am_aload 0 166), (166, am_getJ live 8 26 169), (169, am_l2 (fun x y => x * y) 170), (170, am_l2 (fun x y => x + y) 171), (171, am_lstore 9 18 173), (173, am_lload 11 175), (175, am_const (.long 0) 176), (176, am_lcmp 177), (177, am_if1 (fun x => x < 0) 190 180), (180, am_aload 0 181), (181, am_getJ live 8 25 184), (184, am_lload 11 186), (186, am_lcmp 187), (187, am_if1 (fun x => 0 ≤ x) 197 190), (190, am_aload 0 191), (191, am_getJ live 8 25 194), (194, am_goto 199), (197, am_lload 11 199), (199, am_lstore 11 18 201), (201, am_aload 0 202), (202, am_getJ live 8 25 205), (205, am_lload 13 207), (207, am_lcmp 208), (208, am_if1 (fun x => x ≤ 0) 218 211), (211, am_aload 0 212), (212, am_getJ live 8 25 215), (215, am_goto 220), (218, am_lload 13 220), (220, am_lstore 13 18 222), (222, am_iinc 15 18 1 225), (225, am_goto 114), (228, am_iload 6 230), (230, am_if1 (fun x => x = 0) 233 238), (233, am_lload 7 235), (235, am_goto 262), (238, am_iload 6 240), (240, am_const (.int 1) 241), (241, am_if2 (fun x y => x = y) 244 249), (244, am_lload 11 246), (246, am_goto 262), (249, am_iload 6 251), (251, am_const (.int 2) 252), (252, am_if2 (fun x y => x = y) 255 260), (255, am_lload 13 257), (257, am_goto 262), (260, am_lload 9 262), (262, am_retL Ret)]
theorem koX8_foretold (live : am_E) (Ret : am_R) : ∀ q ∈ kX8_foretold live Ret, am_ok RX8 cX8_foretold 18 (some .long) 10 259 live Ret q.1 q.2 :=
  am_kc (ak_aload_n dX8_foretold_0 rfl rfl) <|
  am_kc (ak_iload_n dX8_foretold_1 rfl rfl) <|
  am_kc (ak_callV (C := RX8) (F := TX8) (N := 27) metX8_isPerson rfl ⟨rfl, by decide +kernel, by decide +kernel, by decide +kernel⟩ (am_w5 wd_993 wd_995 wd_27 wd_67 wd_996) (by decide) dX8_foretold_2 rfl) <|
  am_kc (ak_if_eq dX8_foretold_5 (by decide +kernel) rfl) <|
  am_kc (ak_iload_n dX8_foretold_8 rfl rfl) <|
  am_kc (ak_i2l dX8_foretold_9 rfl) <|
  am_kc (ak_lconst dX8_foretold_10 (by decide +kernel) rfl) <|
  am_kc (ak_ldc2 wd_997 dX8_foretold_11 rfl) <|
  am_kc (ak_callS metX8_in ⟨rfl, by decide +kernel, by decide +kernel, by decide +kernel⟩ (am_w4 wd_986 wd_987 wd_67 wd_988) (by decide) dX8_foretold_14 rfl) <|
  am_kc (ak_if_eq dX8_foretold_17 (by decide +kernel) rfl) <|
  am_kc (ak_iload_n dX8_foretold_20 rfl rfl) <|
  am_kc (ak_i2l dX8_foretold_21 rfl) <|
  am_kc (ak_lconst dX8_foretold_22 (by decide +kernel) rfl) <|
  am_kc (ak_ldc2 wd_1017 dX8_foretold_23 rfl) <|
  am_kc (ak_callS metX8_in ⟨rfl, by decide +kernel, by decide +kernel, by decide +kernel⟩ (am_w4 wd_986 wd_987 wd_67 wd_988) (by decide) dX8_foretold_26 rfl) <|
  am_kc (ak_if_eq dX8_foretold_29 (by decide +kernel) rfl) <|
  am_kc (ak_iload dX8_foretold_32 rfl) <|
  am_kc (ak_callS metX8_isYear ⟨rfl, by decide +kernel, by decide +kernel, by decide +kernel⟩ (am_w4 wd_982 wd_983 wd_67 wd_984) (by decide) dX8_foretold_34 rfl) <|
  am_kc (ak_if_eq dX8_foretold_37 (by decide +kernel) rfl) <|
  am_kc (ak_iload dX8_foretold_40 rfl) <|
  am_kc (ak_i2l dX8_foretold_42 rfl) <|
  am_kc (ak_lconst dX8_foretold_43 (by decide +kernel) rfl) <|
  am_kc (ak_ldc2 wd_1041 dX8_foretold_44 rfl) <|
  am_kc (ak_callS metX8_in ⟨rfl, by decide +kernel, by decide +kernel, by decide +kernel⟩ (am_w4 wd_986 wd_987 wd_67 wd_988) (by decide) dX8_foretold_47 rfl) <|
  am_kc (ak_if_eq dX8_foretold_50 (by decide +kernel) rfl) <|
  am_kc (ak_iload dX8_foretold_53 rfl) <|
  am_kc (ak_iload dX8_foretold_55 rfl) <|
  am_kc (ak_iadd dX8_foretold_57 rfl) <|
  am_kc (ak_bipush dX8_foretold_58 (by decide +kernel) rfl) <|
  am_kc (ak_icmp_gt dX8_foretold_60 (by decide +kernel) rfl) <|
  am_kc (ak_iload dX8_foretold_63 rfl) <|
  am_kc (ak_i2l dX8_foretold_65 rfl) <|
  am_kc (ak_lconst dX8_foretold_66 (by decide +kernel) rfl) <|
  am_kc (ak_ldc2 wd_997 dX8_foretold_67 rfl) <|
  am_kc (ak_callS metX8_in ⟨rfl, by decide +kernel, by decide +kernel, by decide +kernel⟩ (am_w4 wd_986 wd_987 wd_67 wd_988) (by decide) dX8_foretold_70 rfl) <|
  am_kc (ak_if_ne dX8_foretold_73 (by decide +kernel) rfl) <|
  am_kc (ak_ldc2 wd_1153 dX8_foretold_76 rfl) <|
  am_kc (ak_retL dX8_foretold_79) <|
  am_kc (ak_aload_n dX8_foretold_80 rfl rfl) <|
  am_kc (ak_iload_n dX8_foretold_81 rfl rfl) <|
  am_kc (ak_iload dX8_foretold_82 rfl) <|
  am_kc (ak_iconst dX8_foretold_84 (by decide +kernel) rfl) <|
  am_kc (ak_isub dX8_foretold_85 rfl) <|
  am_kc (ak_bipush dX8_foretold_86 (by decide +kernel) rfl) <|
  am_kc (ak_callV (C := RX8) (F := TX8) (N := 27) metX8_run rfl ⟨rfl, by decide +kernel, by decide +kernel, by decide +kernel⟩ (am_w5 wd_1158 wd_1160 wd_42 wd_67 wd_1161) (by decide) dX8_foretold_88 rfl) <|
  am_kc (ak_aload_n dX8_foretold_91 rfl rfl) <|
  am_kc (ak_callV (C := RX8) (F := TX8) (N := 27) metX8_keep rfl ⟨rfl, by decide +kernel, by decide +kernel, by decide +kernel⟩ (am_w5 wd_1249 wd_1251 wd_52 wd_67 wd_1252) (by decide) dX8_foretold_92 rfl) <|
  am_kc (ak_lconst dX8_foretold_95 (by decide +kernel) rfl) <|
  am_kc (ak_lstore dX8_foretold_96 rfl) <|
  am_kc (ak_lconst dX8_foretold_98 (by decide +kernel) rfl) <|
  am_kc (ak_lstore dX8_foretold_99 rfl) <|
  am_kc (ak_ldc2 wd_1253 dX8_foretold_101 rfl) <|
  am_kc (ak_lstore dX8_foretold_104 rfl) <|
  am_kc (ak_ldc2 wd_1253 dX8_foretold_106 rfl) <|
  am_kc (ak_lstore dX8_foretold_109 rfl) <|
  am_kc (ak_iconst dX8_foretold_111 (by decide +kernel) rfl) <|
  am_kc (ak_istore dX8_foretold_112 rfl) <|
  am_kc (ak_iload dX8_foretold_114 rfl) <|
  am_kc (ak_iconst dX8_foretold_116 (by decide +kernel) rfl) <|
  am_kc (ak_iconst dX8_foretold_117 (by decide +kernel) rfl) <|
  am_kc (ak_iload dX8_foretold_118 rfl) <|
  am_kc (ak_iconst dX8_foretold_120 (by decide +kernel) rfl) <|
  am_kc (ak_isub dX8_foretold_121 rfl) <|
  am_kc (ak_imul dX8_foretold_122 rfl) <|
  am_kc (ak_ishl dX8_foretold_123 rfl) <|
  am_kc (ak_icmp_ge dX8_foretold_124 (by decide +kernel) rfl) <|
  am_kc (ak_aload_n dX8_foretold_127 rfl rfl) <|
  am_kc (ak_iload_n dX8_foretold_128 rfl rfl) <|
  am_kc (ak_iload_n dX8_foretold_129 rfl rfl) <|
  am_kc (ak_iload dX8_foretold_130 rfl) <|
  am_kc (ak_iload_n dX8_foretold_132 rfl rfl) <|
  am_kc (ak_iload dX8_foretold_133 rfl) <|
  am_kc (ak_iload dX8_foretold_135 rfl) <|
  am_kc (ak_callV (C := RX8) (F := TX8) (N := 27) metX8_goWay rfl ⟨rfl, by decide +kernel, by decide +kernel, by decide +kernel⟩ (am_w5 wd_1254 wd_1256 wd_53 wd_67 wd_1257) (by decide) dX8_foretold_137 rfl) <|
  am_kc (ak_lstore dX8_foretold_140 rfl) <|
  am_kc (ak_lload dX8_foretold_142 rfl) <|
  am_kc (ak_lconst dX8_foretold_144 (by decide +kernel) rfl) <|
  am_kc (ak_lcmp dX8_foretold_145 rfl) <|
  am_kc (ak_if_le dX8_foretold_146 (by decide +kernel) rfl) <|
  am_kc (ak_lload dX8_foretold_149 rfl) <|
  am_kc (ak_lload dX8_foretold_151 rfl) <|
  am_kc (ak_aload_n dX8_foretold_153 rfl rfl) <|
  am_kc (ak_getJ (C := RX8) (T := TX8) (N := 27) rfl inX8w (by decide) rfl rfl rfl wd_920 dX8_foretold_154 rfl) <|
  am_kc (ak_lmul dX8_foretold_157 rfl) <|
  am_kc (ak_ladd dX8_foretold_158 rfl) <|
  am_kc (ak_lstore dX8_foretold_159 rfl) <|
  am_kc (ak_lload dX8_foretold_161 rfl) <|
  am_kc (ak_lload dX8_foretold_163 rfl) <|
  am_kc (ak_aload_n dX8_foretold_165 rfl rfl) <|
  am_kc (ak_getJ (C := RX8) (T := TX8) (N := 27) rfl inX8w (by decide) rfl rfl rfl wd_921 dX8_foretold_166 rfl) <|
  am_kc (ak_lmul dX8_foretold_169 rfl) <|
  am_kc (ak_ladd dX8_foretold_170 rfl) <|
  am_kc (ak_lstore dX8_foretold_171 rfl) <|
  am_kc (ak_lload dX8_foretold_173 rfl) <|
  am_kc (ak_lconst dX8_foretold_175 (by decide +kernel) rfl) <|
  am_kc (ak_lcmp dX8_foretold_176 rfl) <|
  am_kc (ak_if_lt dX8_foretold_177 (by decide +kernel) rfl) <|
  am_kc (ak_aload_n dX8_foretold_180 rfl rfl) <|
  am_kc (ak_getJ (C := RX8) (T := TX8) (N := 27) rfl inX8w (by decide) rfl rfl rfl wd_920 dX8_foretold_181 rfl) <|
  am_kc (ak_lload dX8_foretold_184 rfl) <|
  am_kc (ak_lcmp dX8_foretold_186 rfl) <|
  am_kc (ak_if_ge dX8_foretold_187 (by decide +kernel) rfl) <|
  am_kc (ak_aload_n dX8_foretold_190 rfl rfl) <|
  am_kc (ak_getJ (C := RX8) (T := TX8) (N := 27) rfl inX8w (by decide) rfl rfl rfl wd_920 dX8_foretold_191 rfl) <|
  am_kc (ak_goto dX8_foretold_194 (by decide +kernel)) <|
  am_kc (ak_lload dX8_foretold_197 rfl) <|
  am_kc (ak_lstore dX8_foretold_199 rfl) <|
  am_kc (ak_aload_n dX8_foretold_201 rfl rfl) <|
  am_kc (ak_getJ (C := RX8) (T := TX8) (N := 27) rfl inX8w (by decide) rfl rfl rfl wd_920 dX8_foretold_202 rfl) <|
  am_kc (ak_lload dX8_foretold_205 rfl) <|
  am_kc (ak_lcmp dX8_foretold_207 rfl) <|
  am_kc (ak_if_le dX8_foretold_208 (by decide +kernel) rfl) <|
  am_kc (ak_aload_n dX8_foretold_211 rfl rfl) <|
  am_kc (ak_getJ (C := RX8) (T := TX8) (N := 27) rfl inX8w (by decide) rfl rfl rfl wd_920 dX8_foretold_212 rfl) <|
  am_kc (ak_goto dX8_foretold_215 (by decide +kernel)) <|
  am_kc (ak_lload dX8_foretold_218 rfl) <|
  am_kc (ak_lstore dX8_foretold_220 rfl) <|
  am_kc (ak_iinc dX8_foretold_222 (by decide +kernel) rfl) <|
  am_kc (ak_goto dX8_foretold_225 (by decide +kernel)) <|
  am_kc (ak_iload dX8_foretold_228 rfl) <|
  am_kc (ak_if_ne dX8_foretold_230 (by decide +kernel) rfl) <|
  am_kc (ak_lload dX8_foretold_233 rfl) <|
  am_kc (ak_goto dX8_foretold_235 (by decide +kernel)) <|
  am_kc (ak_iload dX8_foretold_238 rfl) <|
  am_kc (ak_iconst dX8_foretold_240 (by decide +kernel) rfl) <|
  am_kc (ak_icmp_ne dX8_foretold_241 (by decide +kernel) rfl) <|
  am_kc (ak_lload dX8_foretold_244 rfl) <|
  am_kc (ak_goto dX8_foretold_246 (by decide +kernel)) <|
  am_kc (ak_iload dX8_foretold_249 rfl) <|
  am_kc (ak_iconst dX8_foretold_251 (by decide +kernel) rfl) <|
  am_kc (ak_icmp_ne dX8_foretold_252 (by decide +kernel) rfl) <|
  am_kc (ak_lload dX8_foretold_255 rfl) <|
  am_kc (ak_goto dX8_foretold_257 (by decide +kernel)) <|
  am_kc (ak_lload dX8_foretold_260 rfl) <|
  am_kc (ak_retL dX8_foretold_262) <| am_kn
def TX8_foretold : am_T := fun live as M R => match as with
  | [.ref n, .int p, .int s, .int c, .int y, .int w, .int k] => am_mn live ∧ n = 200 ∧ r_I M ∧ ∀ v M', r_sc M M' → r_I M' → R (some (.long v)) M'
  | _ => False
def JX8_foretold : am_E → List Value → am_M → am_R → am_inv := fun live as M0 _ pc => match as with
  | [.ref n, .int p, .int s, .int c, .int y, .int w, .int k] => (match pc with
    | 114 => some ([0, 1, 2, 3, 4, 5, 6, 7, 9, 11, 13, 15], fun u L st M => ∃ (a b d e : Int64) (i : Int32), L = [(0, .ref 200), (1, .int p), (2, .int s), (3, .int c), (4, .int y), (5, .int w), (6, .int k), (7, .long a), (9, .long b), (11, .long d), (13, .long e), (15, .int i)] ∧ st = [] ∧ u = ((1000 - i.toInt).toNat, 9) ∧ 0 ≤ i.toInt ∧ (am_in p 12 ∧ am_in s 4 ∧ (0 ≤ y.toInt ∧ y.toInt + w.toInt ≤ 40) ∧ 1 ≤ w.toInt ∧ w.toInt ≤ 5) ∧ r_sc M0 M ∧ r_I M)
    | _ => none)
  | _ => none
set_option maxRecDepth 100000 in
set_option maxHeartbeats 4000000 in
theorem metX8_foretold : am_Met yX8_foretold cX8_foretold 18 (some .long) (10) (259) TX8_foretold := by
  refine am_met (own := RX8) (by decide +kernel) rfl kX8_foretold koX8_foretold 150 JX8_foretold ?_ ?_
  · intro live as M Ret h
    unfold TX8_foretold at h
    split at h
    · next n p s c y w k =>
      refine ⟨Nat.le_of_ble_eq_true rfl, ?_⟩
      change am_wp _ _ _ _ [(0, Value.ref n), (1, Value.int p), (2, Value.int s), (3, Value.int c), (4, Value.int y), (5, Value.int w), (6, Value.int k)] _ _
      obtain ⟨hmn, rfl, hR, h⟩ := h
      have hmn2 := hmn
      obtain ⟨i1, i2, rfl⟩ := hmn2
      have l201 : am_len 201 = 3760 := rfl
      have n0 := hR.n0
      have n1 := hR.n1
      have n030 : 0 ≤ (M.1 201 0).toInt ∧ (M.1 201 0).toInt ≤ 30 := ⟨n0.1, by omega⟩
      by_cases z0 : 0 ≤ p ∧ p < M.1 201 0
      rotate_left
      · skip
        have q0 : (if 0 ≤ p ∧ p < M.1 201 0 then (1 : Int32) else 0) = 0 := if_neg z0
        repeat' (first | (with_reducible exact hmn) | (with_reducible exact n030) | (with_reducible exact n1) | apply And.intro | exact rfl | (intro hx; with_reducible exact absurd q0 hx) | (intro hx; exact absurd hx (by decide)) | (intro hx; exact absurd (by decide) hx) | decide | intro hx | (refine Exists.intro _ (And.intro rfl ?_)))
        all_goals try first | (with_reducible change am_tI _ _) | (change Ret _ _) | (change Ret _ _ _) | (change Exists _)
        all_goals try dsimp only at *
        all_goals try exact absurd ‹(1000 : Int64) = 0› (by decide)
        all_goals exact h _ _ r_sc.rf hR
      · skip
        have q0 : ¬ ((if 0 ≤ p ∧ p < M.1 201 0 then (1 : Int32) else 0) = 0) := by rw [if_pos z0]; decide
        by_cases z1 : 0 ≤ s ∧ s ≤ 3
        rotate_left
        · skip
          have q1 : (if (0 : Int64) ≤ s.toInt64 ∧ s.toInt64 ≤ (3 : Int64) then (1 : Int32) else 0) = 0 := if_neg (fun r => z1 (by simp only [i_le, i_lt, j_le, Int32.toInt_toInt64, Int32.reduceToInt, Int64.reduceToInt] at r ⊢; omega))
          repeat' (first | (with_reducible exact hmn) | (with_reducible exact n030) | (with_reducible exact n1) | apply And.intro | exact rfl | (intro hx; with_reducible exact absurd hx q0) | (intro hx; with_reducible exact absurd q1 hx) | (intro hx; exact absurd hx (by decide)) | (intro hx; exact absurd (by decide) hx) | decide | intro hx | (refine Exists.intro _ (And.intro rfl ?_)))
          all_goals try first | (with_reducible change am_tI _ _) | (change Ret _ _) | (change Ret _ _ _) | (change Exists _)
          all_goals try dsimp only at *
          all_goals try exact absurd ‹(1000 : Int64) = 0› (by decide)
          all_goals exact h _ _ r_sc.rf hR
        · skip
          have q1 : ¬ ((if (0 : Int64) ≤ s.toInt64 ∧ s.toInt64 ≤ (3 : Int64) then (1 : Int32) else 0) = 0) := by rw [if_pos (by have q := z1; simp only [i_le, i_lt, j_le, Int32.toInt_toInt64, Int32.reduceToInt, Int64.reduceToInt] at q ⊢; omega)]; decide
          by_cases z2 : 0 ≤ c ∧ c ≤ 10000000
          rotate_left
          · skip
            have q2 : (if (0 : Int64) ≤ c.toInt64 ∧ c.toInt64 ≤ (10000000 : Int64) then (1 : Int32) else 0) = 0 := if_neg (fun r => z2 (by simp only [i_le, i_lt, j_le, Int32.toInt_toInt64, Int32.reduceToInt, Int64.reduceToInt] at r ⊢; omega))
            repeat' (first | (with_reducible exact hmn) | (with_reducible exact n030) | (with_reducible exact n1) | apply And.intro | exact rfl | (intro hx; with_reducible exact absurd hx q0) | (intro hx; with_reducible exact absurd hx q1) | (intro hx; with_reducible exact absurd q2 hx) | (intro hx; exact absurd hx (by decide)) | (intro hx; exact absurd (by decide) hx) | decide | intro hx | (refine Exists.intro _ (And.intro rfl ?_)))
            all_goals try first | (with_reducible change am_tI _ _) | (change Ret _ _) | (change Ret _ _ _) | (change Exists _)
            all_goals try dsimp only at *
            all_goals try exact absurd ‹(1000 : Int64) = 0› (by decide)
            all_goals exact h _ _ r_sc.rf hR
          · skip
            have q2 : ¬ ((if (0 : Int64) ≤ c.toInt64 ∧ c.toInt64 ≤ (10000000 : Int64) then (1 : Int32) else 0) = 0) := by rw [if_pos (by have q := z2; simp only [i_le, i_lt, j_le, Int32.toInt_toInt64, Int32.reduceToInt, Int64.reduceToInt] at q ⊢; omega)]; decide
            by_cases z3 : 0 ≤ y ∧ y < 40
            rotate_left
            · skip
              have q3 : (if 0 ≤ y ∧ y < 40 then (1 : Int32) else 0) = 0 := if_neg z3
              repeat' (first | (with_reducible exact hmn) | (with_reducible exact n030) | (with_reducible exact n1) | apply And.intro | exact rfl | (intro hx; with_reducible exact absurd hx q0) | (intro hx; with_reducible exact absurd hx q1) | (intro hx; with_reducible exact absurd hx q2) | (intro hx; with_reducible exact absurd q3 hx) | (intro hx; exact absurd hx (by decide)) | (intro hx; exact absurd (by decide) hx) | decide | intro hx | (refine Exists.intro _ (And.intro rfl ?_)))
              all_goals try first | (with_reducible change am_tI _ _) | (change Ret _ _) | (change Ret _ _ _) | (change Exists _)
              all_goals try dsimp only at *
              all_goals try exact absurd ‹(1000 : Int64) = 0› (by decide)
              all_goals exact h _ _ r_sc.rf hR
            · skip
              have q3 : ¬ ((if 0 ≤ y ∧ y < 40 then (1 : Int32) else 0) = 0) := by rw [if_pos z3]; decide
              by_cases z4 : 1 ≤ w ∧ w ≤ 5
              rotate_left
              · skip
                have q4 : (if (1 : Int64) ≤ w.toInt64 ∧ w.toInt64 ≤ (5 : Int64) then (1 : Int32) else 0) = 0 := if_neg (fun r => z4 (by simp only [i_le, i_lt, j_le, Int32.toInt_toInt64, Int32.reduceToInt, Int64.reduceToInt] at r ⊢; omega))
                repeat' (first | (with_reducible exact hmn) | (with_reducible exact n030) | (with_reducible exact n1) | apply And.intro | exact rfl | (intro hx; with_reducible exact absurd hx q0) | (intro hx; with_reducible exact absurd hx q1) | (intro hx; with_reducible exact absurd hx q2) | (intro hx; with_reducible exact absurd hx q3) | (intro hx; with_reducible exact absurd q4 hx) | (intro hx; exact absurd hx (by decide)) | (intro hx; exact absurd (by decide) hx) | decide | intro hx | (refine Exists.intro _ (And.intro rfl ?_)))
                all_goals try first | (with_reducible change am_tI _ _) | (change Ret _ _) | (change Ret _ _ _) | (change Exists _)
                all_goals try dsimp only at *
                all_goals try exact absurd ‹(1000 : Int64) = 0› (by decide)
                all_goals exact h _ _ r_sc.rf hR
              · skip
                have q4 : ¬ ((if (1 : Int64) ≤ w.toInt64 ∧ w.toInt64 ≤ (5 : Int64) then (1 : Int32) else 0) = 0) := by rw [if_pos (by have q := z4; simp only [i_le, i_lt, j_le, Int32.toInt_toInt64, Int32.reduceToInt, Int64.reduceToInt] at q ⊢; omega)]; decide
                have hy2 : 0 ≤ y.toInt ∧ y.toInt < 40 := ⟨by have q := z3.1; simp only [i_le, Int32.reduceToInt] at q; omega, by have q := z3.2; simp only [i_lt, Int32.reduceToInt] at q; omega⟩
                have hw2 : 1 ≤ w.toInt ∧ w.toInt ≤ 5 := ⟨by have q := z4.1; simp only [i_le, Int32.reduceToInt] at q; omega, by have q := z4.2; simp only [i_le, Int32.reduceToInt] at q; omega⟩
                have eyw := i_add (x := y) (y := w) (by omega) (by omega)
                by_cases z5 : y + w ≤ 40
                rotate_left
                · skip
                  have y5 : (40 : Int32) < y + w := Int32.not_le.mp z5
                  repeat' (first | (with_reducible exact hmn) | (with_reducible exact n030) | (with_reducible exact n1) | apply And.intro | exact rfl | (intro hx; with_reducible exact absurd hx q0) | (intro hx; with_reducible exact absurd hx q1) | (intro hx; with_reducible exact absurd hx q2) | (intro hx; with_reducible exact absurd hx q3) | (intro hx; with_reducible exact absurd hx q4) | (intro hx; with_reducible exact absurd hx z5) | (intro hx; with_reducible exact absurd y5 hx) | (intro hx; exact absurd hx (by decide)) | (intro hx; exact absurd (by decide) hx) | decide | intro hx | (refine Exists.intro _ (And.intro rfl ?_)))
                  all_goals try first | (with_reducible change am_tI _ _) | (change Ret _ _) | (change Ret _ _ _) | (change Exists _)
                  all_goals try dsimp only at *
                  all_goals try exact absurd ‹(1000 : Int64) = 0› (by decide)
                  all_goals exact h _ _ r_sc.rf hR
                · skip
                  have y5 : ¬ (40 : Int32) < y + w := Int32.not_lt.mpr z5
                  by_cases z6 : 0 ≤ k ∧ k ≤ 3
                  rotate_left
                  · skip
                    have q6 : (if (0 : Int64) ≤ k.toInt64 ∧ k.toInt64 ≤ (3 : Int64) then (1 : Int32) else 0) = 0 := if_neg (fun r => z6 (by simp only [i_le, i_lt, j_le, Int32.toInt_toInt64, Int32.reduceToInt, Int64.reduceToInt] at r ⊢; omega))
                    repeat' (first | (with_reducible exact hmn) | (with_reducible exact n030) | (with_reducible exact n1) | apply And.intro | exact rfl | (intro hx; with_reducible exact absurd hx q0) | (intro hx; with_reducible exact absurd hx q1) | (intro hx; with_reducible exact absurd hx q2) | (intro hx; with_reducible exact absurd hx q3) | (intro hx; with_reducible exact absurd hx q4) | (intro hx; with_reducible exact absurd hx y5) | (intro hx; with_reducible exact absurd z5 hx) | (intro hx; with_reducible exact absurd q6 hx) | (intro hx; exact absurd hx (by decide)) | (intro hx; exact absurd (by decide) hx) | decide | intro hx | (refine Exists.intro _ (And.intro rfl ?_)))
                    all_goals try first | (with_reducible change am_tI _ _) | (change Ret _ _) | (change Ret _ _ _) | (change Exists _)
                    all_goals try dsimp only at *
                    all_goals try exact absurd ‹(1000 : Int64) = 0› (by decide)
                    all_goals exact h _ _ r_sc.rf hR
                  · skip
                    have q6 : ¬ ((if (0 : Int64) ≤ k.toInt64 ∧ k.toInt64 ≤ (3 : Int64) then (1 : Int32) else 0) = 0) := by rw [if_pos (by have q := z6; simp only [i_le, i_lt, j_le, Int32.toInt_toInt64, Int32.reduceToInt, Int64.reduceToInt] at q ⊢; omega)]; decide
                    have hp : am_in p 12 := ⟨by have q := z0.1; simp only [i_le, Int32.reduceToInt] at q; omega, by have q := z0.2; simp only [i_lt] at q; omega⟩
                    have hs : am_in s 4 := ⟨by have q := z1.1; simp only [i_le, Int32.reduceToInt] at q; omega, by have q := z1.2; simp only [i_le, Int32.reduceToInt] at q; omega⟩
                    have hyw : y.toInt + w.toInt ≤ 40 := by have q := z5; simp only [i_le, Int32.reduceToInt] at q; omega
                    have hy : am_in y 40 := ⟨by have q := z3.1; simp only [i_le, Int32.reduceToInt] at q; omega, by have q := z3.2; simp only [i_lt, Int32.reduceToInt] at q; omega⟩
                    have em := i_sub (x := y) (y := 1) (by simp only [Int32.reduceToInt]; have := hy.1; omega) (by simp only [Int32.reduceToInt]; have := hy.2; omega)
                    simp only [Int32.reduceToInt] at em
                    have ym : (y - 1).toInt ≤ 39 := by have q := hy.2; omega
                    repeat' (first | (with_reducible exact hmn) | (with_reducible exact hR) | (with_reducible exact n030) | (with_reducible exact n1) | (with_reducible exact hp) | (with_reducible exact ym) | apply And.intro | exact rfl | (intro hx; with_reducible exact absurd hx q0) | (intro hx; with_reducible exact absurd hx q1) | (intro hx; with_reducible exact absurd hx q2) | (intro hx; with_reducible exact absurd hx q3) | (intro hx; with_reducible exact absurd hx q4) | (intro hx; with_reducible exact absurd hx y5) | (intro hx; with_reducible exact absurd hx q6) | (intro hx; with_reducible exact absurd z5 hx) | ((with_reducible change r_I _); (with_reducible assumption)) | (intro hx; exact absurd hx (by decide)) | (intro hx; exact absurd (by decide) hx) | decide | intro hx | (refine Exists.intro _ (And.intro rfl ?_)))
                    all_goals try first | (with_reducible change am_tI _ _) | (change Ret _ _) | (change Ret _ _ _) | (change Exists _)
                    all_goals try dsimp only at *
                    all_goals try exact absurd ‹(1000 : Int64) = 0› (by decide)
                    all_goals first | exact ⟨_, _, _, _, _, _, rfl, rfl, rfl, by decide, ⟨hp, hs, ⟨hy2.1, hyw⟩, hw2.1, hw2.2⟩, by (repeat' (first | (with_reducible exact r_sc.rf) | (with_reducible assumption) | ((with_reducible change r_sc _ (am_wI _ _ _ _)); refine r_sc.wI ?_ rfl) | ((with_reducible change r_sc _ (am_wJ _ _ _ _)); refine r_sc.wJ ?_ rfl) | (refine r_sc.tr ?_ (by with_reducible assumption)))), by (repeat' (first | (with_reducible assumption) | ((with_reducible change r_I (am_wJ _ _ _ _)); refine r_I.wJ ?_) | ((with_reducible change r_I (am_wI _ _ _ _)); refine r_I.wI ?_ rfl)))⟩ | (change r_I _; (repeat' (first | (with_reducible assumption) | ((with_reducible change r_I (am_wJ _ _ _ _)); refine r_I.wJ ?_) | ((with_reducible change r_I (am_wI _ _ _ _)); refine r_I.wI ?_ rfl)))) | ((with_reducible change Ret _ _); exact h _ _ (by (repeat' (first | (with_reducible exact r_sc.rf) | (with_reducible assumption) | ((with_reducible change r_sc _ (am_wI _ _ _ _)); refine r_sc.wI ?_ rfl) | ((with_reducible change r_sc _ (am_wJ _ _ _ _)); refine r_sc.wJ ?_ rfl) | (refine r_sc.tr ?_ (by with_reducible assumption))))) (by (repeat' (first | (with_reducible assumption) | ((with_reducible change r_I (am_wJ _ _ _ _)); refine r_I.wJ ?_) | ((with_reducible change r_I (am_wI _ _ _ _)); refine r_I.wI ?_ rfl))))) | skip
    · exact h.elim
  · intro live as M0 Ret h k pc I hI L st M hi
    unfold TX8_foretold at h
    split at h
    · next n p s c y w k =>
      obtain ⟨hmn, rfl, hR, h⟩ := h
      have hmn2 := hmn
      obtain ⟨i1, i2, rfl⟩ := hmn2
      have l201 : am_len 201 = 3760 := rfl
      change (match pc with | 114 => _ | _ => none) = _ at hI
      split at hI
      · cases hI
        obtain ⟨a, b, d, e, i, rfl, rfl, rfl, e1, ⟨hp, hs, hy, hw1, hw2⟩, e2, e3⟩ := hi
        have hb : (1 <<< ((2 * (w - 1)) &&& 31) : Int32).toInt ≤ 256 := by
          have hc : w = 1 ∨ w = 2 ∨ w = 3 ∨ w = 4 ∨ w = 5 := by simp only [i_eq, Int32.reduceToInt]; omega
          rcases hc with rfl | rfl | rfl | rfl | rfl <;> decide
        by_cases hz : 1 <<< ((2 * (w - 1)) &&& 31) ≤ i
        · skip
          repeat' (first | (with_reducible exact hmn) | apply And.intro | exact rfl | (intro hx; with_reducible exact absurd hz hx) | intro hx | (refine Exists.intro _ (And.intro rfl ?_)))
          all_goals try first | (with_reducible change am_tI _ _) | (change Ret _ _) | (change Ret _ _ _) | (change Exists _)
          all_goals try dsimp only at *
          all_goals try exact absurd ‹(1000 : Int64) = 0› (by decide)
          all_goals exact h _ _ e2 e3
        · have hz2 := hz
          simp only [i_le] at hz2
          have hi := i_inc (x := i) (by omega) (by omega)
          have hw : 0 ≤ i.toInt ∧ i.toInt ≤ 1000 := ⟨e1, by omega⟩
          repeat' (first | (with_reducible exact hmn) | (with_reducible exact hp) | (with_reducible exact hs) | (with_reducible exact hw) | (with_reducible exact hy) | (with_reducible exact e3) | apply And.intro | exact rfl | (intro hx; with_reducible exact absurd hx hz) | ((with_reducible change r_I _); (with_reducible assumption)) | intro hx | (refine Exists.intro _ (And.intro rfl ?_)))
          all_goals try first | (with_reducible change am_tI _ _) | (change Ret _ _) | (change Ret _ _ _) | (change Exists _)
          all_goals try dsimp only at *
          all_goals try exact absurd ‹(1000 : Int64) = 0› (by decide)
          all_goals exact ⟨_, am_lt_l (by omega), _, _, _, _, _, rfl, rfl, rfl, by omega, ⟨hp, hs, hy, hw1, hw2⟩, by (repeat' (first | (with_reducible exact r_sc.rf) | (with_reducible assumption) | ((with_reducible change r_sc _ (am_wI _ _ _ _)); refine r_sc.wI ?_ rfl) | ((with_reducible change r_sc _ (am_wJ _ _ _ _)); refine r_sc.wJ ?_ rfl) | (refine r_sc.tr ?_ (by with_reducible assumption)))), by (repeat' (first | (with_reducible assumption) | ((with_reducible change r_I (am_wJ _ _ _ _)); refine r_I.wJ ?_) | ((with_reducible change r_I (am_wI _ _ _ _)); refine r_I.wI ?_ rfl)))⟩
      · cases hI
    · exact h.elim
set_option maxRecDepth 100000 in
theorem wd_1286 : Cond.methodLink "LearnLoansModel" 284 yX8_far ∈ am_ws := am_wsi (List.mem_of_getElem? (i := 1286) (by rfl)) (by decide +kernel)
set_option maxRecDepth 100000 in
theorem wd_1287 : Cond.static yX8_far ∈ am_ws := am_wsi (List.mem_of_getElem? (i := 1287) (by rfl)) (by decide +kernel)
set_option maxRecDepth 100000 in
theorem wd_1288 : Cond.code yX8_far cX8_far 2 (some .int) ∈ am_ws := am_wsi (List.mem_of_getElem? (i := 1288) (by rfl)) (by decide +kernel)
theorem dX8_best_0 : decode cX8_best 0 = .ok (.iload_n 1, 1) := by decide +kernel
theorem dX8_best_1 : decode cX8_best 1 = .ok (.invokestatic 104, 3) := by decide +kernel
theorem dX8_best_4 : decode cX8_best 4 = .ok (.ifCond .eq 34, 3) := by decide +kernel
theorem dX8_best_7 : decode cX8_best 7 = .ok (.iload_n 2, 1) := by decide +kernel
theorem dX8_best_8 : decode cX8_best 8 = .ok (.invokestatic 107, 3) := by decide +kernel
theorem dX8_best_11 : decode cX8_best 11 = .ok (.ifCond .eq 27, 3) := by decide +kernel
theorem dX8_best_14 : decode cX8_best 14 = .ok (.iload_n 3, 1) := by decide +kernel
theorem dX8_best_15 : decode cX8_best 15 = .ok (.invokestatic 72, 3) := by decide +kernel
theorem dX8_best_18 : decode cX8_best 18 = .ok (.ifCond .eq 20, 3) := by decide +kernel
theorem dX8_best_21 : decode cX8_best 21 = .ok (.iload 4, 2) := by decide +kernel
theorem dX8_best_23 : decode cX8_best 23 = .ok (.invokestatic 72, 3) := by decide +kernel
theorem dX8_best_26 : decode cX8_best 26 = .ok (.ifCond .eq 12, 3) := by decide +kernel
theorem dX8_best_29 : decode cX8_best 29 = .ok (.aload_n 0, 1) := by decide +kernel
theorem dX8_best_30 : decode cX8_best 30 = .ok (.iload 5, 2) := by decide +kernel
theorem dX8_best_32 : decode cX8_best 32 = .ok (.invokevirtual 76, 3) := by decide +kernel
theorem dX8_best_35 : decode cX8_best 35 = .ok (.ifCond .ne 6, 3) := by decide +kernel
theorem dX8_best_38 : decode cX8_best 38 = .ok (.bipush (-2), 2) := by decide +kernel
theorem dX8_best_40 : decode cX8_best 40 = .ok (.ireturn, 1) := by decide +kernel
theorem dX8_best_41 : decode cX8_best 41 = .ok (.aload_n 0, 1) := by decide +kernel
theorem dX8_best_42 : decode cX8_best 42 = .ok (.iload_n 1, 1) := by decide +kernel
theorem dX8_best_43 : decode cX8_best 43 = .ok (.iload_n 2, 1) := by decide +kernel
theorem dX8_best_44 : decode cX8_best 44 = .ok (.iload 5, 2) := by decide +kernel
theorem dX8_best_46 : decode cX8_best 46 = .ok (.iload 4, 2) := by decide +kernel
theorem dX8_best_48 : decode cX8_best 48 = .ok (.invokevirtual 127, 3) := by decide +kernel
theorem dX8_best_51 : decode cX8_best 51 = .ok (.istore 8, 2) := by decide +kernel
theorem dX8_best_53 : decode cX8_best 53 = .ok (.iconst (-1), 1) := by decide +kernel
theorem dX8_best_54 : decode cX8_best 54 = .ok (.istore 9, 2) := by decide +kernel
theorem dX8_best_56 : decode cX8_best 56 = .ok (.iconst 0, 1) := by decide +kernel
theorem dX8_best_57 : decode cX8_best 57 = .ok (.istore 10, 2) := by decide +kernel
theorem dX8_best_59 : decode cX8_best 59 = .ok (.iload 10, 2) := by decide +kernel
theorem dX8_best_61 : decode cX8_best 61 = .ok (.aload_n 0, 1) := by decide +kernel
theorem dX8_best_62 : decode cX8_best 62 = .ok (.getfield 7, 3) := by decide +kernel
theorem dX8_best_65 : decode cX8_best 65 = .ok (.iconst 5, 1) := by decide +kernel
theorem dX8_best_66 : decode cX8_best 66 = .ok (.iaload, 1) := by decide +kernel
theorem dX8_best_67 : decode cX8_best 67 = .ok (.if_icmp .ge 115, 3) := by decide +kernel
theorem dX8_best_70 : decode cX8_best 70 = .ok (.aload_n 0, 1) := by decide +kernel
theorem dX8_best_71 : decode cX8_best 71 = .ok (.getfield 7, 3) := by decide +kernel
theorem dX8_best_74 : decode cX8_best 74 = .ok (.sipush 3745, 3) := by decide +kernel
theorem dX8_best_77 : decode cX8_best 77 = .ok (.iload 10, 2) := by decide +kernel
theorem dX8_best_79 : decode cX8_best 79 = .ok (.iadd, 1) := by decide +kernel
theorem dX8_best_80 : decode cX8_best 80 = .ok (.iaload, 1) := by decide +kernel
theorem dX8_best_81 : decode cX8_best 81 = .ok (.istore 11, 2) := by decide +kernel
theorem dX8_best_83 : decode cX8_best 83 = .ok (.iload_n 2, 1) := by decide +kernel
theorem dX8_best_84 : decode cX8_best 84 = .ok (.iload 11, 2) := by decide +kernel
theorem dX8_best_86 : decode cX8_best 86 = .ok (.invokestatic 110, 3) := by decide +kernel
theorem dX8_best_89 : decode cX8_best 89 = .ok (.ifCond .eq 87, 3) := by decide +kernel
theorem dX8_best_92 : decode cX8_best 92 = .ok (.aload_n 0, 1) := by decide +kernel
theorem dX8_best_93 : decode cX8_best 93 = .ok (.iload_n 1, 1) := by decide +kernel
theorem dX8_best_94 : decode cX8_best 94 = .ok (.iload_n 2, 1) := by decide +kernel
theorem dX8_best_95 : decode cX8_best 95 = .ok (.iload 11, 2) := by decide +kernel
theorem dX8_best_97 : decode cX8_best 97 = .ok (.iload_n 3, 1) := by decide +kernel
theorem dX8_best_98 : decode cX8_best 98 = .ok (.iload 4, 2) := by decide +kernel
theorem dX8_best_100 : decode cX8_best 100 = .ok (.invokevirtual 280, 3) := by decide +kernel
theorem dX8_best_103 : decode cX8_best 103 = .ok (.lload 6, 2) := by decide +kernel
theorem dX8_best_105 : decode cX8_best 105 = .ok (.lcmp, 1) := by decide +kernel
theorem dX8_best_106 : decode cX8_best 106 = .ok (.ifCond .lt 70, 3) := by decide +kernel
theorem dX8_best_109 : decode cX8_best 109 = .ok (.iload 9, 2) := by decide +kernel
theorem dX8_best_111 : decode cX8_best 111 = .ok (.ifCond .lt 44, 3) := by decide +kernel
theorem dX8_best_114 : decode cX8_best 114 = .ok (.iload 11, 2) := by decide +kernel
theorem dX8_best_116 : decode cX8_best 116 = .ok (.iload 8, 2) := by decide +kernel
theorem dX8_best_118 : decode cX8_best 118 = .ok (.invokestatic 284, 3) := by decide +kernel
theorem dX8_best_121 : decode cX8_best 121 = .ok (.iload 9, 2) := by decide +kernel
theorem dX8_best_123 : decode cX8_best 123 = .ok (.iload 8, 2) := by decide +kernel
theorem dX8_best_125 : decode cX8_best 125 = .ok (.invokestatic 284, 3) := by decide +kernel
theorem dX8_best_128 : decode cX8_best 128 = .ok (.if_icmp .lt 27, 3) := by decide +kernel
theorem dX8_best_131 : decode cX8_best 131 = .ok (.iload 11, 2) := by decide +kernel
theorem dX8_best_133 : decode cX8_best 133 = .ok (.iload 8, 2) := by decide +kernel
theorem dX8_best_135 : decode cX8_best 135 = .ok (.invokestatic 284, 3) := by decide +kernel
theorem dX8_best_138 : decode cX8_best 138 = .ok (.iload 9, 2) := by decide +kernel
theorem dX8_best_140 : decode cX8_best 140 = .ok (.iload 8, 2) := by decide +kernel
theorem dX8_best_142 : decode cX8_best 142 = .ok (.invokestatic 284, 3) := by decide +kernel
theorem dX8_best_145 : decode cX8_best 145 = .ok (.if_icmp .ne 14, 3) := by decide +kernel
theorem dX8_best_148 : decode cX8_best 148 = .ok (.iload 11, 2) := by decide +kernel
theorem dX8_best_150 : decode cX8_best 150 = .ok (.iload 9, 2) := by decide +kernel
theorem dX8_best_152 : decode cX8_best 152 = .ok (.if_icmp .ge 7, 3) := by decide +kernel
theorem dX8_best_155 : decode cX8_best 155 = .ok (.iconst 1, 1) := by decide +kernel
theorem dX8_best_156 : decode cX8_best 156 = .ok (.goto 4, 3) := by decide +kernel
theorem dX8_best_159 : decode cX8_best 159 = .ok (.iconst 0, 1) := by decide +kernel
theorem dX8_best_160 : decode cX8_best 160 = .ok (.istore 12, 2) := by decide +kernel
theorem dX8_best_162 : decode cX8_best 162 = .ok (.iload 12, 2) := by decide +kernel
theorem dX8_best_164 : decode cX8_best 164 = .ok (.ifCond .eq 8, 3) := by decide +kernel
theorem dX8_best_167 : decode cX8_best 167 = .ok (.iload 11, 2) := by decide +kernel
theorem dX8_best_169 : decode cX8_best 169 = .ok (.goto 5, 3) := by decide +kernel
theorem dX8_best_172 : decode cX8_best 172 = .ok (.iload 9, 2) := by decide +kernel
theorem dX8_best_174 : decode cX8_best 174 = .ok (.istore 9, 2) := by decide +kernel
theorem dX8_best_176 : decode cX8_best 176 = .ok (.iinc 10 1, 3) := by decide +kernel
theorem dX8_best_179 : decode cX8_best 179 = .ok (.goto (-120), 3) := by decide +kernel
theorem dX8_best_182 : decode cX8_best 182 = .ok (.iload 9, 2) := by decide +kernel
theorem dX8_best_184 : decode cX8_best 184 = .ok (.ireturn, 1) := by decide +kernel
def kX8_best (live : am_E) (Ret : am_R) : am_code := [(0, am_iload 1 1), (1, am_callS live 1 TX8_isPlan 4), (4, am_if1 (fun x => x = 0) 38 7), (7, am_iload 2 8), (8, am_callS live 1 TX8_isWhat 11), (11, am_if1 (fun x => x = 0) 38 14), (14, am_iload 3 15), (15, am_callS live 1 TX8_isYear 18), (18, am_if1 (fun x => x = 0) 38 21), (21, am_iload 4 23), (23, am_callS live 1 TX8_isYear 26), (26, am_if1 (fun x => x = 0) 38 29), (29, am_aload 0 30), (30, am_iload 5 32), (32, am_callV live 8 1 TX8_isPerson 35), (35, am_if1 (fun x => x = 0) 38 41), (38, am_const (.int (-2)) 40), (40, am_retI Ret), (41, am_aload 0 42), (42, am_iload 1 43), (43, am_iload 2 44), (44, am_iload 5 46), (46, am_iload 4 48), (48, am_callV live 8 4 TX8_inForce 51), (51, am_istore 8 13 53), (53, am_const (.int (-1)) 54), (54, am_istore 9 13 56), (56, am_const (.int 0) 57), (57, am_istore 10 13 59), (59, am_iload 10 61), (61, am_aload 0 62), (62, am_getR live 8 0 65), (65, am_const (.int 5) 66), (66, am_ald live 0 67), (67, am_if2 (fun x y => y ≤ x) 182 70), (70, am_aload 0 71), (71, am_getR live 8 0 74), (74, am_const (.int 3745) 77), (77, am_iload 10 79), (79, am_i2 (fun x y => x + y) 80), (80, am_ald live 0 81), (81, am_istore 11 13 83), (83, am_iload 2 84), (84, am_iload 11 86), (86, am_callS live 2 TX8_mayBe 89), (89, am_if1 (fun x => x = 0) 176 92), (92, am_aload 0 93), (93, am_iload 1 94), (94, am_iload 2 95), (95, am_iload 11 97), (97, am_iload 3 98), (98, am_iload 4 100), (100, am_callV live 8 5 TX8_triedOf 103), (103, am_lload 6 105), (105, am_lcmp 106), (106, am_if1 (fun x => x < 0) 176 109), (109, am_iload 9 111), (111, am_if1 (fun x => x < 0) 155 114), (114, am_iload 11 116), (116, am_iload 8 118), (118, am_callS live 2 TX8_far 121), (121, am_iload 9 123), (123, am_iload 8 125), (125, am_callS live 2 TX8_far 128), (128, am_if2 (fun x y => x < y) 155 131), (131, am_iload 11 133), (133, am_iload 8 135), (135, am_callS live 2 TX8_far 138), (138, am_iload 9 140), (140, am_iload 8 142), (142, am_callS live 2 TX8_far 145), (145, am_if2 (fun x y => x = y) 148 159), (148, am_iload 11 150), (150, am_iload 9 152), (152, am_if2 (fun x y => y ≤ x) 159 155), (155, am_const (.int 1) 156), (156, am_goto 160), (159, am_const (.int 0) 160), (160, am_istore 12 13 162), (162, am_iload 12 164), (164, am_if1 (fun x => x = 0) 172 167), (167, am_iload 11 169), (169, am_goto 174), (172, am_iload 9 174), (174, am_istore 9 13 176), (176, am_iinc 10 13 1 179), (179, am_goto 59), (182, am_iload 9 184), (184, am_retI Ret)]
theorem koX8_best (live : am_E) (Ret : am_R) : ∀ q ∈ kX8_best live Ret, am_ok RX8 cX8_best 13 (some .int) 11 281 live Ret q.1 q.2 :=
  am_kc (ak_iload_n dX8_best_0 rfl rfl) <|
  am_kc (ak_callS metX8_isPlan ⟨rfl, by decide +kernel, by decide +kernel, by decide +kernel⟩ (am_w4 wd_1034 wd_1035 wd_67 wd_1036) (by decide) dX8_best_1 rfl) <|
  am_kc (ak_if_eq dX8_best_4 (by decide +kernel) rfl) <|
  am_kc (ak_iload_n dX8_best_7 rfl rfl) <|
  am_kc (ak_callS metX8_isWhat ⟨rfl, by decide +kernel, by decide +kernel, by decide +kernel⟩ (am_w4 wd_1038 wd_1039 wd_67 wd_1040) (by decide) dX8_best_8 rfl) <|
  am_kc (ak_if_eq dX8_best_11 (by decide +kernel) rfl) <|
  am_kc (ak_iload_n dX8_best_14 rfl rfl) <|
  am_kc (ak_callS metX8_isYear ⟨rfl, by decide +kernel, by decide +kernel, by decide +kernel⟩ (am_w4 wd_982 wd_983 wd_67 wd_984) (by decide) dX8_best_15 rfl) <|
  am_kc (ak_if_eq dX8_best_18 (by decide +kernel) rfl) <|
  am_kc (ak_iload dX8_best_21 rfl) <|
  am_kc (ak_callS metX8_isYear ⟨rfl, by decide +kernel, by decide +kernel, by decide +kernel⟩ (am_w4 wd_982 wd_983 wd_67 wd_984) (by decide) dX8_best_23 rfl) <|
  am_kc (ak_if_eq dX8_best_26 (by decide +kernel) rfl) <|
  am_kc (ak_aload_n dX8_best_29 rfl rfl) <|
  am_kc (ak_iload dX8_best_30 rfl) <|
  am_kc (ak_callV (C := RX8) (F := TX8) (N := 27) metX8_isPerson rfl ⟨rfl, by decide +kernel, by decide +kernel, by decide +kernel⟩ (am_w5 wd_993 wd_995 wd_27 wd_67 wd_996) (by decide) dX8_best_32 rfl) <|
  am_kc (ak_if_ne dX8_best_35 (by decide +kernel) rfl) <|
  am_kc (ak_bipush dX8_best_38 (by decide +kernel) rfl) <|
  am_kc (ak_retI dX8_best_40) <|
  am_kc (ak_aload_n dX8_best_41 rfl rfl) <|
  am_kc (ak_iload_n dX8_best_42 rfl rfl) <|
  am_kc (ak_iload_n dX8_best_43 rfl rfl) <|
  am_kc (ak_iload dX8_best_44 rfl) <|
  am_kc (ak_iload dX8_best_46 rfl) <|
  am_kc (ak_callV (C := RX8) (F := TX8) (N := 27) metX8_inForce rfl ⟨rfl, by decide +kernel, by decide +kernel, by decide +kernel⟩ (am_w5 wd_1053 wd_1055 wd_29 wd_67 wd_1056) (by decide) dX8_best_48 rfl) <|
  am_kc (ak_istore dX8_best_51 rfl) <|
  am_kc (ak_iconst dX8_best_53 (by decide +kernel) rfl) <|
  am_kc (ak_istore dX8_best_54 rfl) <|
  am_kc (ak_iconst dX8_best_56 (by decide +kernel) rfl) <|
  am_kc (ak_istore dX8_best_57 rfl) <|
  am_kc (ak_iload dX8_best_59 rfl) <|
  am_kc (ak_aload_n dX8_best_61 rfl rfl) <|
  am_kc (ak_getR (C := RX8) (T := TX8) (N := 27) rfl inX8w (by decide) rfl rfl rfl wd_895 dX8_best_62 rfl) <|
  am_kc (ak_iconst dX8_best_65 (by decide +kernel) rfl) <|
  am_kc (ak_iald (t := 0) (fun _ => rfl) rfl dX8_best_66 rfl) <|
  am_kc (ak_icmp_ge dX8_best_67 (by decide +kernel) rfl) <|
  am_kc (ak_aload_n dX8_best_70 rfl rfl) <|
  am_kc (ak_getR (C := RX8) (T := TX8) (N := 27) rfl inX8w (by decide) rfl rfl rfl wd_895 dX8_best_71 rfl) <|
  am_kc (ak_sipush dX8_best_74 (by decide +kernel) rfl) <|
  am_kc (ak_iload dX8_best_77 rfl) <|
  am_kc (ak_iadd dX8_best_79 rfl) <|
  am_kc (ak_iald (t := 0) (fun _ => rfl) rfl dX8_best_80 rfl) <|
  am_kc (ak_istore dX8_best_81 rfl) <|
  am_kc (ak_iload_n dX8_best_83 rfl rfl) <|
  am_kc (ak_iload dX8_best_84 rfl) <|
  am_kc (ak_callS metX8_mayBe ⟨rfl, by decide +kernel, by decide +kernel, by decide +kernel⟩ (am_w4 wd_1042 wd_1043 wd_67 wd_1044) (by decide) dX8_best_86 rfl) <|
  am_kc (ak_if_eq dX8_best_89 (by decide +kernel) rfl) <|
  am_kc (ak_aload_n dX8_best_92 rfl rfl) <|
  am_kc (ak_iload_n dX8_best_93 rfl rfl) <|
  am_kc (ak_iload_n dX8_best_94 rfl rfl) <|
  am_kc (ak_iload dX8_best_95 rfl) <|
  am_kc (ak_iload_n dX8_best_97 rfl rfl) <|
  am_kc (ak_iload dX8_best_98 rfl) <|
  am_kc (ak_callV (C := RX8) (F := TX8) (N := 27) metX8_triedOf rfl ⟨rfl, by decide +kernel, by decide +kernel, by decide +kernel⟩ (am_w5 wd_1270 wd_1272 wd_56 wd_67 wd_1273) (by decide) dX8_best_100 rfl) <|
  am_kc (ak_lload dX8_best_103 rfl) <|
  am_kc (ak_lcmp dX8_best_105 rfl) <|
  am_kc (ak_if_lt dX8_best_106 (by decide +kernel) rfl) <|
  am_kc (ak_iload dX8_best_109 rfl) <|
  am_kc (ak_if_lt dX8_best_111 (by decide +kernel) rfl) <|
  am_kc (ak_iload dX8_best_114 rfl) <|
  am_kc (ak_iload dX8_best_116 rfl) <|
  am_kc (ak_callS metX8_far ⟨rfl, by decide +kernel, by decide +kernel, by decide +kernel⟩ (am_w4 wd_1286 wd_1287 wd_67 wd_1288) (by decide) dX8_best_118 rfl) <|
  am_kc (ak_iload dX8_best_121 rfl) <|
  am_kc (ak_iload dX8_best_123 rfl) <|
  am_kc (ak_callS metX8_far ⟨rfl, by decide +kernel, by decide +kernel, by decide +kernel⟩ (am_w4 wd_1286 wd_1287 wd_67 wd_1288) (by decide) dX8_best_125 rfl) <|
  am_kc (ak_icmp_lt dX8_best_128 (by decide +kernel) rfl) <|
  am_kc (ak_iload dX8_best_131 rfl) <|
  am_kc (ak_iload dX8_best_133 rfl) <|
  am_kc (ak_callS metX8_far ⟨rfl, by decide +kernel, by decide +kernel, by decide +kernel⟩ (am_w4 wd_1286 wd_1287 wd_67 wd_1288) (by decide) dX8_best_135 rfl) <|
  am_kc (ak_iload dX8_best_138 rfl) <|
  am_kc (ak_iload dX8_best_140 rfl) <|
  am_kc (ak_callS metX8_far ⟨rfl, by decide +kernel, by decide +kernel, by decide +kernel⟩ (am_w4 wd_1286 wd_1287 wd_67 wd_1288) (by decide) dX8_best_142 rfl) <|
  am_kc (ak_icmp_ne dX8_best_145 (by decide +kernel) rfl) <|
  am_kc (ak_iload dX8_best_148 rfl) <|
  am_kc (ak_iload dX8_best_150 rfl) <|
  am_kc (ak_icmp_ge dX8_best_152 (by decide +kernel) rfl) <|
  am_kc (ak_iconst dX8_best_155 (by decide +kernel) rfl) <|
  am_kc (ak_goto dX8_best_156 (by decide +kernel)) <|
  am_kc (ak_iconst dX8_best_159 (by decide +kernel) rfl) <|
  am_kc (ak_istore dX8_best_160 rfl) <|
  am_kc (ak_iload dX8_best_162 rfl) <|
  am_kc (ak_if_eq dX8_best_164 (by decide +kernel) rfl) <|
  am_kc (ak_iload dX8_best_167 rfl) <|
  am_kc (ak_goto dX8_best_169 (by decide +kernel)) <|
  am_kc (ak_iload dX8_best_172 rfl) <|
  am_kc (ak_istore dX8_best_174 rfl) <|
  am_kc (ak_iinc dX8_best_176 (by decide +kernel) rfl) <|
  am_kc (ak_goto dX8_best_179 (by decide +kernel)) <|
  am_kc (ak_iload dX8_best_182 rfl) <|
  am_kc (ak_retI dX8_best_184) <| am_kn
def TX8_best : am_T := fun live as M R => match as with
  | [.ref n, .int pl, .int w, .int f, .int y, .int p, .long a] => am_mn live ∧ n = 200 ∧ r_I M ∧ M.1 200 3 = -1 ∧ ∀ v M', r_sc M M' → r_I M' → R (some (.int v)) M'
  | _ => False
def JX8_best : am_E → List Value → am_M → am_R → am_inv := fun live as M0 _ pc => match as with
  | [.ref n, .int pl, .int w, .int f, .int y, .int p, .long a] => (match pc with
    | 59 => some ([0, 1, 2, 3, 4, 6, 8, 9, 10], fun u L st M => ∃ o b i : Int32, L = [(0, .ref 200), (1, .int pl), (2, .int w), (3, .int f), (4, .int y), (6, .long a), (8, .int o), (9, .int b), (10, .int i)] ∧ st = [] ∧ u = ((20 - i.toInt).toNat, 9) ∧ 0 ≤ i.toInt ∧ (y.toInt ≤ 39 ∧ 0 ≤ w ∧ w < 6) ∧ r_sc M0 M ∧ r_I M)
    | 162 => some ([0, 1, 2, 3, 4, 6, 8, 9, 10, 11, 12], fun u L st M => ∃ o b i v z : Int32, L = [(0, .ref 200), (1, .int pl), (2, .int w), (3, .int f), (4, .int y), (6, .long a), (8, .int o), (9, .int b), (10, .int i), (11, .int v), (12, .int z)] ∧ st = [] ∧ u = ((20 - i.toInt).toNat, 8) ∧ (0 ≤ i.toInt ∧ i.toInt < 9) ∧ (y.toInt ≤ 39 ∧ 0 ≤ w ∧ w < 6) ∧ r_sc M0 M ∧ r_I M)
    | _ => none)
  | _ => none
set_option maxRecDepth 100000 in
set_option maxHeartbeats 4000000 in
theorem metX8_best : am_Met yX8_best cX8_best 13 (some .int) (11) (281) TX8_best := by
  refine am_met (own := RX8) (by decide +kernel) rfl kX8_best koX8_best 150 JX8_best ?_ ?_
  · intro live as M Ret h
    unfold TX8_best at h
    split at h
    · next n pl w f y p a =>
      refine ⟨Nat.le_of_ble_eq_true rfl, ?_⟩
      change am_wp _ _ _ _ [(0, Value.ref n), (1, Value.int pl), (2, Value.int w), (3, Value.int f), (4, Value.int y), (5, Value.int p), (6, Value.long a)] _ _
      obtain ⟨hmn, rfl, hR, hn3, h⟩ := h
      have hmn2 := hmn
      obtain ⟨i1, i2, rfl⟩ := hmn2
      have l201 : am_len 201 = 3760 := rfl
      have n0 := hR.n0
      have n1 := hR.n1
      have n030 : 0 ≤ (M.1 201 0).toInt ∧ (M.1 201 0).toInt ≤ 30 := ⟨n0.1, by omega⟩
      by_cases z0 : 0 ≤ pl ∧ pl < 5
      rotate_left
      · skip
        have q0 : (if 0 ≤ pl ∧ pl < 5 then (1 : Int32) else 0) = 0 := if_neg z0
        repeat' (first | (with_reducible exact hmn) | (with_reducible exact n030) | (with_reducible exact n1) | apply And.intro | exact rfl | (intro hx; with_reducible exact absurd q0 hx) | (intro hx; exact absurd hx (by decide)) | (intro hx; exact absurd (by decide) hx) | decide | intro hx | (refine Exists.intro _ (And.intro rfl ?_)))
        all_goals try first | (with_reducible change am_tI _ _) | (change Ret _ _) | (change Ret _ _ _) | (change Exists _)
        all_goals try dsimp only at *
        all_goals try exact absurd ‹(1000 : Int64) = 0› (by decide)
        all_goals exact h _ _ r_sc.rf hR
      · skip
        have q0 : ¬ ((if 0 ≤ pl ∧ pl < 5 then (1 : Int32) else 0) = 0) := by rw [if_pos z0]; decide
        by_cases z1 : 0 ≤ w ∧ w < 6
        rotate_left
        · skip
          have q1 : (if 0 ≤ w ∧ w < 6 then (1 : Int32) else 0) = 0 := if_neg z1
          repeat' (first | (with_reducible exact hmn) | (with_reducible exact n030) | (with_reducible exact n1) | apply And.intro | exact rfl | (intro hx; with_reducible exact absurd hx q0) | (intro hx; with_reducible exact absurd q1 hx) | (intro hx; exact absurd hx (by decide)) | (intro hx; exact absurd (by decide) hx) | decide | intro hx | (refine Exists.intro _ (And.intro rfl ?_)))
          all_goals try first | (with_reducible change am_tI _ _) | (change Ret _ _) | (change Ret _ _ _) | (change Exists _)
          all_goals try dsimp only at *
          all_goals try exact absurd ‹(1000 : Int64) = 0› (by decide)
          all_goals exact h _ _ r_sc.rf hR
        · skip
          have q1 : ¬ ((if 0 ≤ w ∧ w < 6 then (1 : Int32) else 0) = 0) := by rw [if_pos z1]; decide
          by_cases z2 : 0 ≤ f ∧ f < 40
          rotate_left
          · skip
            have q2 : (if 0 ≤ f ∧ f < 40 then (1 : Int32) else 0) = 0 := if_neg z2
            repeat' (first | (with_reducible exact hmn) | (with_reducible exact n030) | (with_reducible exact n1) | apply And.intro | exact rfl | (intro hx; with_reducible exact absurd hx q0) | (intro hx; with_reducible exact absurd hx q1) | (intro hx; with_reducible exact absurd q2 hx) | (intro hx; exact absurd hx (by decide)) | (intro hx; exact absurd (by decide) hx) | decide | intro hx | (refine Exists.intro _ (And.intro rfl ?_)))
            all_goals try first | (with_reducible change am_tI _ _) | (change Ret _ _) | (change Ret _ _ _) | (change Exists _)
            all_goals try dsimp only at *
            all_goals try exact absurd ‹(1000 : Int64) = 0› (by decide)
            all_goals exact h _ _ r_sc.rf hR
          · skip
            have q2 : ¬ ((if 0 ≤ f ∧ f < 40 then (1 : Int32) else 0) = 0) := by rw [if_pos z2]; decide
            by_cases z3 : 0 ≤ y ∧ y < 40
            rotate_left
            · skip
              have q3 : (if 0 ≤ y ∧ y < 40 then (1 : Int32) else 0) = 0 := if_neg z3
              repeat' (first | (with_reducible exact hmn) | (with_reducible exact n030) | (with_reducible exact n1) | apply And.intro | exact rfl | (intro hx; with_reducible exact absurd hx q0) | (intro hx; with_reducible exact absurd hx q1) | (intro hx; with_reducible exact absurd hx q2) | (intro hx; with_reducible exact absurd q3 hx) | (intro hx; exact absurd hx (by decide)) | (intro hx; exact absurd (by decide) hx) | decide | intro hx | (refine Exists.intro _ (And.intro rfl ?_)))
              all_goals try first | (with_reducible change am_tI _ _) | (change Ret _ _) | (change Ret _ _ _) | (change Exists _)
              all_goals try dsimp only at *
              all_goals try exact absurd ‹(1000 : Int64) = 0› (by decide)
              all_goals exact h _ _ r_sc.rf hR
            · skip
              have q3 : ¬ ((if 0 ≤ y ∧ y < 40 then (1 : Int32) else 0) = 0) := by rw [if_pos z3]; decide
              by_cases z4 : 0 ≤ p ∧ p < M.1 201 0
              rotate_left
              · skip
                have q4 : (if 0 ≤ p ∧ p < M.1 201 0 then (1 : Int32) else 0) = 0 := if_neg z4
                repeat' (first | (with_reducible exact hmn) | (with_reducible exact n030) | (with_reducible exact n1) | apply And.intro | exact rfl | (intro hx; with_reducible exact absurd hx q0) | (intro hx; with_reducible exact absurd hx q1) | (intro hx; with_reducible exact absurd hx q2) | (intro hx; with_reducible exact absurd hx q3) | (intro hx; with_reducible exact absurd q4 hx) | (intro hx; exact absurd hx (by decide)) | (intro hx; exact absurd (by decide) hx) | decide | intro hx | (refine Exists.intro _ (And.intro rfl ?_)))
                all_goals try first | (with_reducible change am_tI _ _) | (change Ret _ _) | (change Ret _ _ _) | (change Exists _)
                all_goals try dsimp only at *
                all_goals try exact absurd ‹(1000 : Int64) = 0› (by decide)
                all_goals exact h _ _ r_sc.rf hR
              · skip
                have q4 : ¬ ((if 0 ≤ p ∧ p < M.1 201 0 then (1 : Int32) else 0) = 0) := by rw [if_pos z4]; decide
                have hp : am_in p 12 := ⟨by have q := z4.1; simp only [i_le, Int32.reduceToInt] at q; omega, by have q := z4.2; simp only [i_lt] at q; omega⟩
                have hy : am_in y 40 := ⟨by have q := z3.1; simp only [i_le, Int32.reduceToInt] at q; omega, by have q := z3.2; simp only [i_lt, Int32.reduceToInt] at q; omega⟩
                have y39 : y.toInt ≤ 39 := by have q := hy.2; omega
                repeat' (first | (with_reducible exact hmn) | (with_reducible exact hR) | (with_reducible exact n030) | (with_reducible exact n1) | (with_reducible exact hp) | (with_reducible exact y39) | apply And.intro | exact rfl | (intro hx; with_reducible exact absurd hx q0) | (intro hx; with_reducible exact absurd hx q1) | (intro hx; with_reducible exact absurd hx q2) | (intro hx; with_reducible exact absurd hx q3) | (intro hx; with_reducible exact absurd hx q4) | ((with_reducible change r_I _); (with_reducible assumption)) | (intro hx; exact absurd hx (by decide)) | (intro hx; exact absurd (by decide) hx) | decide | intro hx | (refine Exists.intro _ (And.intro rfl ?_)))
                all_goals try first | (with_reducible change am_tI _ _) | (change Ret _ _) | (change Ret _ _ _) | (change Exists _)
                all_goals try dsimp only at *
                all_goals try exact absurd ‹(1000 : Int64) = 0› (by decide)
                all_goals first | exact ⟨_, _, _, _, rfl, rfl, rfl, by decide, ⟨y39, z1.1, z1.2⟩, r_sc.rf, hR⟩ | (change r_I _; (repeat' (first | (with_reducible assumption) | ((with_reducible change r_I (am_wJ _ _ _ _)); refine r_I.wJ ?_) | ((with_reducible change r_I (am_wI _ _ _ _)); refine r_I.wI ?_ rfl)))) | ((with_reducible change Ret _ _); exact h _ _ (by (repeat' (first | (with_reducible exact r_sc.rf) | (with_reducible assumption) | ((with_reducible change r_sc _ (am_wI _ _ _ _)); refine r_sc.wI ?_ rfl) | ((with_reducible change r_sc _ (am_wJ _ _ _ _)); refine r_sc.wJ ?_ rfl) | (refine r_sc.tr ?_ (by with_reducible assumption))))) (by (repeat' (first | (with_reducible assumption) | ((with_reducible change r_I (am_wJ _ _ _ _)); refine r_I.wJ ?_) | ((with_reducible change r_I (am_wI _ _ _ _)); refine r_I.wI ?_ rfl))))) | skip
    · exact h.elim
  · intro live as M0 Ret h k pc I hI L st M hi
    unfold TX8_best at h
    split at h
    · next n pl w f y p a =>
      obtain ⟨hmn, rfl, hR, hn3, h⟩ := h
      have hmn2 := hmn
      obtain ⟨i1, i2, rfl⟩ := hmn2
      have l201 : am_len 201 = 3760 := rfl
      have x5l : (5 : Int32).toInt < (am_len 201 : Int) := by rw [l201]; decide
      change (match pc with | 59 => _ | 162 => _ | _ => none) = _ at hI
      split at hI
      · cases hI
        obtain ⟨o, b, i, rfl, rfl, rfl, e1, ⟨y39, w1, w2⟩, e2, e3⟩ := hi
        have n5 : 0 ≤ (M.1 201 (Int32.toNatClampNeg 5)).toInt ∧ (M.1 201 (Int32.toNatClampNeg 5)).toInt ≤ 9 := e3.n5
        by_cases hz : M.1 201 (Int32.toNatClampNeg 5) ≤ i
        · skip
          repeat' (first | (with_reducible exact x5l) | apply And.intro | exact rfl | (intro hx; with_reducible exact absurd hz hx) | (intro hx; exact absurd hx (by decide)) | (intro hx; exact absurd (by decide) hx) | decide | intro hx | (refine Exists.intro _ (And.intro rfl ?_)))
          all_goals try first | (with_reducible change am_tI _ _) | (change Ret _ _) | (change Ret _ _ _) | (change Exists _)
          all_goals try dsimp only at *
          all_goals try exact absurd ‹(1000 : Int64) = 0› (by decide)
          all_goals exact h _ _ e2 e3
        · have hz2 := hz
          simp only [i_le] at hz2
          have hi := i_inc (x := i) (by omega) (by omega)
          have ea := r_off (c := 3745) (x := i) ⟨by decide, by decide⟩ ⟨by omega, by omega⟩
          simp only [Int32.reduceToInt] at ea
          have x1 : 0 ≤ (3745 + i).toInt := by omega
          have x2 : (3745 + i).toInt < (am_len 201 : Int) := by rw [l201]; omega
          have hm3 := e2.f3.trans hn3
          repeat' (first | (with_reducible exact x5l) | (with_reducible exact x1) | (with_reducible exact x2) | (with_reducible exact hmn) | (with_reducible exact y39) | (with_reducible exact w1) | (with_reducible exact w2) | (with_reducible exact e3) | (with_reducible exact hm3) | apply And.intro | exact rfl | (intro hx; with_reducible exact absurd hx hz) | ((with_reducible change r_I _); (with_reducible assumption)) | (intro hx; exact absurd hx (by decide)) | (intro hx; exact absurd (by decide) hx) | decide | intro hx | (refine Exists.intro _ (And.intro rfl ?_)))
          all_goals try first | (with_reducible change am_tI _ _) | (change Ret _ _) | (change Ret _ _ _) | (change Exists _)
          all_goals try dsimp only at *
          all_goals try exact absurd ‹(1000 : Int64) = 0› (by decide)
          all_goals first
            | exact ⟨_, am_lt_l (by omega), _, _, _, rfl, rfl, rfl, by omega, ⟨y39, w1, w2⟩, by (repeat' (first | (with_reducible exact r_sc.rf) | (with_reducible assumption) | ((with_reducible change r_sc _ (am_wI _ _ _ _)); refine r_sc.wI ?_ rfl) | ((with_reducible change r_sc _ (am_wJ _ _ _ _)); refine r_sc.wJ ?_ rfl) | (refine r_sc.tr ?_ (by with_reducible assumption)))), by (repeat' (first | (with_reducible assumption) | ((with_reducible change r_I (am_wJ _ _ _ _)); refine r_I.wJ ?_) | ((with_reducible change r_I (am_wI _ _ _ _)); refine r_I.wI ?_ rfl)))⟩
            | exact ⟨_, am_lt_r (by omega), _, _, _, _, _, rfl, rfl, rfl, ⟨e1, by omega⟩, ⟨y39, w1, w2⟩, by (repeat' (first | (with_reducible exact r_sc.rf) | (with_reducible assumption) | ((with_reducible change r_sc _ (am_wI _ _ _ _)); refine r_sc.wI ?_ rfl) | ((with_reducible change r_sc _ (am_wJ _ _ _ _)); refine r_sc.wJ ?_ rfl) | (refine r_sc.tr ?_ (by with_reducible assumption)))), by (repeat' (first | (with_reducible assumption) | ((with_reducible change r_I (am_wJ _ _ _ _)); refine r_I.wJ ?_) | ((with_reducible change r_I (am_wI _ _ _ _)); refine r_I.wI ?_ rfl)))⟩
            | skip
      · cases hI
        obtain ⟨o, b, i, v, z, rfl, rfl, rfl, ⟨e1, e4⟩, ⟨y39, w1, w2⟩, e2, e3⟩ := hi
        have hi := i_inc (x := i) (by omega) (by omega)
        repeat' (first | apply And.intro | exact rfl | intro hx | (refine Exists.intro _ (And.intro rfl ?_)))
        all_goals try first | (with_reducible change am_tI _ _) | (change Ret _ _) | (change Ret _ _ _) | (change Exists _)
        all_goals try dsimp only at *
        all_goals try exact absurd ‹(1000 : Int64) = 0› (by decide)
        all_goals exact ⟨_, am_lt_l (by omega), _, _, _, rfl, rfl, rfl, by omega, ⟨y39, w1, w2⟩, e2, e3⟩
      · cases hI
    · exact h.elim
