/-! texts: the reference's reader, exact, III -/
def kX8_behindE (live : am_E) (Ret : am_R) : am_code := [(0, am_iload 1 1), (1, am_callS live 1 TX8_closeness 4), (4, am_const (.int 4) 5), (5, am_if2 (fun x y => x ≤ y) 23 8), (8, am_aload 0 9), (9, am_iload 1 10), (10, am_callS live 1 TX8_closeness 13), (13, am_callV live 8 1 TE8_reduce 16), (16, am_aload 0 17), (17, am_iload 1 18), (18, am_callV live 8 1 TX8_wait 21), (21, am_const (.int 1) 22), (22, am_retZ Ret), (23, am_iload 1 24), (24, am_callS live 1 TX8_closeness 27), (27, am_const (.int 4) 28), (28, am_if2 (fun x y => x = y) 31 56), (31, am_aload 0 32), (32, am_const (.int 5) 33), (33, am_callV live 8 1 TE8_reduce 36), (36, am_aload 0 37), (37, am_callV live 8 0 TX8_top 40), (40, am_callS live 1 TX8_closeness 43), (43, am_const (.int 4) 44), (44, am_if2 (fun x y => x = y) 47 49), (47, am_const (.int 0) 48), (48, am_retZ Ret), (49, am_aload 0 50), (50, am_iload 1 51), (51, am_callV live 8 1 TX8_wait 54), (54, am_const (.int 1) 55), (55, am_retZ Ret), (56, am_iload 1 57), (57, am_callS live 1 TX8_closeness 60), (60, am_if1 (fun x => x ≤ 0) 78 63), (63, am_aload 0 64), (64, am_iload 1 65), (65, am_callS live 1 TX8_closeness 68), (68, am_callV live 8 1 TE8_reduce 71), (71, am_aload 0 72), (72, am_iload 1 73), (73, am_callV live 8 1 TX8_wait 76), (76, am_const (.int 1) 77), (77, am_retZ Ret), (78, am_iload 1 79), (79, am_const (.int 63) 81), (81, am_if2 (fun x y => x = y) 84 96), (84, am_aload 0 85), (85, am_const (.int 2) 86), (86, am_callV live 8 1 TE8_reduce 89), (89, am_aload 0 90), (90, am_iload 1 91), (91, am_callV live 8 1 TX8_wait 94), (94, am_const (.int 1) 95), (95, am_retZ Ret), (96, am_iload 1 97), (97, am_const (.int 58) 99), (99, am_if2 (fun x y => x = y) 110 102), (102, am_iload 1 103), (103, am_const (.int 41) 105), (105, am_if2 (fun x y => x = y) 110 108), (108, am_const (.int 0) 109), (109, am_retZ Ret), (110, am_aload 0 111), (111, am_callV live 8 0 TE8_choose 114), (114, am_aload 0 115), (115, am_callV live 8 0 TX8_top 118), (118, am_iload 1 119), (119, am_const (.int 58) 121), (121, am_if2 (fun x y => x = y) 124 129), (124, am_const (.int 63) 126), (126, am_goto 131), (129, am_const (.int 40) 131), (131, am_if2 (fun x y => x = y) 136 134), (134, am_const (.int 0) 135), (135, am_retZ Ret), (136, am_aload 0 137), (137, am_dup 138), (138, am_getI live 8 11 141), (141, am_const (.int 1) 142), (142, am_i2 (fun x y => x - y) 143), (143, am_putI live 8 11 146), (146, am_iload 1 147), (147, am_const (.int 58) 149), (149, am_if2 (fun x y => x = y) 152 161), (152, am_aload 0 153), (153, am_const (.int 58) 155), (155, am_callV live 8 1 TX8_wait 158), (158, am_goto 184), (161, am_aload 0 162), (162, am_dup 163), (163, am_getI live 8 12 166), (166, am_const (.int 1) 167), (167, am_i2 (fun x y => x - y) 168), (168, am_putI live 8 12 171), (171, am_aload 0 172), (172, am_aload 0 173), (173, am_getR live 8 10 176), (176, am_aload 0 177), (177, am_getI live 8 12 180), (180, am_lald live 1 181), (181, am_callV live 8 1 TE8_lay 184), (184, am_const (.int 1) 185), (185, am_retZ Ret)]
theorem koX8_behindE (live : am_E) (Ret : am_R) : ∀ q ∈ kX8_behindE live Ret, am_ok RX8 cX8_behind 2 (some .boolean) 4 85 live Ret q.1 q.2 :=
  am_kc (ak_iload_n dX8_behind_0 rfl rfl) <|
  am_kc (ak_callS metX8_closeness ⟨rfl, by decide +kernel, by decide +kernel, by decide +kernel⟩ (am_w4 wd_1135 wd_1136 wd_67 wd_1137) (by decide) dX8_behind_1 rfl) <|
  am_kc (ak_iconst dX8_behind_4 (by decide +kernel) rfl) <|
  am_kc (ak_icmp_le dX8_behind_5 (by decide +kernel) rfl) <|
  am_kc (ak_aload_n dX8_behind_8 rfl rfl) <|
  am_kc (ak_iload_n dX8_behind_9 rfl rfl) <|
  am_kc (ak_callS metX8_closeness ⟨rfl, by decide +kernel, by decide +kernel, by decide +kernel⟩ (am_w4 wd_1135 wd_1136 wd_67 wd_1137) (by decide) dX8_behind_10 rfl) <|
  am_kc (ak_callV (C := RX8) (F := TX8) (N := 27) metX8_reduceE rfl ⟨rfl, by decide +kernel, by decide +kernel, by decide +kernel⟩ (am_w5 wd_1138 wd_1140 wd_39 wd_67 wd_1141) (by decide) dX8_behind_13 rfl) <|
  am_kc (ak_aload_n dX8_behind_16 rfl rfl) <|
  am_kc (ak_iload_n dX8_behind_17 rfl rfl) <|
  am_kc (ak_callV (C := RX8) (F := TX8) (N := 27) metX8_wait rfl ⟨rfl, by decide +kernel, by decide +kernel, by decide +kernel⟩ (am_w5 wd_1127 wd_1129 wd_37 wd_67 wd_1130) (by decide) dX8_behind_18 rfl) <|
  am_kc (ak_iconst dX8_behind_21 (by decide +kernel) rfl) <|
  am_kc (ak_retZ dX8_behind_22) <|
  am_kc (ak_iload_n dX8_behind_23 rfl rfl) <|
  am_kc (ak_callS metX8_closeness ⟨rfl, by decide +kernel, by decide +kernel, by decide +kernel⟩ (am_w4 wd_1135 wd_1136 wd_67 wd_1137) (by decide) dX8_behind_24 rfl) <|
  am_kc (ak_iconst dX8_behind_27 (by decide +kernel) rfl) <|
  am_kc (ak_icmp_ne dX8_behind_28 (by decide +kernel) rfl) <|
  am_kc (ak_aload_n dX8_behind_31 rfl rfl) <|
  am_kc (ak_iconst dX8_behind_32 (by decide +kernel) rfl) <|
  am_kc (ak_callV (C := RX8) (F := TX8) (N := 27) metX8_reduceE rfl ⟨rfl, by decide +kernel, by decide +kernel, by decide +kernel⟩ (am_w5 wd_1138 wd_1140 wd_39 wd_67 wd_1141) (by decide) dX8_behind_33 rfl) <|
  am_kc (ak_aload_n dX8_behind_36 rfl rfl) <|
  am_kc (ak_callV (C := RX8) (F := TX8) (N := 27) metX8_top rfl ⟨rfl, by decide +kernel, by decide +kernel, by decide +kernel⟩ (am_w5 wd_1113 wd_1115 wd_35 wd_67 wd_1116) (by decide) dX8_behind_37 rfl) <|
  am_kc (ak_callS metX8_closeness ⟨rfl, by decide +kernel, by decide +kernel, by decide +kernel⟩ (am_w4 wd_1135 wd_1136 wd_67 wd_1137) (by decide) dX8_behind_40 rfl) <|
  am_kc (ak_iconst dX8_behind_43 (by decide +kernel) rfl) <|
  am_kc (ak_icmp_ne dX8_behind_44 (by decide +kernel) rfl) <|
  am_kc (ak_iconst dX8_behind_47 (by decide +kernel) rfl) <|
  am_kc (ak_retZ dX8_behind_48) <|
  am_kc (ak_aload_n dX8_behind_49 rfl rfl) <|
  am_kc (ak_iload_n dX8_behind_50 rfl rfl) <|
  am_kc (ak_callV (C := RX8) (F := TX8) (N := 27) metX8_wait rfl ⟨rfl, by decide +kernel, by decide +kernel, by decide +kernel⟩ (am_w5 wd_1127 wd_1129 wd_37 wd_67 wd_1130) (by decide) dX8_behind_51 rfl) <|
  am_kc (ak_iconst dX8_behind_54 (by decide +kernel) rfl) <|
  am_kc (ak_retZ dX8_behind_55) <|
  am_kc (ak_iload_n dX8_behind_56 rfl rfl) <|
  am_kc (ak_callS metX8_closeness ⟨rfl, by decide +kernel, by decide +kernel, by decide +kernel⟩ (am_w4 wd_1135 wd_1136 wd_67 wd_1137) (by decide) dX8_behind_57 rfl) <|
  am_kc (ak_if_le dX8_behind_60 (by decide +kernel) rfl) <|
  am_kc (ak_aload_n dX8_behind_63 rfl rfl) <|
  am_kc (ak_iload_n dX8_behind_64 rfl rfl) <|
  am_kc (ak_callS metX8_closeness ⟨rfl, by decide +kernel, by decide +kernel, by decide +kernel⟩ (am_w4 wd_1135 wd_1136 wd_67 wd_1137) (by decide) dX8_behind_65 rfl) <|
  am_kc (ak_callV (C := RX8) (F := TX8) (N := 27) metX8_reduceE rfl ⟨rfl, by decide +kernel, by decide +kernel, by decide +kernel⟩ (am_w5 wd_1138 wd_1140 wd_39 wd_67 wd_1141) (by decide) dX8_behind_68 rfl) <|
  am_kc (ak_aload_n dX8_behind_71 rfl rfl) <|
  am_kc (ak_iload_n dX8_behind_72 rfl rfl) <|
  am_kc (ak_callV (C := RX8) (F := TX8) (N := 27) metX8_wait rfl ⟨rfl, by decide +kernel, by decide +kernel, by decide +kernel⟩ (am_w5 wd_1127 wd_1129 wd_37 wd_67 wd_1130) (by decide) dX8_behind_73 rfl) <|
  am_kc (ak_iconst dX8_behind_76 (by decide +kernel) rfl) <|
  am_kc (ak_retZ dX8_behind_77) <|
  am_kc (ak_iload_n dX8_behind_78 rfl rfl) <|
  am_kc (ak_bipush dX8_behind_79 (by decide +kernel) rfl) <|
  am_kc (ak_icmp_ne dX8_behind_81 (by decide +kernel) rfl) <|
  am_kc (ak_aload_n dX8_behind_84 rfl rfl) <|
  am_kc (ak_iconst dX8_behind_85 (by decide +kernel) rfl) <|
  am_kc (ak_callV (C := RX8) (F := TX8) (N := 27) metX8_reduceE rfl ⟨rfl, by decide +kernel, by decide +kernel, by decide +kernel⟩ (am_w5 wd_1138 wd_1140 wd_39 wd_67 wd_1141) (by decide) dX8_behind_86 rfl) <|
  am_kc (ak_aload_n dX8_behind_89 rfl rfl) <|
  am_kc (ak_iload_n dX8_behind_90 rfl rfl) <|
  am_kc (ak_callV (C := RX8) (F := TX8) (N := 27) metX8_wait rfl ⟨rfl, by decide +kernel, by decide +kernel, by decide +kernel⟩ (am_w5 wd_1127 wd_1129 wd_37 wd_67 wd_1130) (by decide) dX8_behind_91 rfl) <|
  am_kc (ak_iconst dX8_behind_94 (by decide +kernel) rfl) <|
  am_kc (ak_retZ dX8_behind_95) <|
  am_kc (ak_iload_n dX8_behind_96 rfl rfl) <|
  am_kc (ak_bipush dX8_behind_97 (by decide +kernel) rfl) <|
  am_kc (ak_icmp_eq dX8_behind_99 (by decide +kernel) rfl) <|
  am_kc (ak_iload_n dX8_behind_102 rfl rfl) <|
  am_kc (ak_bipush dX8_behind_103 (by decide +kernel) rfl) <|
  am_kc (ak_icmp_eq dX8_behind_105 (by decide +kernel) rfl) <|
  am_kc (ak_iconst dX8_behind_108 (by decide +kernel) rfl) <|
  am_kc (ak_retZ dX8_behind_109) <|
  am_kc (ak_aload_n dX8_behind_110 rfl rfl) <|
  am_kc (ak_callV (C := RX8) (F := TX8) (N := 27) metX8_chooseE rfl ⟨rfl, by decide +kernel, by decide +kernel, by decide +kernel⟩ (am_w5 wd_1145 wd_1147 wd_40 wd_67 wd_1148) (by decide) dX8_behind_111 rfl) <|
  am_kc (ak_aload_n dX8_behind_114 rfl rfl) <|
  am_kc (ak_callV (C := RX8) (F := TX8) (N := 27) metX8_top rfl ⟨rfl, by decide +kernel, by decide +kernel, by decide +kernel⟩ (am_w5 wd_1113 wd_1115 wd_35 wd_67 wd_1116) (by decide) dX8_behind_115 rfl) <|
  am_kc (ak_iload_n dX8_behind_118 rfl rfl) <|
  am_kc (ak_bipush dX8_behind_119 (by decide +kernel) rfl) <|
  am_kc (ak_icmp_ne dX8_behind_121 (by decide +kernel) rfl) <|
  am_kc (ak_bipush dX8_behind_124 (by decide +kernel) rfl) <|
  am_kc (ak_goto dX8_behind_126 (by decide +kernel)) <|
  am_kc (ak_bipush dX8_behind_129 (by decide +kernel) rfl) <|
  am_kc (ak_icmp_eq dX8_behind_131 (by decide +kernel) rfl) <|
  am_kc (ak_iconst dX8_behind_134 (by decide +kernel) rfl) <|
  am_kc (ak_retZ dX8_behind_135) <|
  am_kc (ak_aload_n dX8_behind_136 rfl rfl) <|
  am_kc (ak_dup dX8_behind_137 rfl) <|
  am_kc (ak_getI (C := RX8) (T := TX8) (N := 27) rfl inX8w (by decide) rfl rfl rfl wd_906 dX8_behind_138 rfl) <|
  am_kc (ak_iconst dX8_behind_141 (by decide +kernel) rfl) <|
  am_kc (ak_isub dX8_behind_142 rfl) <|
  am_kc (ak_putI (C := RX8) (T := TX8) (N := 27) rfl inX8w tyX8_ok nmX8 (by decide) rfl rfl rfl rfl (by decide +kernel) wd_906 dX8_behind_143 rfl) <|
  am_kc (ak_iload_n dX8_behind_146 rfl rfl) <|
  am_kc (ak_bipush dX8_behind_147 (by decide +kernel) rfl) <|
  am_kc (ak_icmp_ne dX8_behind_149 (by decide +kernel) rfl) <|
  am_kc (ak_aload_n dX8_behind_152 rfl rfl) <|
  am_kc (ak_bipush dX8_behind_153 (by decide +kernel) rfl) <|
  am_kc (ak_callV (C := RX8) (F := TX8) (N := 27) metX8_wait rfl ⟨rfl, by decide +kernel, by decide +kernel, by decide +kernel⟩ (am_w5 wd_1127 wd_1129 wd_37 wd_67 wd_1130) (by decide) dX8_behind_155 rfl) <|
  am_kc (ak_goto dX8_behind_158 (by decide +kernel)) <|
  am_kc (ak_aload_n dX8_behind_161 rfl rfl) <|
  am_kc (ak_dup dX8_behind_162 rfl) <|
  am_kc (ak_getI (C := RX8) (T := TX8) (N := 27) rfl inX8w (by decide) rfl rfl rfl wd_907 dX8_behind_163 rfl) <|
  am_kc (ak_iconst dX8_behind_166 (by decide +kernel) rfl) <|
  am_kc (ak_isub dX8_behind_167 rfl) <|
  am_kc (ak_putI (C := RX8) (T := TX8) (N := 27) rfl inX8w tyX8_ok nmX8 (by decide) rfl rfl rfl rfl (by decide +kernel) wd_907 dX8_behind_168 rfl) <|
  am_kc (ak_aload_n dX8_behind_171 rfl rfl) <|
  am_kc (ak_aload_n dX8_behind_172 rfl rfl) <|
  am_kc (ak_getR (C := RX8) (T := TX8) (N := 27) rfl inX8w (by decide) rfl rfl rfl wd_905 dX8_behind_173 rfl) <|
  am_kc (ak_aload_n dX8_behind_176 rfl rfl) <|
  am_kc (ak_getI (C := RX8) (T := TX8) (N := 27) rfl inX8w (by decide) rfl rfl rfl wd_907 dX8_behind_177 rfl) <|
  am_kc (ak_lald (t := 1) (fun _ => rfl) rfl dX8_behind_180 rfl) <|
  am_kc (ak_callV (C := RX8) (F := TX8) (N := 27) metX8_layE rfl ⟨rfl, by decide +kernel, by decide +kernel, by decide +kernel⟩ (am_w5 wd_1109 wd_1111 wd_34 wd_67 wd_1112) (by decide) dX8_behind_181 rfl) <|
  am_kc (ak_iconst dX8_behind_184 (by decide +kernel) rfl) <|
  am_kc (ak_retZ dX8_behind_185) <| am_kn
def TE8_behind : am_T := fun live as M R => match as with
  | [.ref n, .int c] => am_mn live ∧ n = 200 ∧ r_cl M 1 (fun W V => (W.length ≤ 58 ∧ V.length ≤ 58) ∧ (w_beh c W V = none → ∀ M', r_wg M M' → R (some (.int 0)) M') ∧ ∀ W' V', w_beh c W V = some (W', V') → ∀ M', r_wg M M' → r_ls M' W' V' → R (some (.int 1)) M')
  | _ => False
def JE8_behind : am_E → List Value → am_M → am_R → am_inv := fun live as M0 R pc => match as with
  | [.ref n, .int c] => (match pc with
    | 16 => some ([0, 1], fun k L st M => ∃ (W : List Int32) (V : List Int64), L = [(0, .ref 200), (1, .int c)] ∧ st = [] ∧ k = (5, 0) ∧ r_ls M W V ∧ W.length ≤ 58 ∧ r_wg M0 M ∧ ∀ M', r_wg M0 M' → r_ls M' (c :: W) V → R (some (.int 1)) M')
    | 36 => some ([0, 1], fun k L st M => ∃ (W : List Int32) (V : List Int64), L = [(0, .ref 200), (1, .int c)] ∧ st = [] ∧ k = (5, 0) ∧ r_ls M W V ∧ W.length ≤ 58 ∧ r_wg M0 M ∧ (r_clo (w_hdc W) = 4 → ∀ M', r_wg M0 M' → R (some (.int 0)) M') ∧ (¬ r_clo (w_hdc W) = 4 → ∀ M', r_wg M0 M' → r_ls M' (c :: W) V → R (some (.int 1)) M'))
    | 71 => some ([0, 1], fun k L st M => ∃ (W : List Int32) (V : List Int64), L = [(0, .ref 200), (1, .int c)] ∧ st = [] ∧ k = (5, 0) ∧ r_ls M W V ∧ W.length ≤ 58 ∧ r_wg M0 M ∧ ∀ M', r_wg M0 M' → r_ls M' (c :: W) V → R (some (.int 1)) M')
    | 89 => some ([0, 1], fun k L st M => ∃ (W : List Int32) (V : List Int64), L = [(0, .ref 200), (1, .int c)] ∧ st = [] ∧ k = (5, 0) ∧ r_ls M W V ∧ W.length ≤ 58 ∧ r_wg M0 M ∧ ∀ M', r_wg M0 M' → r_ls M' (c :: W) V → R (some (.int 1)) M')
    | 114 => some ([0, 1], fun k L st M => ∃ (W : List Int32) (V : List Int64), L = [(0, .ref 200), (1, .int c)] ∧ st = [] ∧ k = (5, 0) ∧ r_ls M W V ∧ (V.length = w_ws W + 1 ∧ W.length ≤ 58 ∧ V.length ≤ 58) ∧ r_wg M0 M ∧ (c = 58 ∨ c = 41) ∧ (c = 58 → (¬ w_hdc W = 63 → ∀ M', r_wg M0 M' → R (some (.int 0)) M') ∧ (w_hdc W = 63 → ∀ M', r_wg M0 M' → r_ls M' (58 :: W.tail) V → R (some (.int 1)) M')) ∧ (c = 41 → (¬ w_hdc W = 40 → ∀ M', r_wg M0 M' → R (some (.int 0)) M') ∧ (w_hdc W = 40 → ∀ v V', V = v :: V' → ∀ M', r_wg M0 M' → r_ls M' (w_lay W.tail v V').1 (w_lay W.tail v V').2 → R (some (.int 1)) M')))
    | _ => none)
  | _ => none
theorem r_ls.off {M : am_M} {c : Int32} {W : List Int32} {V : List Int64} (h : r_ls M (c :: W) V) (hl : W.length ≤ 100) : r_ls (am_wI M 200 11 (M.1 200 11 - 1)) W V := by
  have a := h.a
  simp only [List.length_cons] at a
  have e := i_sub (x := M.1 200 11) (y := 1) (by simp only [Int32.reduceToInt]; omega) (by simp only [Int32.reduceToInt]; omega)
  simp only [Int32.reduceToInt] at e
  refine ⟨(), ?_, h.b.2.cg (fun k _ => ?_), ?_, h.d⟩
  · rw [am_wI_self]; omega
  · rw [am_wI_1, if_neg (fun q => absurd q.1 (by decide))]
  · rw [am_wI_1, if_neg (fun q => absurd q.2 (by decide))]
    exact h.c
theorem r_ls.offv {M : am_M} {x : Int64} {W : List Int32} {V : List Int64} (h : r_ls M W (x :: V)) (hl : V.length ≤ 100) : r_ls (am_wI M 200 12 (M.1 200 12 - 1)) W V ∧ M.2 205 (M.1 200 12 - 1).toNatClampNeg = x ∧ (M.1 200 12 - 1).toInt = (V.length : Int) := by
  have a := h.c
  simp only [List.length_cons] at a
  have e := i_sub (x := M.1 200 12) (y := 1) (by simp only [Int32.reduceToInt]; omega) (by simp only [Int32.reduceToInt]; omega)
  simp only [Int32.reduceToInt] at e
  have c1 := i_clamp (x := M.1 200 12 - 1) (by omega)
  refine ⟨⟨(), ?_, h.b.cg (fun k _ => ?_), ?_, h.d.2⟩, ?_, by omega⟩
  · rw [am_wI_1, if_neg (fun q => absurd q.2 (by decide))]
    exact h.a
  · rw [am_wI_1, if_neg (fun q => absurd q.1 (by decide))]
  · rw [am_wI_self]; omega
  · rw [show (M.1 200 12 - 1).toNatClampNeg = V.length by omega]
    exact h.d.1
set_option maxRecDepth 100000 in
set_option maxHeartbeats 4000000 in
theorem metX8_behindE : am_Met yX8_behind cX8_behind 2 (some .boolean) (4) (85) TE8_behind := by
  refine am_met (own := RX8) (by decide +kernel) rfl kX8_behindE koX8_behindE 150 JE8_behind ?_ ?_
  · intro live as M Ret h
    unfold TE8_behind at h
    split at h
    · next n c =>
      refine ⟨Nat.le_of_ble_eq_true rfl, ?_⟩
      change am_wp _ _ _ _ [(0, Value.ref n), (1, Value.int c)] _ _
      obtain ⟨hmn, rfl, W, V, hl, hd, ⟨h58, h58v⟩, h0, h1⟩ := h
      have hmn2 := hmn
      obtain ⟨i1, i2, rfl⟩ := hmn2
      by_cases z1 : r_clo c ≤ 4
      · by_cases z2 : r_clo c = 4
        · have eb : w_beh c W V = if r_clo (w_hdc (w_red 5 W V).1) = 4 then none else some (c :: (w_red 5 W V).1, (w_red 5 W V).2) := by
            unfold w_beh
            rw [if_neg (by rw [z2]; decide), if_pos z2]
          obtain ⟨w1, w2, w3⟩ := w_red_ws (t := 5) (by decide) hd.1
          repeat' (first | (with_reducible exact hmn) | apply And.intro | exact rfl | (intro hx; with_reducible exact absurd z1 hx) | (intro hx; with_reducible exact absurd z2 hx) | (intro hx; exact absurd hx (by decide)) | (intro hx; exact absurd (by decide) hx) | decide | intro hx | (refine Exists.intro _ (And.intro rfl ?_)) | (refine r_cl_in hl hd (fun M1 c1 d1 => ?_)))
          all_goals try first | (with_reducible change am_tI _ _) | (change Ret _ _) | (change Ret _ _ _) | (change Exists _)
          all_goals try dsimp only at *
          all_goals try exact absurd ‹(1000 : Int64) = 0› (by decide)
          all_goals first
            | decide
            | exact ⟨_, _, _, rfl, rfl, rfl, d1, by omega, c1, fun q M' c' => h0 (by rw [eb, if_pos q]) M' c', fun q M' c' => h1 _ _ (by rw [eb, if_neg q]) M' c'⟩
            | skip
        · by_cases z3 : r_clo c ≤ 0
          · have z30 : r_clo c = 0 := by
              have q := r_clo_nn c
              simp only [i_le, i_eq, Int32.reduceToInt] at z3 ⊢
              omega
            obtain ⟨w1, w2, w3⟩ := w_red_ws (t := 2) (by decide) hd.1
            obtain ⟨v1, v2, v3⟩ := w_chs_ws hd.1
            by_cases z4 : c = 63
            · have eb : w_beh c W V = some (c :: (w_red 2 W V).1, (w_red 2 W V).2) := by
                unfold w_beh
                rw [if_neg (by rw [z30]; decide), if_neg z2, if_neg (by rw [z30]; decide), if_pos z4]
              repeat' (first | (with_reducible exact hmn) | apply And.intro | exact rfl | (intro hx; with_reducible exact absurd hx z2) | (intro hx; with_reducible exact absurd z1 hx) | (intro hx; with_reducible exact absurd z3 hx) | (intro hx; with_reducible exact absurd z4 hx) | (intro hx; exact absurd hx (by decide)) | (intro hx; exact absurd (by decide) hx) | decide | intro hx | (refine Exists.intro _ (And.intro rfl ?_)) | (refine r_cl_in hl hd (fun M1 c1 d1 => ?_)))
              all_goals try first | (with_reducible change am_tI _ _) | (change Ret _ _) | (change Ret _ _ _) | (change Exists _)
              all_goals try dsimp only at *
              all_goals try exact absurd ‹(1000 : Int64) = 0› (by decide)
              all_goals first
                | decide
                | exact ⟨_, _, _, rfl, rfl, rfl, d1, by omega, c1, fun M' c' => h1 _ _ eb M' c'⟩
                | skip
            · by_cases z5 : c = 58
              · have eb : w_beh c W V = if w_hdc (w_chs W V).1 = 63 then some (58 :: (w_chs W V).1.tail, (w_chs W V).2) else none := by
                  unfold w_beh
                  rw [if_neg (by rw [z30]; decide), if_neg z2, if_neg (by rw [z30]; decide), if_neg z4, if_pos z5]
                have n41 : ¬ c = 41 := fun q => by rw [z5] at q; exact absurd q (by decide)
                repeat' (first | (with_reducible exact hmn) | apply And.intro | exact rfl | (intro hx; with_reducible exact absurd hx z2) | (intro hx; with_reducible exact absurd hx z4) | (intro hx; with_reducible exact absurd z1 hx) | (intro hx; with_reducible exact absurd z3 hx) | (intro hx; with_reducible exact absurd z5 hx) | (intro hx; exact absurd hx (by decide)) | (intro hx; exact absurd (by decide) hx) | decide | intro hx | (refine Exists.intro _ (And.intro rfl ?_)) | (refine r_cl_in hl hd (fun M1 c1 d1 => ?_)))
                all_goals try first | (with_reducible change am_tI _ _) | (change Ret _ _) | (change Ret _ _ _) | (change Exists _)
                all_goals try dsimp only at *
                all_goals try exact absurd ‹(1000 : Int64) = 0› (by decide)
                all_goals first
                  | exact ⟨_, _, _, rfl, rfl, rfl, d1, ⟨v1, by omega, by omega⟩, c1, Or.inl z5, fun _ => ⟨fun q M' c' => h0 (by rw [eb, if_neg q]) M' c', fun q M' c' => h1 _ _ (by rw [eb, if_pos q]) M' c'⟩, fun q => absurd q n41⟩
                  | skip
              · by_cases z6 : c = 41
                · have eb : w_beh c W V = if w_hdc (w_chs W V).1 = 40 then (match (w_chs W V).2 with | v :: V' => some (w_lay (w_chs W V).1.tail v V') | [] => none) else none := by
                    unfold w_beh
                    rw [if_neg (by rw [z30]; decide), if_neg z2, if_neg (by rw [z30]; decide), if_neg z4, if_neg z5, if_pos z6]
                    rfl
                  repeat' (first | (with_reducible exact hmn) | apply And.intro | exact rfl | (intro hx; with_reducible exact absurd hx z2) | (intro hx; with_reducible exact absurd hx z4) | (intro hx; with_reducible exact absurd hx z5) | (intro hx; with_reducible exact absurd z1 hx) | (intro hx; with_reducible exact absurd z3 hx) | (intro hx; with_reducible exact absurd z6 hx) | (intro hx; exact absurd hx (by decide)) | (intro hx; exact absurd (by decide) hx) | decide | intro hx | (refine Exists.intro _ (And.intro rfl ?_)) | (refine r_cl_in hl hd (fun M1 c1 d1 => ?_)))
                  all_goals try first | (with_reducible change am_tI _ _) | (change Ret _ _) | (change Ret _ _ _) | (change Exists _)
                  all_goals try dsimp only at *
                  all_goals try exact absurd ‹(1000 : Int64) = 0› (by decide)
                  all_goals first
                    | exact ⟨_, _, _, rfl, rfl, rfl, d1, ⟨v1, by omega, by omega⟩, c1, Or.inr z6, fun q => absurd q z5, fun _ => ⟨fun q M' c' => h0 (by rw [eb, if_neg q]) M' c', fun q v V' e M' c' => h1 _ _ (by rw [eb, if_pos q, e]) M' c'⟩⟩
                    | skip
                · have eb : w_beh c W V = none := by
                    unfold w_beh
                    rw [if_neg (by rw [z30]; decide), if_neg z2, if_neg (by rw [z30]; decide), if_neg z4, if_neg z5, if_neg z6]
                  repeat' (first | (with_reducible exact hmn) | apply And.intro | exact rfl | (intro hx; with_reducible exact absurd hx z2) | (intro hx; with_reducible exact absurd hx z4) | (intro hx; with_reducible exact absurd hx z5) | (intro hx; with_reducible exact absurd hx z6) | (intro hx; with_reducible exact absurd z1 hx) | (intro hx; with_reducible exact absurd z3 hx) | (intro hx; exact absurd hx (by decide)) | (intro hx; exact absurd (by decide) hx) | decide | intro hx | (refine Exists.intro _ (And.intro rfl ?_)))
                  all_goals try first | (with_reducible change am_tI _ _) | (change Ret _ _) | (change Ret _ _ _) | (change Exists _)
                  all_goals try dsimp only at *
                  all_goals try exact absurd ‹(1000 : Int64) = 0› (by decide)
                  all_goals first
                    | (left; rfl)
                    | exact h0 eb _ r_wg.rf
                    | skip
          · have hg : 1 ≤ (r_clo c).toInt := by simp only [i_le, Int32.reduceToInt] at z3; omega
            have z1b := z1
            simp only [i_le, Int32.reduceToInt] at z1b
            have eb : w_beh c W V = some (c :: (w_red (r_clo c) W V).1, (w_red (r_clo c) W V).2) := by
              unfold w_beh
              rw [if_neg (by omega), if_neg z2, if_pos (by omega)]
            obtain ⟨w1, w2, w3⟩ := w_red_ws (t := r_clo c) hg hd.1
            repeat' (first | (with_reducible exact hmn) | (with_reducible exact hg) | apply And.intro | exact rfl | (intro hx; with_reducible exact absurd hx z2) | (intro hx; with_reducible exact absurd hx z3) | (intro hx; with_reducible exact absurd z1 hx) | (intro hx; exact absurd hx (by decide)) | (intro hx; exact absurd (by decide) hx) | decide | intro hx | (refine Exists.intro _ (And.intro rfl ?_)) | (refine r_cl_in hl hd (fun M1 c1 d1 => ?_)))
            all_goals try first | (with_reducible change am_tI _ _) | (change Ret _ _) | (change Ret _ _ _) | (change Exists _)
            all_goals try dsimp only at *
            all_goals try exact absurd ‹(1000 : Int64) = 0› (by decide)
            all_goals first
              | exact hg
              | exact ⟨_, _, _, rfl, rfl, rfl, d1, by omega, c1, fun M' c' => h1 _ _ eb M' c'⟩
              | skip
      · have hg : 1 ≤ (r_clo c).toInt := by simp only [i_le, Int32.reduceToInt] at z1; omega
        have z1b := z1
        simp only [i_le, Int32.reduceToInt] at z1b
        have eb : w_beh c W V = some (c :: (w_red (r_clo c) W V).1, (w_red (r_clo c) W V).2) := by
          unfold w_beh
          rw [if_pos (by omega)]
        obtain ⟨w1, w2, w3⟩ := w_red_ws (t := r_clo c) hg hd.1
        repeat' (first | (with_reducible exact hmn) | (with_reducible exact hg) | apply And.intro | exact rfl | (intro hx; with_reducible exact absurd hx z1) | (intro hx; exact absurd hx (by decide)) | (intro hx; exact absurd (by decide) hx) | decide | intro hx | (refine Exists.intro _ (And.intro rfl ?_)) | (refine r_cl_in hl hd (fun M1 c1 d1 => ?_)))
        all_goals try first | (with_reducible change am_tI _ _) | (change Ret _ _) | (change Ret _ _ _) | (change Exists _)
        all_goals try dsimp only at *
        all_goals try exact absurd ‹(1000 : Int64) = 0› (by decide)
        all_goals first
          | exact hg
          | exact ⟨_, _, _, rfl, rfl, rfl, d1, by omega, c1, fun M' c' => h1 _ _ eb M' c'⟩
          | skip
    · exact h.elim
  · intro live as M0 Ret h k pc I hI L st M hi
    unfold TE8_behind at h
    split at h
    · next n c =>
      obtain ⟨hmn, rfl, W9, V9, hl9, hd9, h589, h09, h19⟩ := h
      have hmn2 := hmn
      obtain ⟨i1, i2, rfl⟩ := hmn2
      have l205 : am_len 205 = 120 := rfl
      change (match pc with | 16 => _ | 36 => _ | 71 => _ | 89 => _ | 114 => _ | _ => none) = _ at hI
      split at hI
      · cases hI
        obtain ⟨W, V, rfl, rfl, rfl, hl, hw, hk, h⟩ := hi
        have a := hl.a
        have x1 : 0 ≤ (M.1 200 11).toInt := by omega
        have x2 : (M.1 200 11).toInt < 120 := by omega
        have hh := h _ (hk.w204.w11) (hl.push (by omega))
        repeat' (first | (with_reducible exact hmn) | (with_reducible exact x1) | (with_reducible exact x2) | apply And.intro | exact rfl | (intro hx; exact absurd hx (by decide)) | (intro hx; exact absurd (by decide) hx) | decide | intro hx | (refine Exists.intro _ (And.intro rfl ?_)))
        all_goals try first | (with_reducible change am_tI _ _) | (change Ret _ _) | (change Ret _ _ _) | (change Exists _)
        all_goals try dsimp only at *
        all_goals try exact absurd ‹(1000 : Int64) = 0› (by decide)
        all_goals first
          | (right; rfl)
          | exact hh
          | skip
      · cases hI
        obtain ⟨W, V, rfl, rfl, rfl, hl, hw, hk, h0, h1⟩ := hi
        have a := hl.a
        have u120 := hl.bd (by omega)
        have ht := hl.top (by omega)
        have x1 : 0 ≤ (M.1 200 11).toInt := by omega
        have x2 : (M.1 200 11).toInt < 120 := by omega
        by_cases z : r_clo (r_top M) = 4
        · have hh := h0 (by rw [← ht]; exact z) M hk
          repeat' (first | (with_reducible exact hmn) | (with_reducible exact u120) | apply And.intro | exact rfl | (intro hx; with_reducible exact absurd z hx) | (intro hx; exact absurd hx (by decide)) | (intro hx; exact absurd (by decide) hx) | decide | intro hx | (refine Exists.intro _ (And.intro rfl ?_)))
          all_goals try first | (with_reducible change am_tI _ _) | (change Ret _ _) | (change Ret _ _ _) | (change Exists _)
          all_goals try dsimp only at *
          all_goals try exact absurd ‹(1000 : Int64) = 0› (by decide)
          all_goals first
            | (left; rfl)
            | exact hh
            | skip
        · have hh := h1 (by rw [← ht]; exact z) _ (hk.w204.w11) (hl.push (by omega))
          repeat' (first | (with_reducible exact hmn) | (with_reducible exact u120) | (with_reducible exact x1) | (with_reducible exact x2) | apply And.intro | exact rfl | (intro hx; with_reducible exact absurd hx z) | (intro hx; exact absurd hx (by decide)) | (intro hx; exact absurd (by decide) hx) | decide | intro hx | (refine Exists.intro _ (And.intro rfl ?_)))
          all_goals try first | (with_reducible change am_tI _ _) | (change Ret _ _) | (change Ret _ _ _) | (change Exists _)
          all_goals try dsimp only at *
          all_goals try exact absurd ‹(1000 : Int64) = 0› (by decide)
          all_goals first
            | (right; rfl)
            | exact hh
            | skip
      · cases hI
        obtain ⟨W, V, rfl, rfl, rfl, hl, hw, hk, h⟩ := hi
        have a := hl.a
        have x1 : 0 ≤ (M.1 200 11).toInt := by omega
        have x2 : (M.1 200 11).toInt < 120 := by omega
        have hh := h _ (hk.w204.w11) (hl.push (by omega))
        repeat' (first | (with_reducible exact hmn) | (with_reducible exact x1) | (with_reducible exact x2) | apply And.intro | exact rfl | (intro hx; exact absurd hx (by decide)) | (intro hx; exact absurd (by decide) hx) | decide | intro hx | (refine Exists.intro _ (And.intro rfl ?_)))
        all_goals try first | (with_reducible change am_tI _ _) | (change Ret _ _) | (change Ret _ _ _) | (change Exists _)
        all_goals try dsimp only at *
        all_goals try exact absurd ‹(1000 : Int64) = 0› (by decide)
        all_goals first
          | (right; rfl)
          | exact hh
          | skip
      · cases hI
        obtain ⟨W, V, rfl, rfl, rfl, hl, hw, hk, h⟩ := hi
        have a := hl.a
        have x1 : 0 ≤ (M.1 200 11).toInt := by omega
        have x2 : (M.1 200 11).toInt < 120 := by omega
        have hh := h _ (hk.w204.w11) (hl.push (by omega))
        repeat' (first | (with_reducible exact hmn) | (with_reducible exact x1) | (with_reducible exact x2) | apply And.intro | exact rfl | (intro hx; exact absurd hx (by decide)) | (intro hx; exact absurd (by decide) hx) | decide | intro hx | (refine Exists.intro _ (And.intro rfl ?_)))
        all_goals try first | (with_reducible change am_tI _ _) | (change Ret _ _) | (change Ret _ _ _) | (change Exists _)
        all_goals try dsimp only at *
        all_goals try exact absurd ‹(1000 : Int64) = 0› (by decide)
        all_goals first
          | (right; rfl)
          | exact hh
          | skip
      · cases hI
        obtain ⟨W, V, rfl, rfl, rfl, hl, ⟨d1, d2, d3⟩, hk, hc, h58, h41⟩ := hi
        have a := hl.a
        have u120 := hl.bd (by omega)
        have ht := hl.top (by omega)
        rcases hc with rfl | rfl
        · obtain ⟨g0, g1⟩ := h58 rfl
          by_cases z : r_top M = 63
          · have hz : w_hdc W = 63 := by rw [← ht]; exact z
            have g1 := g1 hz
            cases W with
            | nil => exact absurd (show (0 : Int32) = 63 from hz) (by decide)
            | cons c W =>
              simp only [List.length_cons] at a d2
              have lo := hl.off (by omega)
              have e11 := i_sub (x := M.1 200 11) (y := 1) (by simp only [Int32.reduceToInt]; omega) (by simp only [Int32.reduceToInt]; omega)
              simp only [Int32.reduceToInt] at e11
              have x1 : 0 ≤ ((am_wI M 200 11 (M.1 200 11 - 1)).1 200 11).toInt := by rw [am_wI_self]; omega
              have x2 : ((am_wI M 200 11 (M.1 200 11 - 1)).1 200 11).toInt < 120 := by rw [am_wI_self]; omega
              have hh := g1 _ (hk.w11.w204.w11) (lo.push (c := 58) (by omega))
              repeat' (first | (with_reducible exact hmn) | (with_reducible exact u120) | (with_reducible exact x1) | (with_reducible exact x2) | apply And.intro | exact rfl | (intro hx; with_reducible exact absurd z hx) | (intro hx; exact absurd hx (by decide)) | (intro hx; exact absurd (by decide) hx) | decide | intro hx | (refine Exists.intro _ (And.intro rfl ?_)))
              all_goals try first | (with_reducible change am_tI _ _) | (change Ret _ _) | (change Ret _ _ _) | (change Exists _)
              all_goals try dsimp only at *
              all_goals try exact absurd ‹(1000 : Int64) = 0› (by decide)
              all_goals first
                | (right; rfl)
                | exact hh
                | skip
          · have hh := g0 (by rw [← ht]; exact z) M hk
            repeat' (first | (with_reducible exact hmn) | (with_reducible exact u120) | apply And.intro | exact rfl | (intro hx; with_reducible exact absurd hx z) | (intro hx; exact absurd hx (by decide)) | (intro hx; exact absurd (by decide) hx) | decide | intro hx | (refine Exists.intro _ (And.intro rfl ?_)))
            all_goals try first | (with_reducible change am_tI _ _) | (change Ret _ _) | (change Ret _ _ _) | (change Exists _)
            all_goals try dsimp only at *
            all_goals try exact absurd ‹(1000 : Int64) = 0› (by decide)
            all_goals first
              | (left; rfl)
              | exact hh
              | skip
        · obtain ⟨g0, g1⟩ := h41 rfl
          by_cases z : r_top M = 40
          · have hz : w_hdc W = 40 := by rw [← ht]; exact z
            have g1 := g1 hz
            cases W with
            | nil => exact absurd (show (0 : Int32) = 40 from hz) (by decide)
            | cons c W =>
              have hc : c = 40 := hz
              subst hc
              cases V with
              | nil => simp only [List.length_nil] at d1; omega
              | cons v V =>
                simp only [List.length_cons] at a d2 d3
                have d1b : V.length + 1 = r_wt 40 + w_ws W + 1 := d1
                rw [show r_wt 40 = 0 by decide] at d1b
                have lo := hl.off (by omega)
                obtain ⟨lv, ev, nv⟩ := lo.offv (by omega)
                have x3 : 0 ≤ ((am_wI (am_wI M 200 11 (M.1 200 11 - 1)) 200 12 ((am_wI M 200 11 (M.1 200 11 - 1)).1 200 12 - 1)).1 200 12).toInt := by rw [am_wI_self, nv]; omega
                have x4 : ((am_wI (am_wI M 200 11 (M.1 200 11 - 1)) 200 12 ((am_wI M 200 11 (M.1 200 11 - 1)).1 200 12 - 1)).1 200 12).toInt < (am_len 205 : Int) := by rw [am_wI_self, nv, l205]; omega
                have ev2 : (am_wI (am_wI M 200 11 (M.1 200 11 - 1)) 200 12 ((am_wI M 200 11 (M.1 200 11 - 1)).1 200 12 - 1)).2 205 ((am_wI (am_wI M 200 11 (M.1 200 11 - 1)) 200 12 ((am_wI M 200 11 (M.1 200 11 - 1)).1 200 12 - 1)).1 200 12).toNatClampNeg = v := by rw [am_wI_self]; exact ev
                have g1 := g1 v V rfl
                repeat' (first | (with_reducible exact hmn) | (with_reducible exact u120) | (with_reducible exact x3) | (with_reducible exact x4) | apply And.intro | exact rfl | (intro hx; with_reducible exact absurd z hx) | (intro hx; exact absurd hx (by decide)) | (intro hx; exact absurd (by decide) hx) | decide | intro hx | (refine Exists.intro _ (And.intro rfl ?_)) | (refine r_cl_in lv ⟨by omega, by omega, by omega⟩ ⟨by omega, fun M2 c2 d2 => ?_⟩))
                all_goals try first | (with_reducible change am_tI _ _) | (change Ret _ _) | (change Ret _ _ _) | (change Exists _)
                all_goals try dsimp only at *
                all_goals try exact absurd ‹(1000 : Int64) = 0› (by decide)
                all_goals first
                  | (right; rfl)
                  | (rw [ev2] at d2; exact g1 _ ((hk.w11.w12).tr c2) d2)
                  | skip
          · have hh := g0 (by rw [← ht]; exact z) M hk
            repeat' (first | (with_reducible exact hmn) | (with_reducible exact u120) | apply And.intro | exact rfl | (intro hx; with_reducible exact absurd hx z) | (intro hx; exact absurd hx (by decide)) | (intro hx; exact absurd (by decide) hx) | decide | intro hx | (refine Exists.intro _ (And.intro rfl ?_)))
            all_goals try first | (with_reducible change am_tI _ _) | (change Ret _ _) | (change Ret _ _ _) | (change Exists _)
            all_goals try dsimp only at *
            all_goals try exact absurd ‹(1000 : Int64) = 0› (by decide)
            all_goals first
              | (left; rfl)
              | exact hh
              | skip
      · cases hI
    · exact h.elim
