/-! general: the reference's reader of texts, III -/
theorem r_dec {M : am_M} {w0 : Nat} (h : r_wI M 1 w0) : r_wI (am_wI M 200 12 (M.1 200 12 - 1)) 0 w0 := by
  obtain ⟨⟨u1, u2, u5⟩, u3, u4⟩ := h.u
  have e := i_sub (x := M.1 200 12) (y := 1) (by simp only [Int32.reduceToInt]; omega) (by simp only [Int32.reduceToInt]; omega)
  simp only [Int32.reduceToInt] at e
  have f11 : (am_wI M 200 12 (M.1 200 12 - 1)).1 200 11 = M.1 200 11 := by rw [am_wI_1, if_neg (fun q => absurd q.2 (by decide))]
  have f204 : (am_wI M 200 12 (M.1 200 12 - 1)).1 204 = M.1 204 := funext fun k => by rw [am_wI_1, if_neg (fun q => absurd q.1 (by decide))]
  refine ⟨(), ⟨by rw [f11]; exact u1, by rw [f11]; exact u2, u5⟩, ?_, by rw [am_wI_self]; omega⟩
  rw [f11, am_wI_self, f204]
  omega
theorem r_wI.bd {M : am_M} {d w0 : Nat} (h : r_wI M d w0) : 0 ≤ (M.1 200 11).toInt ∧ (M.1 200 11).toInt ≤ 120 := by
  obtain ⟨⟨u1, u2, u5⟩, u3, u4⟩ := h.u
  exact ⟨u1, by omega⟩
theorem r_clo_nn (c : Int32) : 0 ≤ (r_clo c).toInt := by
  unfold r_clo
  by_cases a : c = 42 ∨ c = 47
  · rw [if_pos a]; decide
  rw [if_neg a]
  by_cases a : c = 43 ∨ c = 45
  · rw [if_pos a]; decide
  rw [if_neg a]
  by_cases a : c = 60 ∨ c = 61 ∨ c = 62
  · rw [if_pos a]; decide
  rw [if_neg a]
  by_cases a : c = 38
  · rw [if_pos a]; decide
  rw [if_neg a]
  by_cases a : c = 124
  · rw [if_pos a]; decide
  rw [if_neg a]
  decide
theorem r_lay_in {M1 : am_M} {w0 : Nat} (d1 : r_wI M1 1 w0) (ht : r_top M1 = 40) : r_wI (am_wI (am_wI M1 200 11 (M1.1 200 11 - 1)) 200 12 ((am_wI M1 200 11 (M1.1 200 11 - 1)).1 200 12 - 1)) 0 w0 := by
  have hp := r_top_pos (fun q => by rw [ht] at q; exact absurd q (by decide)) d1.u.1.1
  have ho := r_off1 d1 hp
  rw [ht] at ho
  exact r_dec ho
set_option maxRecDepth 100000 in
theorem wd_1127 : Cond.methodLink "LearnLoansModel" 171 yX8_wait ∈ am_ws := am_wsi (List.mem_of_getElem? (i := 1127) (by rfl)) (by decide +kernel)
set_option maxRecDepth 100000 in
theorem wd_1129 : Cond.instanceMethod yX8_wait ∈ am_ws := am_wsi (List.mem_of_getElem? (i := 1129) (by rfl)) (by decide +kernel)
set_option maxRecDepth 100000 in
theorem wd_37 : Cond.selects "LearnLoansModel" yX8_wait yX8_wait ∈ am_ws := am_wsi (List.mem_of_getElem? (i := 37) (by rfl)) (by decide +kernel)
set_option maxRecDepth 100000 in
theorem wd_1130 : Cond.code yX8_wait cX8_wait 2 none ∈ am_ws := am_wsi (List.mem_of_getElem? (i := 1130) (by rfl)) (by decide +kernel)
set_option maxRecDepth 100000 in
theorem wd_1145 : Cond.methodLink "LearnLoansModel" 174 yX8_choose ∈ am_ws := am_wsi (List.mem_of_getElem? (i := 1145) (by rfl)) (by decide +kernel)
set_option maxRecDepth 100000 in
theorem wd_1147 : Cond.instanceMethod yX8_choose ∈ am_ws := am_wsi (List.mem_of_getElem? (i := 1147) (by rfl)) (by decide +kernel)
set_option maxRecDepth 100000 in
theorem wd_40 : Cond.selects "LearnLoansModel" yX8_choose yX8_choose ∈ am_ws := am_wsi (List.mem_of_getElem? (i := 40) (by rfl)) (by decide +kernel)
set_option maxRecDepth 100000 in
theorem wd_1148 : Cond.code yX8_choose cX8_choose 1 none ∈ am_ws := am_wsi (List.mem_of_getElem? (i := 1148) (by rfl)) (by decide +kernel)
set_option maxRecDepth 100000 in
theorem wd_1109 : Cond.methodLink "LearnLoansModel" 177 yX8_lay ∈ am_ws := am_wsi (List.mem_of_getElem? (i := 1109) (by rfl)) (by decide +kernel)
set_option maxRecDepth 100000 in
theorem wd_1111 : Cond.instanceMethod yX8_lay ∈ am_ws := am_wsi (List.mem_of_getElem? (i := 1111) (by rfl)) (by decide +kernel)
set_option maxRecDepth 100000 in
theorem wd_34 : Cond.selects "LearnLoansModel" yX8_lay yX8_lay ∈ am_ws := am_wsi (List.mem_of_getElem? (i := 34) (by rfl)) (by decide +kernel)
set_option maxRecDepth 100000 in
theorem wd_1112 : Cond.code yX8_lay cX8_lay 5 none ∈ am_ws := am_wsi (List.mem_of_getElem? (i := 1112) (by rfl)) (by decide +kernel)
theorem dX8_behind_0 : decode cX8_behind 0 = .ok (.iload_n 1, 1) := by decide +kernel
theorem dX8_behind_1 : decode cX8_behind 1 = .ok (.invokestatic 160, 3) := by decide +kernel
theorem dX8_behind_4 : decode cX8_behind 4 = .ok (.iconst 4, 1) := by decide +kernel
theorem dX8_behind_5 : decode cX8_behind 5 = .ok (.if_icmp .le 18, 3) := by decide +kernel
theorem dX8_behind_8 : decode cX8_behind 8 = .ok (.aload_n 0, 1) := by decide +kernel
theorem dX8_behind_9 : decode cX8_behind 9 = .ok (.iload_n 1, 1) := by decide +kernel
theorem dX8_behind_10 : decode cX8_behind 10 = .ok (.invokestatic 160, 3) := by decide +kernel
theorem dX8_behind_13 : decode cX8_behind 13 = .ok (.invokevirtual 167, 3) := by decide +kernel
theorem dX8_behind_16 : decode cX8_behind 16 = .ok (.aload_n 0, 1) := by decide +kernel
theorem dX8_behind_17 : decode cX8_behind 17 = .ok (.iload_n 1, 1) := by decide +kernel
theorem dX8_behind_18 : decode cX8_behind 18 = .ok (.invokevirtual 171, 3) := by decide +kernel
theorem dX8_behind_21 : decode cX8_behind 21 = .ok (.iconst 1, 1) := by decide +kernel
theorem dX8_behind_22 : decode cX8_behind 22 = .ok (.ireturn, 1) := by decide +kernel
theorem dX8_behind_23 : decode cX8_behind 23 = .ok (.iload_n 1, 1) := by decide +kernel
theorem dX8_behind_24 : decode cX8_behind 24 = .ok (.invokestatic 160, 3) := by decide +kernel
theorem dX8_behind_27 : decode cX8_behind 27 = .ok (.iconst 4, 1) := by decide +kernel
theorem dX8_behind_28 : decode cX8_behind 28 = .ok (.if_icmp .ne 28, 3) := by decide +kernel
theorem dX8_behind_31 : decode cX8_behind 31 = .ok (.aload_n 0, 1) := by decide +kernel
theorem dX8_behind_32 : decode cX8_behind 32 = .ok (.iconst 5, 1) := by decide +kernel
theorem dX8_behind_33 : decode cX8_behind 33 = .ok (.invokevirtual 167, 3) := by decide +kernel
theorem dX8_behind_36 : decode cX8_behind 36 = .ok (.aload_n 0, 1) := by decide +kernel
theorem dX8_behind_37 : decode cX8_behind 37 = .ok (.invokevirtual 156, 3) := by decide +kernel
theorem dX8_behind_40 : decode cX8_behind 40 = .ok (.invokestatic 160, 3) := by decide +kernel
theorem dX8_behind_43 : decode cX8_behind 43 = .ok (.iconst 4, 1) := by decide +kernel
theorem dX8_behind_44 : decode cX8_behind 44 = .ok (.if_icmp .ne 5, 3) := by decide +kernel
theorem dX8_behind_47 : decode cX8_behind 47 = .ok (.iconst 0, 1) := by decide +kernel
theorem dX8_behind_48 : decode cX8_behind 48 = .ok (.ireturn, 1) := by decide +kernel
theorem dX8_behind_49 : decode cX8_behind 49 = .ok (.aload_n 0, 1) := by decide +kernel
theorem dX8_behind_50 : decode cX8_behind 50 = .ok (.iload_n 1, 1) := by decide +kernel
theorem dX8_behind_51 : decode cX8_behind 51 = .ok (.invokevirtual 171, 3) := by decide +kernel
theorem dX8_behind_54 : decode cX8_behind 54 = .ok (.iconst 1, 1) := by decide +kernel
theorem dX8_behind_55 : decode cX8_behind 55 = .ok (.ireturn, 1) := by decide +kernel
theorem dX8_behind_56 : decode cX8_behind 56 = .ok (.iload_n 1, 1) := by decide +kernel
theorem dX8_behind_57 : decode cX8_behind 57 = .ok (.invokestatic 160, 3) := by decide +kernel
theorem dX8_behind_60 : decode cX8_behind 60 = .ok (.ifCond .le 18, 3) := by decide +kernel
theorem dX8_behind_63 : decode cX8_behind 63 = .ok (.aload_n 0, 1) := by decide +kernel
theorem dX8_behind_64 : decode cX8_behind 64 = .ok (.iload_n 1, 1) := by decide +kernel
theorem dX8_behind_65 : decode cX8_behind 65 = .ok (.invokestatic 160, 3) := by decide +kernel
theorem dX8_behind_68 : decode cX8_behind 68 = .ok (.invokevirtual 167, 3) := by decide +kernel
theorem dX8_behind_71 : decode cX8_behind 71 = .ok (.aload_n 0, 1) := by decide +kernel
theorem dX8_behind_72 : decode cX8_behind 72 = .ok (.iload_n 1, 1) := by decide +kernel
theorem dX8_behind_73 : decode cX8_behind 73 = .ok (.invokevirtual 171, 3) := by decide +kernel
theorem dX8_behind_76 : decode cX8_behind 76 = .ok (.iconst 1, 1) := by decide +kernel
theorem dX8_behind_77 : decode cX8_behind 77 = .ok (.ireturn, 1) := by decide +kernel
theorem dX8_behind_78 : decode cX8_behind 78 = .ok (.iload_n 1, 1) := by decide +kernel
theorem dX8_behind_79 : decode cX8_behind 79 = .ok (.bipush 63, 2) := by decide +kernel
theorem dX8_behind_81 : decode cX8_behind 81 = .ok (.if_icmp .ne 15, 3) := by decide +kernel
theorem dX8_behind_84 : decode cX8_behind 84 = .ok (.aload_n 0, 1) := by decide +kernel
theorem dX8_behind_85 : decode cX8_behind 85 = .ok (.iconst 2, 1) := by decide +kernel
theorem dX8_behind_86 : decode cX8_behind 86 = .ok (.invokevirtual 167, 3) := by decide +kernel
theorem dX8_behind_89 : decode cX8_behind 89 = .ok (.aload_n 0, 1) := by decide +kernel
theorem dX8_behind_90 : decode cX8_behind 90 = .ok (.iload_n 1, 1) := by decide +kernel
theorem dX8_behind_91 : decode cX8_behind 91 = .ok (.invokevirtual 171, 3) := by decide +kernel
theorem dX8_behind_94 : decode cX8_behind 94 = .ok (.iconst 1, 1) := by decide +kernel
theorem dX8_behind_95 : decode cX8_behind 95 = .ok (.ireturn, 1) := by decide +kernel
theorem dX8_behind_96 : decode cX8_behind 96 = .ok (.iload_n 1, 1) := by decide +kernel
theorem dX8_behind_97 : decode cX8_behind 97 = .ok (.bipush 58, 2) := by decide +kernel
theorem dX8_behind_99 : decode cX8_behind 99 = .ok (.if_icmp .eq 11, 3) := by decide +kernel
theorem dX8_behind_102 : decode cX8_behind 102 = .ok (.iload_n 1, 1) := by decide +kernel
theorem dX8_behind_103 : decode cX8_behind 103 = .ok (.bipush 41, 2) := by decide +kernel
theorem dX8_behind_105 : decode cX8_behind 105 = .ok (.if_icmp .eq 5, 3) := by decide +kernel
theorem dX8_behind_108 : decode cX8_behind 108 = .ok (.iconst 0, 1) := by decide +kernel
theorem dX8_behind_109 : decode cX8_behind 109 = .ok (.ireturn, 1) := by decide +kernel
theorem dX8_behind_110 : decode cX8_behind 110 = .ok (.aload_n 0, 1) := by decide +kernel
theorem dX8_behind_111 : decode cX8_behind 111 = .ok (.invokevirtual 174, 3) := by decide +kernel
theorem dX8_behind_114 : decode cX8_behind 114 = .ok (.aload_n 0, 1) := by decide +kernel
theorem dX8_behind_115 : decode cX8_behind 115 = .ok (.invokevirtual 156, 3) := by decide +kernel
theorem dX8_behind_118 : decode cX8_behind 118 = .ok (.iload_n 1, 1) := by decide +kernel
theorem dX8_behind_119 : decode cX8_behind 119 = .ok (.bipush 58, 2) := by decide +kernel
theorem dX8_behind_121 : decode cX8_behind 121 = .ok (.if_icmp .ne 8, 3) := by decide +kernel
theorem dX8_behind_124 : decode cX8_behind 124 = .ok (.bipush 63, 2) := by decide +kernel
theorem dX8_behind_126 : decode cX8_behind 126 = .ok (.goto 5, 3) := by decide +kernel
theorem dX8_behind_129 : decode cX8_behind 129 = .ok (.bipush 40, 2) := by decide +kernel
theorem dX8_behind_131 : decode cX8_behind 131 = .ok (.if_icmp .eq 5, 3) := by decide +kernel
theorem dX8_behind_134 : decode cX8_behind 134 = .ok (.iconst 0, 1) := by decide +kernel
theorem dX8_behind_135 : decode cX8_behind 135 = .ok (.ireturn, 1) := by decide +kernel
theorem dX8_behind_136 : decode cX8_behind 136 = .ok (.aload_n 0, 1) := by decide +kernel
theorem dX8_behind_137 : decode cX8_behind 137 = .ok (.dup, 1) := by decide +kernel
theorem dX8_behind_138 : decode cX8_behind 138 = .ok (.getfield 150, 3) := by decide +kernel
theorem dX8_behind_141 : decode cX8_behind 141 = .ok (.iconst 1, 1) := by decide +kernel
theorem dX8_behind_142 : decode cX8_behind 142 = .ok (.isub, 1) := by decide +kernel
theorem dX8_behind_143 : decode cX8_behind 143 = .ok (.putfield 150, 3) := by decide +kernel
theorem dX8_behind_146 : decode cX8_behind 146 = .ok (.iload_n 1, 1) := by decide +kernel
theorem dX8_behind_147 : decode cX8_behind 147 = .ok (.bipush 58, 2) := by decide +kernel
theorem dX8_behind_149 : decode cX8_behind 149 = .ok (.if_icmp .ne 12, 3) := by decide +kernel
theorem dX8_behind_152 : decode cX8_behind 152 = .ok (.aload_n 0, 1) := by decide +kernel
theorem dX8_behind_153 : decode cX8_behind 153 = .ok (.bipush 58, 2) := by decide +kernel
theorem dX8_behind_155 : decode cX8_behind 155 = .ok (.invokevirtual 171, 3) := by decide +kernel
theorem dX8_behind_158 : decode cX8_behind 158 = .ok (.goto 26, 3) := by decide +kernel
theorem dX8_behind_161 : decode cX8_behind 161 = .ok (.aload_n 0, 1) := by decide +kernel
theorem dX8_behind_162 : decode cX8_behind 162 = .ok (.dup, 1) := by decide +kernel
theorem dX8_behind_163 : decode cX8_behind 163 = .ok (.getfield 153, 3) := by decide +kernel
theorem dX8_behind_166 : decode cX8_behind 166 = .ok (.iconst 1, 1) := by decide +kernel
theorem dX8_behind_167 : decode cX8_behind 167 = .ok (.isub, 1) := by decide +kernel
theorem dX8_behind_168 : decode cX8_behind 168 = .ok (.putfield 153, 3) := by decide +kernel
theorem dX8_behind_171 : decode cX8_behind 171 = .ok (.aload_n 0, 1) := by decide +kernel
theorem dX8_behind_172 : decode cX8_behind 172 = .ok (.aload_n 0, 1) := by decide +kernel
theorem dX8_behind_173 : decode cX8_behind 173 = .ok (.getfield 23, 3) := by decide +kernel
theorem dX8_behind_176 : decode cX8_behind 176 = .ok (.aload_n 0, 1) := by decide +kernel
theorem dX8_behind_177 : decode cX8_behind 177 = .ok (.getfield 153, 3) := by decide +kernel
theorem dX8_behind_180 : decode cX8_behind 180 = .ok (.laload, 1) := by decide +kernel
theorem dX8_behind_181 : decode cX8_behind 181 = .ok (.invokevirtual 177, 3) := by decide +kernel
theorem dX8_behind_184 : decode cX8_behind 184 = .ok (.iconst 1, 1) := by decide +kernel
theorem dX8_behind_185 : decode cX8_behind 185 = .ok (.ireturn, 1) := by decide +kernel
def kX8_behind (live : am_E) (Ret : am_R) : am_code := [(0, am_iload 1 1), (1, am_callS live 1 TX8_closeness 4), (4, am_const (.int 4) 5), (5, am_if2 (fun x y => x ≤ y) 23 8), (8, am_aload 0 9), (9, am_iload 1 10), (10, am_callS live 1 TX8_closeness 13), (13, am_callV live 8 1 TX8_reduce 16), (16, am_aload 0 17), (17, am_iload 1 18), (18, am_callV live 8 1 TX8_wait 21), (21, am_const (.int 1) 22), (22, am_retZ Ret), (23, am_iload 1 24), (24, am_callS live 1 TX8_closeness 27), (27, am_const (.int 4) 28), (28, am_if2 (fun x y => x = y) 31 56), (31, am_aload 0 32), (32, am_const (.int 5) 33), (33, am_callV live 8 1 TX8_reduce 36), (36, am_aload 0 37), (37, am_callV live 8 0 TX8_top 40), (40, am_callS live 1 TX8_closeness 43), (43, am_const (.int 4) 44), (44, am_if2 (fun x y => x = y) 47 49), (47, am_const (.int 0) 48), (48, am_retZ Ret), (49, am_aload 0 50), (50, am_iload 1 51), (51, am_callV live 8 1 TX8_wait 54), (54, am_const (.int 1) 55), (55, am_retZ Ret), (56, am_iload 1 57), (57, am_callS live 1 TX8_closeness 60), (60, am_if1 (fun x => x ≤ 0) 78 63), (63, am_aload 0 64), (64, am_iload 1 65), (65, am_callS live 1 TX8_closeness 68), (68, am_callV live 8 1 TX8_reduce 71), (71, am_aload 0 72), (72, am_iload 1 73), (73, am_callV live 8 1 TX8_wait 76), (76, am_const (.int 1) 77), (77, am_retZ Ret), (78, am_iload 1 79), (79, am_const (.int 63) 81), (81, am_if2 (fun x y => x = y) 84 96), (84, am_aload 0 85), (85, am_const (.int 2) 86), (86, am_callV live 8 1 TX8_reduce 89), (89, am_aload 0 90), (90, am_iload 1 91), (91, am_callV live 8 1 TX8_wait 94), (94, am_const (.int 1) 95), (95, am_retZ Ret), (96, am_iload 1 97), (97, am_const (.int 58) 99), (99, am_if2 (fun x y => x = y) 110 102), (102, am_iload 1 103), (103, am_const (.int 41) 105), (105, am_if2 (fun x y => x = y) 110 108), (108, am_const (.int 0) 109), (109, am_retZ Ret), (110, am_aload 0 111), (111, am_callV live 8 0 TX8_choose 114), (114, am_aload 0 115), (115, am_callV live 8 0 TX8_top 118), (118, am_iload 1 119), (119, am_const (.int 58) 121), (121, am_if2 (fun x y => x = y) 124 129), (124, am_const (.int 63) 126), (126, am_goto 131), (129, am_const (.int 40) 131), (131, am_if2 (fun x y => x = y) 136 134), (134, am_const (.int 0) 135), (135, am_retZ Ret), (136, am_aload 0 137), (137, am_dup 138), (138, am_getI live 8 11 141), (141, am_const (.int 1) 142), (142, am_i2 (fun x y => x - y) 143), (143, am_putI live 8 11 146), (146, am_iload 1 147), (147, am_const (.int 58) 149), (149, am_if2 (fun x y => x = y) 152 161), (152, am_aload 0 153), (153, am_const (.int 58) 155), (155, am_callV live 8 1 TX8_wait 158), (158, am_goto 184), (161, am_aload 0 162), (162, am_dup 163), (163, am_getI live 8 12 166), (166, am_const (.int 1) 167), (167, am_i2 (fun x y => x - y) 168), (168, am_putI live 8 12 171), (171, am_aload 0 172), (172, am_aload 0 173), (173, am_getR live 8 10 176), (176, am_aload 0 177), (177, am_getI live 8 12 180), (180, am_lald live 1 181), (181, am_callV live 8 1 TX8_lay 184), (184, am_const (.int 1) 185), (185, am_retZ Ret)]
theorem koX8_behind (live : am_E) (Ret : am_R) : ∀ q ∈ kX8_behind live Ret, am_ok RX8 cX8_behind 2 (some .boolean) 4 85 live Ret q.1 q.2 :=
  am_kc (ak_iload_n dX8_behind_0 rfl rfl) <|
  am_kc (ak_callS metX8_closeness ⟨rfl, by decide +kernel, by decide +kernel, by decide +kernel⟩ (am_w4 wd_1135 wd_1136 wd_67 wd_1137) (by decide) dX8_behind_1 rfl) <|
  am_kc (ak_iconst dX8_behind_4 (by decide +kernel) rfl) <|
  am_kc (ak_icmp_le dX8_behind_5 (by decide +kernel) rfl) <|
  am_kc (ak_aload_n dX8_behind_8 rfl rfl) <|
  am_kc (ak_iload_n dX8_behind_9 rfl rfl) <|
  am_kc (ak_callS metX8_closeness ⟨rfl, by decide +kernel, by decide +kernel, by decide +kernel⟩ (am_w4 wd_1135 wd_1136 wd_67 wd_1137) (by decide) dX8_behind_10 rfl) <|
  am_kc (ak_callV (C := RX8) (F := TX8) (N := 27) metX8_reduce rfl ⟨rfl, by decide +kernel, by decide +kernel, by decide +kernel⟩ (am_w5 wd_1138 wd_1140 wd_39 wd_67 wd_1141) (by decide) dX8_behind_13 rfl) <|
  am_kc (ak_aload_n dX8_behind_16 rfl rfl) <|
  am_kc (ak_iload_n dX8_behind_17 rfl rfl) <|
  am_kc (ak_callV (C := RX8) (F := TX8) (N := 27) metX8_wait rfl ⟨rfl, by decide +kernel, by decide +kernel, by decide +kernel⟩ (am_w5 wd_1127 wd_1129 wd_37 wd_67 wd_1130) (by decide) dX8_behind_18 rfl) <|
  am_kc (ak_iconst dX8_behind_21 (by decide +kernel) rfl) <|
  am_kc (ak_retZ dX8_behind_22) <|
  am_kc (ak_iload_n dX8_behind_23 rfl rfl) <|
  am_kc (ak_callS metX8_closeness ⟨rfl, by decide +kernel, by decide +kernel, by decide +kernel⟩ (am_w4 wd_1135 wd_1136 wd_67 wd_1137) (by decide) dX8_behind_24 rfl) <|
  am_kc (ak_iconst dX8_behind_27 (by decide +kernel) rfl) <|
  am_kc (ak_icmp_ne dX8_behind_28 (by decide +kernel) rfl) <|
  am_kc (ak_aload_n dX8_behind_31 rfl rfl) <|
  am_kc (ak_iconst dX8_behind_32 (by decide +kernel) rfl) <|
  am_kc (ak_callV (C := RX8) (F := TX8) (N := 27) metX8_reduce rfl ⟨rfl, by decide +kernel, by decide +kernel, by decide +kernel⟩ (am_w5 wd_1138 wd_1140 wd_39 wd_67 wd_1141) (by decide) dX8_behind_33 rfl) <|
  am_kc (ak_aload_n dX8_behind_36 rfl rfl) <|
  am_kc (ak_callV (C := RX8) (F := TX8) (N := 27) metX8_top rfl ⟨rfl, by decide +kernel, by decide +kernel, by decide +kernel⟩ (am_w5 wd_1113 wd_1115 wd_35 wd_67 wd_1116) (by decide) dX8_behind_37 rfl) <|
  am_kc (ak_callS metX8_closeness ⟨rfl, by decide +kernel, by decide +kernel, by decide +kernel⟩ (am_w4 wd_1135 wd_1136 wd_67 wd_1137) (by decide) dX8_behind_40 rfl) <|
  am_kc (ak_iconst dX8_behind_43 (by decide +kernel) rfl) <|
  am_kc (ak_icmp_ne dX8_behind_44 (by decide +kernel) rfl) <|
  am_kc (ak_iconst dX8_behind_47 (by decide +kernel) rfl) <|
  am_kc (ak_retZ dX8_behind_48) <|
  am_kc (ak_aload_n dX8_behind_49 rfl rfl) <|
  am_kc (ak_iload_n dX8_behind_50 rfl rfl) <|
  am_kc (ak_callV (C := RX8) (F := TX8) (N := 27) metX8_wait rfl ⟨rfl, by decide +kernel, by decide +kernel, by decide +kernel⟩ (am_w5 wd_1127 wd_1129 wd_37 wd_67 wd_1130) (by decide) dX8_behind_51 rfl) <|
  am_kc (ak_iconst dX8_behind_54 (by decide +kernel) rfl) <|
  am_kc (ak_retZ dX8_behind_55) <|
  am_kc (ak_iload_n dX8_behind_56 rfl rfl) <|
  am_kc (ak_callS metX8_closeness ⟨rfl, by decide +kernel, by decide +kernel, by decide +kernel⟩ (am_w4 wd_1135 wd_1136 wd_67 wd_1137) (by decide) dX8_behind_57 rfl) <|
  am_kc (ak_if_le dX8_behind_60 (by decide +kernel) rfl) <|
  am_kc (ak_aload_n dX8_behind_63 rfl rfl) <|
  am_kc (ak_iload_n dX8_behind_64 rfl rfl) <|
  am_kc (ak_callS metX8_closeness ⟨rfl, by decide +kernel, by decide +kernel, by decide +kernel⟩ (am_w4 wd_1135 wd_1136 wd_67 wd_1137) (by decide) dX8_behind_65 rfl) <|
  am_kc (ak_callV (C := RX8) (F := TX8) (N := 27) metX8_reduce rfl ⟨rfl, by decide +kernel, by decide +kernel, by decide +kernel⟩ (am_w5 wd_1138 wd_1140 wd_39 wd_67 wd_1141) (by decide) dX8_behind_68 rfl) <|
  am_kc (ak_aload_n dX8_behind_71 rfl rfl) <|
  am_kc (ak_iload_n dX8_behind_72 rfl rfl) <|
  am_kc (ak_callV (C := RX8) (F := TX8) (N := 27) metX8_wait rfl ⟨rfl, by decide +kernel, by decide +kernel, by decide +kernel⟩ (am_w5 wd_1127 wd_1129 wd_37 wd_67 wd_1130) (by decide) dX8_behind_73 rfl) <|
  am_kc (ak_iconst dX8_behind_76 (by decide +kernel) rfl) <|
  am_kc (ak_retZ dX8_behind_77) <|
  am_kc (ak_iload_n dX8_behind_78 rfl rfl) <|
  am_kc (ak_bipush dX8_behind_79 (by decide +kernel) rfl) <|
  am_kc (ak_icmp_ne dX8_behind_81 (by decide +kernel) rfl) <|
  am_kc (ak_aload_n dX8_behind_84 rfl rfl) <|
  am_kc (ak_iconst dX8_behind_85 (by decide +kernel) rfl) <|
  am_kc (ak_callV (C := RX8) (F := TX8) (N := 27) metX8_reduce rfl ⟨rfl, by decide +kernel, by decide +kernel, by decide +kernel⟩ (am_w5 wd_1138 wd_1140 wd_39 wd_67 wd_1141) (by decide) dX8_behind_86 rfl) <|
  am_kc (ak_aload_n dX8_behind_89 rfl rfl) <|
  am_kc (ak_iload_n dX8_behind_90 rfl rfl) <|
  am_kc (ak_callV (C := RX8) (F := TX8) (N := 27) metX8_wait rfl ⟨rfl, by decide +kernel, by decide +kernel, by decide +kernel⟩ (am_w5 wd_1127 wd_1129 wd_37 wd_67 wd_1130) (by decide) dX8_behind_91 rfl) <|
  am_kc (ak_iconst dX8_behind_94 (by decide +kernel) rfl) <|
  am_kc (ak_retZ dX8_behind_95) <|
  am_kc (ak_iload_n dX8_behind_96 rfl rfl) <|
  am_kc (ak_bipush dX8_behind_97 (by decide +kernel) rfl) <|
  am_kc (ak_icmp_eq dX8_behind_99 (by decide +kernel) rfl) <|
  am_kc (ak_iload_n dX8_behind_102 rfl rfl) <|
  am_kc (ak_bipush dX8_behind_103 (by decide +kernel) rfl) <|
  am_kc (ak_icmp_eq dX8_behind_105 (by decide +kernel) rfl) <|
  am_kc (ak_iconst dX8_behind_108 (by decide +kernel) rfl) <|
  am_kc (ak_retZ dX8_behind_109) <|
  am_kc (ak_aload_n dX8_behind_110 rfl rfl) <|
  am_kc (ak_callV (C := RX8) (F := TX8) (N := 27) metX8_choose rfl ⟨rfl, by decide +kernel, by decide +kernel, by decide +kernel⟩ (am_w5 wd_1145 wd_1147 wd_40 wd_67 wd_1148) (by decide) dX8_behind_111 rfl) <|
  am_kc (ak_aload_n dX8_behind_114 rfl rfl) <|
  am_kc (ak_callV (C := RX8) (F := TX8) (N := 27) metX8_top rfl ⟨rfl, by decide +kernel, by decide +kernel, by decide +kernel⟩ (am_w5 wd_1113 wd_1115 wd_35 wd_67 wd_1116) (by decide) dX8_behind_115 rfl) <|
  am_kc (ak_iload_n dX8_behind_118 rfl rfl) <|
  am_kc (ak_bipush dX8_behind_119 (by decide +kernel) rfl) <|
  am_kc (ak_icmp_ne dX8_behind_121 (by decide +kernel) rfl) <|
  am_kc (ak_bipush dX8_behind_124 (by decide +kernel) rfl) <|
  am_kc (ak_goto dX8_behind_126 (by decide +kernel)) <|
  am_kc (ak_bipush dX8_behind_129 (by decide +kernel) rfl) <|
  am_kc (ak_icmp_eq dX8_behind_131 (by decide +kernel) rfl) <|
  am_kc (ak_iconst dX8_behind_134 (by decide +kernel) rfl) <|
  am_kc (ak_retZ dX8_behind_135) <|
  am_kc (ak_aload_n dX8_behind_136 rfl rfl) <|
  am_kc (ak_dup dX8_behind_137 rfl) <|
  am_kc (ak_getI (C := RX8) (T := TX8) (N := 27) rfl inX8w (by decide) rfl rfl rfl wd_906 dX8_behind_138 rfl) <|
  am_kc (ak_iconst dX8_behind_141 (by decide +kernel) rfl) <|
  am_kc (ak_isub dX8_behind_142 rfl) <|
  am_kc (ak_putI (C := RX8) (T := TX8) (N := 27) rfl inX8w tyX8_ok nmX8 (by decide) rfl rfl rfl rfl (by decide +kernel) wd_906 dX8_behind_143 rfl) <|
  am_kc (ak_iload_n dX8_behind_146 rfl rfl) <|
  am_kc (ak_bipush dX8_behind_147 (by decide +kernel) rfl) <|
  am_kc (ak_icmp_ne dX8_behind_149 (by decide +kernel) rfl) <|
  am_kc (ak_aload_n dX8_behind_152 rfl rfl) <|
  am_kc (ak_bipush dX8_behind_153 (by decide +kernel) rfl) <|
  am_kc (ak_callV (C := RX8) (F := TX8) (N := 27) metX8_wait rfl ⟨rfl, by decide +kernel, by decide +kernel, by decide +kernel⟩ (am_w5 wd_1127 wd_1129 wd_37 wd_67 wd_1130) (by decide) dX8_behind_155 rfl) <|
  am_kc (ak_goto dX8_behind_158 (by decide +kernel)) <|
  am_kc (ak_aload_n dX8_behind_161 rfl rfl) <|
  am_kc (ak_dup dX8_behind_162 rfl) <|
  am_kc (ak_getI (C := RX8) (T := TX8) (N := 27) rfl inX8w (by decide) rfl rfl rfl wd_907 dX8_behind_163 rfl) <|
  am_kc (ak_iconst dX8_behind_166 (by decide +kernel) rfl) <|
  am_kc (ak_isub dX8_behind_167 rfl) <|
  am_kc (ak_putI (C := RX8) (T := TX8) (N := 27) rfl inX8w tyX8_ok nmX8 (by decide) rfl rfl rfl rfl (by decide +kernel) wd_907 dX8_behind_168 rfl) <|
  am_kc (ak_aload_n dX8_behind_171 rfl rfl) <|
  am_kc (ak_aload_n dX8_behind_172 rfl rfl) <|
  am_kc (ak_getR (C := RX8) (T := TX8) (N := 27) rfl inX8w (by decide) rfl rfl rfl wd_905 dX8_behind_173 rfl) <|
  am_kc (ak_aload_n dX8_behind_176 rfl rfl) <|
  am_kc (ak_getI (C := RX8) (T := TX8) (N := 27) rfl inX8w (by decide) rfl rfl rfl wd_907 dX8_behind_177 rfl) <|
  am_kc (ak_lald (t := 1) (fun _ => rfl) rfl dX8_behind_180 rfl) <|
  am_kc (ak_callV (C := RX8) (F := TX8) (N := 27) metX8_lay rfl ⟨rfl, by decide +kernel, by decide +kernel, by decide +kernel⟩ (am_w5 wd_1109 wd_1111 wd_34 wd_67 wd_1112) (by decide) dX8_behind_181 rfl) <|
  am_kc (ak_iconst dX8_behind_184 (by decide +kernel) rfl) <|
  am_kc (ak_retZ dX8_behind_185) <| am_kn
def TX8_behind : am_T := fun live as M R => match as with
  | [.ref n, .int c] => am_mn live ∧ n = 200 ∧ r_cw M 1 (fun w0 => w0 ≤ 59 ∧ (∀ M', r_wg M M' → R (some (.int 0)) M') ∧ ∀ M', r_wg M M' → r_wI M' (if c = 41 then 1 else 0) (w0 + 1) → R (some (.int 1)) M')
  | _ => False
set_option maxRecDepth 100000 in
set_option maxHeartbeats 4000000 in
theorem metX8_behind : am_Met yX8_behind cX8_behind 2 (some .boolean) (4) (85) TX8_behind := by
  refine am_met (own := RX8) (by decide +kernel) rfl kX8_behind koX8_behind 150 (fun _ _ _ _ _ => none) (fun live as M Ret h => ?_) (fun _ _ _ _ _ _ _ _ hI => by cases hI)
  unfold TX8_behind at h
  split at h
  · next n c =>
    refine ⟨Nat.le_of_ble_eq_true rfl, ?_⟩
    change am_wp _ _ _ _ [(0, Value.ref n), (1, Value.int c)] _ _
    obtain ⟨hmn, rfl, w0, hw, h9, h0, h1⟩ := h
    have hmn2 := hmn
    obtain ⟨i1, i2, rfl⟩ := hmn2
    have l205 : am_len 205 = 120 := rfl
    by_cases z1 : r_clo c ≤ 4
    · by_cases z2 : r_clo c = 4
      · have hn : ¬ r_clo c = 0 := fun q => by rw [z2] at q; exact absurd q (by decide)
        have h41 : ¬ c = 41 := fun q => hn (by rw [q]; decide)
        repeat' (first | (with_reducible exact hmn) | apply And.intro | exact rfl | (intro hx; with_reducible exact absurd z1 hx) | (intro hx; with_reducible exact absurd z2 hx) | (intro hx; exact absurd hx (by decide)) | (intro hx; exact absurd (by decide) hx) | decide | intro hx | (refine Exists.intro _ (And.intro rfl ?_)) | (refine r_cw_in hw (fun M1 c1 d1 => ?_)))
        all_goals try first | (with_reducible change am_tI _ _) | (change Ret _ _) | (change Ret _ _ _) | (change Exists _)
        all_goals try dsimp only at *
        all_goals try exact absurd ‹(1000 : Int64) = 0› (by decide)
        all_goals first
          | decide
          | (left; rfl)
          | (right; rfl)
          | exact (r_wI.bd (by with_reducible assumption)).1
          | exact (r_wI.bd (by with_reducible assumption)).2
          | (have q := (r_wI.u (by with_reducible assumption)).1; omega)
          | exact h0 _ (r_wg.rf.k (by with_reducible assumption))
          | exact h1 _ ((r_wg.rf.k (by with_reducible assumption)).w204.w11) (by rw [if_neg h41]; exact r_push (by with_reducible assumption) (r_clo_wt hn) h9)
          | skip
      · by_cases z3 : r_clo c ≤ 0
        · have z30 : r_clo c = 0 := by
            have q := r_clo_nn c
            simp only [i_le, i_eq, Int32.reduceToInt] at z3 ⊢
            omega
          by_cases z4 : c = 63
          · have h41 : ¬ c = 41 := fun q => by rw [z4] at q; exact absurd q (by decide)
            repeat' (first | (with_reducible exact hmn) | apply And.intro | exact rfl | (intro hx; with_reducible exact absurd hx z2) | (intro hx; with_reducible exact absurd z1 hx) | (intro hx; with_reducible exact absurd z3 hx) | (intro hx; with_reducible exact absurd z4 hx) | (intro hx; exact absurd hx (by decide)) | (intro hx; exact absurd (by decide) hx) | decide | intro hx | (refine Exists.intro _ (And.intro rfl ?_)) | (refine r_cw_in hw (fun M1 c1 d1 => ?_)))
            all_goals try first | (with_reducible change am_tI _ _) | (change Ret _ _) | (change Ret _ _ _) | (change Exists _)
            all_goals try dsimp only at *
            all_goals try exact absurd ‹(1000 : Int64) = 0› (by decide)
            all_goals first
              | decide
              | (right; rfl)
              | (have q := (r_wI.u (by with_reducible assumption)).1; omega)
              | exact h1 _ ((r_wg.rf.k (by with_reducible assumption)).w204.w11) (by rw [if_neg h41]; exact r_push (by with_reducible assumption) (by rw [z4]; decide) h9)
              | skip
          · by_cases z5 : c = 58
            · have h41 : ¬ c = 41 := fun q => by rw [z5] at q; exact absurd q (by decide)
              have g58 : r_wt c = 2 := by rw [z5]; decide
              have z5b : ¬ ¬ c = 58 := not_not_intro z5
              subst z5
              repeat' (first | (with_reducible exact hmn) | apply And.intro | exact rfl | (intro hx; with_reducible exact absurd hx z2) | (intro hx; with_reducible exact absurd hx z4) | (intro hx; with_reducible exact absurd z1 hx) | (intro hx; with_reducible exact absurd z3 hx) | (intro hx; exact absurd hx (by decide)) | (intro hx; exact absurd (by decide) hx) | decide | intro hx | (refine Exists.intro _ (And.intro rfl ?_)) | (refine r_cw_in hw (fun M1 c1 d1 => ?_)))
              all_goals try first | (with_reducible change am_tI _ _) | (change Ret _ _) | (change Ret _ _ _) | (change Exists _)
              all_goals try dsimp only at *
              all_goals try exact absurd ‹(1000 : Int64) = 0› (by decide)
              all_goals first
                | decide
                | (left; rfl)
                | (right; rfl)
                | exact (r_wI.bd (by with_reducible assumption)).1
                | exact (r_wI.bd (by with_reducible assumption)).2
                | exact h0 _ (r_wg.rf.k (by with_reducible assumption))
                | skip
              all_goals
                have ht : r_top M1 = 63 := by with_reducible assumption
                have hp := r_top_pos (fun q => by rw [ht] at q; exact absurd q (by decide)) d1.u.1.1
                have ho := r_off1 d1 hp
                rw [ht] at ho
                have hu := ho.u.1
                first
                  | exact hu.1
                  | (show _ < _; have q := hu.2; omega)
                  | exact h1 _ ((r_wg.rf.k c1).w11.w204.w11) (by rw [if_neg h41]; exact r_push ho (by decide) h9)
                  | skip
            · by_cases z6 : c = 41
              · subst z6
                repeat' (first | (with_reducible exact hmn) | apply And.intro | exact rfl | (intro hx; with_reducible exact absurd hx z2) | (intro hx; with_reducible exact absurd hx z4) | (intro hx; with_reducible exact absurd hx z5) | (intro hx; with_reducible exact absurd z1 hx) | (intro hx; with_reducible exact absurd z3 hx) | (intro hx; exact absurd hx (by decide)) | (intro hx; exact absurd (by decide) hx) | decide | intro hx | (refine Exists.intro _ (And.intro rfl ?_)) | (refine r_cw_in hw (fun M1 c1 d1 => ?_)) | (refine r_cw_in (r_lay_in d1 (by with_reducible assumption)) ⟨h9, fun M2 c2 d2 => ?_⟩))
                all_goals try first | (with_reducible change am_tI _ _) | (change Ret _ _) | (change Ret _ _ _) | (change Exists _)
                all_goals try dsimp only at *
                all_goals try exact absurd ‹(1000 : Int64) = 0› (by decide)
                all_goals first
                  | decide
                  | (left; rfl)
                  | (right; rfl)
                  | exact (r_wI.bd (by with_reducible assumption)).1
                  | exact (r_wI.bd (by with_reducible assumption)).2
                  | exact h0 _ (r_wg.rf.k (by with_reducible assumption))
                  | skip
                all_goals
                  have hd := r_lay_in d1 (by with_reducible assumption)
                  have hu := hd.u
                  first
                    | (rw [hu.2.1]; omega)
                    | (show _ < (120 : Int); have q := hu.2.2; have q2 := hu.1.2.2; omega)
                    | exact h1 _ ((((r_wg.rf.k c1).w11).w12).tr c2) (by rw [if_pos rfl]; exact d2)
                    | skip
              · skip
                repeat' (first | (with_reducible exact hmn) | apply And.intro | exact rfl | (intro hx; with_reducible exact absurd hx z2) | (intro hx; with_reducible exact absurd hx z4) | (intro hx; with_reducible exact absurd hx z5) | (intro hx; with_reducible exact absurd hx z6) | (intro hx; with_reducible exact absurd z1 hx) | (intro hx; with_reducible exact absurd z3 hx) | (intro hx; exact absurd hx (by decide)) | (intro hx; exact absurd (by decide) hx) | decide | intro hx | (refine Exists.intro _ (And.intro rfl ?_)))
                all_goals try first | (with_reducible change am_tI _ _) | (change Ret _ _) | (change Ret _ _ _) | (change Exists _)
                all_goals try dsimp only at *
                all_goals try exact absurd ‹(1000 : Int64) = 0› (by decide)
                all_goals first
                  | (left; rfl)
                  | exact h0 _ r_wg.rf
                  | skip
        · have hn : ¬ r_clo c = 0 := fun q => z3 (by rw [q]; decide)
          have h41 : ¬ c = 41 := fun q => hn (by rw [q]; decide)
          have hg : 1 ≤ (r_clo c).toInt := by simp only [i_le, Int32.reduceToInt] at z3; omega
          repeat' (first | (with_reducible exact hmn) | (with_reducible exact hg) | apply And.intro | exact rfl | (intro hx; with_reducible exact absurd hx z2) | (intro hx; with_reducible exact absurd hx z3) | (intro hx; with_reducible exact absurd z1 hx) | (intro hx; exact absurd hx (by decide)) | (intro hx; exact absurd (by decide) hx) | decide | intro hx | (refine Exists.intro _ (And.intro rfl ?_)) | (refine r_cw_in hw (fun M1 c1 d1 => ?_)))
          all_goals try first | (with_reducible change am_tI _ _) | (change Ret _ _) | (change Ret _ _ _) | (change Exists _)
          all_goals try dsimp only at *
          all_goals try exact absurd ‹(1000 : Int64) = 0› (by decide)
          all_goals first
            | exact hg
            | (right; rfl)
            | (have q := (r_wI.u (by with_reducible assumption)).1; omega)
            | exact h1 _ ((r_wg.rf.k (by with_reducible assumption)).w204.w11) (by rw [if_neg h41]; exact r_push (by with_reducible assumption) (r_clo_wt hn) h9)
            | skip
    · have hn : ¬ r_clo c = 0 := fun q => z1 (by rw [q]; decide)
      have h41 : ¬ c = 41 := fun q => hn (by rw [q]; decide)
      have hg : 1 ≤ (r_clo c).toInt := by simp only [i_le, Int32.reduceToInt] at z1; omega
      repeat' (first | (with_reducible exact hmn) | (with_reducible exact hg) | apply And.intro | exact rfl | (intro hx; with_reducible exact absurd hx z1) | (intro hx; exact absurd hx (by decide)) | (intro hx; exact absurd (by decide) hx) | decide | intro hx | (refine Exists.intro _ (And.intro rfl ?_)) | (refine r_cw_in hw (fun M1 c1 d1 => ?_)))
      all_goals try first | (with_reducible change am_tI _ _) | (change Ret _ _) | (change Ret _ _ _) | (change Exists _)
      all_goals try dsimp only at *
      all_goals try exact absurd ‹(1000 : Int64) = 0› (by decide)
      all_goals first
        | exact hg
        | (right; rfl)
        | (have q := (r_wI.u (by with_reducible assumption)).1; omega)
        | exact h1 _ ((r_wg.rf.k (by with_reducible assumption)).w204.w11) (by rw [if_neg h41]; exact r_push (by with_reducible assumption) (r_clo_wt hn) h9)
        | skip
  · exact h.elim
