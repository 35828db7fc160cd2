/-! general: the reference's runs, I -/
theorem r_pers {M : am_M} (hR : r_I M) {l : Int32} (hl : am_in l 30) : am_in (M.1 201 (2838 + 8 * l + 0).toNatClampNeg) 12 := by
  have e := r_lcol hl (w := 0) ⟨by decide, by decide⟩
  simp only [Int32.reduceToInt] at e
  have l1 := hl.1
  have l2 := hl.2
  have c1 := i_clamp (x := 2838 + 8 * l + 0) (by omega)
  have c2 := i_clamp (x := l) l1
  rw [show (2838 + 8 * l + 0).toNatClampNeg = 2838 + 8 * l.toNatClampNeg by omega]
  exact (hR.lo (g_cl hl)).1
theorem r_in5 {v : Int32} {c : Int32} (h : am_in v 5) (hc : 0 ≤ c.toInt ∧ c.toInt ≤ 3700) : 0 ≤ (c + v).toInt ∧ (c + v).toInt < (am_len 201 : Int) := by
  have h1 := h.1
  have h2 := h.2
  have e := r_off (c := c) (x := v) ⟨hc.1, by omega⟩ ⟨by omega, by omega⟩
  have l201 : am_len 201 = 3760 := rfl
  rw [l201]
  omega
theorem r_in40 {v : Int32} {c : Int32} (h : am_in v 40) (hc : 0 ≤ c.toInt ∧ c.toInt ≤ 3700) : 0 ≤ (c + v).toInt ∧ (c + v).toInt < (am_len 201 : Int) := by
  have h1 := h.1
  have h2 := h.2
  have e := r_off (c := c) (x := v) ⟨hc.1, by omega⟩ ⟨by omega, by omega⟩
  have l201 : am_len 201 = 3760 := rfl
  rw [l201]
  omega
set_option maxRecDepth 100000 in
theorem wd_1085 : Cond.methodLink "LearnLoansModel" 141 yX8_planAt ∈ am_ws := am_wsi (List.mem_of_getElem? (i := 1085) (by rfl)) (by decide +kernel)
set_option maxRecDepth 100000 in
theorem wd_1087 : Cond.instanceMethod yX8_planAt ∈ am_ws := am_wsi (List.mem_of_getElem? (i := 1087) (by rfl)) (by decide +kernel)
set_option maxRecDepth 100000 in
theorem wd_32 : Cond.selects "LearnLoansModel" yX8_planAt yX8_planAt ∈ am_ws := am_wsi (List.mem_of_getElem? (i := 32) (by rfl)) (by decide +kernel)
set_option maxRecDepth 100000 in
theorem wd_1088 : Cond.code yX8_planAt cX8_planAt 5 (some .int) ∈ am_ws := am_wsi (List.mem_of_getElem? (i := 1088) (by rfl)) (by decide +kernel)
set_option maxRecDepth 100000 in
theorem wd_1053 : Cond.methodLink "LearnLoansModel" 127 yX8_inForce ∈ am_ws := am_wsi (List.mem_of_getElem? (i := 1053) (by rfl)) (by decide +kernel)
set_option maxRecDepth 100000 in
theorem wd_1055 : Cond.instanceMethod yX8_inForce ∈ am_ws := am_wsi (List.mem_of_getElem? (i := 1055) (by rfl)) (by decide +kernel)
set_option maxRecDepth 100000 in
theorem wd_29 : Cond.selects "LearnLoansModel" yX8_inForce yX8_inForce ∈ am_ws := am_wsi (List.mem_of_getElem? (i := 29) (by rfl)) (by decide +kernel)
set_option maxRecDepth 100000 in
theorem wd_1056 : Cond.code yX8_inForce cX8_inForce 9 (some .int) ∈ am_ws := am_wsi (List.mem_of_getElem? (i := 1056) (by rfl)) (by decide +kernel)
theorem dX8_rateOf_0 : decode cX8_rateOf 0 = .ok (.aload_n 0, 1) := by decide +kernel
theorem dX8_rateOf_1 : decode cX8_rateOf 1 = .ok (.iload_n 1, 1) := by decide +kernel
theorem dX8_rateOf_2 : decode cX8_rateOf 2 = .ok (.iconst 0, 1) := by decide +kernel
theorem dX8_rateOf_3 : decode cX8_rateOf 3 = .ok (.invokevirtual 202, 3) := by decide +kernel
theorem dX8_rateOf_6 : decode cX8_rateOf 6 = .ok (.istore 5, 2) := by decide +kernel
theorem dX8_rateOf_8 : decode cX8_rateOf 8 = .ok (.aload_n 0, 1) := by decide +kernel
theorem dX8_rateOf_9 : decode cX8_rateOf 9 = .ok (.iload_n 1, 1) := by decide +kernel
theorem dX8_rateOf_10 : decode cX8_rateOf 10 = .ok (.iload_n 2, 1) := by decide +kernel
theorem dX8_rateOf_11 : decode cX8_rateOf 11 = .ok (.invokevirtual 141, 3) := by decide +kernel
theorem dX8_rateOf_14 : decode cX8_rateOf 14 = .ok (.istore 6, 2) := by decide +kernel
theorem dX8_rateOf_16 : decode cX8_rateOf 16 = .ok (.aload_n 0, 1) := by decide +kernel
theorem dX8_rateOf_17 : decode cX8_rateOf 17 = .ok (.iload 6, 2) := by decide +kernel
theorem dX8_rateOf_19 : decode cX8_rateOf 19 = .ok (.iconst 2, 1) := by decide +kernel
theorem dX8_rateOf_20 : decode cX8_rateOf 20 = .ok (.iload 5, 2) := by decide +kernel
theorem dX8_rateOf_22 : decode cX8_rateOf 22 = .ok (.iload_n 2, 1) := by decide +kernel
theorem dX8_rateOf_23 : decode cX8_rateOf 23 = .ok (.invokevirtual 127, 3) := by decide +kernel
theorem dX8_rateOf_26 : decode cX8_rateOf 26 = .ok (.istore 7, 2) := by decide +kernel
theorem dX8_rateOf_28 : decode cX8_rateOf 28 = .ok (.aload_n 0, 1) := by decide +kernel
theorem dX8_rateOf_29 : decode cX8_rateOf 29 = .ok (.getfield 7, 3) := by decide +kernel
theorem dX8_rateOf_32 : decode cX8_rateOf 32 = .ok (.sipush 3508, 3) := by decide +kernel
theorem dX8_rateOf_35 : decode cX8_rateOf 35 = .ok (.iload 6, 2) := by decide +kernel
theorem dX8_rateOf_37 : decode cX8_rateOf 37 = .ok (.iadd, 1) := by decide +kernel
theorem dX8_rateOf_38 : decode cX8_rateOf 38 = .ok (.iaload, 1) := by decide +kernel
theorem dX8_rateOf_39 : decode cX8_rateOf 39 = .ok (.ifCond .ne 6, 3) := by decide +kernel
theorem dX8_rateOf_42 : decode cX8_rateOf 42 = .ok (.iload 7, 2) := by decide +kernel
theorem dX8_rateOf_44 : decode cX8_rateOf 44 = .ok (.ireturn, 1) := by decide +kernel
theorem dX8_rateOf_45 : decode cX8_rateOf 45 = .ok (.aload_n 0, 1) := by decide +kernel
theorem dX8_rateOf_46 : decode cX8_rateOf 46 = .ok (.getfield 27, 3) := by decide +kernel
theorem dX8_rateOf_49 : decode cX8_rateOf 49 = .ok (.iconst 0, 1) := by decide +kernel
theorem dX8_rateOf_50 : decode cX8_rateOf 50 = .ok (.iload 7, 2) := by decide +kernel
theorem dX8_rateOf_52 : decode cX8_rateOf 52 = .ok (.i2l, 1) := by decide +kernel
theorem dX8_rateOf_53 : decode cX8_rateOf 53 = .ok (.lastore, 1) := by decide +kernel
theorem dX8_rateOf_54 : decode cX8_rateOf 54 = .ok (.aload_n 0, 1) := by decide +kernel
theorem dX8_rateOf_55 : decode cX8_rateOf 55 = .ok (.getfield 27, 3) := by decide +kernel
theorem dX8_rateOf_58 : decode cX8_rateOf 58 = .ok (.iconst 1, 1) := by decide +kernel
theorem dX8_rateOf_59 : decode cX8_rateOf 59 = .ok (.aload_n 0, 1) := by decide +kernel
theorem dX8_rateOf_60 : decode cX8_rateOf 60 = .ok (.getfield 7, 3) := by decide +kernel
theorem dX8_rateOf_63 : decode cX8_rateOf 63 = .ok (.sipush 518, 3) := by decide +kernel
theorem dX8_rateOf_66 : decode cX8_rateOf 66 = .ok (.iload_n 2, 1) := by decide +kernel
theorem dX8_rateOf_67 : decode cX8_rateOf 67 = .ok (.iadd, 1) := by decide +kernel
theorem dX8_rateOf_68 : decode cX8_rateOf 68 = .ok (.iaload, 1) := by decide +kernel
theorem dX8_rateOf_69 : decode cX8_rateOf 69 = .ok (.i2l, 1) := by decide +kernel
theorem dX8_rateOf_70 : decode cX8_rateOf 70 = .ok (.lastore, 1) := by decide +kernel
theorem dX8_rateOf_71 : decode cX8_rateOf 71 = .ok (.aload_n 0, 1) := by decide +kernel
theorem dX8_rateOf_72 : decode cX8_rateOf 72 = .ok (.getfield 27, 3) := by decide +kernel
theorem dX8_rateOf_75 : decode cX8_rateOf 75 = .ok (.iconst 2, 1) := by decide +kernel
theorem dX8_rateOf_76 : decode cX8_rateOf 76 = .ok (.iload_n 3, 1) := by decide +kernel
theorem dX8_rateOf_77 : decode cX8_rateOf 77 = .ok (.i2l, 1) := by decide +kernel
theorem dX8_rateOf_78 : decode cX8_rateOf 78 = .ok (.lastore, 1) := by decide +kernel
theorem dX8_rateOf_79 : decode cX8_rateOf 79 = .ok (.aload_n 0, 1) := by decide +kernel
theorem dX8_rateOf_80 : decode cX8_rateOf 80 = .ok (.getfield 27, 3) := by decide +kernel
theorem dX8_rateOf_83 : decode cX8_rateOf 83 = .ok (.iconst 3, 1) := by decide +kernel
theorem dX8_rateOf_84 : decode cX8_rateOf 84 = .ok (.aload_n 0, 1) := by decide +kernel
theorem dX8_rateOf_85 : decode cX8_rateOf 85 = .ok (.iload 6, 2) := by decide +kernel
theorem dX8_rateOf_87 : decode cX8_rateOf 87 = .ok (.iconst 0, 1) := by decide +kernel
theorem dX8_rateOf_88 : decode cX8_rateOf 88 = .ok (.iload 5, 2) := by decide +kernel
theorem dX8_rateOf_90 : decode cX8_rateOf 90 = .ok (.iload_n 2, 1) := by decide +kernel
theorem dX8_rateOf_91 : decode cX8_rateOf 91 = .ok (.invokevirtual 127, 3) := by decide +kernel
theorem dX8_rateOf_94 : decode cX8_rateOf 94 = .ok (.i2l, 1) := by decide +kernel
theorem dX8_rateOf_95 : decode cX8_rateOf 95 = .ok (.lastore, 1) := by decide +kernel
theorem dX8_rateOf_96 : decode cX8_rateOf 96 = .ok (.aload_n 0, 1) := by decide +kernel
theorem dX8_rateOf_97 : decode cX8_rateOf 97 = .ok (.getfield 27, 3) := by decide +kernel
theorem dX8_rateOf_100 : decode cX8_rateOf 100 = .ok (.iconst 4, 1) := by decide +kernel
theorem dX8_rateOf_101 : decode cX8_rateOf 101 = .ok (.iload_n 2, 1) := by decide +kernel
theorem dX8_rateOf_102 : decode cX8_rateOf 102 = .ok (.aload_n 0, 1) := by decide +kernel
theorem dX8_rateOf_103 : decode cX8_rateOf 103 = .ok (.iload_n 1, 1) := by decide +kernel
theorem dX8_rateOf_104 : decode cX8_rateOf 104 = .ok (.iconst 2, 1) := by decide +kernel
theorem dX8_rateOf_105 : decode cX8_rateOf 105 = .ok (.invokevirtual 202, 3) := by decide +kernel
theorem dX8_rateOf_108 : decode cX8_rateOf 108 = .ok (.isub, 1) := by decide +kernel
theorem dX8_rateOf_109 : decode cX8_rateOf 109 = .ok (.i2l, 1) := by decide +kernel
theorem dX8_rateOf_110 : decode cX8_rateOf 110 = .ok (.lastore, 1) := by decide +kernel
theorem dX8_rateOf_111 : decode cX8_rateOf 111 = .ok (.aload_n 0, 1) := by decide +kernel
theorem dX8_rateOf_112 : decode cX8_rateOf 112 = .ok (.getfield 27, 3) := by decide +kernel
theorem dX8_rateOf_115 : decode cX8_rateOf 115 = .ok (.iconst 5, 1) := by decide +kernel
theorem dX8_rateOf_116 : decode cX8_rateOf 116 = .ok (.aload_n 0, 1) := by decide +kernel
theorem dX8_rateOf_117 : decode cX8_rateOf 117 = .ok (.getfield 30, 3) := by decide +kernel
theorem dX8_rateOf_120 : decode cX8_rateOf 120 = .ok (.iload_n 1, 1) := by decide +kernel
theorem dX8_rateOf_121 : decode cX8_rateOf 121 = .ok (.laload, 1) := by decide +kernel
theorem dX8_rateOf_122 : decode cX8_rateOf 122 = .ok (.lastore, 1) := by decide +kernel
theorem dX8_rateOf_123 : decode cX8_rateOf 123 = .ok (.aload_n 0, 1) := by decide +kernel
theorem dX8_rateOf_124 : decode cX8_rateOf 124 = .ok (.getfield 27, 3) := by decide +kernel
theorem dX8_rateOf_127 : decode cX8_rateOf 127 = .ok (.bipush 6, 2) := by decide +kernel
theorem dX8_rateOf_129 : decode cX8_rateOf 129 = .ok (.iload 4, 2) := by decide +kernel
theorem dX8_rateOf_131 : decode cX8_rateOf 131 = .ok (.i2l, 1) := by decide +kernel
theorem dX8_rateOf_132 : decode cX8_rateOf 132 = .ok (.lastore, 1) := by decide +kernel
theorem dX8_rateOf_133 : decode cX8_rateOf 133 = .ok (.aload_n 0, 1) := by decide +kernel
theorem dX8_rateOf_134 : decode cX8_rateOf 134 = .ok (.iload 6, 2) := by decide +kernel
theorem dX8_rateOf_136 : decode cX8_rateOf 136 = .ok (.invokevirtual 199, 3) := by decide +kernel
theorem dX8_rateOf_139 : decode cX8_rateOf 139 = .ok (.ifCond .ne 6, 3) := by decide +kernel
theorem dX8_rateOf_142 : decode cX8_rateOf 142 = .ok (.iload 7, 2) := by decide +kernel
theorem dX8_rateOf_144 : decode cX8_rateOf 144 = .ok (.ireturn, 1) := by decide +kernel
theorem dX8_rateOf_145 : decode cX8_rateOf 145 = .ok (.aload_n 0, 1) := by decide +kernel
theorem dX8_rateOf_146 : decode cX8_rateOf 146 = .ok (.getfield 23, 3) := by decide +kernel
theorem dX8_rateOf_149 : decode cX8_rateOf 149 = .ok (.iconst 0, 1) := by decide +kernel
theorem dX8_rateOf_150 : decode cX8_rateOf 150 = .ok (.laload, 1) := by decide +kernel
theorem dX8_rateOf_151 : decode cX8_rateOf 151 = .ok (.lconst 0, 1) := by decide +kernel
theorem dX8_rateOf_152 : decode cX8_rateOf 152 = .ok (.lcmp, 1) := by decide +kernel
theorem dX8_rateOf_153 : decode cX8_rateOf 153 = .ok (.ifCond .ge 7, 3) := by decide +kernel
theorem dX8_rateOf_156 : decode cX8_rateOf 156 = .ok (.iconst 0, 1) := by decide +kernel
theorem dX8_rateOf_157 : decode cX8_rateOf 157 = .ok (.goto 29, 3) := by decide +kernel
theorem dX8_rateOf_160 : decode cX8_rateOf 160 = .ok (.aload_n 0, 1) := by decide +kernel
theorem dX8_rateOf_161 : decode cX8_rateOf 161 = .ok (.getfield 23, 3) := by decide +kernel
theorem dX8_rateOf_164 : decode cX8_rateOf 164 = .ok (.iconst 0, 1) := by decide +kernel
theorem dX8_rateOf_165 : decode cX8_rateOf 165 = .ok (.laload, 1) := by decide +kernel
theorem dX8_rateOf_166 : decode cX8_rateOf 166 = .ok (.ldc2_w 85, 3) := by decide +kernel
theorem dX8_rateOf_169 : decode cX8_rateOf 169 = .ok (.lcmp, 1) := by decide +kernel
theorem dX8_rateOf_170 : decode cX8_rateOf 170 = .ok (.ifCond .le 9, 3) := by decide +kernel
theorem dX8_rateOf_173 : decode cX8_rateOf 173 = .ok (.sipush 500, 3) := by decide +kernel
theorem dX8_rateOf_176 : decode cX8_rateOf 176 = .ok (.goto 10, 3) := by decide +kernel
theorem dX8_rateOf_179 : decode cX8_rateOf 179 = .ok (.aload_n 0, 1) := by decide +kernel
theorem dX8_rateOf_180 : decode cX8_rateOf 180 = .ok (.getfield 23, 3) := by decide +kernel
theorem dX8_rateOf_183 : decode cX8_rateOf 183 = .ok (.iconst 0, 1) := by decide +kernel
theorem dX8_rateOf_184 : decode cX8_rateOf 184 = .ok (.laload, 1) := by decide +kernel
theorem dX8_rateOf_185 : decode cX8_rateOf 185 = .ok (.l2i, 1) := by decide +kernel
theorem dX8_rateOf_186 : decode cX8_rateOf 186 = .ok (.ireturn, 1) := by decide +kernel
def kX8_rateOf (live : am_E) (Ret : am_R) : am_code := [(0, am_aload 0 1), (1, am_iload 1 2), (2, am_const (.int 0) 3), (3, am_callV live 8 2 TX8_ofLoan 6), (6, am_istore 5 8 8), (8, am_aload 0 9), (9, am_iload 1 10), (10, am_iload 2 11), (11, am_callV live 8 2 TX8_planAt 14), (14, am_istore 6 8 16), (16, am_aload 0 17), (17, am_iload 6 19), (19, am_const (.int 2) 20), (20, am_iload 5 22), (22, am_iload 2 23), (23, am_callV live 8 4 TX8_inForce 26), (26, am_istore 7 8 28), (28, am_aload 0 29), (29, am_getR live 8 0 32), (32, am_const (.int 3508) 35), (35, am_iload 6 37), (37, am_i2 (fun x y => x + y) 38), (38, am_ald live 0 39), (39, am_if1 (fun x => x = 0) 42 45), (42, am_iload 7 44), (44, am_retI Ret), (45, am_aload 0 46), (46, am_getR live 8 13 49), (49, am_const (.int 0) 50), (50, am_iload 7 52), (52, am_i2l 53), (53, am_last live 1 54), (54, am_aload 0 55), (55, am_getR live 8 13 58), (58, am_const (.int 1) 59), (59, am_aload 0 60), (60, am_getR live 8 0 63), (63, am_const (.int 518) 66), (66, am_iload 2 67), (67, am_i2 (fun x y => x + y) 68), (68, am_ald live 0 69), (69, am_i2l 70), (70, am_last live 1 71), (71, am_aload 0 72), (72, am_getR live 8 13 75), (75, am_const (.int 2) 76), (76, am_iload 3 77), (77, am_i2l 78), (78, am_last live 1 79), (79, am_aload 0 80), (80, am_getR live 8 13 83), (83, am_const (.int 3) 84), (84, am_aload 0 85), (85, am_iload 6 87), (87, am_const (.int 0) 88), (88, am_iload 5 90), (90, am_iload 2 91), (91, am_callV live 8 4 TX8_inForce 94), (94, am_i2l 95), (95, am_last live 1 96), (96, am_aload 0 97), (97, am_getR live 8 13 100), (100, am_const (.int 4) 101), (101, am_iload 2 102), (102, am_aload 0 103), (103, am_iload 1 104), (104, am_const (.int 2) 105), (105, am_callV live 8 2 TX8_ofLoan 108), (108, am_i2 (fun x y => x - y) 109), (109, am_i2l 110), (110, am_last live 1 111), (111, am_aload 0 112), (112, am_getR live 8 13 115), (115, am_const (.int 5) 116), (116, am_aload 0 117), (117, am_getR live 8 15 120), (120, am_iload 1 121), (121, am_lald live 1 122), (122, am_last live 1 123), (123, am_aload 0 124), (124, am_getR live 8 13 127), (127, am_const (.int 6) 129), (129, am_iload 4 131), (131, am_i2l 132), (132, am_last live 1 133), (133, am_aload 0 134), (134, am_iload 6 136), (136, am_callV live 8 1 TX8_work 139), (139, am_if1 (fun x => x = 0) 142 145), (142, am_iload 7 144), (144, am_retI Ret), (145, am_aload 0 146), (146, am_getR live 8 10 149), (149, am_const (.int 0) 150), (150, am_lald live 1 151), (151, am_const (.long 0) 152), (152, am_lcmp 153), (153, am_if1 (fun x => 0 ≤ x) 160 156), (156, am_const (.int 0) 157), (157, am_goto 186), (160, am_aload 0 161), (161, am_getR live 8 10 164), (164, am_const (.int 0) 165), (165, am_lald live 1 166), (166, am_const (.long 500) 169), (169, am_lcmp 170), (170, am_if1 (fun x => x ≤ 0) 179 173), (173, am_const (.int 500) 176), (176, am_goto 186), (179, am_aload 0 180), (180, am_getR live 8 10 183), (183, am_const (.int 0) 184), (184, am_lald live 1 185), (185, am_l2i 186), (186, am_retI Ret)]
theorem koX8_rateOf (live : am_E) (Ret : am_R) : ∀ q ∈ kX8_rateOf live Ret, am_ok RX8 cX8_rateOf 8 (some .int) 6 135 live Ret q.1 q.2 :=
  am_kc (ak_aload_n dX8_rateOf_0 rfl rfl) <|
  am_kc (ak_iload_n dX8_rateOf_1 rfl rfl) <|
  am_kc (ak_iconst dX8_rateOf_2 (by decide +kernel) rfl) <|
  am_kc (ak_callV (C := RX8) (F := TX8) (N := 27) metX8_ofLoan rfl ⟨rfl, by decide +kernel, by decide +kernel, by decide +kernel⟩ (am_w5 wd_1154 wd_1156 wd_41 wd_67 wd_1157) (by decide) dX8_rateOf_3 rfl) <|
  am_kc (ak_istore dX8_rateOf_6 rfl) <|
  am_kc (ak_aload_n dX8_rateOf_8 rfl rfl) <|
  am_kc (ak_iload_n dX8_rateOf_9 rfl rfl) <|
  am_kc (ak_iload_n dX8_rateOf_10 rfl rfl) <|
  am_kc (ak_callV (C := RX8) (F := TX8) (N := 27) metX8_planAt rfl ⟨rfl, by decide +kernel, by decide +kernel, by decide +kernel⟩ (am_w5 wd_1085 wd_1087 wd_32 wd_67 wd_1088) (by decide) dX8_rateOf_11 rfl) <|
  am_kc (ak_istore dX8_rateOf_14 rfl) <|
  am_kc (ak_aload_n dX8_rateOf_16 rfl rfl) <|
  am_kc (ak_iload dX8_rateOf_17 rfl) <|
  am_kc (ak_iconst dX8_rateOf_19 (by decide +kernel) rfl) <|
  am_kc (ak_iload dX8_rateOf_20 rfl) <|
  am_kc (ak_iload_n dX8_rateOf_22 rfl rfl) <|
  am_kc (ak_callV (C := RX8) (F := TX8) (N := 27) metX8_inForce rfl ⟨rfl, by decide +kernel, by decide +kernel, by decide +kernel⟩ (am_w5 wd_1053 wd_1055 wd_29 wd_67 wd_1056) (by decide) dX8_rateOf_23 rfl) <|
  am_kc (ak_istore dX8_rateOf_26 rfl) <|
  am_kc (ak_aload_n dX8_rateOf_28 rfl rfl) <|
  am_kc (ak_getR (C := RX8) (T := TX8) (N := 27) rfl inX8w (by decide) rfl rfl rfl wd_895 dX8_rateOf_29 rfl) <|
  am_kc (ak_sipush dX8_rateOf_32 (by decide +kernel) rfl) <|
  am_kc (ak_iload dX8_rateOf_35 rfl) <|
  am_kc (ak_iadd dX8_rateOf_37 rfl) <|
  am_kc (ak_iald (t := 0) (fun _ => rfl) rfl dX8_rateOf_38 rfl) <|
  am_kc (ak_if_ne dX8_rateOf_39 (by decide +kernel) rfl) <|
  am_kc (ak_iload dX8_rateOf_42 rfl) <|
  am_kc (ak_retI dX8_rateOf_44) <|
  am_kc (ak_aload_n dX8_rateOf_45 rfl rfl) <|
  am_kc (ak_getR (C := RX8) (T := TX8) (N := 27) rfl inX8w (by decide) rfl rfl rfl wd_908 dX8_rateOf_46 rfl) <|
  am_kc (ak_iconst dX8_rateOf_49 (by decide +kernel) rfl) <|
  am_kc (ak_iload dX8_rateOf_50 rfl) <|
  am_kc (ak_i2l dX8_rateOf_52 rfl) <|
  am_kc (ak_last (t := 1) (fun _ => rfl) rfl dX8_rateOf_53 rfl) <|
  am_kc (ak_aload_n dX8_rateOf_54 rfl rfl) <|
  am_kc (ak_getR (C := RX8) (T := TX8) (N := 27) rfl inX8w (by decide) rfl rfl rfl wd_908 dX8_rateOf_55 rfl) <|
  am_kc (ak_iconst dX8_rateOf_58 (by decide +kernel) rfl) <|
  am_kc (ak_aload_n dX8_rateOf_59 rfl rfl) <|
  am_kc (ak_getR (C := RX8) (T := TX8) (N := 27) rfl inX8w (by decide) rfl rfl rfl wd_895 dX8_rateOf_60 rfl) <|
  am_kc (ak_sipush dX8_rateOf_63 (by decide +kernel) rfl) <|
  am_kc (ak_iload_n dX8_rateOf_66 rfl rfl) <|
  am_kc (ak_iadd dX8_rateOf_67 rfl) <|
  am_kc (ak_iald (t := 0) (fun _ => rfl) rfl dX8_rateOf_68 rfl) <|
  am_kc (ak_i2l dX8_rateOf_69 rfl) <|
  am_kc (ak_last (t := 1) (fun _ => rfl) rfl dX8_rateOf_70 rfl) <|
  am_kc (ak_aload_n dX8_rateOf_71 rfl rfl) <|
  am_kc (ak_getR (C := RX8) (T := TX8) (N := 27) rfl inX8w (by decide) rfl rfl rfl wd_908 dX8_rateOf_72 rfl) <|
  am_kc (ak_iconst dX8_rateOf_75 (by decide +kernel) rfl) <|
  am_kc (ak_iload_n dX8_rateOf_76 rfl rfl) <|
  am_kc (ak_i2l dX8_rateOf_77 rfl) <|
  am_kc (ak_last (t := 1) (fun _ => rfl) rfl dX8_rateOf_78 rfl) <|
  am_kc (ak_aload_n dX8_rateOf_79 rfl rfl) <|
  am_kc (ak_getR (C := RX8) (T := TX8) (N := 27) rfl inX8w (by decide) rfl rfl rfl wd_908 dX8_rateOf_80 rfl) <|
  am_kc (ak_iconst dX8_rateOf_83 (by decide +kernel) rfl) <|
  am_kc (ak_aload_n dX8_rateOf_84 rfl rfl) <|
  am_kc (ak_iload dX8_rateOf_85 rfl) <|
  am_kc (ak_iconst dX8_rateOf_87 (by decide +kernel) rfl) <|
  am_kc (ak_iload dX8_rateOf_88 rfl) <|
  am_kc (ak_iload_n dX8_rateOf_90 rfl rfl) <|
  am_kc (ak_callV (C := RX8) (F := TX8) (N := 27) metX8_inForce rfl ⟨rfl, by decide +kernel, by decide +kernel, by decide +kernel⟩ (am_w5 wd_1053 wd_1055 wd_29 wd_67 wd_1056) (by decide) dX8_rateOf_91 rfl) <|
  am_kc (ak_i2l dX8_rateOf_94 rfl) <|
  am_kc (ak_last (t := 1) (fun _ => rfl) rfl dX8_rateOf_95 rfl) <|
  am_kc (ak_aload_n dX8_rateOf_96 rfl rfl) <|
  am_kc (ak_getR (C := RX8) (T := TX8) (N := 27) rfl inX8w (by decide) rfl rfl rfl wd_908 dX8_rateOf_97 rfl) <|
  am_kc (ak_iconst dX8_rateOf_100 (by decide +kernel) rfl) <|
  am_kc (ak_iload_n dX8_rateOf_101 rfl rfl) <|
  am_kc (ak_aload_n dX8_rateOf_102 rfl rfl) <|
  am_kc (ak_iload_n dX8_rateOf_103 rfl rfl) <|
  am_kc (ak_iconst dX8_rateOf_104 (by decide +kernel) rfl) <|
  am_kc (ak_callV (C := RX8) (F := TX8) (N := 27) metX8_ofLoan rfl ⟨rfl, by decide +kernel, by decide +kernel, by decide +kernel⟩ (am_w5 wd_1154 wd_1156 wd_41 wd_67 wd_1157) (by decide) dX8_rateOf_105 rfl) <|
  am_kc (ak_isub dX8_rateOf_108 rfl) <|
  am_kc (ak_i2l dX8_rateOf_109 rfl) <|
  am_kc (ak_last (t := 1) (fun _ => rfl) rfl dX8_rateOf_110 rfl) <|
  am_kc (ak_aload_n dX8_rateOf_111 rfl rfl) <|
  am_kc (ak_getR (C := RX8) (T := TX8) (N := 27) rfl inX8w (by decide) rfl rfl rfl wd_908 dX8_rateOf_112 rfl) <|
  am_kc (ak_iconst dX8_rateOf_115 (by decide +kernel) rfl) <|
  am_kc (ak_aload_n dX8_rateOf_116 rfl rfl) <|
  am_kc (ak_getR (C := RX8) (T := TX8) (N := 27) rfl inX8w (by decide) rfl rfl rfl wd_910 dX8_rateOf_117 rfl) <|
  am_kc (ak_iload_n dX8_rateOf_120 rfl rfl) <|
  am_kc (ak_lald (t := 1) (fun _ => rfl) rfl dX8_rateOf_121 rfl) <|
  am_kc (ak_last (t := 1) (fun _ => rfl) rfl dX8_rateOf_122 rfl) <|
  am_kc (ak_aload_n dX8_rateOf_123 rfl rfl) <|
  am_kc (ak_getR (C := RX8) (T := TX8) (N := 27) rfl inX8w (by decide) rfl rfl rfl wd_908 dX8_rateOf_124 rfl) <|
  am_kc (ak_bipush dX8_rateOf_127 (by decide +kernel) rfl) <|
  am_kc (ak_iload dX8_rateOf_129 rfl) <|
  am_kc (ak_i2l dX8_rateOf_131 rfl) <|
  am_kc (ak_last (t := 1) (fun _ => rfl) rfl dX8_rateOf_132 rfl) <|
  am_kc (ak_aload_n dX8_rateOf_133 rfl rfl) <|
  am_kc (ak_iload dX8_rateOf_134 rfl) <|
  am_kc (ak_callV (C := RX8) (F := TX8) (N := 27) metX8_work rfl ⟨rfl, by decide +kernel, by decide +kernel, by decide +kernel⟩ (am_w5 wd_1102 wd_1104 wd_33 wd_67 wd_1105) (by decide) dX8_rateOf_136 rfl) <|
  am_kc (ak_if_ne dX8_rateOf_139 (by decide +kernel) rfl) <|
  am_kc (ak_iload dX8_rateOf_142 rfl) <|
  am_kc (ak_retI dX8_rateOf_144) <|
  am_kc (ak_aload_n dX8_rateOf_145 rfl rfl) <|
  am_kc (ak_getR (C := RX8) (T := TX8) (N := 27) rfl inX8w (by decide) rfl rfl rfl wd_905 dX8_rateOf_146 rfl) <|
  am_kc (ak_iconst dX8_rateOf_149 (by decide +kernel) rfl) <|
  am_kc (ak_lald (t := 1) (fun _ => rfl) rfl dX8_rateOf_150 rfl) <|
  am_kc (ak_lconst dX8_rateOf_151 (by decide +kernel) rfl) <|
  am_kc (ak_lcmp dX8_rateOf_152 rfl) <|
  am_kc (ak_if_ge dX8_rateOf_153 (by decide +kernel) rfl) <|
  am_kc (ak_iconst dX8_rateOf_156 (by decide +kernel) rfl) <|
  am_kc (ak_goto dX8_rateOf_157 (by decide +kernel)) <|
  am_kc (ak_aload_n dX8_rateOf_160 rfl rfl) <|
  am_kc (ak_getR (C := RX8) (T := TX8) (N := 27) rfl inX8w (by decide) rfl rfl rfl wd_905 dX8_rateOf_161 rfl) <|
  am_kc (ak_iconst dX8_rateOf_164 (by decide +kernel) rfl) <|
  am_kc (ak_lald (t := 1) (fun _ => rfl) rfl dX8_rateOf_165 rfl) <|
  am_kc (ak_ldc2 wd_1008 dX8_rateOf_166 rfl) <|
  am_kc (ak_lcmp dX8_rateOf_169 rfl) <|
  am_kc (ak_if_le dX8_rateOf_170 (by decide +kernel) rfl) <|
  am_kc (ak_sipush dX8_rateOf_173 (by decide +kernel) rfl) <|
  am_kc (ak_goto dX8_rateOf_176 (by decide +kernel)) <|
  am_kc (ak_aload_n dX8_rateOf_179 rfl rfl) <|
  am_kc (ak_getR (C := RX8) (T := TX8) (N := 27) rfl inX8w (by decide) rfl rfl rfl wd_905 dX8_rateOf_180 rfl) <|
  am_kc (ak_iconst dX8_rateOf_183 (by decide +kernel) rfl) <|
  am_kc (ak_lald (t := 1) (fun _ => rfl) rfl dX8_rateOf_184 rfl) <|
  am_kc (ak_l2i dX8_rateOf_185 rfl) <|
  am_kc (ak_retI dX8_rateOf_186) <| am_kn
def TX8_rateOf : am_T := fun live as M R => match as with
  | [.ref n, .int l, .int y, .int e, .int a] => am_mn live ∧ n = 200 ∧ am_in l 30 ∧ am_in y 40 ∧ r_I M ∧ ∀ v M', r_sc M M' → r_I M' → R (some (.int v)) M'
  | _ => False
set_option maxRecDepth 100000 in
set_option maxHeartbeats 4000000 in
theorem metX8_rateOf : am_Met yX8_rateOf cX8_rateOf 8 (some .int) (6) (135) TX8_rateOf := by
  refine am_met (own := RX8) (by decide +kernel) rfl kX8_rateOf koX8_rateOf 200 (fun _ _ _ _ _ => none) (fun live as M Ret h => ?_) (fun _ _ _ _ _ _ _ _ hI => by cases hI)
  unfold TX8_rateOf at h
  split at h
  · next n l y e a =>
    refine ⟨Nat.le_of_ble_eq_true rfl, ?_⟩
    change am_wp _ _ _ _ [(0, Value.ref n), (1, Value.int l), (2, Value.int y), (3, Value.int e), (4, Value.int a)] _ _
    obtain ⟨hmn, rfl, hl, hy, hR, h⟩ := h
    have hmn2 := hmn
    obtain ⟨i1, i2, rfl⟩ := hmn2
    have hp := r_pers hR hl
    have w0 : 0 ≤ (0 : Int32).toInt ∧ (0 : Int32).toInt ≤ 7 := ⟨by decide, by decide⟩
    have w2 : 0 ≤ (2 : Int32).toInt ∧ (2 : Int32).toInt ≤ 7 := ⟨by decide, by decide⟩
    have l207 : am_len 207 = 30 := rfl
    have y518 := r_in40 hy (c := 518) ⟨by decide, by decide⟩
    have x1 := y518.1
    have x2 := y518.2
    have l1 := hl.1
    have l2 := hl.2
    repeat' (first | (with_reducible exact hmn) | (with_reducible exact hl) | (with_reducible exact hp) | (with_reducible exact w0) | (with_reducible exact w2) | (with_reducible exact hR) | (with_reducible exact x1) | (with_reducible exact x2) | (with_reducible exact l1) | apply And.intro | exact rfl | ((with_reducible change r_I _); (with_reducible assumption)) | (intro hx; exact absurd hx (by decide)) | (intro hx; exact absurd (by decide) hx) | decide | intro hx | (refine Exists.intro _ (And.intro rfl ?_)))
    all_goals try first | (with_reducible change am_tI _ _) | (change Ret _ _) | (change Ret _ _ _) | (change Exists _)
    all_goals try dsimp only at *
    all_goals try exact absurd ‹(1000 : Int64) = 0› (by decide)
    all_goals first
      | exact (r_in5 (by with_reducible assumption) ⟨by decide, by decide⟩).1
      | exact (r_in5 (by with_reducible assumption) ⟨by decide, by decide⟩).2
      | exact (show am_in _ 5 by with_reducible assumption).1
      | exact (show am_in _ 5 by with_reducible assumption).2
      | decide
      | (rw [l207]; exact hl.2)
      | (change r_I _; (repeat' (first | (with_reducible assumption) | ((with_reducible change r_I (am_wJ _ _ _ _)); refine r_I.wJ ?_) | ((with_reducible change r_I (am_wI _ _ _ _)); refine r_I.wI ?_ rfl))))
      | ((with_reducible change Ret _ _); exact h _ _ (by (repeat' (first | (with_reducible exact r_sc.rf) | (with_reducible assumption) | ((with_reducible change r_sc _ (am_wI _ _ _ _)); refine r_sc.wI ?_ rfl) | ((with_reducible change r_sc _ (am_wJ _ _ _ _)); refine r_sc.wJ ?_ rfl) | (refine r_sc.tr ?_ (by with_reducible assumption))))) (by (repeat' (first | (with_reducible assumption) | ((with_reducible change r_I (am_wJ _ _ _ _)); refine r_I.wJ ?_) | ((with_reducible change r_I (am_wI _ _ _ _)); refine r_I.wI ?_ rfl)))))
      | skip
  · exact h.elim
theorem dX8_runOf_0 : decode cX8_runOf 0 = .ok (.iload_n 2, 1) := by decide +kernel
theorem dX8_runOf_1 : decode cX8_runOf 1 = .ok (.tableswitch 59 0 3 #[31, 38, 45, 52], 31) := by decide +kernel
theorem dX8_runOf_32 : decode cX8_runOf 32 = .ok (.aload_n 0, 1) := by decide +kernel
theorem dX8_runOf_33 : decode cX8_runOf 33 = .ok (.getfield 30, 3) := by decide +kernel
theorem dX8_runOf_36 : decode cX8_runOf 36 = .ok (.iload_n 1, 1) := by decide +kernel
theorem dX8_runOf_37 : decode cX8_runOf 37 = .ok (.laload, 1) := by decide +kernel
theorem dX8_runOf_38 : decode cX8_runOf 38 = .ok (.lreturn, 1) := by decide +kernel
theorem dX8_runOf_39 : decode cX8_runOf 39 = .ok (.aload_n 0, 1) := by decide +kernel
theorem dX8_runOf_40 : decode cX8_runOf 40 = .ok (.getfield 33, 3) := by decide +kernel
theorem dX8_runOf_43 : decode cX8_runOf 43 = .ok (.iload_n 1, 1) := by decide +kernel
theorem dX8_runOf_44 : decode cX8_runOf 44 = .ok (.laload, 1) := by decide +kernel
theorem dX8_runOf_45 : decode cX8_runOf 45 = .ok (.lreturn, 1) := by decide +kernel
theorem dX8_runOf_46 : decode cX8_runOf 46 = .ok (.aload_n 0, 1) := by decide +kernel
theorem dX8_runOf_47 : decode cX8_runOf 47 = .ok (.getfield 42, 3) := by decide +kernel
theorem dX8_runOf_50 : decode cX8_runOf 50 = .ok (.iload_n 1, 1) := by decide +kernel
theorem dX8_runOf_51 : decode cX8_runOf 51 = .ok (.laload, 1) := by decide +kernel
theorem dX8_runOf_52 : decode cX8_runOf 52 = .ok (.lreturn, 1) := by decide +kernel
theorem dX8_runOf_53 : decode cX8_runOf 53 = .ok (.aload_n 0, 1) := by decide +kernel
theorem dX8_runOf_54 : decode cX8_runOf 54 = .ok (.getfield 36, 3) := by decide +kernel
theorem dX8_runOf_57 : decode cX8_runOf 57 = .ok (.iload_n 1, 1) := by decide +kernel
theorem dX8_runOf_58 : decode cX8_runOf 58 = .ok (.laload, 1) := by decide +kernel
theorem dX8_runOf_59 : decode cX8_runOf 59 = .ok (.lreturn, 1) := by decide +kernel
theorem dX8_runOf_60 : decode cX8_runOf 60 = .ok (.aload_n 0, 1) := by decide +kernel
theorem dX8_runOf_61 : decode cX8_runOf 61 = .ok (.getfield 45, 3) := by decide +kernel
theorem dX8_runOf_64 : decode cX8_runOf 64 = .ok (.iload_n 1, 1) := by decide +kernel
theorem dX8_runOf_65 : decode cX8_runOf 65 = .ok (.laload, 1) := by decide +kernel
theorem dX8_runOf_66 : decode cX8_runOf 66 = .ok (.lreturn, 1) := by decide +kernel
def kX8_runOf (live : am_E) (Ret : am_R) : am_code := [(0, am_iload 2 1), (1, am_switch [(0, 32), (1, 39), (2, 46), (3, 53)] 60), (32, am_aload 0 33), (33, am_getR live 8 15 36), (36, am_iload 1 37), (37, am_lald live 1 38), (38, am_retL Ret), (39, am_aload 0 40), (40, am_getR live 8 16 43), (43, am_iload 1 44), (44, am_lald live 1 45), (45, am_retL Ret), (46, am_aload 0 47), (47, am_getR live 8 19 50), (50, am_iload 1 51), (51, am_lald live 1 52), (52, am_retL Ret), (53, am_aload 0 54), (54, am_getR live 8 17 57), (57, am_iload 1 58), (58, am_lald live 1 59), (59, am_retL Ret), (60, am_aload 0 61), (61, am_getR live 8 20 64), (64, am_iload 1 65), (65, am_lald live 1 66), (66, am_retL Ret)]
theorem koX8_runOf (live : am_E) (Ret : am_R) : ∀ q ∈ kX8_runOf live Ret, am_ok RX8 cX8_runOf 3 (some .long) 0 0 live Ret q.1 q.2 :=
  am_kc (ak_iload_n dX8_runOf_0 rfl rfl) <|
  am_kc (ak_tswitch dX8_runOf_1 (by decide +kernel) (by decide +kernel) (by decide +kernel) (by decide +kernel) (by decide +kernel) (by decide +kernel)) <|
  am_kc (ak_aload_n dX8_runOf_32 rfl rfl) <|
  am_kc (ak_getR (C := RX8) (T := TX8) (N := 27) rfl inX8w (by decide) rfl rfl rfl wd_910 dX8_runOf_33 rfl) <|
  am_kc (ak_iload_n dX8_runOf_36 rfl rfl) <|
  am_kc (ak_lald (t := 1) (fun _ => rfl) rfl dX8_runOf_37 rfl) <|
  am_kc (ak_retL dX8_runOf_38) <|
  am_kc (ak_aload_n dX8_runOf_39 rfl rfl) <|
  am_kc (ak_getR (C := RX8) (T := TX8) (N := 27) rfl inX8w (by decide) rfl rfl rfl wd_911 dX8_runOf_40 rfl) <|
  am_kc (ak_iload_n dX8_runOf_43 rfl rfl) <|
  am_kc (ak_lald (t := 1) (fun _ => rfl) rfl dX8_runOf_44 rfl) <|
  am_kc (ak_retL dX8_runOf_45) <|
  am_kc (ak_aload_n dX8_runOf_46 rfl rfl) <|
  am_kc (ak_getR (C := RX8) (T := TX8) (N := 27) rfl inX8w (by decide) rfl rfl rfl wd_914 dX8_runOf_47 rfl) <|
  am_kc (ak_iload_n dX8_runOf_50 rfl rfl) <|
  am_kc (ak_lald (t := 1) (fun _ => rfl) rfl dX8_runOf_51 rfl) <|
  am_kc (ak_retL dX8_runOf_52) <|
  am_kc (ak_aload_n dX8_runOf_53 rfl rfl) <|
  am_kc (ak_getR (C := RX8) (T := TX8) (N := 27) rfl inX8w (by decide) rfl rfl rfl wd_912 dX8_runOf_54 rfl) <|
  am_kc (ak_iload_n dX8_runOf_57 rfl rfl) <|
  am_kc (ak_lald (t := 1) (fun _ => rfl) rfl dX8_runOf_58 rfl) <|
  am_kc (ak_retL dX8_runOf_59) <|
  am_kc (ak_aload_n dX8_runOf_60 rfl rfl) <|
  am_kc (ak_getR (C := RX8) (T := TX8) (N := 27) rfl inX8w (by decide) rfl rfl rfl wd_915 dX8_runOf_61 rfl) <|
  am_kc (ak_iload_n dX8_runOf_64 rfl rfl) <|
  am_kc (ak_lald (t := 1) (fun _ => rfl) rfl dX8_runOf_65 rfl) <|
  am_kc (ak_retL dX8_runOf_66) <| am_kn
def TX8_runOf : am_T := fun live as M R => match as with
  | [.ref n, .int l, .int w] => am_mn live ∧ n = 200 ∧ am_in l 30 ∧ ∀ v, R (some (.long v)) M
  | _ => False
set_option maxRecDepth 100000 in
set_option maxHeartbeats 4000000 in
theorem metX8_runOf : am_Met yX8_runOf cX8_runOf 3 (some .long) (0) (0) TX8_runOf := by
  refine am_met (own := RX8) (by decide +kernel) rfl kX8_runOf koX8_runOf 100 (fun _ _ _ _ _ => none) (fun live as M Ret h => ?_) (fun _ _ _ _ _ _ _ _ hI => by cases hI)
  unfold TX8_runOf at h
  split at h
  · next n l w =>
    refine ⟨Nat.le_of_ble_eq_true rfl, ?_⟩
    change am_wp _ _ _ _ [(0, Value.ref n), (1, Value.int l), (2, Value.int w)] _ _
    obtain ⟨⟨i1, i2, rfl⟩, rfl, hl, h⟩ := h
    repeat' (first | apply And.intro | exact rfl | intro hx | (refine Exists.intro _ (And.intro rfl ?_)))
    all_goals try first | (with_reducible change am_tI _ _) | (change Ret _ _) | (change Ret _ _ _) | (change Exists _)
    all_goals try dsimp only at *
    all_goals try exact absurd ‹(1000 : Int64) = 0› (by decide)
    all_goals first
      | exact h _
      | exact hl.1
      | exact hl.2
  · exact h.elim
set_option maxRecDepth 100000 in
theorem wd_1187 : Cond.methodLink "LearnLoansModel" 233 yX8_runOf ∈ am_ws := am_wsi (List.mem_of_getElem? (i := 1187) (by rfl)) (by decide +kernel)
set_option maxRecDepth 100000 in
theorem wd_1189 : Cond.instanceMethod yX8_runOf ∈ am_ws := am_wsi (List.mem_of_getElem? (i := 1189) (by rfl)) (by decide +kernel)
set_option maxRecDepth 100000 in
theorem wd_49 : Cond.selects "LearnLoansModel" yX8_runOf yX8_runOf ∈ am_ws := am_wsi (List.mem_of_getElem? (i := 49) (by rfl)) (by decide +kernel)
set_option maxRecDepth 100000 in
theorem wd_1190 : Cond.code yX8_runOf cX8_runOf 3 (some .long) ∈ am_ws := am_wsi (List.mem_of_getElem? (i := 1190) (by rfl)) (by decide +kernel)
theorem dX8_allOf_0 : decode cX8_allOf 0 = .ok (.lconst 0, 1) := by decide +kernel
theorem dX8_allOf_1 : decode cX8_allOf 1 = .ok (.lstore_n 3, 1) := by decide +kernel
theorem dX8_allOf_2 : decode cX8_allOf 2 = .ok (.iconst 0, 1) := by decide +kernel
theorem dX8_allOf_3 : decode cX8_allOf 3 = .ok (.istore 5, 2) := by decide +kernel
theorem dX8_allOf_5 : decode cX8_allOf 5 = .ok (.iload 5, 2) := by decide +kernel
theorem dX8_allOf_7 : decode cX8_allOf 7 = .ok (.aload_n 0, 1) := by decide +kernel
theorem dX8_allOf_8 : decode cX8_allOf 8 = .ok (.getfield 7, 3) := by decide +kernel
theorem dX8_allOf_11 : decode cX8_allOf 11 = .ok (.iconst 1, 1) := by decide +kernel
theorem dX8_allOf_12 : decode cX8_allOf 12 = .ok (.iaload, 1) := by decide +kernel
theorem dX8_allOf_13 : decode cX8_allOf 13 = .ok (.if_icmp .ge 34, 3) := by decide +kernel
theorem dX8_allOf_16 : decode cX8_allOf 16 = .ok (.lload_n 3, 1) := by decide +kernel
theorem dX8_allOf_17 : decode cX8_allOf 17 = .ok (.aload_n 0, 1) := by decide +kernel
theorem dX8_allOf_18 : decode cX8_allOf 18 = .ok (.iload 5, 2) := by decide +kernel
theorem dX8_allOf_20 : decode cX8_allOf 20 = .ok (.iconst 0, 1) := by decide +kernel
theorem dX8_allOf_21 : decode cX8_allOf 21 = .ok (.invokevirtual 202, 3) := by decide +kernel
theorem dX8_allOf_24 : decode cX8_allOf 24 = .ok (.iload_n 1, 1) := by decide +kernel
theorem dX8_allOf_25 : decode cX8_allOf 25 = .ok (.if_icmp .ne 13, 3) := by decide +kernel
theorem dX8_allOf_28 : decode cX8_allOf 28 = .ok (.aload_n 0, 1) := by decide +kernel
theorem dX8_allOf_29 : decode cX8_allOf 29 = .ok (.iload 5, 2) := by decide +kernel
theorem dX8_allOf_31 : decode cX8_allOf 31 = .ok (.iload_n 2, 1) := by decide +kernel
theorem dX8_allOf_32 : decode cX8_allOf 32 = .ok (.invokevirtual 233, 3) := by decide +kernel
theorem dX8_allOf_35 : decode cX8_allOf 35 = .ok (.goto 4, 3) := by decide +kernel
theorem dX8_allOf_38 : decode cX8_allOf 38 = .ok (.lconst 0, 1) := by decide +kernel
theorem dX8_allOf_39 : decode cX8_allOf 39 = .ok (.ladd, 1) := by decide +kernel
theorem dX8_allOf_40 : decode cX8_allOf 40 = .ok (.lstore_n 3, 1) := by decide +kernel
theorem dX8_allOf_41 : decode cX8_allOf 41 = .ok (.iinc 5 1, 3) := by decide +kernel
theorem dX8_allOf_44 : decode cX8_allOf 44 = .ok (.goto (-39), 3) := by decide +kernel
theorem dX8_allOf_47 : decode cX8_allOf 47 = .ok (.lload_n 3, 1) := by decide +kernel
theorem dX8_allOf_48 : decode cX8_allOf 48 = .ok (.lreturn, 1) := by decide +kernel
def kX8_allOf (live : am_E) (Ret : am_R) : am_code := [(0, am_const (.long 0) 1), (1, am_lstore 3 6 2), (2, am_const (.int 0) 3), (3, am_istore 5 6 5), (5, am_iload 5 7), (7, am_aload 0 8), (8, am_getR live 8 0 11), (11, am_const (.int 1) 12), (12, am_ald live 0 13), (13, am_if2 (fun x y => y ≤ x) 47 16), (16, am_lload 3 17), (17, am_aload 0 18), (18, am_iload 5 20), (20, am_const (.int 0) 21), (21, am_callV live 8 2 TX8_ofLoan 24), (24, am_iload 1 25), (25, am_if2 (fun x y => x = y) 28 38), (28, am_aload 0 29), (29, am_iload 5 31), (31, am_iload 2 32), (32, am_callV live 8 2 TX8_runOf 35), (35, am_goto 39), (38, am_const (.long 0) 39), (39, am_l2 (fun x y => x + y) 40), (40, am_lstore 3 6 41), (41, am_iinc 5 6 1 44), (44, am_goto 5), (47, am_lload 3 48), (48, am_retL Ret)]
theorem koX8_allOf (live : am_E) (Ret : am_R) : ∀ q ∈ kX8_allOf live Ret, am_ok RX8 cX8_allOf 6 (some .long) 1 22 live Ret q.1 q.2 :=
  am_kc (ak_lconst dX8_allOf_0 (by decide +kernel) rfl) <|
  am_kc (ak_lstore_n dX8_allOf_1 rfl rfl) <|
  am_kc (ak_iconst dX8_allOf_2 (by decide +kernel) rfl) <|
  am_kc (ak_istore dX8_allOf_3 rfl) <|
  am_kc (ak_iload dX8_allOf_5 rfl) <|
  am_kc (ak_aload_n dX8_allOf_7 rfl rfl) <|
  am_kc (ak_getR (C := RX8) (T := TX8) (N := 27) rfl inX8w (by decide) rfl rfl rfl wd_895 dX8_allOf_8 rfl) <|
  am_kc (ak_iconst dX8_allOf_11 (by decide +kernel) rfl) <|
  am_kc (ak_iald (t := 0) (fun _ => rfl) rfl dX8_allOf_12 rfl) <|
  am_kc (ak_icmp_ge dX8_allOf_13 (by decide +kernel) rfl) <|
  am_kc (ak_lload_n dX8_allOf_16 rfl rfl) <|
  am_kc (ak_aload_n dX8_allOf_17 rfl rfl) <|
  am_kc (ak_iload dX8_allOf_18 rfl) <|
  am_kc (ak_iconst dX8_allOf_20 (by decide +kernel) rfl) <|
  am_kc (ak_callV (C := RX8) (F := TX8) (N := 27) metX8_ofLoan rfl ⟨rfl, by decide +kernel, by decide +kernel, by decide +kernel⟩ (am_w5 wd_1154 wd_1156 wd_41 wd_67 wd_1157) (by decide) dX8_allOf_21 rfl) <|
  am_kc (ak_iload_n dX8_allOf_24 rfl rfl) <|
  am_kc (ak_icmp_ne dX8_allOf_25 (by decide +kernel) rfl) <|
  am_kc (ak_aload_n dX8_allOf_28 rfl rfl) <|
  am_kc (ak_iload dX8_allOf_29 rfl) <|
  am_kc (ak_iload_n dX8_allOf_31 rfl rfl) <|
  am_kc (ak_callV (C := RX8) (F := TX8) (N := 27) metX8_runOf rfl ⟨rfl, by decide +kernel, by decide +kernel, by decide +kernel⟩ (am_w5 wd_1187 wd_1189 wd_49 wd_67 wd_1190) (by decide) dX8_allOf_32 rfl) <|
  am_kc (ak_goto dX8_allOf_35 (by decide +kernel)) <|
  am_kc (ak_lconst dX8_allOf_38 (by decide +kernel) rfl) <|
  am_kc (ak_ladd dX8_allOf_39 rfl) <|
  am_kc (ak_lstore_n dX8_allOf_40 rfl rfl) <|
  am_kc (ak_iinc dX8_allOf_41 (by decide +kernel) rfl) <|
  am_kc (ak_goto dX8_allOf_44 (by decide +kernel)) <|
  am_kc (ak_lload_n dX8_allOf_47 rfl rfl) <|
  am_kc (ak_retL dX8_allOf_48) <| am_kn
def TX8_allOf : am_T := fun live as M R => match as with
  | [.ref n, .int p, .int w] => am_mn live ∧ n = 200 ∧ r_I M ∧ ∀ v, R (some (.long v)) M
  | _ => False
def JX8_allOf : am_E → List Value → am_M → am_R → am_inv := fun live as M0 _ pc => match as with
  | [.ref n, .int p, .int w] => (match pc with
    | 5 => some ([0, 1, 2, 3, 5], fun k L st M => ∃ (v : Int64) (i : Int32), L = [(0, .ref 200), (1, .int p), (2, .int w), (3, .long v), (5, .int i)] ∧ st = [] ∧ k = ((31 - i.toInt).toNat, 0) ∧ 0 ≤ i.toInt ∧ M = M0)
    | _ => none)
  | _ => none
set_option maxRecDepth 100000 in
set_option maxHeartbeats 4000000 in
theorem metX8_allOf : am_Met yX8_allOf cX8_allOf 6 (some .long) (1) (22) TX8_allOf := by
  refine am_met (own := RX8) (by decide +kernel) rfl kX8_allOf koX8_allOf 100 JX8_allOf ?_ ?_
  · intro live as M Ret h
    unfold TX8_allOf at h
    split at h
    · next n p w =>
      refine ⟨Nat.le_of_ble_eq_true rfl, ?_⟩
      change am_wp _ _ _ _ [(0, Value.ref n), (1, Value.int p), (2, Value.int w)] _ _
      obtain ⟨hmn, rfl, hR, h⟩ := h
      repeat' (first | apply And.intro | exact rfl | intro hx | (refine Exists.intro _ (And.intro rfl ?_)))
      all_goals try first | (with_reducible change am_tI _ _) | (change Ret _ _) | (change Ret _ _ _) | (change Exists _)
      all_goals try dsimp only at *
      all_goals try exact absurd ‹(1000 : Int64) = 0› (by decide)
      exact ⟨_, _, _, rfl, rfl, rfl, by decide, rfl⟩
    · exact h.elim
  · intro live as M0 Ret h k pc I hI L st M hi
    unfold TX8_allOf at h
    split at h
    · next n p w =>
      obtain ⟨hmn, rfl, hR, h⟩ := h
      have hmn2 := hmn
      obtain ⟨i1, i2, rfl⟩ := hmn2
      have l201 : am_len 201 = 3760 := rfl
      have w0 : 0 ≤ (0 : Int32).toInt ∧ (0 : Int32).toInt ≤ 7 := ⟨by decide, by decide⟩
      have n1 : 0 ≤ (M0.1 201 (Int32.toNatClampNeg 1)).toInt ∧ (M0.1 201 (Int32.toNatClampNeg 1)).toInt ≤ 30 := hR.n1
      change (match pc with | 5 => _ | _ => none) = _ at hI
      split at hI
      · cases hI
        obtain ⟨v, i, rfl, rfl, rfl, e1, rfl⟩ := hi
        by_cases hz : M.1 201 (Int32.toNatClampNeg 1) ≤ i
        · skip
          repeat' (first | apply And.intro | exact rfl | (intro hx; with_reducible exact absurd hz hx) | (intro hx; exact absurd hx (by decide)) | (intro hx; exact absurd (by decide) hx) | decide | intro hx | (refine Exists.intro _ (And.intro rfl ?_)))
          all_goals try first | (with_reducible change am_tI _ _) | (change Ret _ _) | (change Ret _ _ _) | (change Exists _)
          all_goals try dsimp only at *
          all_goals try exact absurd ‹(1000 : Int64) = 0› (by decide)
          all_goals first
            | exact h _
            | (show _ < _; simp only [l201]; decide)
        · have hz2 := hz
          simp only [i_le] at hz2
          have hl : am_in i 30 := ⟨e1, by omega⟩
          have hi := i_inc (x := i) (by omega) (by omega)
          repeat' (first | (with_reducible exact hmn) | (with_reducible exact hl) | (with_reducible exact w0) | apply And.intro | exact rfl | (intro hx; with_reducible exact absurd hx hz) | (intro hx; exact absurd hx (by decide)) | (intro hx; exact absurd (by decide) hx) | decide | intro hx | (refine Exists.intro _ (And.intro rfl ?_)))
          all_goals try first | (with_reducible change am_tI _ _) | (change Ret _ _) | (change Ret _ _ _) | (change Exists _)
          all_goals try dsimp only at *
          all_goals try exact absurd ‹(1000 : Int64) = 0› (by decide)
          all_goals first
            | (show _ < _; simp only [l201]; decide)
            | exact ⟨_, am_lt_l (by omega), _, _, rfl, rfl, rfl, by omega, rfl⟩
            | skip
      · cases hI
    · exact h.elim
theorem dX8_dueOf_0 : decode cX8_dueOf 0 = .ok (.aload_n 0, 1) := by decide +kernel
theorem dX8_dueOf_1 : decode cX8_dueOf 1 = .ok (.iload_n 1, 1) := by decide +kernel
theorem dX8_dueOf_2 : decode cX8_dueOf 2 = .ok (.iconst 0, 1) := by decide +kernel
theorem dX8_dueOf_3 : decode cX8_dueOf 3 = .ok (.invokevirtual 202, 3) := by decide +kernel
theorem dX8_dueOf_6 : decode cX8_dueOf 6 = .ok (.istore 5, 2) := by decide +kernel
theorem dX8_dueOf_8 : decode cX8_dueOf 8 = .ok (.aload_n 0, 1) := by decide +kernel
theorem dX8_dueOf_9 : decode cX8_dueOf 9 = .ok (.iload_n 1, 1) := by decide +kernel
theorem dX8_dueOf_10 : decode cX8_dueOf 10 = .ok (.iload_n 2, 1) := by decide +kernel
theorem dX8_dueOf_11 : decode cX8_dueOf 11 = .ok (.invokevirtual 141, 3) := by decide +kernel
theorem dX8_dueOf_14 : decode cX8_dueOf 14 = .ok (.istore 6, 2) := by decide +kernel
theorem dX8_dueOf_16 : decode cX8_dueOf 16 = .ok (.iload_n 3, 1) := by decide +kernel
theorem dX8_dueOf_17 : decode cX8_dueOf 17 = .ok (.ifCond .ge 24, 3) := by decide +kernel
theorem dX8_dueOf_20 : decode cX8_dueOf 20 = .ok (.iload 4, 2) := by decide +kernel
theorem dX8_dueOf_22 : decode cX8_dueOf 22 = .ok (.ifCond .ne 7, 3) := by decide +kernel
theorem dX8_dueOf_25 : decode cX8_dueOf 25 = .ok (.lconst 0, 1) := by decide +kernel
theorem dX8_dueOf_26 : decode cX8_dueOf 26 = .ok (.goto 14, 3) := by decide +kernel
theorem dX8_dueOf_29 : decode cX8_dueOf 29 = .ok (.aload_n 0, 1) := by decide +kernel
theorem dX8_dueOf_30 : decode cX8_dueOf 30 = .ok (.iload 6, 2) := by decide +kernel
theorem dX8_dueOf_32 : decode cX8_dueOf 32 = .ok (.iconst 5, 1) := by decide +kernel
theorem dX8_dueOf_33 : decode cX8_dueOf 33 = .ok (.iload 5, 2) := by decide +kernel
theorem dX8_dueOf_35 : decode cX8_dueOf 35 = .ok (.iload_n 2, 1) := by decide +kernel
theorem dX8_dueOf_36 : decode cX8_dueOf 36 = .ok (.invokevirtual 127, 3) := by decide +kernel
theorem dX8_dueOf_39 : decode cX8_dueOf 39 = .ok (.i2l, 1) := by decide +kernel
theorem dX8_dueOf_40 : decode cX8_dueOf 40 = .ok (.lreturn, 1) := by decide +kernel
theorem dX8_dueOf_41 : decode cX8_dueOf 41 = .ok (.aload_n 0, 1) := by decide +kernel
theorem dX8_dueOf_42 : decode cX8_dueOf 42 = .ok (.iload 6, 2) := by decide +kernel
theorem dX8_dueOf_44 : decode cX8_dueOf 44 = .ok (.iconst 0, 1) := by decide +kernel
theorem dX8_dueOf_45 : decode cX8_dueOf 45 = .ok (.iload 5, 2) := by decide +kernel
theorem dX8_dueOf_47 : decode cX8_dueOf 47 = .ok (.iload_n 2, 1) := by decide +kernel
theorem dX8_dueOf_48 : decode cX8_dueOf 48 = .ok (.invokevirtual 127, 3) := by decide +kernel
theorem dX8_dueOf_51 : decode cX8_dueOf 51 = .ok (.i2l, 1) := by decide +kernel
theorem dX8_dueOf_52 : decode cX8_dueOf 52 = .ok (.lstore 7, 2) := by decide +kernel
theorem dX8_dueOf_54 : decode cX8_dueOf 54 = .ok (.iload 4, 2) := by decide +kernel
theorem dX8_dueOf_56 : decode cX8_dueOf 56 = .ok (.ifCond .ne 8, 3) := by decide +kernel
theorem dX8_dueOf_59 : decode cX8_dueOf 59 = .ok (.lload 7, 2) := by decide +kernel
theorem dX8_dueOf_61 : decode cX8_dueOf 61 = .ok (.goto 22, 3) := by decide +kernel
theorem dX8_dueOf_64 : decode cX8_dueOf 64 = .ok (.lload 7, 2) := by decide +kernel
theorem dX8_dueOf_66 : decode cX8_dueOf 66 = .ok (.aload_n 0, 1) := by decide +kernel
theorem dX8_dueOf_67 : decode cX8_dueOf 67 = .ok (.getfield 7, 3) := by decide +kernel
theorem dX8_dueOf_70 : decode cX8_dueOf 70 = .ok (.sipush 514, 3) := by decide +kernel
theorem dX8_dueOf_73 : decode cX8_dueOf 73 = .ok (.iload 4, 2) := by decide +kernel
theorem dX8_dueOf_75 : decode cX8_dueOf 75 = .ok (.iadd, 1) := by decide +kernel
theorem dX8_dueOf_76 : decode cX8_dueOf 76 = .ok (.iaload, 1) := by decide +kernel
theorem dX8_dueOf_77 : decode cX8_dueOf 77 = .ok (.i2l, 1) := by decide +kernel
theorem dX8_dueOf_78 : decode cX8_dueOf 78 = .ok (.lmul, 1) := by decide +kernel
theorem dX8_dueOf_79 : decode cX8_dueOf 79 = .ok (.ldc2_w 94, 3) := by decide +kernel
theorem dX8_dueOf_82 : decode cX8_dueOf 82 = .ok (.ldiv, 1) := by decide +kernel
theorem dX8_dueOf_83 : decode cX8_dueOf 83 = .ok (.lstore 7, 2) := by decide +kernel
theorem dX8_dueOf_85 : decode cX8_dueOf 85 = .ok (.iload_n 3, 1) := by decide +kernel
theorem dX8_dueOf_86 : decode cX8_dueOf 86 = .ok (.i2l, 1) := by decide +kernel
theorem dX8_dueOf_87 : decode cX8_dueOf 87 = .ok (.lload 7, 2) := by decide +kernel
theorem dX8_dueOf_89 : decode cX8_dueOf 89 = .ok (.lcmp, 1) := by decide +kernel
theorem dX8_dueOf_90 : decode cX8_dueOf 90 = .ok (.ifCond .le 27, 3) := by decide +kernel
theorem dX8_dueOf_93 : decode cX8_dueOf 93 = .ok (.iload_n 3, 1) := by decide +kernel
theorem dX8_dueOf_94 : decode cX8_dueOf 94 = .ok (.i2l, 1) := by decide +kernel
theorem dX8_dueOf_95 : decode cX8_dueOf 95 = .ok (.lload 7, 2) := by decide +kernel
theorem dX8_dueOf_97 : decode cX8_dueOf 97 = .ok (.lsub, 1) := by decide +kernel
theorem dX8_dueOf_98 : decode cX8_dueOf 98 = .ok (.aload_n 0, 1) := by decide +kernel
theorem dX8_dueOf_99 : decode cX8_dueOf 99 = .ok (.iload 6, 2) := by decide +kernel
theorem dX8_dueOf_101 : decode cX8_dueOf 101 = .ok (.iconst 1, 1) := by decide +kernel
theorem dX8_dueOf_102 : decode cX8_dueOf 102 = .ok (.iload 5, 2) := by decide +kernel
theorem dX8_dueOf_104 : decode cX8_dueOf 104 = .ok (.iload_n 2, 1) := by decide +kernel
theorem dX8_dueOf_105 : decode cX8_dueOf 105 = .ok (.invokevirtual 127, 3) := by decide +kernel
theorem dX8_dueOf_108 : decode cX8_dueOf 108 = .ok (.i2l, 1) := by decide +kernel
theorem dX8_dueOf_109 : decode cX8_dueOf 109 = .ok (.lmul, 1) := by decide +kernel
theorem dX8_dueOf_110 : decode cX8_dueOf 110 = .ok (.ldc2_w 94, 3) := by decide +kernel
theorem dX8_dueOf_113 : decode cX8_dueOf 113 = .ok (.ldiv, 1) := by decide +kernel
theorem dX8_dueOf_114 : decode cX8_dueOf 114 = .ok (.goto 4, 3) := by decide +kernel
theorem dX8_dueOf_117 : decode cX8_dueOf 117 = .ok (.lconst 0, 1) := by decide +kernel
theorem dX8_dueOf_118 : decode cX8_dueOf 118 = .ok (.lreturn, 1) := by decide +kernel
def kX8_dueOf (live : am_E) (Ret : am_R) : am_code := [(0, am_aload 0 1), (1, am_iload 1 2), (2, am_const (.int 0) 3), (3, am_callV live 8 2 TX8_ofLoan 6), (6, am_istore 5 9 8), (8, am_aload 0 9), (9, am_iload 1 10), (10, am_iload 2 11), (11, am_callV live 8 2 TX8_planAt 14), (14, am_istore 6 9 16), (16, am_iload 3 17), (17, am_if1 (fun x => 0 ≤ x) 41 20), (20, am_iload 4 22), (22, am_if1 (fun x => x = 0) 25 29), (25, am_const (.long 0) 26), (26, am_goto 40), (29, am_aload 0 30), (30, am_iload 6 32), (32, am_const (.int 5) 33), (33, am_iload 5 35), (35, am_iload 2 36), (36, am_callV live 8 4 TX8_inForce 39), (39, am_i2l 40), (40, am_retL Ret), (41, am_aload 0 42), (42, am_iload 6 44), (44, am_const (.int 0) 45), (45, am_iload 5 47), (47, am_iload 2 48), (48, am_callV live 8 4 TX8_inForce 51), (51, am_i2l 52), (52, am_lstore 7 9 54), (54, am_iload 4 56), (56, am_if1 (fun x => x = 0) 59 64), (59, am_lload 7 61), (61, am_goto 83), (64, am_lload 7 66), (66, am_aload 0 67), (67, am_getR live 8 0 70), (70, am_const (.int 514) 73), (73, am_iload 4 75), (75, am_i2 (fun x y => x + y) 76), (76, am_ald live 0 77), (77, am_i2l 78), (78, am_l2 (fun x y => x * y) 79), (79, am_const (.long 1000) 82), (82, am_l2z (fun x y => x / y) 83), (83, am_lstore 7 9 85), (85, am_iload 3 86), (86, am_i2l 87), (87, am_lload 7 89), (89, am_lcmp 90), (90, am_if1 (fun x => x ≤ 0) 117 93), (93, am_iload 3 94), (94, am_i2l 95), (95, am_lload 7 97), (97, am_l2 (fun x y => x - y) 98), (98, am_aload 0 99), (99, am_iload 6 101), (101, am_const (.int 1) 102), (102, am_iload 5 104), (104, am_iload 2 105), (105, am_callV live 8 4 TX8_inForce 108), (108, am_i2l 109), (109, am_l2 (fun x y => x * y) 110), (110, am_const (.long 1000) 113), (113, am_l2z (fun x y => x / y) 114), (114, am_goto 118), (117, am_const (.long 0) 118), (118, am_retL Ret)]
theorem koX8_dueOf (live : am_E) (Ret : am_R) : ∀ q ∈ kX8_dueOf live Ret, am_ok RX8 cX8_dueOf 9 (some .long) 2 53 live Ret q.1 q.2 :=
  am_kc (ak_aload_n dX8_dueOf_0 rfl rfl) <|
  am_kc (ak_iload_n dX8_dueOf_1 rfl rfl) <|
  am_kc (ak_iconst dX8_dueOf_2 (by decide +kernel) rfl) <|
  am_kc (ak_callV (C := RX8) (F := TX8) (N := 27) metX8_ofLoan rfl ⟨rfl, by decide +kernel, by decide +kernel, by decide +kernel⟩ (am_w5 wd_1154 wd_1156 wd_41 wd_67 wd_1157) (by decide) dX8_dueOf_3 rfl) <|
  am_kc (ak_istore dX8_dueOf_6 rfl) <|
  am_kc (ak_aload_n dX8_dueOf_8 rfl rfl) <|
  am_kc (ak_iload_n dX8_dueOf_9 rfl rfl) <|
  am_kc (ak_iload_n dX8_dueOf_10 rfl rfl) <|
  am_kc (ak_callV (C := RX8) (F := TX8) (N := 27) metX8_planAt rfl ⟨rfl, by decide +kernel, by decide +kernel, by decide +kernel⟩ (am_w5 wd_1085 wd_1087 wd_32 wd_67 wd_1088) (by decide) dX8_dueOf_11 rfl) <|
  am_kc (ak_istore dX8_dueOf_14 rfl) <|
  am_kc (ak_iload_n dX8_dueOf_16 rfl rfl) <|
  am_kc (ak_if_ge dX8_dueOf_17 (by decide +kernel) rfl) <|
  am_kc (ak_iload dX8_dueOf_20 rfl) <|
  am_kc (ak_if_ne dX8_dueOf_22 (by decide +kernel) rfl) <|
  am_kc (ak_lconst dX8_dueOf_25 (by decide +kernel) rfl) <|
  am_kc (ak_goto dX8_dueOf_26 (by decide +kernel)) <|
  am_kc (ak_aload_n dX8_dueOf_29 rfl rfl) <|
  am_kc (ak_iload dX8_dueOf_30 rfl) <|
  am_kc (ak_iconst dX8_dueOf_32 (by decide +kernel) rfl) <|
  am_kc (ak_iload dX8_dueOf_33 rfl) <|
  am_kc (ak_iload_n dX8_dueOf_35 rfl rfl) <|
  am_kc (ak_callV (C := RX8) (F := TX8) (N := 27) metX8_inForce rfl ⟨rfl, by decide +kernel, by decide +kernel, by decide +kernel⟩ (am_w5 wd_1053 wd_1055 wd_29 wd_67 wd_1056) (by decide) dX8_dueOf_36 rfl) <|
  am_kc (ak_i2l dX8_dueOf_39 rfl) <|
  am_kc (ak_retL dX8_dueOf_40) <|
  am_kc (ak_aload_n dX8_dueOf_41 rfl rfl) <|
  am_kc (ak_iload dX8_dueOf_42 rfl) <|
  am_kc (ak_iconst dX8_dueOf_44 (by decide +kernel) rfl) <|
  am_kc (ak_iload dX8_dueOf_45 rfl) <|
  am_kc (ak_iload_n dX8_dueOf_47 rfl rfl) <|
  am_kc (ak_callV (C := RX8) (F := TX8) (N := 27) metX8_inForce rfl ⟨rfl, by decide +kernel, by decide +kernel, by decide +kernel⟩ (am_w5 wd_1053 wd_1055 wd_29 wd_67 wd_1056) (by decide) dX8_dueOf_48 rfl) <|
  am_kc (ak_i2l dX8_dueOf_51 rfl) <|
  am_kc (ak_lstore dX8_dueOf_52 rfl) <|
  am_kc (ak_iload dX8_dueOf_54 rfl) <|
  am_kc (ak_if_ne dX8_dueOf_56 (by decide +kernel) rfl) <|
  am_kc (ak_lload dX8_dueOf_59 rfl) <|
  am_kc (ak_goto dX8_dueOf_61 (by decide +kernel)) <|
  am_kc (ak_lload dX8_dueOf_64 rfl) <|
  am_kc (ak_aload_n dX8_dueOf_66 rfl rfl) <|
  am_kc (ak_getR (C := RX8) (T := TX8) (N := 27) rfl inX8w (by decide) rfl rfl rfl wd_895 dX8_dueOf_67 rfl) <|
  am_kc (ak_sipush dX8_dueOf_70 (by decide +kernel) rfl) <|
  am_kc (ak_iload dX8_dueOf_73 rfl) <|
  am_kc (ak_iadd dX8_dueOf_75 rfl) <|
  am_kc (ak_iald (t := 0) (fun _ => rfl) rfl dX8_dueOf_76 rfl) <|
  am_kc (ak_i2l dX8_dueOf_77 rfl) <|
  am_kc (ak_lmul dX8_dueOf_78 rfl) <|
  am_kc (ak_ldc2 wd_1045 dX8_dueOf_79 rfl) <|
  am_kc (ak_ldiv dX8_dueOf_82 rfl) <|
  am_kc (ak_lstore dX8_dueOf_83 rfl) <|
  am_kc (ak_iload_n dX8_dueOf_85 rfl rfl) <|
  am_kc (ak_i2l dX8_dueOf_86 rfl) <|
  am_kc (ak_lload dX8_dueOf_87 rfl) <|
  am_kc (ak_lcmp dX8_dueOf_89 rfl) <|
  am_kc (ak_if_le dX8_dueOf_90 (by decide +kernel) rfl) <|
  am_kc (ak_iload_n dX8_dueOf_93 rfl rfl) <|
  am_kc (ak_i2l dX8_dueOf_94 rfl) <|
  am_kc (ak_lload dX8_dueOf_95 rfl) <|
  am_kc (ak_lsub dX8_dueOf_97 rfl) <|
  am_kc (ak_aload_n dX8_dueOf_98 rfl rfl) <|
  am_kc (ak_iload dX8_dueOf_99 rfl) <|
  am_kc (ak_iconst dX8_dueOf_101 (by decide +kernel) rfl) <|
  am_kc (ak_iload dX8_dueOf_102 rfl) <|
  am_kc (ak_iload_n dX8_dueOf_104 rfl rfl) <|
  am_kc (ak_callV (C := RX8) (F := TX8) (N := 27) metX8_inForce rfl ⟨rfl, by decide +kernel, by decide +kernel, by decide +kernel⟩ (am_w5 wd_1053 wd_1055 wd_29 wd_67 wd_1056) (by decide) dX8_dueOf_105 rfl) <|
  am_kc (ak_i2l dX8_dueOf_108 rfl) <|
  am_kc (ak_lmul dX8_dueOf_109 rfl) <|
  am_kc (ak_ldc2 wd_1045 dX8_dueOf_110 rfl) <|
  am_kc (ak_ldiv dX8_dueOf_113 rfl) <|
  am_kc (ak_goto dX8_dueOf_114 (by decide +kernel)) <|
  am_kc (ak_lconst dX8_dueOf_117 (by decide +kernel) rfl) <|
  am_kc (ak_retL dX8_dueOf_118) <| am_kn
def TX8_dueOf : am_T := fun live as M R => match as with
  | [.ref n, .int l, .int y, .int e, .int a] => am_mn live ∧ n = 200 ∧ am_in l 30 ∧ am_in a 4 ∧ r_I M ∧ ∀ v, R (some (.long v)) M
  | _ => False
set_option maxRecDepth 100000 in
set_option maxHeartbeats 4000000 in
theorem metX8_dueOf : am_Met yX8_dueOf cX8_dueOf 9 (some .long) (2) (53) TX8_dueOf := by
  refine am_met (own := RX8) (by decide +kernel) rfl kX8_dueOf koX8_dueOf 150 (fun _ _ _ _ _ => none) (fun live as M Ret h => ?_) (fun _ _ _ _ _ _ _ _ hI => by cases hI)
  unfold TX8_dueOf at h
  split at h
  · next n l y e a =>
    refine ⟨Nat.le_of_ble_eq_true rfl, ?_⟩
    change am_wp _ _ _ _ [(0, Value.ref n), (1, Value.int l), (2, Value.int y), (3, Value.int e), (4, Value.int a)] _ _
    obtain ⟨hmn, rfl, hl, ha, hR, h⟩ := h
    have hmn2 := hmn
    obtain ⟨i1, i2, rfl⟩ := hmn2
    have hp := r_pers hR hl
    have w0 : 0 ≤ (0 : Int32).toInt ∧ (0 : Int32).toInt ≤ 7 := ⟨by decide, by decide⟩
    have a40 : am_in a 40 := ⟨ha.1, by have := ha.2; omega⟩
    have y514 := r_in40 a40 (c := 514) ⟨by decide, by decide⟩
    have x1 := y514.1
    have x2 := y514.2
    repeat' (first | (with_reducible exact hmn) | (with_reducible exact hl) | (with_reducible exact hp) | (with_reducible exact w0) | (with_reducible exact hR) | (with_reducible exact x1) | (with_reducible exact x2) | apply And.intro | exact rfl | ((with_reducible change r_I _); (with_reducible assumption)) | (intro hx; exact absurd hx (by decide)) | (intro hx; exact absurd (by decide) hx) | decide | intro hx | (refine Exists.intro _ (And.intro rfl ?_)))
    all_goals try first | (with_reducible change am_tI _ _) | (change Ret _ _) | (change Ret _ _ _) | (change Exists _)
    all_goals try dsimp only at *
    all_goals try exact absurd ‹(1000 : Int64) = 0› (by decide)
    all_goals first
      | exact h _
      | decide
      | skip
  · exact h.elim
theorem dX8_isIn_0 : decode cX8_isIn 0 = .ok (.aload_n 0, 1) := by decide +kernel
theorem dX8_isIn_1 : decode cX8_isIn 1 = .ok (.iload_n 1, 1) := by decide +kernel
theorem dX8_isIn_2 : decode cX8_isIn 2 = .ok (.iconst 0, 1) := by decide +kernel
theorem dX8_isIn_3 : decode cX8_isIn 3 = .ok (.invokevirtual 202, 3) := by decide +kernel
theorem dX8_isIn_6 : decode cX8_isIn 6 = .ok (.iload_n 2, 1) := by decide +kernel
theorem dX8_isIn_7 : decode cX8_isIn 7 = .ok (.if_icmp .ne 34, 3) := by decide +kernel
theorem dX8_isIn_10 : decode cX8_isIn 10 = .ok (.aload_n 0, 1) := by decide +kernel
theorem dX8_isIn_11 : decode cX8_isIn 11 = .ok (.getfield 48, 3) := by decide +kernel
theorem dX8_isIn_14 : decode cX8_isIn 14 = .ok (.iload_n 1, 1) := by decide +kernel
theorem dX8_isIn_15 : decode cX8_isIn 15 = .ok (.baload, 1) := by decide +kernel
theorem dX8_isIn_16 : decode cX8_isIn 16 = .ok (.ifCond .ne 25, 3) := by decide +kernel
theorem dX8_isIn_19 : decode cX8_isIn 19 = .ok (.aload_n 0, 1) := by decide +kernel
theorem dX8_isIn_20 : decode cX8_isIn 20 = .ok (.aload_n 0, 1) := by decide +kernel
theorem dX8_isIn_21 : decode cX8_isIn 21 = .ok (.iload_n 1, 1) := by decide +kernel
theorem dX8_isIn_22 : decode cX8_isIn 22 = .ok (.iload_n 3, 1) := by decide +kernel
theorem dX8_isIn_23 : decode cX8_isIn 23 = .ok (.invokevirtual 141, 3) := by decide +kernel
theorem dX8_isIn_26 : decode cX8_isIn 26 = .ok (.iconst 4, 1) := by decide +kernel
theorem dX8_isIn_27 : decode cX8_isIn 27 = .ok (.iload_n 2, 1) := by decide +kernel
theorem dX8_isIn_28 : decode cX8_isIn 28 = .ok (.iload_n 3, 1) := by decide +kernel
theorem dX8_isIn_29 : decode cX8_isIn 29 = .ok (.invokevirtual 127, 3) := by decide +kernel
theorem dX8_isIn_32 : decode cX8_isIn 32 = .ok (.iload 4, 2) := by decide +kernel
theorem dX8_isIn_34 : decode cX8_isIn 34 = .ok (.if_icmp .ne 7, 3) := by decide +kernel
theorem dX8_isIn_37 : decode cX8_isIn 37 = .ok (.iconst 1, 1) := by decide +kernel
theorem dX8_isIn_38 : decode cX8_isIn 38 = .ok (.goto 4, 3) := by decide +kernel
theorem dX8_isIn_41 : decode cX8_isIn 41 = .ok (.iconst 0, 1) := by decide +kernel
theorem dX8_isIn_42 : decode cX8_isIn 42 = .ok (.ireturn, 1) := by decide +kernel
def kX8_isIn (live : am_E) (Ret : am_R) : am_code := [(0, am_aload 0 1), (1, am_iload 1 2), (2, am_const (.int 0) 3), (3, am_callV live 8 2 TX8_ofLoan 6), (6, am_iload 2 7), (7, am_if2 (fun x y => x = y) 10 41), (10, am_aload 0 11), (11, am_getR live 8 21 14), (14, am_iload 1 15), (15, am_ald live 2 16), (16, am_if1 (fun x => x = 0) 19 41), (19, am_aload 0 20), (20, am_aload 0 21), (21, am_iload 1 22), (22, am_iload 3 23), (23, am_callV live 8 2 TX8_planAt 26), (26, am_const (.int 4) 27), (27, am_iload 2 28), (28, am_iload 3 29), (29, am_callV live 8 4 TX8_inForce 32), (32, am_iload 4 34), (34, am_if2 (fun x y => x = y) 37 41), (37, am_const (.int 1) 38), (38, am_goto 42), (41, am_const (.int 0) 42), (42, am_retZ Ret)]
theorem koX8_isIn (live : am_E) (Ret : am_R) : ∀ q ∈ kX8_isIn live Ret, am_ok RX8 cX8_isIn 5 (some .boolean) 2 53 live Ret q.1 q.2 :=
  am_kc (ak_aload_n dX8_isIn_0 rfl rfl) <|
  am_kc (ak_iload_n dX8_isIn_1 rfl rfl) <|
  am_kc (ak_iconst dX8_isIn_2 (by decide +kernel) rfl) <|
  am_kc (ak_callV (C := RX8) (F := TX8) (N := 27) metX8_ofLoan rfl ⟨rfl, by decide +kernel, by decide +kernel, by decide +kernel⟩ (am_w5 wd_1154 wd_1156 wd_41 wd_67 wd_1157) (by decide) dX8_isIn_3 rfl) <|
  am_kc (ak_iload_n dX8_isIn_6 rfl rfl) <|
  am_kc (ak_icmp_ne dX8_isIn_7 (by decide +kernel) rfl) <|
  am_kc (ak_aload_n dX8_isIn_10 rfl rfl) <|
  am_kc (ak_getR (C := RX8) (T := TX8) (N := 27) rfl inX8w (by decide) rfl rfl rfl wd_916 dX8_isIn_11 rfl) <|
  am_kc (ak_iload_n dX8_isIn_14 rfl rfl) <|
  am_kc (ak_zald (t := 2) (fun _ => rfl) rfl dX8_isIn_15 rfl) <|
  am_kc (ak_if_ne dX8_isIn_16 (by decide +kernel) rfl) <|
  am_kc (ak_aload_n dX8_isIn_19 rfl rfl) <|
  am_kc (ak_aload_n dX8_isIn_20 rfl rfl) <|
  am_kc (ak_iload_n dX8_isIn_21 rfl rfl) <|
  am_kc (ak_iload_n dX8_isIn_22 rfl rfl) <|
  am_kc (ak_callV (C := RX8) (F := TX8) (N := 27) metX8_planAt rfl ⟨rfl, by decide +kernel, by decide +kernel, by decide +kernel⟩ (am_w5 wd_1085 wd_1087 wd_32 wd_67 wd_1088) (by decide) dX8_isIn_23 rfl) <|
  am_kc (ak_iconst dX8_isIn_26 (by decide +kernel) rfl) <|
  am_kc (ak_iload_n dX8_isIn_27 rfl rfl) <|
  am_kc (ak_iload_n dX8_isIn_28 rfl rfl) <|
  am_kc (ak_callV (C := RX8) (F := TX8) (N := 27) metX8_inForce rfl ⟨rfl, by decide +kernel, by decide +kernel, by decide +kernel⟩ (am_w5 wd_1053 wd_1055 wd_29 wd_67 wd_1056) (by decide) dX8_isIn_29 rfl) <|
  am_kc (ak_iload dX8_isIn_32 rfl) <|
  am_kc (ak_icmp_ne dX8_isIn_34 (by decide +kernel) rfl) <|
  am_kc (ak_iconst dX8_isIn_37 (by decide +kernel) rfl) <|
  am_kc (ak_goto dX8_isIn_38 (by decide +kernel)) <|
  am_kc (ak_iconst dX8_isIn_41 (by decide +kernel) rfl) <|
  am_kc (ak_retZ dX8_isIn_42) <| am_kn
def TX8_isIn : am_T := fun live as M R => match as with
  | [.ref n, .int l, .int p, .int y, .int o] => am_mn live ∧ n = 200 ∧ am_in l 30 ∧ am_in p 12 ∧ r_I M ∧ R (some (.int 0)) M ∧ R (some (.int 1)) M
  | _ => False
set_option maxRecDepth 100000 in
set_option maxHeartbeats 4000000 in
theorem metX8_isIn : am_Met yX8_isIn cX8_isIn 5 (some .boolean) (2) (53) TX8_isIn := by
  refine am_met (own := RX8) (by decide +kernel) rfl kX8_isIn koX8_isIn 150 (fun _ _ _ _ _ => none) (fun live as M Ret h => ?_) (fun _ _ _ _ _ _ _ _ hI => by cases hI)
  unfold TX8_isIn at h
  split at h
  · next n l p y o =>
    refine ⟨Nat.le_of_ble_eq_true rfl, ?_⟩
    change am_wp _ _ _ _ [(0, Value.ref n), (1, Value.int l), (2, Value.int p), (3, Value.int y), (4, Value.int o)] _ _
    obtain ⟨hmn, rfl, hl, hp, hR, h0, h1⟩ := h
    have hmn2 := hmn
    obtain ⟨i1, i2, rfl⟩ := hmn2
    have w0 : 0 ≤ (0 : Int32).toInt ∧ (0 : Int32).toInt ≤ 7 := ⟨by decide, by decide⟩
    have l213 : am_len 213 = 30 := rfl
    have l1 := hl.1
    repeat' (first | (with_reducible exact hmn) | (with_reducible exact hl) | (with_reducible exact hp) | (with_reducible exact w0) | (with_reducible exact hR) | (with_reducible exact h0) | (with_reducible exact h1) | (with_reducible exact l1) | apply And.intro | exact rfl | ((with_reducible change r_I _); (with_reducible assumption)) | (intro hx; exact absurd hx (by decide)) | (intro hx; exact absurd (by decide) hx) | decide | intro hx | (refine Exists.intro _ (And.intro rfl ?_)))
    all_goals try first | (with_reducible change am_tI _ _) | (change Ret _ _) | (change Ret _ _ _) | (change Exists _)
    all_goals try dsimp only at *
    all_goals try exact absurd ‹(1000 : Int64) = 0› (by decide)
    all_goals first
      | (left; rfl)
      | (right; rfl)
      | exact h0
      | exact h1
      | (rw [l213]; exact hl.2)
      | skip
  · exact h.elim
theorem dX8_beginRun_0 : decode cX8_beginRun 0 = .ok (.iconst 0, 1) := by decide +kernel
theorem dX8_beginRun_1 : decode cX8_beginRun 1 = .ok (.istore_n 1, 1) := by decide +kernel
theorem dX8_beginRun_2 : decode cX8_beginRun 2 = .ok (.iload_n 1, 1) := by decide +kernel
theorem dX8_beginRun_3 : decode cX8_beginRun 3 = .ok (.bipush 30, 2) := by decide +kernel
theorem dX8_beginRun_5 : decode cX8_beginRun 5 = .ok (.if_icmp .ge 58, 3) := by decide +kernel
theorem dX8_beginRun_8 : decode cX8_beginRun 8 = .ok (.aload_n 0, 1) := by decide +kernel
theorem dX8_beginRun_9 : decode cX8_beginRun 9 = .ok (.getfield 30, 3) := by decide +kernel
theorem dX8_beginRun_12 : decode cX8_beginRun 12 = .ok (.iload_n 1, 1) := by decide +kernel
theorem dX8_beginRun_13 : decode cX8_beginRun 13 = .ok (.lconst 0, 1) := by decide +kernel
theorem dX8_beginRun_14 : decode cX8_beginRun 14 = .ok (.lastore, 1) := by decide +kernel
theorem dX8_beginRun_15 : decode cX8_beginRun 15 = .ok (.aload_n 0, 1) := by decide +kernel
theorem dX8_beginRun_16 : decode cX8_beginRun 16 = .ok (.getfield 33, 3) := by decide +kernel
theorem dX8_beginRun_19 : decode cX8_beginRun 19 = .ok (.iload_n 1, 1) := by decide +kernel
theorem dX8_beginRun_20 : decode cX8_beginRun 20 = .ok (.lconst 0, 1) := by decide +kernel
theorem dX8_beginRun_21 : decode cX8_beginRun 21 = .ok (.lastore, 1) := by decide +kernel
theorem dX8_beginRun_22 : decode cX8_beginRun 22 = .ok (.aload_n 0, 1) := by decide +kernel
theorem dX8_beginRun_23 : decode cX8_beginRun 23 = .ok (.getfield 36, 3) := by decide +kernel
theorem dX8_beginRun_26 : decode cX8_beginRun 26 = .ok (.iload_n 1, 1) := by decide +kernel
theorem dX8_beginRun_27 : decode cX8_beginRun 27 = .ok (.lconst 0, 1) := by decide +kernel
theorem dX8_beginRun_28 : decode cX8_beginRun 28 = .ok (.lastore, 1) := by decide +kernel
theorem dX8_beginRun_29 : decode cX8_beginRun 29 = .ok (.aload_n 0, 1) := by decide +kernel
theorem dX8_beginRun_30 : decode cX8_beginRun 30 = .ok (.getfield 39, 3) := by decide +kernel
theorem dX8_beginRun_33 : decode cX8_beginRun 33 = .ok (.iload_n 1, 1) := by decide +kernel
theorem dX8_beginRun_34 : decode cX8_beginRun 34 = .ok (.lconst 0, 1) := by decide +kernel
theorem dX8_beginRun_35 : decode cX8_beginRun 35 = .ok (.lastore, 1) := by decide +kernel
theorem dX8_beginRun_36 : decode cX8_beginRun 36 = .ok (.aload_n 0, 1) := by decide +kernel
theorem dX8_beginRun_37 : decode cX8_beginRun 37 = .ok (.getfield 42, 3) := by decide +kernel
theorem dX8_beginRun_40 : decode cX8_beginRun 40 = .ok (.iload_n 1, 1) := by decide +kernel
theorem dX8_beginRun_41 : decode cX8_beginRun 41 = .ok (.lconst 0, 1) := by decide +kernel
theorem dX8_beginRun_42 : decode cX8_beginRun 42 = .ok (.lastore, 1) := by decide +kernel
theorem dX8_beginRun_43 : decode cX8_beginRun 43 = .ok (.aload_n 0, 1) := by decide +kernel
theorem dX8_beginRun_44 : decode cX8_beginRun 44 = .ok (.getfield 45, 3) := by decide +kernel
theorem dX8_beginRun_47 : decode cX8_beginRun 47 = .ok (.iload_n 1, 1) := by decide +kernel
theorem dX8_beginRun_48 : decode cX8_beginRun 48 = .ok (.lconst 0, 1) := by decide +kernel
theorem dX8_beginRun_49 : decode cX8_beginRun 49 = .ok (.lastore, 1) := by decide +kernel
theorem dX8_beginRun_50 : decode cX8_beginRun 50 = .ok (.aload_n 0, 1) := by decide +kernel
theorem dX8_beginRun_51 : decode cX8_beginRun 51 = .ok (.getfield 48, 3) := by decide +kernel
theorem dX8_beginRun_54 : decode cX8_beginRun 54 = .ok (.iload_n 1, 1) := by decide +kernel
theorem dX8_beginRun_55 : decode cX8_beginRun 55 = .ok (.iconst 0, 1) := by decide +kernel
theorem dX8_beginRun_56 : decode cX8_beginRun 56 = .ok (.bastore, 1) := by decide +kernel
theorem dX8_beginRun_57 : decode cX8_beginRun 57 = .ok (.iinc 1 1, 3) := by decide +kernel
theorem dX8_beginRun_60 : decode cX8_beginRun 60 = .ok (.goto (-58), 3) := by decide +kernel
theorem dX8_beginRun_63 : decode cX8_beginRun 63 = .ok (.return_, 1) := by decide +kernel
def kX8_beginRun (live : am_E) (Ret : am_R) : am_code := [(0, am_const (.int 0) 1), (1, am_istore 1 2 2), (2, am_iload 1 3), (3, am_const (.int 30) 5), (5, am_if2 (fun x y => y ≤ x) 63 8), (8, am_aload 0 9), (9, am_getR live 8 15 12), (12, am_iload 1 13), (13, am_const (.long 0) 14), (14, am_last live 1 15), (15, am_aload 0 16), (16, am_getR live 8 16 19), (19, am_iload 1 20), (20, am_const (.long 0) 21), (21, am_last live 1 22), (22, am_aload 0 23), (23, am_getR live 8 17 26), (26, am_iload 1 27), (27, am_const (.long 0) 28), (28, am_last live 1 29), (29, am_aload 0 30), (30, am_getR live 8 18 33), (33, am_iload 1 34), (34, am_const (.long 0) 35), (35, am_last live 1 36), (36, am_aload 0 37), (37, am_getR live 8 19 40), (40, am_iload 1 41), (41, am_const (.long 0) 42), (42, am_last live 1 43), (43, am_aload 0 44), (44, am_getR live 8 20 47), (47, am_iload 1 48), (48, am_const (.long 0) 49), (49, am_last live 1 50), (50, am_aload 0 51), (51, am_getR live 8 21 54), (54, am_iload 1 55), (55, am_const (.int 0) 56), (56, am_zst live 2 57), (57, am_iinc 1 2 1 60), (60, am_goto 2), (63, am_retV Ret)]
theorem koX8_beginRun (live : am_E) (Ret : am_R) : ∀ q ∈ kX8_beginRun live Ret, am_ok RX8 cX8_beginRun 2 none 0 0 live Ret q.1 q.2 :=
  am_kc (ak_iconst dX8_beginRun_0 (by decide +kernel) rfl) <|
  am_kc (ak_istore_n dX8_beginRun_1 rfl rfl) <|
  am_kc (ak_iload_n dX8_beginRun_2 rfl rfl) <|
  am_kc (ak_bipush dX8_beginRun_3 (by decide +kernel) rfl) <|
  am_kc (ak_icmp_ge dX8_beginRun_5 (by decide +kernel) rfl) <|
  am_kc (ak_aload_n dX8_beginRun_8 rfl rfl) <|
  am_kc (ak_getR (C := RX8) (T := TX8) (N := 27) rfl inX8w (by decide) rfl rfl rfl wd_910 dX8_beginRun_9 rfl) <|
  am_kc (ak_iload_n dX8_beginRun_12 rfl rfl) <|
  am_kc (ak_lconst dX8_beginRun_13 (by decide +kernel) rfl) <|
  am_kc (ak_last (t := 1) (fun _ => rfl) rfl dX8_beginRun_14 rfl) <|
  am_kc (ak_aload_n dX8_beginRun_15 rfl rfl) <|
  am_kc (ak_getR (C := RX8) (T := TX8) (N := 27) rfl inX8w (by decide) rfl rfl rfl wd_911 dX8_beginRun_16 rfl) <|
  am_kc (ak_iload_n dX8_beginRun_19 rfl rfl) <|
  am_kc (ak_lconst dX8_beginRun_20 (by decide +kernel) rfl) <|
  am_kc (ak_last (t := 1) (fun _ => rfl) rfl dX8_beginRun_21 rfl) <|
  am_kc (ak_aload_n dX8_beginRun_22 rfl rfl) <|
  am_kc (ak_getR (C := RX8) (T := TX8) (N := 27) rfl inX8w (by decide) rfl rfl rfl wd_912 dX8_beginRun_23 rfl) <|
  am_kc (ak_iload_n dX8_beginRun_26 rfl rfl) <|
  am_kc (ak_lconst dX8_beginRun_27 (by decide +kernel) rfl) <|
  am_kc (ak_last (t := 1) (fun _ => rfl) rfl dX8_beginRun_28 rfl) <|
  am_kc (ak_aload_n dX8_beginRun_29 rfl rfl) <|
  am_kc (ak_getR (C := RX8) (T := TX8) (N := 27) rfl inX8w (by decide) rfl rfl rfl wd_913 dX8_beginRun_30 rfl) <|
  am_kc (ak_iload_n dX8_beginRun_33 rfl rfl) <|
  am_kc (ak_lconst dX8_beginRun_34 (by decide +kernel) rfl) <|
  am_kc (ak_last (t := 1) (fun _ => rfl) rfl dX8_beginRun_35 rfl) <|
  am_kc (ak_aload_n dX8_beginRun_36 rfl rfl) <|
  am_kc (ak_getR (C := RX8) (T := TX8) (N := 27) rfl inX8w (by decide) rfl rfl rfl wd_914 dX8_beginRun_37 rfl) <|
  am_kc (ak_iload_n dX8_beginRun_40 rfl rfl) <|
  am_kc (ak_lconst dX8_beginRun_41 (by decide +kernel) rfl) <|
  am_kc (ak_last (t := 1) (fun _ => rfl) rfl dX8_beginRun_42 rfl) <|
  am_kc (ak_aload_n dX8_beginRun_43 rfl rfl) <|
  am_kc (ak_getR (C := RX8) (T := TX8) (N := 27) rfl inX8w (by decide) rfl rfl rfl wd_915 dX8_beginRun_44 rfl) <|
  am_kc (ak_iload_n dX8_beginRun_47 rfl rfl) <|
  am_kc (ak_lconst dX8_beginRun_48 (by decide +kernel) rfl) <|
  am_kc (ak_last (t := 1) (fun _ => rfl) rfl dX8_beginRun_49 rfl) <|
  am_kc (ak_aload_n dX8_beginRun_50 rfl rfl) <|
  am_kc (ak_getR (C := RX8) (T := TX8) (N := 27) rfl inX8w (by decide) rfl rfl rfl wd_916 dX8_beginRun_51 rfl) <|
  am_kc (ak_iload_n dX8_beginRun_54 rfl rfl) <|
  am_kc (ak_iconst dX8_beginRun_55 (by decide +kernel) rfl) <|
  am_kc (ak_zast (t := 2) (fun _ => rfl) rfl dX8_beginRun_56 rfl) <|
  am_kc (ak_iinc dX8_beginRun_57 (by decide +kernel) rfl) <|
  am_kc (ak_goto dX8_beginRun_60 (by decide +kernel)) <|
  am_kc (ak_retV dX8_beginRun_63) <| am_kn
def TX8_beginRun : am_T := fun live as M R => match as with
  | [.ref n] => am_mn live ∧ n = 200 ∧ r_I M ∧ ∀ M', r_sc M M' → r_I M' → R none M'
  | _ => False
def JX8_beginRun : am_E → List Value → am_M → am_R → am_inv := fun live as M0 _ pc => match as with
  | [.ref n] => (match pc with
    | 2 => some ([0, 1], fun k L st M => ∃ i : Int32, L = [(0, .ref 200), (1, .int i)] ∧ st = [] ∧ k = ((31 - i.toInt).toNat, 0) ∧ 0 ≤ i.toInt ∧ r_sc M0 M ∧ r_I M)
    | _ => none)
  | _ => none
set_option maxRecDepth 100000 in
set_option maxHeartbeats 4000000 in
theorem metX8_beginRun : am_Met yX8_beginRun cX8_beginRun 2 none (0) (0) TX8_beginRun := by
  refine am_met (own := RX8) (by decide +kernel) rfl kX8_beginRun koX8_beginRun 100 JX8_beginRun ?_ ?_
  · intro live as M Ret h
    unfold TX8_beginRun at h
    split at h
    · next n =>
      refine ⟨Nat.le_of_ble_eq_true rfl, ?_⟩
      change am_wp _ _ _ _ [(0, Value.ref n)] _ _
      obtain ⟨hmn, rfl, hR, h⟩ := h
      repeat' (first | apply And.intro | exact rfl | intro hx | (refine Exists.intro _ (And.intro rfl ?_)))
      all_goals try first | (with_reducible change am_tI _ _) | (change Ret _ _) | (change Ret _ _ _) | (change Exists _)
      all_goals try dsimp only at *
      all_goals try exact absurd ‹(1000 : Int64) = 0› (by decide)
      exact ⟨_, _, rfl, rfl, rfl, by decide, r_sc.rf, hR⟩
    · exact h.elim
  · intro live as M0 Ret h k pc I hI L st M hi
    unfold TX8_beginRun at h
    split at h
    · next n =>
      obtain ⟨hmn, rfl, hR, h⟩ := h
      obtain ⟨i1, i2, rfl⟩ := hmn
      change (match pc with | 2 => _ | _ => none) = _ at hI
      split at hI
      · cases hI
        obtain ⟨i, rfl, rfl, rfl, e1, e2, e3⟩ := hi
        by_cases hz : (30 : Int32) ≤ i
        · skip
          repeat' (first | apply And.intro | exact rfl | (intro hx; with_reducible exact absurd hz hx) | intro hx | (refine Exists.intro _ (And.intro rfl ?_)))
          all_goals try first | (with_reducible change am_tI _ _) | (change Ret _ _) | (change Ret _ _ _) | (change Exists _)
          all_goals try dsimp only at *
          all_goals try exact absurd ‹(1000 : Int64) = 0› (by decide)
          exact h _ e2 e3
        · have hz2 := hz
          simp only [i_le, Int32.reduceToInt] at hz2
          have hi := i_inc (x := i) (by omega) (by omega)
          have x2 : i.toInt < ((30 : Nat) : Int) := by omega
          repeat' (first | (with_reducible exact e1) | apply And.intro | exact rfl | (intro hx; with_reducible exact absurd hx hz) | intro hx | (refine Exists.intro _ (And.intro rfl ?_)))
          all_goals try first | (with_reducible change am_tI _ _) | (change Ret _ _) | (change Ret _ _ _) | (change Exists _)
          all_goals try dsimp only at *
          all_goals try exact absurd ‹(1000 : Int64) = 0› (by decide)
          all_goals first
            | exact x2
            | exact ⟨_, am_lt_l (by omega), _, rfl, rfl, rfl, by omega, by (repeat' (first | (with_reducible exact r_sc.rf) | (with_reducible assumption) | ((with_reducible change r_sc _ (am_wI _ _ _ _)); refine r_sc.wI ?_ rfl) | ((with_reducible change r_sc _ (am_wJ _ _ _ _)); refine r_sc.wJ ?_ rfl) | (refine r_sc.tr ?_ (by with_reducible assumption)))), by (repeat' (first | (with_reducible assumption) | ((with_reducible change r_I (am_wJ _ _ _ _)); refine r_I.wJ ?_) | ((with_reducible change r_I (am_wI _ _ _ _)); refine r_I.wI ?_ rfl)))⟩
            | skip
      · cases hI
    · exact h.elim
