/-! general: the reference's reader of texts: work, fault -/
set_option maxRecDepth 100000 in
theorem wd_1106 : Cond.constantLong "LearnLoansModel" 181 48 ∈ am_ws := am_wt5 (List.mem_of_getElem? (i := 89) (by rfl)) (by decide +kernel)
set_option maxRecDepth 100000 in
theorem wd_1107 : Cond.constantLong "LearnLoansModel" 183 57 ∈ am_ws := am_wt5 (List.mem_of_getElem? (i := 90) (by rfl)) (by decide +kernel)
set_option maxRecDepth 100000 in
theorem wd_909 : Cond.fieldLink "LearnLoansModel" 185 "LearnLoansModel" "faultAt" "I" ∈ am_ws := am_wt4 (List.mem_of_getElem? (i := 132) (by rfl)) (by decide +kernel)
theorem hy_X8_factOf : yX8_factOf.cls ≠ "java/lang/invoke/MethodHandle" ∧ yX8_factOf.cls ≠ "java/lang/invoke/VarHandle" ∧ (parseMethodDescriptor yX8_factOf.desc).map (fun d => d.parameters.length) = some 1 := ⟨by decide +kernel, by decide +kernel, by decide +kernel⟩
set_option maxRecDepth 100000 in
theorem wd_1120 : Cond.methodLink "LearnLoansModel" 190 yX8_factOf ∈ am_ws := am_wt5 (List.mem_of_getElem? (i := 103) (by rfl)) (by decide +kernel)
set_option maxRecDepth 100000 in
theorem wd_1121 : Cond.static yX8_factOf ∈ am_ws := am_wt5 (List.mem_of_getElem? (i := 104) (by rfl)) (by decide +kernel)
set_option maxRecDepth 100000 in
theorem wd_1122 : Cond.code yX8_factOf cX8_factOf 1 (some .int) ∈ am_ws := am_wt5 (List.mem_of_getElem? (i := 105) (by rfl)) (by decide +kernel)
theorem hy_X8_opened : yX8_opened.cls ≠ "java/lang/invoke/MethodHandle" ∧ yX8_opened.cls ≠ "java/lang/invoke/VarHandle" ∧ (parseMethodDescriptor yX8_opened.desc).map (fun d => d.parameters.length) = some 0 := ⟨by decide +kernel, by decide +kernel, by decide +kernel⟩
set_option maxRecDepth 100000 in
theorem wd_1123 : Cond.methodLink "LearnLoansModel" 193 yX8_opened ∈ am_ws := am_wt5 (List.mem_of_getElem? (i := 106) (by rfl)) (by decide +kernel)
set_option maxRecDepth 100000 in
theorem wd_1125 : Cond.instanceMethod yX8_opened ∈ am_ws := am_wt5 (List.mem_of_getElem? (i := 108) (by rfl)) (by decide +kernel)
set_option maxRecDepth 100000 in
theorem wd_36 : Cond.selects "LearnLoansModel" yX8_opened yX8_opened ∈ am_ws := am_wsi (List.mem_of_getElem? (i := 36) (by rfl)) (by decide +kernel)
set_option maxRecDepth 100000 in
theorem wd_1126 : Cond.code yX8_opened cX8_opened 3 (some .int) ∈ am_ws := am_wt5 (List.mem_of_getElem? (i := 109) (by rfl)) (by decide +kernel)
theorem hy_X8_behind : yX8_behind.cls ≠ "java/lang/invoke/MethodHandle" ∧ yX8_behind.cls ≠ "java/lang/invoke/VarHandle" ∧ (parseMethodDescriptor yX8_behind.desc).map (fun d => d.parameters.length) = some 1 := ⟨by decide +kernel, by decide +kernel, by decide +kernel⟩
set_option maxRecDepth 100000 in
theorem wd_1131 : Cond.methodLink "LearnLoansModel" 196 yX8_behind ∈ am_ws := am_wt5 (List.mem_of_getElem? (i := 114) (by rfl)) (by decide +kernel)
set_option maxRecDepth 100000 in
theorem wd_1133 : Cond.instanceMethod yX8_behind ∈ am_ws := am_wt5 (List.mem_of_getElem? (i := 116) (by rfl)) (by decide +kernel)
set_option maxRecDepth 100000 in
theorem wd_38 : Cond.selects "LearnLoansModel" yX8_behind yX8_behind ∈ am_ws := am_wsi (List.mem_of_getElem? (i := 38) (by rfl)) (by decide +kernel)
set_option maxRecDepth 100000 in
theorem wd_1134 : Cond.code yX8_behind cX8_behind 2 (some .boolean) ∈ am_ws := am_wt5 (List.mem_of_getElem? (i := 117) (by rfl)) (by decide +kernel)
def rwX8_work : List dz_r := [(0, .sipush 3258, 3), (3, .bipush 50, 2), (5, .iload_n 1, 1), (6, .imul, 1), (7, .iadd, 1), (8, .istore_n 2, 1), (9, .aload_n 0, 1), (10, .getfield 7, 3), (13, .sipush 3508, 3), (16, .iload_n 1, 1), (17, .iadd, 1), (18, .iaload, 1), (19, .istore_n 3, 1), (20, .aload_n 0, 1), (21, .iconst 0, 1), (22, .putfield 150, 3), (25, .aload_n 0, 1), (26, .iconst 0, 1), (27, .putfield 153, 3), (30, .iconst 1, 1), (31, .istore 4, 2), (33, .iconst 0, 1), (34, .istore 5, 2), (36, .iload 5, 2), (38, .iload_n 3, 1), (39, .if_icmp .ge 319, 3), (42, .aload_n 0, 1), (43, .getfield 7, 3), (46, .iload_n 2, 1), (47, .iload 5, 2), (49, .iadd, 1), (50, .iaload, 1), (51, .istore 6, 2), (53, .iload 6, 2), (55, .bipush 32, 2), (57, .if_icmp .ne 9, 3), (60, .iinc 5 1, 3), (63, .goto 292, 3), (66, .iload 4, 2), (68, .ifCond .eq 117, 3), (71, .iload 6, 2), (73, .i2l, 1), (74, .ldc2_w 181, 3), (77, .ldc2_w 183, 3), (80, .invokestatic 66, 3), (83, .ifCond .eq 102, 3), (86, .iload 5, 2), (88, .istore 7, 2), (90, .lconst 0, 1), (91, .lstore 8, 2), (93, .iload 5, 2), (95, .iload_n 3, 1), (96, .if_icmp .ge 77, 3), (99, .aload_n 0, 1), (100, .getfield 7, 3), (103, .iload_n 2, 1), (104, .iload 5, 2), (106, .iadd, 1), (107, .iaload, 1), (108, .i2l, 1), (109, .ldc2_w 181, 3), (112, .ldc2_w 183, 3), (115, .invokestatic 66, 3), (118, .ifCond .eq 55, 3), (121, .iload 5, 2), (123, .iload 7, 2), (125, .isub, 1), (126, .bipush 6, 2), (128, .if_icmp .ne 16, 3), (131, .aload_n 0, 1), (132, .bipush 10, 2), (134, .iload 7, 2), (136, .imul, 1), (137, .iconst 2, 1), (138, .iadd, 1), (139, .putfield 185, 3), (142, .iconst 0, 1), (143, .ireturn, 1), (144, .ldc2_w 188, 3), (147, .lload 8, 2), (149, .lmul, 1), (150, .aload_n 0, 1), (151, .getfield 7, 3), (154, .iload_n 2, 1), (155, .iload 5, 2), (157, .iadd, 1), (158, .iaload, 1), (159, .i2l, 1), (160, .ladd, 1), (161, .ldc2_w 181, 3), (164, .lsub, 1), (165, .lstore 8, 2), (167, .iinc 5 1, 3), (170, .goto (-77), 3), (173, .aload_n 0, 1), (174, .lload 8, 2), (176, .invokevirtual 177, 3), (179, .iconst 0, 1), (180, .istore 4, 2), (182, .goto 173, 3), (185, .iload 4, 2), (187, .ifCond .eq 34, 3), (190, .iload 6, 2), (192, .invokestatic 190, 3), (195, .ifCond .lt 26, 3), (198, .aload_n 0, 1), (199, .aload_n 0, 1), (200, .getfield 27, 3), (203, .iload 6, 2), (205, .invokestatic 190, 3), (208, .laload, 1), (209, .invokevirtual 177, 3), (212, .iconst 0, 1), (213, .istore 4, 2), (215, .iinc 5 1, 3), (218, .goto 137, 3), (221, .iload 4, 2), (223, .ifCond .eq 44, 3), (226, .iload 6, 2), (228, .bipush 40, 2), (230, .if_icmp .ne 37, 3), (233, .aload_n 0, 1), (234, .invokevirtual 193, 3), (237, .bipush 8, 2), (239, .if_icmp .ne 16, 3), (242, .aload_n 0, 1), (243, .bipush 10, 2), (245, .iload 5, 2), (247, .imul, 1), (248, .iconst 3, 1), (249, .iadd, 1), (250, .putfield 185, 3), (253, .iconst 0, 1), (254, .ireturn, 1), (255, .aload_n 0, 1), (256, .bipush 40, 2), (258, .invokevirtual 171, 3), (261, .iinc 5 1, 3), (264, .goto 91, 3), (267, .iload 4, 2), (269, .ifCond .eq 39, 3), (272, .iload 6, 2), (274, .bipush 33, 2), (276, .if_icmp .eq 10, 3), (279, .iload 6, 2), (281, .bipush 45, 2), (283, .if_icmp .ne 25, 3), (286, .aload_n 0, 1), (287, .iload 6, 2), (289, .bipush 33, 2), (291, .if_icmp .ne 7, 3), (294, .iconst 1, 1), (295, .goto 4, 3), (298, .iconst 2, 1), (299, .invokevirtual 171, 3), (302, .iinc 5 1, 3), (305, .goto 50, 3), (308, .iload 4, 2), (310, .ifCond .ne 32, 3), (313, .aload_n 0, 1), (314, .iload 6, 2), (316, .invokevirtual 196, 3), (319, .ifCond .eq 23, 3), (322, .iload 6, 2), (324, .bipush 41, 2), (326, .if_icmp .eq 7, 3), (329, .iconst 1, 1), (330, .goto 4, 3), (333, .iconst 0, 1), (334, .istore 4, 2), (336, .iinc 5 1, 3), (339, .goto 16, 3), (342, .aload_n 0, 1), (343, .bipush 10, 2), (345, .iload 5, 2), (347, .imul, 1), (348, .iconst 1, 1), (349, .iadd, 1), (350, .putfield 185, 3), (353, .iconst 0, 1), (354, .ireturn, 1), (355, .goto (-319), 3), (358, .iload 4, 2), (360, .ifCond .ne 7, 3), (363, .aload_n 0, 1), (364, .invokevirtual 174, 3), (367, .aload_n 0, 1), (368, .bipush 10, 2), (370, .iload_n 3, 1), (371, .imul, 1), (372, .iconst 1, 1), (373, .iadd, 1), (374, .putfield 185, 3), (377, .iload 4, 2), (379, .ifCond .ne 14, 3), (382, .aload_n 0, 1), (383, .getfield 150, 3), (386, .ifCond .ne 7, 3), (389, .iconst 1, 1), (390, .goto 4, 3), (393, .iconst 0, 1), (394, .ireturn, 1)]
theorem dzX8_work : dz cX8_work rwX8_work := dz_all 0 (by decide +kernel)
def kX8_work (live : am_E) (Ret : am_R) : am_code := [(0, am_const (.int 3258) 3), (3, am_const (.int 50) 5), (5, am_iload 1 6), (6, am_i2 (fun x y => x * y) 7), (7, am_i2 (fun x y => x + y) 8), (8, am_istore 2 10 9), (9, am_aload 0 10), (10, am_getR live 8 0 13), (13, am_const (.int 3508) 16), (16, am_iload 1 17), (17, am_i2 (fun x y => x + y) 18), (18, am_ald live 0 19), (19, am_istore 3 10 20), (20, am_aload 0 21), (21, am_const (.int 0) 22), (22, am_putI live 8 11 25), (25, am_aload 0 26), (26, am_const (.int 0) 27), (27, am_putI live 8 12 30), (30, am_const (.int 1) 31), (31, am_istore 4 10 33), (33, am_const (.int 0) 34), (34, am_istore 5 10 36), (36, am_iload 5 38), (38, am_iload 3 39), (39, am_if2 (fun x y => y ≤ x) 358 42), (42, am_aload 0 43), (43, am_getR live 8 0 46), (46, am_iload 2 47), (47, am_iload 5 49), (49, am_i2 (fun x y => x + y) 50), (50, am_ald live 0 51), (51, am_istore 6 10 53), (53, am_iload 6 55), (55, am_const (.int 32) 57), (57, am_if2 (fun x y => x = y) 60 66), (60, am_iinc 5 10 1 63), (63, am_goto 355), (66, am_iload 4 68), (68, am_if1 (fun x => x = 0) 185 71), (71, am_iload 6 73), (73, am_i2l 74), (74, am_const (.long 48) 77), (77, am_const (.long 57) 80), (80, am_callS live 3 TX8_in 83), (83, am_if1 (fun x => x = 0) 185 86), (86, am_iload 5 88), (88, am_istore 7 10 90), (90, am_const (.long 0) 91), (91, am_lstore 8 10 93), (93, am_iload 5 95), (95, am_iload 3 96), (96, am_if2 (fun x y => y ≤ x) 173 99), (99, am_aload 0 100), (100, am_getR live 8 0 103), (103, am_iload 2 104), (104, am_iload 5 106), (106, am_i2 (fun x y => x + y) 107), (107, am_ald live 0 108), (108, am_i2l 109), (109, am_const (.long 48) 112), (112, am_const (.long 57) 115), (115, am_callS live 3 TX8_in 118), (118, am_if1 (fun x => x = 0) 173 121), (121, am_iload 5 123), (123, am_iload 7 125), (125, am_i2 (fun x y => x - y) 126), (126, am_const (.int 6) 128), (128, am_if2 (fun x y => x = y) 131 144), (131, am_aload 0 132), (132, am_const (.int 10) 134), (134, am_iload 7 136), (136, am_i2 (fun x y => x * y) 137), (137, am_const (.int 2) 138), (138, am_i2 (fun x y => x + y) 139), (139, am_putI live 8 14 142), (142, am_const (.int 0) 143), (143, am_retZ Ret), (144, am_const (.long 10) 147), (147, am_lload 8 149), (149, am_l2 (fun x y => x * y) 150), (150, am_aload 0 151), (151, am_getR live 8 0 154), (154, am_iload 2 155), (155, am_iload 5 157), (157, am_i2 (fun x y => x + y) 158), (158, am_ald live 0 159), (159, am_i2l 160), (160, am_l2 (fun x y => x + y) 161), (161, am_const (.long 48) 164), (164, am_l2 (fun x y => x - y) 165), (165, am_lstore 8 10 167), (167, am_iinc 5 10 1 170), (170, am_goto 93), (173, am_aload 0 174), (174, am_lload 8 176), (176, am_callV live 8 1 TX8_lay 179), (179, am_const (.int 0) 180), (180, am_istore 4 10 182), (182, am_goto 355), (185, am_iload 4 187), (187, am_if1 (fun x => x = 0) 221 190), (190, am_iload 6 192), (192, am_callS live 1 TX8_factOf 195), (195, am_if1 (fun x => x < 0) 221 198), (198, am_aload 0 199), (199, am_aload 0 200), (200, am_getR live 8 13 203), (203, am_iload 6 205), (205, am_callS live 1 TX8_factOf 208), (208, am_lald live 1 209), (209, am_callV live 8 1 TX8_lay 212), (212, am_const (.int 0) 213), (213, am_istore 4 10 215), (215, am_iinc 5 10 1 218), (218, am_goto 355), (221, am_iload 4 223), (223, am_if1 (fun x => x = 0) 267 226), (226, am_iload 6 228), (228, am_const (.int 40) 230), (230, am_if2 (fun x y => x = y) 233 267), (233, am_aload 0 234), (234, am_callV live 8 0 TX8_opened 237), (237, am_const (.int 8) 239), (239, am_if2 (fun x y => x = y) 242 255), (242, am_aload 0 243), (243, am_const (.int 10) 245), (245, am_iload 5 247), (247, am_i2 (fun x y => x * y) 248), (248, am_const (.int 3) 249), (249, am_i2 (fun x y => x + y) 250), (250, am_putI live 8 14 253), (253, am_const (.int 0) 254), (254, am_retZ Ret), (255, am_aload 0 256), (256, am_const (.int 40) 258), (258, am_callV live 8 1 TX8_wait 261), (261, am_iinc 5 10 1 264), (264, am_goto 355), (267, am_iload 4 269), (269, am_if1 (fun x => x = 0) 308 272), (272, am_iload 6 274), (274, am_const (.int 33) 276), (276, am_if2 (fun x y => x = y) 286 279), (279, am_iload 6 281), (281, am_const (.int 45) 283), (283, am_if2 (fun x y => x = y) 286 308), (286, am_aload 0 287), (287, am_iload 6 289), (289, am_const (.int 33) 291), (291, am_if2 (fun x y => x = y) 294 298), (294, am_const (.int 1) 295), (295, am_goto 299), (298, am_const (.int 2) 299), (299, am_callV live 8 1 TX8_wait 302), (302, am_iinc 5 10 1 305), (305, am_goto 355), (308, am_iload 4 310), (310, am_if1 (fun x => x = 0) 313 342), (313, am_aload 0 314), (314, am_iload 6 316), (316, am_callV live 8 1 TX8_behind 319), (319, am_if1 (fun x => x = 0) 342 322), (322, am_iload 6 324), (324, am_const (.int 41) 326), (326, am_if2 (fun x y => x = y) 333 329), (329, am_const (.int 1) 330), (330, am_goto 334), (333, am_const (.int 0) 334), (334, am_istore 4 10 336), (336, am_iinc 5 10 1 339), (339, am_goto 355), (342, am_aload 0 343), (343, am_const (.int 10) 345), (345, am_iload 5 347), (347, am_i2 (fun x y => x * y) 348), (348, am_const (.int 1) 349), (349, am_i2 (fun x y => x + y) 350), (350, am_putI live 8 14 353), (353, am_const (.int 0) 354), (354, am_retZ Ret), (355, am_goto 36), (358, am_iload 4 360), (360, am_if1 (fun x => x = 0) 363 367), (363, am_aload 0 364), (364, am_callV live 8 0 TX8_choose 367), (367, am_aload 0 368), (368, am_const (.int 10) 370), (370, am_iload 3 371), (371, am_i2 (fun x y => x * y) 372), (372, am_const (.int 1) 373), (373, am_i2 (fun x y => x + y) 374), (374, am_putI live 8 14 377), (377, am_iload 4 379), (379, am_if1 (fun x => x = 0) 382 393), (382, am_aload 0 383), (383, am_getI live 8 11 386), (386, am_if1 (fun x => x = 0) 389 393), (389, am_const (.int 1) 390), (390, am_goto 394), (393, am_const (.int 0) 394), (394, am_retZ Ret)]
theorem koX8_work (live : am_E) (Ret : am_R) : ∀ q ∈ kX8_work live Ret, am_ok RX8 cX8_work 10 (some .boolean) 5 106 live Ret q.1 q.2 :=
  am_kz dzX8_work <|
  am_kd (fun d => ak_sipush d (by decide +kernel) rfl) <|
  am_kd (fun d => ak_bipush d (by decide +kernel) rfl) <|
  am_kd (fun d => ak_iload_n d rfl rfl) <|
  am_kd (fun d => ak_imul d rfl) <|
  am_kd (fun d => ak_iadd d rfl) <|
  am_kd (fun d => ak_istore_n d rfl rfl) <|
  am_kd (fun d => ak_aload_n d rfl rfl) <|
  am_kd (fun d => ak_getR (C := RX8) (T := TX8) (N := 27) rfl inX8w (by decide) rfl rfl rfl wd_895 d rfl) <|
  am_kd (fun d => ak_sipush d (by decide +kernel) rfl) <|
  am_kd (fun d => ak_iload_n d rfl rfl) <|
  am_kd (fun d => ak_iadd d rfl) <|
  am_kd (fun d => ak_iald (t := 0) (fun _ => rfl) rfl d rfl) <|
  am_kd (fun d => ak_istore_n d rfl rfl) <|
  am_kd (fun d => ak_aload_n d rfl rfl) <|
  am_kd (fun d => ak_iconst d (by decide +kernel) rfl) <|
  am_kd (fun d => ak_putI (C := RX8) (T := TX8) (N := 27) rfl inX8w tyX8_ok nmX8 (by decide) rfl rfl rfl rfl (by decide +kernel) wd_906 d rfl) <|
  am_kd (fun d => ak_aload_n d rfl rfl) <|
  am_kd (fun d => ak_iconst d (by decide +kernel) rfl) <|
  am_kd (fun d => ak_putI (C := RX8) (T := TX8) (N := 27) rfl inX8w tyX8_ok nmX8 (by decide) rfl rfl rfl rfl (by decide +kernel) wd_907 d rfl) <|
  am_kd (fun d => ak_iconst d (by decide +kernel) rfl) <|
  am_kd (fun d => ak_istore d rfl) <|
  am_kd (fun d => ak_iconst d (by decide +kernel) rfl) <|
  am_kd (fun d => ak_istore d rfl) <|
  am_kd (fun d => ak_iload d rfl) <|
  am_kd (fun d => ak_iload_n d rfl rfl) <|
  am_kd (fun d => ak_icmp_ge d (by decide +kernel) rfl) <|
  am_kd (fun d => ak_aload_n d rfl rfl) <|
  am_kd (fun d => ak_getR (C := RX8) (T := TX8) (N := 27) rfl inX8w (by decide) rfl rfl rfl wd_895 d rfl) <|
  am_kd (fun d => ak_iload_n d rfl rfl) <|
  am_kd (fun d => ak_iload d rfl) <|
  am_kd (fun d => ak_iadd d rfl) <|
  am_kd (fun d => ak_iald (t := 0) (fun _ => rfl) rfl d rfl) <|
  am_kd (fun d => ak_istore d rfl) <|
  am_kd (fun d => ak_iload d rfl) <|
  am_kd (fun d => ak_bipush d (by decide +kernel) rfl) <|
  am_kd (fun d => ak_icmp_ne d (by decide +kernel) rfl) <|
  am_kd (fun d => ak_iinc d (by decide +kernel) rfl) <|
  am_kd (fun d => ak_goto d (by decide +kernel)) <|
  am_kd (fun d => ak_iload d rfl) <|
  am_kd (fun d => ak_if_eq d (by decide +kernel) rfl) <|
  am_kd (fun d => ak_iload d rfl) <|
  am_kd (fun d => ak_i2l d rfl) <|
  am_kd (fun d => ak_ldc2 wd_1106 d rfl) <|
  am_kd (fun d => ak_ldc2 wd_1107 d rfl) <|
  am_kd (fun d => ak_callS metX8_in ⟨rfl, hy_X8_in⟩ (am_w4 wd_986 wd_987 wd_67 wd_988) (by decide) d rfl) <|
  am_kd (fun d => ak_if_eq d (by decide +kernel) rfl) <|
  am_kd (fun d => ak_iload d rfl) <|
  am_kd (fun d => ak_istore d rfl) <|
  am_kd (fun d => ak_lconst d (by decide +kernel) rfl) <|
  am_kd (fun d => ak_lstore d rfl) <|
  am_kd (fun d => ak_iload d rfl) <|
  am_kd (fun d => ak_iload_n d rfl rfl) <|
  am_kd (fun d => ak_icmp_ge d (by decide +kernel) rfl) <|
  am_kd (fun d => ak_aload_n d rfl rfl) <|
  am_kd (fun d => ak_getR (C := RX8) (T := TX8) (N := 27) rfl inX8w (by decide) rfl rfl rfl wd_895 d rfl) <|
  am_kd (fun d => ak_iload_n d rfl rfl) <|
  am_kd (fun d => ak_iload d rfl) <|
  am_kd (fun d => ak_iadd d rfl) <|
  am_kd (fun d => ak_iald (t := 0) (fun _ => rfl) rfl d rfl) <|
  am_kd (fun d => ak_i2l d rfl) <|
  am_kd (fun d => ak_ldc2 wd_1106 d rfl) <|
  am_kd (fun d => ak_ldc2 wd_1107 d rfl) <|
  am_kd (fun d => ak_callS metX8_in ⟨rfl, hy_X8_in⟩ (am_w4 wd_986 wd_987 wd_67 wd_988) (by decide) d rfl) <|
  am_kd (fun d => ak_if_eq d (by decide +kernel) rfl) <|
  am_kd (fun d => ak_iload d rfl) <|
  am_kd (fun d => ak_iload d rfl) <|
  am_kd (fun d => ak_isub d rfl) <|
  am_kd (fun d => ak_bipush d (by decide +kernel) rfl) <|
  am_kd (fun d => ak_icmp_ne d (by decide +kernel) rfl) <|
  am_kd (fun d => ak_aload_n d rfl rfl) <|
  am_kd (fun d => ak_bipush d (by decide +kernel) rfl) <|
  am_kd (fun d => ak_iload d rfl) <|
  am_kd (fun d => ak_imul d rfl) <|
  am_kd (fun d => ak_iconst d (by decide +kernel) rfl) <|
  am_kd (fun d => ak_iadd d rfl) <|
  am_kd (fun d => ak_putI (C := RX8) (T := TX8) (N := 27) rfl inX8w tyX8_ok nmX8 (by decide) rfl rfl rfl rfl (by decide +kernel) wd_909 d rfl) <|
  am_kd (fun d => ak_iconst d (by decide +kernel) rfl) <|
  am_kd (fun d => ak_retZ d) <|
  am_kd (fun d => ak_ldc2 wd_1108 d rfl) <|
  am_kd (fun d => ak_lload d rfl) <|
  am_kd (fun d => ak_lmul d rfl) <|
  am_kd (fun d => ak_aload_n d rfl rfl) <|
  am_kd (fun d => ak_getR (C := RX8) (T := TX8) (N := 27) rfl inX8w (by decide) rfl rfl rfl wd_895 d rfl) <|
  am_kd (fun d => ak_iload_n d rfl rfl) <|
  am_kd (fun d => ak_iload d rfl) <|
  am_kd (fun d => ak_iadd d rfl) <|
  am_kd (fun d => ak_iald (t := 0) (fun _ => rfl) rfl d rfl) <|
  am_kd (fun d => ak_i2l d rfl) <|
  am_kd (fun d => ak_ladd d rfl) <|
  am_kd (fun d => ak_ldc2 wd_1106 d rfl) <|
  am_kd (fun d => ak_lsub d rfl) <|
  am_kd (fun d => ak_lstore d rfl) <|
  am_kd (fun d => ak_iinc d (by decide +kernel) rfl) <|
  am_kd (fun d => ak_goto d (by decide +kernel)) <|
  am_kd (fun d => ak_aload_n d rfl rfl) <|
  am_kd (fun d => ak_lload d rfl) <|
  am_kd (fun d => ak_callV (C := RX8) (F := TX8) (N := 27) metX8_lay rfl ⟨rfl, hy_X8_lay⟩ (am_w5 wd_1109 wd_1111 wd_34 wd_67 wd_1112) (by decide) d rfl) <|
  am_kd (fun d => ak_iconst d (by decide +kernel) rfl) <|
  am_kd (fun d => ak_istore d rfl) <|
  am_kd (fun d => ak_goto d (by decide +kernel)) <|
  am_kd (fun d => ak_iload d rfl) <|
  am_kd (fun d => ak_if_eq d (by decide +kernel) rfl) <|
  am_kd (fun d => ak_iload d rfl) <|
  am_kd (fun d => ak_callS metX8_factOf ⟨rfl, hy_X8_factOf⟩ (am_w4 wd_1120 wd_1121 wd_67 wd_1122) (by decide) d rfl) <|
  am_kd (fun d => ak_if_lt d (by decide +kernel) rfl) <|
  am_kd (fun d => ak_aload_n d rfl rfl) <|
  am_kd (fun d => ak_aload_n d rfl rfl) <|
  am_kd (fun d => ak_getR (C := RX8) (T := TX8) (N := 27) rfl inX8w (by decide) rfl rfl rfl wd_908 d rfl) <|
  am_kd (fun d => ak_iload d rfl) <|
  am_kd (fun d => ak_callS metX8_factOf ⟨rfl, hy_X8_factOf⟩ (am_w4 wd_1120 wd_1121 wd_67 wd_1122) (by decide) d rfl) <|
  am_kd (fun d => ak_lald (t := 1) (fun _ => rfl) rfl d rfl) <|
  am_kd (fun d => ak_callV (C := RX8) (F := TX8) (N := 27) metX8_lay rfl ⟨rfl, hy_X8_lay⟩ (am_w5 wd_1109 wd_1111 wd_34 wd_67 wd_1112) (by decide) d rfl) <|
  am_kd (fun d => ak_iconst d (by decide +kernel) rfl) <|
  am_kd (fun d => ak_istore d rfl) <|
  am_kd (fun d => ak_iinc d (by decide +kernel) rfl) <|
  am_kd (fun d => ak_goto d (by decide +kernel)) <|
  am_kd (fun d => ak_iload d rfl) <|
  am_kd (fun d => ak_if_eq d (by decide +kernel) rfl) <|
  am_kd (fun d => ak_iload d rfl) <|
  am_kd (fun d => ak_bipush d (by decide +kernel) rfl) <|
  am_kd (fun d => ak_icmp_ne d (by decide +kernel) rfl) <|
  am_kd (fun d => ak_aload_n d rfl rfl) <|
  am_kd (fun d => ak_callV (C := RX8) (F := TX8) (N := 27) metX8_opened rfl ⟨rfl, hy_X8_opened⟩ (am_w5 wd_1123 wd_1125 wd_36 wd_67 wd_1126) (by decide) d rfl) <|
  am_kd (fun d => ak_bipush d (by decide +kernel) rfl) <|
  am_kd (fun d => ak_icmp_ne d (by decide +kernel) rfl) <|
  am_kd (fun d => ak_aload_n d rfl rfl) <|
  am_kd (fun d => ak_bipush d (by decide +kernel) rfl) <|
  am_kd (fun d => ak_iload d rfl) <|
  am_kd (fun d => ak_imul d rfl) <|
  am_kd (fun d => ak_iconst d (by decide +kernel) rfl) <|
  am_kd (fun d => ak_iadd d rfl) <|
  am_kd (fun d => ak_putI (C := RX8) (T := TX8) (N := 27) rfl inX8w tyX8_ok nmX8 (by decide) rfl rfl rfl rfl (by decide +kernel) wd_909 d rfl) <|
  am_kd (fun d => ak_iconst d (by decide +kernel) rfl) <|
  am_kd (fun d => ak_retZ d) <|
  am_kd (fun d => ak_aload_n d rfl rfl) <|
  am_kd (fun d => ak_bipush d (by decide +kernel) rfl) <|
  am_kd (fun d => ak_callV (C := RX8) (F := TX8) (N := 27) metX8_wait rfl ⟨rfl, hy_X8_wait⟩ (am_w5 wd_1127 wd_1129 wd_37 wd_67 wd_1130) (by decide) d rfl) <|
  am_kd (fun d => ak_iinc d (by decide +kernel) rfl) <|
  am_kd (fun d => ak_goto d (by decide +kernel)) <|
  am_kd (fun d => ak_iload d rfl) <|
  am_kd (fun d => ak_if_eq d (by decide +kernel) rfl) <|
  am_kd (fun d => ak_iload d rfl) <|
  am_kd (fun d => ak_bipush d (by decide +kernel) rfl) <|
  am_kd (fun d => ak_icmp_eq d (by decide +kernel) rfl) <|
  am_kd (fun d => ak_iload d rfl) <|
  am_kd (fun d => ak_bipush d (by decide +kernel) rfl) <|
  am_kd (fun d => ak_icmp_ne d (by decide +kernel) rfl) <|
  am_kd (fun d => ak_aload_n d rfl rfl) <|
  am_kd (fun d => ak_iload d rfl) <|
  am_kd (fun d => ak_bipush d (by decide +kernel) rfl) <|
  am_kd (fun d => ak_icmp_ne d (by decide +kernel) rfl) <|
  am_kd (fun d => ak_iconst d (by decide +kernel) rfl) <|
  am_kd (fun d => ak_goto d (by decide +kernel)) <|
  am_kd (fun d => ak_iconst d (by decide +kernel) rfl) <|
  am_kd (fun d => ak_callV (C := RX8) (F := TX8) (N := 27) metX8_wait rfl ⟨rfl, hy_X8_wait⟩ (am_w5 wd_1127 wd_1129 wd_37 wd_67 wd_1130) (by decide) d rfl) <|
  am_kd (fun d => ak_iinc d (by decide +kernel) rfl) <|
  am_kd (fun d => ak_goto d (by decide +kernel)) <|
  am_kd (fun d => ak_iload d rfl) <|
  am_kd (fun d => ak_if_ne d (by decide +kernel) rfl) <|
  am_kd (fun d => ak_aload_n d rfl rfl) <|
  am_kd (fun d => ak_iload d rfl) <|
  am_kd (fun d => ak_callV (C := RX8) (F := TX8) (N := 27) metX8_behind rfl ⟨rfl, hy_X8_behind⟩ (am_w5 wd_1131 wd_1133 wd_38 wd_67 wd_1134) (by decide) d rfl) <|
  am_kd (fun d => ak_if_eq d (by decide +kernel) rfl) <|
  am_kd (fun d => ak_iload d rfl) <|
  am_kd (fun d => ak_bipush d (by decide +kernel) rfl) <|
  am_kd (fun d => ak_icmp_eq d (by decide +kernel) rfl) <|
  am_kd (fun d => ak_iconst d (by decide +kernel) rfl) <|
  am_kd (fun d => ak_goto d (by decide +kernel)) <|
  am_kd (fun d => ak_iconst d (by decide +kernel) rfl) <|
  am_kd (fun d => ak_istore d rfl) <|
  am_kd (fun d => ak_iinc d (by decide +kernel) rfl) <|
  am_kd (fun d => ak_goto d (by decide +kernel)) <|
  am_kd (fun d => ak_aload_n d rfl rfl) <|
  am_kd (fun d => ak_bipush d (by decide +kernel) rfl) <|
  am_kd (fun d => ak_iload d rfl) <|
  am_kd (fun d => ak_imul d rfl) <|
  am_kd (fun d => ak_iconst d (by decide +kernel) rfl) <|
  am_kd (fun d => ak_iadd d rfl) <|
  am_kd (fun d => ak_putI (C := RX8) (T := TX8) (N := 27) rfl inX8w tyX8_ok nmX8 (by decide) rfl rfl rfl rfl (by decide +kernel) wd_909 d rfl) <|
  am_kd (fun d => ak_iconst d (by decide +kernel) rfl) <|
  am_kd (fun d => ak_retZ d) <|
  am_kd (fun d => ak_goto d (by decide +kernel)) <|
  am_kd (fun d => ak_iload d rfl) <|
  am_kd (fun d => ak_if_ne d (by decide +kernel) rfl) <|
  am_kd (fun d => ak_aload_n d rfl rfl) <|
  am_kd (fun d => ak_callV (C := RX8) (F := TX8) (N := 27) metX8_choose rfl ⟨rfl, hy_X8_choose⟩ (am_w5 wd_1145 wd_1147 wd_40 wd_67 wd_1148) (by decide) d rfl) <|
  am_kd (fun d => ak_aload_n d rfl rfl) <|
  am_kd (fun d => ak_bipush d (by decide +kernel) rfl) <|
  am_kd (fun d => ak_iload_n d rfl rfl) <|
  am_kd (fun d => ak_imul d rfl) <|
  am_kd (fun d => ak_iconst d (by decide +kernel) rfl) <|
  am_kd (fun d => ak_iadd d rfl) <|
  am_kd (fun d => ak_putI (C := RX8) (T := TX8) (N := 27) rfl inX8w tyX8_ok nmX8 (by decide) rfl rfl rfl rfl (by decide +kernel) wd_909 d rfl) <|
  am_kd (fun d => ak_iload d rfl) <|
  am_kd (fun d => ak_if_ne d (by decide +kernel) rfl) <|
  am_kd (fun d => ak_aload_n d rfl rfl) <|
  am_kd (fun d => ak_getI (C := RX8) (T := TX8) (N := 27) rfl inX8w (by decide) rfl rfl rfl wd_906 d rfl) <|
  am_kd (fun d => ak_if_ne d (by decide +kernel) rfl) <|
  am_kd (fun d => ak_iconst d (by decide +kernel) rfl) <|
  am_kd (fun d => ak_goto d (by decide +kernel)) <|
  am_kd (fun d => ak_iconst d (by decide +kernel) rfl) <|
  am_kd (fun d => ak_retZ d) <| am_kdn
def r_dig (c : Int32) : Prop := (48 : Int64) ≤ c.toInt64 ∧ c.toInt64 ≤ (57 : Int64)
def r_du (du : Int32) : Nat := if du = 0 then 1 else 0
def TX8_work : am_T := fun live as M R => match as with
  | [.ref n, .int pl] => am_mn live ∧ n = 200 ∧ am_in pl 5 ∧ r_I M ∧ ∀ v M', r_sc M M' → r_I M' → R (some (.int v)) M'
  | _ => False
def r_wk36 (M0 M : am_M) (m du i : Int32) : Prop := (0 ≤ i.toInt ∧ i.toInt ≤ m.toInt ∧ m.toInt ≤ 50) ∧ (du = 0 ∨ du = 1) ∧ (∃ w0 : Nat, r_wI M (r_du du) w0 ∧ (w0 : Int) ≤ i.toInt) ∧ r_sc M0 M ∧ r_I M
def JX8_work : am_E → List Value → am_M → am_R → am_inv := fun live as M0 R pc => match as with
  | [.ref n, .int pl] => (match pc with
    | 36 => some ([0, 2, 3, 4, 5], fun k L st M => ∃ m du i : Int32, L = [(0, .ref 200), (2, .int (3258 + 50 * pl)), (3, .int m), (4, .int du), (5, .int i)] ∧ st = [] ∧ k = ((60 - i.toInt).toNat * 2 + 1, 0) ∧ r_wk36 M0 M m du i)
    | 93 => some ([0, 2, 3, 5, 7, 8], fun k L st M => ∃ (m i f : Int32) (v : Int64), L = [(0, .ref 200), (2, .int (3258 + 50 * pl)), (3, .int m), (5, .int i), (7, .int f), (8, .long v)] ∧ st = [] ∧ k = ((60 - f.toInt).toNat * 2, (60 - i.toInt).toNat) ∧ (f.toInt ≤ i.toInt ∧ f.toInt < m.toInt ∧ (i = f → r_dig (M.1 201 (3258 + 50 * pl + f).toNatClampNeg))) ∧ r_wk36 M0 M m 1 f ∧ i.toInt ≤ m.toInt)
    | _ => none)
  | _ => none
theorem r_36 {M0 M : am_M} {m du i : Int32} (h1 : 0 ≤ i.toInt ∧ i.toInt ≤ m.toInt ∧ m.toInt ≤ 50) (h2 : du = 0 ∨ du = 1) {w0 : Nat} (h3 : r_wI M (r_du du) w0) (h4 : (w0 : Int) ≤ i.toInt) (h5 : r_sc M0 M) (h6 : r_I M) : r_wk36 M0 M m du i := ⟨h1, h2, ⟨w0, h3, h4⟩, h5, h6⟩
set_option maxRecDepth 100000 in
set_option maxHeartbeats 4000000 in
theorem metX8_work : am_Met yX8_work cX8_work 10 (some .boolean) (5) (106) TX8_work := by
  refine am_met (own := RX8) (by decide +kernel) rfl kX8_work koX8_work 150 JX8_work ?_ ?_
  · intro live as M Ret h
    unfold TX8_work at h
    split at h
    · next n pl =>
      refine ⟨Nat.le_of_ble_eq_true rfl, ?_⟩
      change am_wp _ _ _ _ [(0, Value.ref n), (1, Value.int pl)] _ _
      obtain ⟨hmn, rfl, hp, hR, h⟩ := h
      have hmn2 := hmn
      obtain ⟨i1, i2, rfl⟩ := hmn2
      have l201 : am_len 201 = 3760 := rfl
      have p1 := hp.1
      have p2 := hp.2
      have ea := r_off (c := 3508) (x := pl) ⟨by decide, by decide⟩ ⟨by omega, by omega⟩
      simp only [Int32.reduceToInt] at ea
      have htx : 0 ≤ (M.1 201 (3508 + pl).toNatClampNeg).toInt ∧ (M.1 201 (3508 + pl).toNatClampNeg).toInt ≤ 50 := by
        have q := hR.tx (g_cl hp)
        have q2 := i_clamp (x := 3508 + pl) (by omega)
        have q3 := i_clamp (x := pl) p1
        rw [show (3508 + pl).toNatClampNeg = 3508 + pl.toNatClampNeg by omega]
        exact q
      repeat' (first | apply And.intro | exact rfl | intro hx | (refine Exists.intro _ (And.intro rfl ?_)))
      all_goals try first | (with_reducible change am_tI _ _) | (change Ret _ _) | (change Ret _ _ _) | (change Exists _)
      all_goals try dsimp only at *
      all_goals try (with_reducible exact absurd ‹(1000 : Int64) = 0› am_z1000)
      all_goals first
        | omega
        | (rw [l201]; omega)
        | skip
      refine ⟨_, _, _, _, rfl, rfl, rfl, r_36 ⟨by decide, htx.1, htx.2⟩ (Or.inr rfl) (w0 := 0) ?_ (by decide) (by (repeat' (first | (with_reducible exact r_sc.rf) | (with_reducible assumption) | ((with_reducible change r_sc _ (am_wI _ _ _ _)); refine r_sc.wI ?_ rfl) | ((with_reducible change r_sc _ (am_wJ _ _ _ _)); refine r_sc.wJ ?_ rfl) | (refine r_sc.tr ?_ (by with_reducible assumption))))) (by (repeat' (first | (with_reducible assumption) | ((with_reducible change r_I (am_wJ _ _ _ _)); refine r_I.wJ ?_) | ((with_reducible change r_I (am_wI _ _ _ _)); refine r_I.wI ?_ rfl))))⟩
      exact ⟨(), ⟨Int.le_refl 0, Int.le_refl 0, Nat.zero_le _⟩, rfl, Int.le_refl 0⟩
    · exact h.elim
  · intro live as M0 Ret h k pc I hI L st M hi
    unfold TX8_work at h
    split at h
    · next n pl =>
      obtain ⟨hmn, rfl, hp, hR, h⟩ := h
      have hmn2 := hmn
      obtain ⟨i1, i2, rfl⟩ := hmn2
      have l201 : am_len 201 = 3760 := rfl
      have l206 : am_len 206 = 7 := rfl
      have p1 := hp.1
      have p2 := hp.2
      have e50 := r_mul (c := 50) (x := pl) ⟨by decide, by decide⟩ ⟨by omega, by omega⟩
      simp only [Int32.reduceToInt] at e50
      have eb := r_off (c := 3258) (x := 50 * pl) ⟨by decide, by decide⟩ ⟨by omega, by omega⟩
      simp only [e50, Int32.reduceToInt] at eb
      change (match pc with | 36 => _ | 93 => _ | _ => none) = _ at hI
      split at hI
      · cases hI
        obtain ⟨m, du, i, rfl, rfl, rfl, ⟨g1, g2, g3⟩, hdu, ⟨w0, hw, hw0⟩, hs, hr⟩ := hi
        have hi := i_inc (x := i) (by omega) (by omega)
        have h120 := r_wI.bd hw
        by_cases hz : m ≤ i
        · rcases hdu with rfl | rfl
          · skip
            repeat' (first | (with_reducible exact hmn) | apply And.intro | exact rfl | (intro hx; with_reducible exact absurd hz hx) | (intro hx; exact absurd hx (by decide)) | (intro hx; exact absurd (by decide) hx) | decide | intro hx | (refine Exists.intro _ (And.intro rfl ?_)) | (refine r_cw_in (show r_wI M 1 w0 from hw) (fun M1 c1 d1 => ?_)))
            all_goals try first | (with_reducible change am_tI _ _) | (change Ret _ _) | (change Ret _ _ _) | (change Exists _)
            all_goals try dsimp only at *
            all_goals try (with_reducible exact absurd ‹(1000 : Int64) = 0› am_z1000)
            all_goals first
              | (left; rfl)
              | (right; rfl)
              | exact h _ _ (r_sc.wI (hs.tr c1.sc) rfl) (r_I.wI (c1.i hr) rfl)
              | skip
          · skip
            repeat' (first | (with_reducible exact hmn) | apply And.intro | exact rfl | (intro hx; with_reducible exact absurd hz hx) | (intro hx; exact absurd hx (by decide)) | (intro hx; exact absurd (by decide) hx) | decide | intro hx | (refine Exists.intro _ (And.intro rfl ?_)))
            all_goals try first | (with_reducible change am_tI _ _) | (change Ret _ _) | (change Ret _ _ _) | (change Exists _)
            all_goals try dsimp only at *
            all_goals try (with_reducible exact absurd ‹(1000 : Int64) = 0› am_z1000)
            all_goals first
              | (left; rfl)
              | (right; rfl)
              | exact h _ _ (r_sc.wI hs rfl) (r_I.wI hr rfl)
              | skip
        · have hz2 := hz
          simp only [i_le] at hz2
          have ec := r_off (c := 3258 + 50 * pl) (x := i) ⟨by omega, by omega⟩ ⟨by omega, by omega⟩
          rw [eb] at ec
          have x1 : 0 ≤ (3258 + 50 * pl + i).toInt := by omega
          have x2 : (3258 + 50 * pl + i).toInt < (am_len 201 : Int) := by rw [l201]; omega
          generalize hc : M.1 201 (3258 + 50 * pl + i).toNatClampNeg = c
          rcases hdu with rfl | rfl
          · by_cases z32 : c = 32
            · rw [← hc] at z32
              repeat' (first | (with_reducible exact x1) | (with_reducible exact x2) | (with_reducible exact hmn) | apply And.intro | exact rfl | (intro hx; with_reducible exact absurd hx hz) | (intro hx; with_reducible exact absurd z32 hx) | (intro hx; exact absurd hx (by decide)) | (intro hx; exact absurd (by decide) hx) | decide | intro hx | (refine Exists.intro _ (And.intro rfl ?_)))
              all_goals try first | (with_reducible change am_tI _ _) | (change Ret _ _) | (change Ret _ _ _) | (change Exists _)
              all_goals try dsimp only at *
              all_goals try (with_reducible exact absurd ‹(1000 : Int64) = 0› am_z1000)
              all_goals exact ⟨_, am_lt_l (by omega), _, _, _, rfl, rfl, rfl, r_36 ⟨by omega, by omega, g3⟩ (Or.inl rfl) hw (by omega) hs hr⟩
            · have z32b := z32
              rw [← hc] at z32b
              by_cases z41 : c = 41
              · have z41b := z41
                rw [← hc] at z41b
                repeat' (first | (with_reducible exact x1) | (with_reducible exact x2) | (with_reducible exact hmn) | apply And.intro | exact rfl | (intro hx; with_reducible exact absurd hx hz) | (intro hx; with_reducible exact absurd hx z32b) | (intro hx; with_reducible exact absurd z41b hx) | (intro hx; exact absurd hx (by decide)) | (intro hx; exact absurd (by decide) hx) | decide | intro hx | (refine Exists.intro _ (And.intro rfl ?_)) | (refine r_cw_in (show r_wI M 1 w0 from hw) ⟨by omega, fun M1 c1 => ?_, fun M1 c1 d1 => ?_⟩))
                all_goals try first | (with_reducible change am_tI _ _) | (change Ret _ _) | (change Ret _ _ _) | (change Exists _)
                all_goals try dsimp only at *
                all_goals try (with_reducible exact absurd ‹(1000 : Int64) = 0› am_z1000)
                all_goals first
                  | (left; rfl)
                  | exact h _ _ (r_sc.wI (hs.tr c1.sc) rfl) (r_I.wI (c1.i hr) rfl)
                  | exact ⟨_, am_lt_l (by omega), _, _, _, rfl, rfl, rfl, r_36 ⟨by omega, by omega, g3⟩ (Or.inl rfl) (by rw [if_pos z41b] at d1; exact d1) (by omega) (hs.tr c1.sc) (c1.i hr)⟩
                  | skip
              · have z41b := z41
                rw [← hc] at z41b
                repeat' (first | (with_reducible exact x1) | (with_reducible exact x2) | (with_reducible exact hmn) | apply And.intro | exact rfl | (intro hx; with_reducible exact absurd hx hz) | (intro hx; with_reducible exact absurd hx z32b) | (intro hx; with_reducible exact absurd hx z41b) | (intro hx; exact absurd hx (by decide)) | (intro hx; exact absurd (by decide) hx) | decide | intro hx | (refine Exists.intro _ (And.intro rfl ?_)) | (refine r_cw_in (show r_wI M 1 w0 from hw) ⟨by omega, fun M1 c1 => ?_, fun M1 c1 d1 => ?_⟩))
                all_goals try first | (with_reducible change am_tI _ _) | (change Ret _ _) | (change Ret _ _ _) | (change Exists _)
                all_goals try dsimp only at *
                all_goals try (with_reducible exact absurd ‹(1000 : Int64) = 0› am_z1000)
                all_goals first
                  | (left; rfl)
                  | exact h _ _ (r_sc.wI (hs.tr c1.sc) rfl) (r_I.wI (c1.i hr) rfl)
                  | exact ⟨_, am_lt_l (by omega), _, _, _, rfl, rfl, rfl, r_36 ⟨by omega, by omega, g3⟩ (Or.inr rfl) (by rw [if_neg z41b] at d1; exact d1) (by omega) (hs.tr c1.sc) (c1.i hr)⟩
                  | skip
          · have q1 : r_wI M 0 w0 := hw
            have hx1 := h120.1
            have hx2 : (M.1 200 11).toInt < 120 := by have q := hw.u.1; omega
            have nx : ∀ (M2 : am_M) (d2 : Int32) (w2 : Nat), d2 = 0 ∨ d2 = 1 → r_wI M2 (r_du d2) w2 → (w2 : Int) ≤ (i + 1).toInt → r_sc M0 M2 → r_I M2 → r_wk36 M0 M2 m d2 (i + 1) := fun M2 d2 w2 a1 a2 a3 a4 a5 => r_36 ⟨by omega, by omega, g3⟩ a1 a2 a3 a4 a5
            by_cases z32 : M.1 201 (3258 + 50 * pl + i).toNatClampNeg = 32
            · skip
              repeat' (first | (with_reducible exact x1) | (with_reducible exact x2) | (with_reducible exact hmn) | apply And.intro | exact rfl | (intro hx; with_reducible exact absurd hx hz) | (intro hx; with_reducible exact absurd z32 hx) | (intro hx; exact absurd hx (by decide)) | (intro hx; exact absurd (by decide) hx) | decide | intro hx | (refine Exists.intro _ (And.intro rfl ?_)))
              all_goals try first | (with_reducible change am_tI _ _) | (change Ret _ _) | (change Ret _ _ _) | (change Exists _)
              all_goals try dsimp only at *
              all_goals try (with_reducible exact absurd ‹(1000 : Int64) = 0› am_z1000)
              all_goals exact ⟨_, am_lt_l (by omega), _, _, _, rfl, rfl, rfl, nx _ _ w0 (Or.inr rfl) q1 (by omega) hs hr⟩
            · by_cases zd : r_dig (M.1 201 (3258 + 50 * pl + i).toNatClampNeg)
              · have qd : ¬ ((if (48 : Int64) ≤ (M.1 201 (3258 + 50 * pl + i).toNatClampNeg).toInt64 ∧ (M.1 201 (3258 + 50 * pl + i).toNatClampNeg).toInt64 ≤ (57 : Int64) then (1 : Int32) else 0) = 0) := by rw [if_pos (show _ ∧ _ from zd)]; decide
                repeat' (first | (with_reducible exact x1) | (with_reducible exact x2) | (with_reducible exact hmn) | apply And.intro | exact rfl | (intro hx; with_reducible exact absurd hx hz) | (intro hx; with_reducible exact absurd hx z32) | (intro hx; with_reducible exact absurd hx qd) | (intro hx; exact absurd hx (by decide)) | (intro hx; exact absurd (by decide) hx) | decide | intro hx | (refine Exists.intro _ (And.intro rfl ?_)))
                all_goals try first | (with_reducible change am_tI _ _) | (change Ret _ _) | (change Ret _ _ _) | (change Exists _)
                all_goals try dsimp only at *
                all_goals try (with_reducible exact absurd ‹(1000 : Int64) = 0› am_z1000)
                all_goals exact ⟨_, am_lt_l (by omega), _, _, _, _, rfl, rfl, rfl, ⟨Int.le_refl _, by omega, fun _ => zd⟩, r_36 ⟨g1, g2, g3⟩ (Or.inr rfl) q1 hw0 hs hr, g2⟩
              · have qd : (if (48 : Int64) ≤ (M.1 201 (3258 + 50 * pl + i).toNatClampNeg).toInt64 ∧ (M.1 201 (3258 + 50 * pl + i).toNatClampNeg).toInt64 ≤ (57 : Int64) then (1 : Int32) else 0) = 0 := if_neg zd
                by_cases zf : r_fact (M.1 201 (3258 + 50 * pl + i).toNatClampNeg) < 0
                · by_cases z40 : M.1 201 (3258 + 50 * pl + i).toNatClampNeg = 40
                  · skip
                    repeat' (first | (with_reducible exact x1) | (with_reducible exact x2) | (with_reducible exact hx1) | (with_reducible exact hx2) | (with_reducible exact h120) | (with_reducible exact hmn) | apply And.intro | exact rfl | (intro hx; with_reducible exact absurd hx hz) | (intro hx; with_reducible exact absurd hx z32) | (intro hx; with_reducible exact absurd qd hx) | (intro hx; with_reducible exact absurd zf hx) | (intro hx; with_reducible exact absurd z40 hx) | (intro hx; exact absurd hx (by decide)) | (intro hx; exact absurd (by decide) hx) | decide | intro hx | (refine Exists.intro _ (And.intro rfl ?_)))
                    all_goals try first | (with_reducible change am_tI _ _) | (change Ret _ _) | (change Ret _ _ _) | (change Exists _)
                    all_goals try dsimp only at *
                    all_goals try (with_reducible exact absurd ‹(1000 : Int64) = 0› am_z1000)
                    all_goals first
                      | (with_reducible exact h120.1)
                      | (with_reducible exact h120.2)
                      | (left; rfl)
                      | exact h120.1
                      | exact h120.2
                      | ((with_reducible change Ret _ _); exact h _ _ (by (repeat' (first | (with_reducible exact r_sc.rf) | (with_reducible assumption) | ((with_reducible change r_sc _ (am_wI _ _ _ _)); refine r_sc.wI ?_ rfl) | ((with_reducible change r_sc _ (am_wJ _ _ _ _)); refine r_sc.wJ ?_ rfl) | (refine r_sc.tr ?_ (by with_reducible assumption))))) (by (repeat' (first | (with_reducible assumption) | ((with_reducible change r_I (am_wJ _ _ _ _)); refine r_I.wJ ?_) | ((with_reducible change r_I (am_wI _ _ _ _)); refine r_I.wI ?_ rfl)))))
                      | exact ⟨_, am_lt_l (by omega), _, _, _, rfl, rfl, rfl, nx _ _ (w0 + 1) (Or.inr rfl) (r_push q1 (by decide) (by omega)) (by omega) (by (repeat' (first | (with_reducible exact r_sc.rf) | (with_reducible assumption) | ((with_reducible change r_sc _ (am_wI _ _ _ _)); refine r_sc.wI ?_ rfl) | ((with_reducible change r_sc _ (am_wJ _ _ _ _)); refine r_sc.wJ ?_ rfl) | (refine r_sc.tr ?_ (by with_reducible assumption))))) (by (repeat' (first | (with_reducible assumption) | ((with_reducible change r_I (am_wJ _ _ _ _)); refine r_I.wJ ?_) | ((with_reducible change r_I (am_wI _ _ _ _)); refine r_I.wI ?_ rfl))))⟩
                      | skip
                  · by_cases z33 : M.1 201 (3258 + 50 * pl + i).toNatClampNeg = 33
                    · skip
                      repeat' (first | (with_reducible exact x1) | (with_reducible exact x2) | (with_reducible exact hx1) | (with_reducible exact hx2) | (with_reducible exact hmn) | apply And.intro | exact rfl | (intro hx; with_reducible exact absurd hx hz) | (intro hx; with_reducible exact absurd hx z32) | (intro hx; with_reducible exact absurd hx z40) | (intro hx; with_reducible exact absurd qd hx) | (intro hx; with_reducible exact absurd zf hx) | (intro hx; with_reducible exact absurd z33 hx) | (intro hx; exact absurd hx (by decide)) | (intro hx; exact absurd (by decide) hx) | decide | intro hx | (refine Exists.intro _ (And.intro rfl ?_)))
                      all_goals try first | (with_reducible change am_tI _ _) | (change Ret _ _) | (change Ret _ _ _) | (change Exists _)
                      all_goals try dsimp only at *
                      all_goals try (with_reducible exact absurd ‹(1000 : Int64) = 0› am_z1000)
                      all_goals exact ⟨_, am_lt_l (by omega), _, _, _, rfl, rfl, rfl, nx _ _ (w0 + 1) (Or.inr rfl) (r_push q1 (by decide) (by omega)) (by omega) (by (repeat' (first | (with_reducible exact r_sc.rf) | (with_reducible assumption) | ((with_reducible change r_sc _ (am_wI _ _ _ _)); refine r_sc.wI ?_ rfl) | ((with_reducible change r_sc _ (am_wJ _ _ _ _)); refine r_sc.wJ ?_ rfl) | (refine r_sc.tr ?_ (by with_reducible assumption))))) (by (repeat' (first | (with_reducible assumption) | ((with_reducible change r_I (am_wJ _ _ _ _)); refine r_I.wJ ?_) | ((with_reducible change r_I (am_wI _ _ _ _)); refine r_I.wI ?_ rfl))))⟩
                    · by_cases z45 : M.1 201 (3258 + 50 * pl + i).toNatClampNeg = 45
                      · skip
                        repeat' (first | (with_reducible exact x1) | (with_reducible exact x2) | (with_reducible exact hx1) | (with_reducible exact hx2) | (with_reducible exact hmn) | apply And.intro | exact rfl | (intro hx; with_reducible exact absurd hx hz) | (intro hx; with_reducible exact absurd hx z32) | (intro hx; with_reducible exact absurd hx z40) | (intro hx; with_reducible exact absurd hx z33) | (intro hx; with_reducible exact absurd qd hx) | (intro hx; with_reducible exact absurd zf hx) | (intro hx; with_reducible exact absurd z45 hx) | (intro hx; exact absurd hx (by decide)) | (intro hx; exact absurd (by decide) hx) | decide | intro hx | (refine Exists.intro _ (And.intro rfl ?_)))
                        all_goals try first | (with_reducible change am_tI _ _) | (change Ret _ _) | (change Ret _ _ _) | (change Exists _)
                        all_goals try dsimp only at *
                        all_goals try (with_reducible exact absurd ‹(1000 : Int64) = 0› am_z1000)
                        all_goals exact ⟨_, am_lt_l (by omega), _, _, _, rfl, rfl, rfl, nx _ _ (w0 + 1) (Or.inr rfl) (r_push q1 (by decide) (by omega)) (by omega) (by (repeat' (first | (with_reducible exact r_sc.rf) | (with_reducible assumption) | ((with_reducible change r_sc _ (am_wI _ _ _ _)); refine r_sc.wI ?_ rfl) | ((with_reducible change r_sc _ (am_wJ _ _ _ _)); refine r_sc.wJ ?_ rfl) | (refine r_sc.tr ?_ (by with_reducible assumption))))) (by (repeat' (first | (with_reducible assumption) | ((with_reducible change r_I (am_wJ _ _ _ _)); refine r_I.wJ ?_) | ((with_reducible change r_I (am_wI _ _ _ _)); refine r_I.wI ?_ rfl))))⟩
                      · skip
                        repeat' (first | (with_reducible exact x1) | (with_reducible exact x2) | (with_reducible exact hmn) | apply And.intro | exact rfl | (intro hx; with_reducible exact absurd hx hz) | (intro hx; with_reducible exact absurd hx z32) | (intro hx; with_reducible exact absurd hx z40) | (intro hx; with_reducible exact absurd hx z33) | (intro hx; with_reducible exact absurd hx z45) | (intro hx; with_reducible exact absurd qd hx) | (intro hx; with_reducible exact absurd zf hx) | (intro hx; exact absurd hx (by decide)) | (intro hx; exact absurd (by decide) hx) | decide | intro hx | (refine Exists.intro _ (And.intro rfl ?_)))
                        all_goals try first | (with_reducible change am_tI _ _) | (change Ret _ _) | (change Ret _ _ _) | (change Exists _)
                        all_goals try dsimp only at *
                        all_goals try (with_reducible exact absurd ‹(1000 : Int64) = 0› am_z1000)
                        all_goals first
                          | (left; rfl)
                          | ((with_reducible change Ret _ _); exact h _ _ (by (repeat' (first | (with_reducible exact r_sc.rf) | (with_reducible assumption) | ((with_reducible change r_sc _ (am_wI _ _ _ _)); refine r_sc.wI ?_ rfl) | ((with_reducible change r_sc _ (am_wJ _ _ _ _)); refine r_sc.wJ ?_ rfl) | (refine r_sc.tr ?_ (by with_reducible assumption))))) (by (repeat' (first | (with_reducible assumption) | ((with_reducible change r_I (am_wJ _ _ _ _)); refine r_I.wJ ?_) | ((with_reducible change r_I (am_wI _ _ _ _)); refine r_I.wI ?_ rfl)))))
                          | skip
                · have zf2 := zf
                  simp only [i_lt, Int32.reduceToInt] at zf2
                  have hf := r_fact_in (M.1 201 (3258 + 50 * pl + i).toNatClampNeg)
                  have y1 : 0 ≤ (r_fact (M.1 201 (3258 + 50 * pl + i).toNatClampNeg)).toInt := by omega
                  have y2 : (r_fact (M.1 201 (3258 + 50 * pl + i).toNatClampNeg)).toInt < (am_len 206 : Int) := by rw [l206]; omega
                  repeat' (first | (with_reducible exact x1) | (with_reducible exact x2) | (with_reducible exact y1) | (with_reducible exact y2) | (with_reducible exact hmn) | apply And.intro | exact rfl | (intro hx; with_reducible exact absurd hx hz) | (intro hx; with_reducible exact absurd hx z32) | (intro hx; with_reducible exact absurd hx zf) | (intro hx; with_reducible exact absurd qd hx) | (intro hx; exact absurd hx (by decide)) | (intro hx; exact absurd (by decide) hx) | decide | intro hx | (refine Exists.intro _ (And.intro rfl ?_)) | (refine r_cw_in q1 ⟨by omega, fun M1 c1 d1 => ?_⟩))
                  all_goals try first | (with_reducible change am_tI _ _) | (change Ret _ _) | (change Ret _ _ _) | (change Exists _)
                  all_goals try dsimp only at *
                  all_goals try (with_reducible exact absurd ‹(1000 : Int64) = 0› am_z1000)
                  all_goals exact ⟨_, am_lt_l (by omega), _, _, _, rfl, rfl, rfl, nx _ _ (w0 + 1) (Or.inl rfl) d1 (by omega) (hs.tr c1.sc) (c1.i hr)⟩
      · cases hI
        obtain ⟨m, i, f, v, rfl, rfl, rfl, ⟨g4, g5, g6⟩, ⟨⟨g1, g2, g3⟩, hdu, ⟨w0, hw, hw0⟩, hs, hr⟩, g7⟩ := hi
        have q1 : r_wI M 0 w0 := hw
        have hi := i_inc (x := i) (by omega) (by omega)
        have nx : f.toInt < i.toInt → ∀ (M2 : am_M) (w2 : Nat), r_wI M2 1 w2 → (w2 : Int) ≤ i.toInt → r_sc M0 M2 → r_I M2 → r_wk36 M0 M2 m 0 i := fun a0 M2 w2 a2 a3 a4 a5 => r_36 ⟨by omega, g7, g3⟩ (Or.inl rfl) a2 a3 a4 a5
        by_cases hz : m ≤ i
        · have hz2 := hz
          simp only [i_le] at hz2
          repeat' (first | (with_reducible exact hmn) | apply And.intro | exact rfl | (intro hx; with_reducible exact absurd hx hz) | (intro hx; with_reducible exact absurd hz hx) | (intro hx; exact absurd hx (by decide)) | (intro hx; exact absurd (by decide) hx) | decide | intro hx | (refine Exists.intro _ (And.intro rfl ?_)) | (refine r_cw_in q1 ⟨by omega, fun M1 c1 d1 => ?_⟩))
          all_goals try first | (with_reducible change am_tI _ _) | (change Ret _ _) | (change Ret _ _ _) | (change Exists _)
          all_goals try dsimp only at *
          all_goals try (with_reducible exact absurd ‹(1000 : Int64) = 0› am_z1000)
          all_goals exact ⟨_, am_lt_l (by omega), _, _, _, rfl, rfl, rfl, nx (by omega) _ (w0 + 1) d1 (by omega) (hs.tr c1.sc) (c1.i hr)⟩
        · have hz2 := hz
          simp only [i_le] at hz2
          have ec := r_off (c := 3258 + 50 * pl) (x := i) ⟨by omega, by omega⟩ ⟨by omega, by omega⟩
          rw [eb] at ec
          have x1 : 0 ≤ (3258 + 50 * pl + i).toInt := by omega
          have x2 : (3258 + 50 * pl + i).toInt < (am_len 201 : Int) := by rw [l201]; omega
          by_cases zd : r_dig (M.1 201 (3258 + 50 * pl + i).toNatClampNeg)
          · have qd : ¬ ((if (48 : Int64) ≤ (M.1 201 (3258 + 50 * pl + i).toNatClampNeg).toInt64 ∧ (M.1 201 (3258 + 50 * pl + i).toNatClampNeg).toInt64 ≤ (57 : Int64) then (1 : Int32) else 0) = 0) := by rw [if_pos (show _ ∧ _ from zd)]; decide
            repeat' (first | (with_reducible exact x1) | (with_reducible exact x2) | (with_reducible exact hmn) | apply And.intro | exact rfl | (intro hx; with_reducible exact absurd hx hz) | (intro hx; with_reducible exact absurd hx qd) | (intro hx; exact absurd hx (by decide)) | (intro hx; exact absurd (by decide) hx) | decide | intro hx | (refine Exists.intro _ (And.intro rfl ?_)))
            all_goals try first | (with_reducible change am_tI _ _) | (change Ret _ _) | (change Ret _ _ _) | (change Exists _)
            all_goals try dsimp only at *
            all_goals try (with_reducible exact absurd ‹(1000 : Int64) = 0› am_z1000)
            all_goals first
              | (left; rfl)
              | ((with_reducible change Ret _ _); exact h _ _ (by (repeat' (first | (with_reducible exact r_sc.rf) | (with_reducible assumption) | ((with_reducible change r_sc _ (am_wI _ _ _ _)); refine r_sc.wI ?_ rfl) | ((with_reducible change r_sc _ (am_wJ _ _ _ _)); refine r_sc.wJ ?_ rfl) | (refine r_sc.tr ?_ (by with_reducible assumption))))) (by (repeat' (first | (with_reducible assumption) | ((with_reducible change r_I (am_wJ _ _ _ _)); refine r_I.wJ ?_) | ((with_reducible change r_I (am_wI _ _ _ _)); refine r_I.wI ?_ rfl)))))
              | exact ⟨_, am_lt_r (by omega), _, _, _, _, rfl, rfl, rfl, ⟨by omega, g5, fun q => by have q2 := congrArg Int32.toInt q; omega⟩, r_36 ⟨g1, g2, g3⟩ (Or.inr rfl) q1 hw0 hs hr, by omega⟩
              | skip
          · have qd : (if (48 : Int64) ≤ (M.1 201 (3258 + 50 * pl + i).toNatClampNeg).toInt64 ∧ (M.1 201 (3258 + 50 * pl + i).toNatClampNeg).toInt64 ≤ (57 : Int64) then (1 : Int32) else 0) = 0 := if_neg zd
            have hne : f.toInt < i.toInt := by
              rcases Int.lt_or_eq_of_le g4 with q | q
              · exact q
              · have e : i = f := (i_eq _ _).mpr q.symm
                rw [e] at zd
                exact absurd (g6 e) zd
            repeat' (first | (with_reducible exact x1) | (with_reducible exact x2) | (with_reducible exact hmn) | apply And.intro | exact rfl | (intro hx; with_reducible exact absurd hx hz) | (intro hx; with_reducible exact absurd qd hx) | (intro hx; exact absurd hx (by decide)) | (intro hx; exact absurd (by decide) hx) | decide | intro hx | (refine Exists.intro _ (And.intro rfl ?_)) | (refine r_cw_in q1 ⟨by omega, fun M1 c1 d1 => ?_⟩))
            all_goals try first | (with_reducible change am_tI _ _) | (change Ret _ _) | (change Ret _ _ _) | (change Exists _)
            all_goals try dsimp only at *
            all_goals try (with_reducible exact absurd ‹(1000 : Int64) = 0› am_z1000)
            all_goals exact ⟨_, am_lt_l (by omega), _, _, _, rfl, rfl, rfl, nx hne _ (w0 + 1) d1 (by omega) (hs.tr c1.sc) (c1.i hr)⟩
      · cases hI
    · exact h.elim
theorem hy_X8_work : yX8_work.cls ≠ "java/lang/invoke/MethodHandle" ∧ yX8_work.cls ≠ "java/lang/invoke/VarHandle" ∧ (parseMethodDescriptor yX8_work.desc).map (fun d => d.parameters.length) = some 1 := ⟨by decide +kernel, by decide +kernel, by decide +kernel⟩
set_option maxRecDepth 100000 in
theorem wd_1102 : Cond.methodLink "LearnLoansModel" 199 yX8_work ∈ am_ws := am_wt5 (List.mem_of_getElem? (i := 85) (by rfl)) (by decide +kernel)
set_option maxRecDepth 100000 in
theorem wd_1104 : Cond.instanceMethod yX8_work ∈ am_ws := am_wt5 (List.mem_of_getElem? (i := 87) (by rfl)) (by decide +kernel)
set_option maxRecDepth 100000 in
theorem wd_33 : Cond.selects "LearnLoansModel" yX8_work yX8_work ∈ am_ws := am_wsi (List.mem_of_getElem? (i := 33) (by rfl)) (by decide +kernel)
set_option maxRecDepth 100000 in
theorem wd_1105 : Cond.code yX8_work cX8_work 10 (some .boolean) ∈ am_ws := am_wt5 (List.mem_of_getElem? (i := 88) (by rfl)) (by decide +kernel)
def rwX8_fault : List dz_r := [(0, .iload_n 1, 1), (1, .invokestatic 104, 3), (4, .ifCond .ne 6, 3), (7, .bipush (-2), 2), (9, .ireturn, 1), (10, .aload_n 0, 1), (11, .iload_n 1, 1), (12, .invokevirtual 199, 3), (15, .ifCond .eq 7, 3), (18, .iconst (-1), 1), (19, .goto 7, 3), (22, .aload_n 0, 1), (23, .getfield 185, 3), (26, .ireturn, 1)]
theorem dzX8_fault : dz cX8_fault rwX8_fault := dz_all 0 (by decide +kernel)
def kX8_fault (live : am_E) (Ret : am_R) : am_code := [(0, am_iload 1 1), (1, am_callS live 1 TX8_isPlan 4), (4, am_if1 (fun x => x = 0) 7 10), (7, am_const (.int (-2)) 9), (9, am_retI Ret), (10, am_aload 0 11), (11, am_iload 1 12), (12, am_callV live 8 1 TX8_work 15), (15, am_if1 (fun x => x = 0) 22 18), (18, am_const (.int (-1)) 19), (19, am_goto 26), (22, am_aload 0 23), (23, am_getI live 8 14 26), (26, am_retI Ret)]
theorem koX8_fault (live : am_E) (Ret : am_R) : ∀ q ∈ kX8_fault live Ret, am_ok RX8 cX8_fault 2 (some .int) 6 135 live Ret q.1 q.2 :=
  am_kz dzX8_fault <|
  am_kd (fun d => ak_iload_n d rfl rfl) <|
  am_kd (fun d => ak_callS metX8_isPlan ⟨rfl, hy_X8_isPlan⟩ (am_w4 wd_1034 wd_1035 wd_67 wd_1036) (by decide) d rfl) <|
  am_kd (fun d => ak_if_ne d (by decide +kernel) rfl) <|
  am_kd (fun d => ak_bipush d (by decide +kernel) rfl) <|
  am_kd (fun d => ak_retI d) <|
  am_kd (fun d => ak_aload_n d rfl rfl) <|
  am_kd (fun d => ak_iload_n d rfl rfl) <|
  am_kd (fun d => ak_callV (C := RX8) (F := TX8) (N := 27) metX8_work rfl ⟨rfl, hy_X8_work⟩ (am_w5 wd_1102 wd_1104 wd_33 wd_67 wd_1105) (by decide) d rfl) <|
  am_kd (fun d => ak_if_eq d (by decide +kernel) rfl) <|
  am_kd (fun d => ak_iconst d (by decide +kernel) rfl) <|
  am_kd (fun d => ak_goto d (by decide +kernel)) <|
  am_kd (fun d => ak_aload_n d rfl rfl) <|
  am_kd (fun d => ak_getI (C := RX8) (T := TX8) (N := 27) rfl inX8w (by decide) rfl rfl rfl wd_909 d rfl) <|
  am_kd (fun d => ak_retI d) <| am_kdn
def TX8_fault : am_T := fun live as M R => match as with
  | [.ref n, .int pl] => am_mn live ∧ n = 200 ∧ r_I M ∧ ∀ v M', r_sc M M' → r_I M' → R (some (.int v)) M'
  | _ => False
set_option maxRecDepth 100000 in
set_option maxHeartbeats 4000000 in
theorem metX8_fault : am_Met yX8_fault cX8_fault 2 (some .int) (6) (135) TX8_fault := by
  refine am_met (own := RX8) (by decide +kernel) rfl kX8_fault koX8_fault 100 (fun _ _ _ _ _ => none) (fun live as M Ret h => ?_) (fun _ _ _ _ _ _ _ _ hI => by cases hI)
  unfold TX8_fault at h
  split at h
  · next n pl =>
    refine ⟨Nat.le_of_ble_eq_true rfl, ?_⟩
    change am_wp _ _ _ _ [(0, Value.ref n), (1, Value.int pl)] _ _
    obtain ⟨hmn, rfl, hR, h⟩ := h
    have hmn2 := hmn
    obtain ⟨i1, i2, rfl⟩ := hmn2
    by_cases z0 : 0 ≤ pl ∧ pl < 5
    · have q0 : ¬ ((if 0 ≤ pl ∧ pl < 5 then (1 : Int32) else 0) = 0) := by rw [if_pos z0]; decide
      have hp : am_in pl 5 := ⟨by have q := z0.1; simp only [i_le, Int32.reduceToInt] at q; omega, by have q := z0.2; simp only [i_lt, Int32.reduceToInt] at q; omega⟩
      repeat' (first | (with_reducible exact hmn) | (with_reducible exact hp) | (with_reducible exact hR) | apply And.intro | exact rfl | (intro hx; with_reducible exact absurd hx q0) | (intro hx; exact absurd hx (by decide)) | (intro hx; exact absurd (by decide) hx) | decide | intro hx | (refine Exists.intro _ (And.intro rfl ?_)))
      all_goals try first | (with_reducible change am_tI _ _) | (change Ret _ _) | (change Ret _ _ _) | (change Exists _)
      all_goals try dsimp only at *
      all_goals try (with_reducible exact absurd ‹(1000 : Int64) = 0› am_z1000)
      all_goals exact h _ _ (by (repeat' (first | (with_reducible exact r_sc.rf) | (with_reducible assumption) | ((with_reducible change r_sc _ (am_wI _ _ _ _)); refine r_sc.wI ?_ rfl) | ((with_reducible change r_sc _ (am_wJ _ _ _ _)); refine r_sc.wJ ?_ rfl) | (refine r_sc.tr ?_ (by with_reducible assumption))))) (by (repeat' (first | (with_reducible assumption) | ((with_reducible change r_I (am_wJ _ _ _ _)); refine r_I.wJ ?_) | ((with_reducible change r_I (am_wI _ _ _ _)); refine r_I.wI ?_ rfl))))
    · have q0 : (if 0 ≤ pl ∧ pl < 5 then (1 : Int32) else 0) = 0 := if_neg z0
      repeat' (first | (with_reducible exact hmn) | apply And.intro | exact rfl | (intro hx; with_reducible exact absurd q0 hx) | (intro hx; exact absurd hx (by decide)) | (intro hx; exact absurd (by decide) hx) | decide | intro hx | (refine Exists.intro _ (And.intro rfl ?_)))
      all_goals try first | (with_reducible change am_tI _ _) | (change Ret _ _) | (change Ret _ _ _) | (change Exists _)
      all_goals try dsimp only at *
      all_goals try (with_reducible exact absurd ‹(1000 : Int64) = 0› am_z1000)
      all_goals exact h _ _ r_sc.rf hR
  · exact h.elim
