/-! texts: the reference's reader, exact, IV: work, fault -/
def kX8_workE (live : am_E) (Ret : am_R) : am_code := [(0, am_const (.int 3258) 3), (3, am_const (.int 50) 5), (5, am_iload 1 6), (6, am_i2 (fun x y => x * y) 7), (7, am_i2 (fun x y => x + y) 8), (8, am_istore 2 10 9), (9, am_aload 0 10), (10, am_getR live 8 0 13), (13, am_const (.int 3508) 16), (16, am_iload 1 17), (17, am_i2 (fun x y => x + y) 18), (18, am_ald live 0 19), (19, am_istore 3 10 20), (20, am_aload 0 21), (21, am_const (.int 0) 22), (22, am_putI live 8 11 25), (25, am_aload 0 26), (26, am_const (.int 0) 27), (27, am_putI live 8 12 30), (30, am_const (.int 1) 31), (31, am_istore 4 10 33), (33, am_const (.int 0) 34), (34, am_istore 5 10 36), (36, am_iload 5 38), (38, am_iload 3 39), (39, am_if2 (fun x y => y ≤ x) 358 42), (42, am_aload 0 43), (43, am_getR live 8 0 46), (46, am_iload 2 47), (47, am_iload 5 49), (49, am_i2 (fun x y => x + y) 50), (50, am_ald live 0 51), (51, am_istore 6 10 53), (53, am_iload 6 55), (55, am_const (.int 32) 57), (57, am_if2 (fun x y => x = y) 60 66), (60, am_iinc 5 10 1 63), (63, am_goto 355), (66, am_iload 4 68), (68, am_if1 (fun x => x = 0) 185 71), (71, am_iload 6 73), (73, am_i2l 74), (74, am_const (.long 48) 77), (77, am_const (.long 57) 80), (80, am_callS live 3 TX8_in 83), (83, am_if1 (fun x => x = 0) 185 86), (86, am_iload 5 88), (88, am_istore 7 10 90), (90, am_const (.long 0) 91), (91, am_lstore 8 10 93), (93, am_iload 5 95), (95, am_iload 3 96), (96, am_if2 (fun x y => y ≤ x) 173 99), (99, am_aload 0 100), (100, am_getR live 8 0 103), (103, am_iload 2 104), (104, am_iload 5 106), (106, am_i2 (fun x y => x + y) 107), (107, am_ald live 0 108), (108, am_i2l 109), (109, am_const (.long 48) 112), (112, am_const (.long 57) 115), (115, am_callS live 3 TX8_in 118), (118, am_if1 (fun x => x = 0) 173 121), (121, am_iload 5 123), (123, am_iload 7 125), (125, am_i2 (fun x y => x - y) 126), (126, am_const (.int 6) 128), (128, am_if2 (fun x y => x = y) 131 144), (131, am_aload 0 132), (132, am_const (.int 10) 134), (134, am_iload 7 136), (136, am_i2 (fun x y => x * y) 137), (137, am_const (.int 2) 138), (138, am_i2 (fun x y => x + y) 139), (139, am_putI live 8 14 142), (142, am_const (.int 0) 143), (143, am_retZ Ret), (144, am_const (.long 10) 147), (147, am_lload 8 149), (149, am_l2 (fun x y => x * y) 150), (150, am_aload 0 151), (151, am_getR live 8 0 154), (154, am_iload 2 155), (155, am_iload 5 157), (157, am_i2 (fun x y => x + y) 158), (158, am_ald live 0 159), (159, am_i2l 160), (160, am_l2 (fun x y => x + y) 161), (161, am_const (.long 48) 164), (164, am_l2 (fun x y => x - y) 165), (165, am_lstore 8 10 167), (167, am_iinc 5 10 1 170), (170, am_goto 93), (173, am_aload 0 174), (174, am_lload 8 176), (176, am_callV live 8 1 TE8_lay 179), (179, am_const (.int 0) 180), (180, am_istore 4 10 182), (182, am_goto 355), (185, am_iload 4 187), (187, am_if1 (fun x => x = 0) 221 190), (190, am_iload 6 192), (192, am_callS live 1 TX8_factOf 195), (195, am_if1 (fun x => x < 0) 221 198), (198, am_aload 0 199), (199, am_aload 0 200), (200, am_getR live 8 13 203), (203, am_iload 6 205), (205, am_callS live 1 TX8_factOf 208), (208, am_lald live 1 209), (209, am_callV live 8 1 TE8_lay 212), (212, am_const (.int 0) 213), (213, am_istore 4 10 215), (215, am_iinc 5 10 1 218), (218, am_goto 355), (221, am_iload 4 223), (223, am_if1 (fun x => x = 0) 267 226), (226, am_iload 6 228), (228, am_const (.int 40) 230), (230, am_if2 (fun x y => x = y) 233 267), (233, am_aload 0 234), (234, am_callV live 8 0 TE8_opened 237), (237, am_const (.int 8) 239), (239, am_if2 (fun x y => x = y) 242 255), (242, am_aload 0 243), (243, am_const (.int 10) 245), (245, am_iload 5 247), (247, am_i2 (fun x y => x * y) 248), (248, am_const (.int 3) 249), (249, am_i2 (fun x y => x + y) 250), (250, am_putI live 8 14 253), (253, am_const (.int 0) 254), (254, am_retZ Ret), (255, am_aload 0 256), (256, am_const (.int 40) 258), (258, am_callV live 8 1 TX8_wait 261), (261, am_iinc 5 10 1 264), (264, am_goto 355), (267, am_iload 4 269), (269, am_if1 (fun x => x = 0) 308 272), (272, am_iload 6 274), (274, am_const (.int 33) 276), (276, am_if2 (fun x y => x = y) 286 279), (279, am_iload 6 281), (281, am_const (.int 45) 283), (283, am_if2 (fun x y => x = y) 286 308), (286, am_aload 0 287), (287, am_iload 6 289), (289, am_const (.int 33) 291), (291, am_if2 (fun x y => x = y) 294 298), (294, am_const (.int 1) 295), (295, am_goto 299), (298, am_const (.int 2) 299), (299, am_callV live 8 1 TX8_wait 302), (302, am_iinc 5 10 1 305), (305, am_goto 355), (308, am_iload 4 310), (310, am_if1 (fun x => x = 0) 313 342), (313, am_aload 0 314), (314, am_iload 6 316), (316, am_callV live 8 1 TE8_behind 319), (319, am_if1 (fun x => x = 0) 342 322), (322, am_iload 6 324), (324, am_const (.int 41) 326), (326, am_if2 (fun x y => x = y) 333 329), (329, am_const (.int 1) 330), (330, am_goto 334), (333, am_const (.int 0) 334), (334, am_istore 4 10 336), (336, am_iinc 5 10 1 339), (339, am_goto 355), (342, am_aload 0 343), (343, am_const (.int 10) 345), (345, am_iload 5 347), (347, am_i2 (fun x y => x * y) 348), (348, am_const (.int 1) 349), (349, am_i2 (fun x y => x + y) 350), (350, am_putI live 8 14 353), (353, am_const (.int 0) 354), (354, am_retZ Ret), (355, am_goto 36), (358, am_iload 4 360), (360, am_if1 (fun x => x = 0) 363 367), (363, am_aload 0 364), (364, am_callV live 8 0 TE8_choose 367), (367, am_aload 0 368), (368, am_const (.int 10) 370), (370, am_iload 3 371), (371, am_i2 (fun x y => x * y) 372), (372, am_const (.int 1) 373), (373, am_i2 (fun x y => x + y) 374), (374, am_putI live 8 14 377), (377, am_iload 4 379), (379, am_if1 (fun x => x = 0) 382 393), (382, am_aload 0 383), (383, am_getI live 8 11 386), (386, am_if1 (fun x => x = 0) 389 393), (389, am_const (.int 1) 390), (390, am_goto 394), (393, am_const (.int 0) 394), (394, am_retZ Ret)]
theorem koX8_workE (live : am_E) (Ret : am_R) : ∀ q ∈ kX8_workE live Ret, am_ok RX8 cX8_work 10 (some .boolean) 5 106 live Ret q.1 q.2 :=
  am_kc (ak_sipush dX8_work_0 (by decide +kernel) rfl) <|
  am_kc (ak_bipush dX8_work_3 (by decide +kernel) rfl) <|
  am_kc (ak_iload_n dX8_work_5 rfl rfl) <|
  am_kc (ak_imul dX8_work_6 rfl) <|
  am_kc (ak_iadd dX8_work_7 rfl) <|
  am_kc (ak_istore_n dX8_work_8 rfl rfl) <|
  am_kc (ak_aload_n dX8_work_9 rfl rfl) <|
  am_kc (ak_getR (C := RX8) (T := TX8) (N := 27) rfl inX8w (by decide) rfl rfl rfl wd_895 dX8_work_10 rfl) <|
  am_kc (ak_sipush dX8_work_13 (by decide +kernel) rfl) <|
  am_kc (ak_iload_n dX8_work_16 rfl rfl) <|
  am_kc (ak_iadd dX8_work_17 rfl) <|
  am_kc (ak_iald (t := 0) (fun _ => rfl) rfl dX8_work_18 rfl) <|
  am_kc (ak_istore_n dX8_work_19 rfl rfl) <|
  am_kc (ak_aload_n dX8_work_20 rfl rfl) <|
  am_kc (ak_iconst dX8_work_21 (by decide +kernel) rfl) <|
  am_kc (ak_putI (C := RX8) (T := TX8) (N := 27) rfl inX8w tyX8_ok nmX8 (by decide) rfl rfl rfl rfl (by decide +kernel) wd_906 dX8_work_22 rfl) <|
  am_kc (ak_aload_n dX8_work_25 rfl rfl) <|
  am_kc (ak_iconst dX8_work_26 (by decide +kernel) rfl) <|
  am_kc (ak_putI (C := RX8) (T := TX8) (N := 27) rfl inX8w tyX8_ok nmX8 (by decide) rfl rfl rfl rfl (by decide +kernel) wd_907 dX8_work_27 rfl) <|
  am_kc (ak_iconst dX8_work_30 (by decide +kernel) rfl) <|
  am_kc (ak_istore dX8_work_31 rfl) <|
  am_kc (ak_iconst dX8_work_33 (by decide +kernel) rfl) <|
  am_kc (ak_istore dX8_work_34 rfl) <|
  am_kc (ak_iload dX8_work_36 rfl) <|
  am_kc (ak_iload_n dX8_work_38 rfl rfl) <|
  am_kc (ak_icmp_ge dX8_work_39 (by decide +kernel) rfl) <|
  am_kc (ak_aload_n dX8_work_42 rfl rfl) <|
  am_kc (ak_getR (C := RX8) (T := TX8) (N := 27) rfl inX8w (by decide) rfl rfl rfl wd_895 dX8_work_43 rfl) <|
  am_kc (ak_iload_n dX8_work_46 rfl rfl) <|
  am_kc (ak_iload dX8_work_47 rfl) <|
  am_kc (ak_iadd dX8_work_49 rfl) <|
  am_kc (ak_iald (t := 0) (fun _ => rfl) rfl dX8_work_50 rfl) <|
  am_kc (ak_istore dX8_work_51 rfl) <|
  am_kc (ak_iload dX8_work_53 rfl) <|
  am_kc (ak_bipush dX8_work_55 (by decide +kernel) rfl) <|
  am_kc (ak_icmp_ne dX8_work_57 (by decide +kernel) rfl) <|
  am_kc (ak_iinc dX8_work_60 (by decide +kernel) rfl) <|
  am_kc (ak_goto dX8_work_63 (by decide +kernel)) <|
  am_kc (ak_iload dX8_work_66 rfl) <|
  am_kc (ak_if_eq dX8_work_68 (by decide +kernel) rfl) <|
  am_kc (ak_iload dX8_work_71 rfl) <|
  am_kc (ak_i2l dX8_work_73 rfl) <|
  am_kc (ak_ldc2 wd_1106 dX8_work_74 rfl) <|
  am_kc (ak_ldc2 wd_1107 dX8_work_77 rfl) <|
  am_kc (ak_callS metX8_in ⟨rfl, by decide +kernel, by decide +kernel, by decide +kernel⟩ (am_w4 wd_986 wd_987 wd_67 wd_988) (by decide) dX8_work_80 rfl) <|
  am_kc (ak_if_eq dX8_work_83 (by decide +kernel) rfl) <|
  am_kc (ak_iload dX8_work_86 rfl) <|
  am_kc (ak_istore dX8_work_88 rfl) <|
  am_kc (ak_lconst dX8_work_90 (by decide +kernel) rfl) <|
  am_kc (ak_lstore dX8_work_91 rfl) <|
  am_kc (ak_iload dX8_work_93 rfl) <|
  am_kc (ak_iload_n dX8_work_95 rfl rfl) <|
  am_kc (ak_icmp_ge dX8_work_96 (by decide +kernel) rfl) <|
  am_kc (ak_aload_n dX8_work_99 rfl rfl) <|
  am_kc (ak_getR (C := RX8) (T := TX8) (N := 27) rfl inX8w (by decide) rfl rfl rfl wd_895 dX8_work_100 rfl) <|
  am_kc (ak_iload_n dX8_work_103 rfl rfl) <|
  am_kc (ak_iload dX8_work_104 rfl) <|
  am_kc (ak_iadd dX8_work_106 rfl) <|
  am_kc (ak_iald (t := 0) (fun _ => rfl) rfl dX8_work_107 rfl) <|
  am_kc (ak_i2l dX8_work_108 rfl) <|
  am_kc (ak_ldc2 wd_1106 dX8_work_109 rfl) <|
  am_kc (ak_ldc2 wd_1107 dX8_work_112 rfl) <|
  am_kc (ak_callS metX8_in ⟨rfl, by decide +kernel, by decide +kernel, by decide +kernel⟩ (am_w4 wd_986 wd_987 wd_67 wd_988) (by decide) dX8_work_115 rfl) <|
  am_kc (ak_if_eq dX8_work_118 (by decide +kernel) rfl) <|
  am_kc (ak_iload dX8_work_121 rfl) <|
  am_kc (ak_iload dX8_work_123 rfl) <|
  am_kc (ak_isub dX8_work_125 rfl) <|
  am_kc (ak_bipush dX8_work_126 (by decide +kernel) rfl) <|
  am_kc (ak_icmp_ne dX8_work_128 (by decide +kernel) rfl) <|
  am_kc (ak_aload_n dX8_work_131 rfl rfl) <|
  am_kc (ak_bipush dX8_work_132 (by decide +kernel) rfl) <|
  am_kc (ak_iload dX8_work_134 rfl) <|
  am_kc (ak_imul dX8_work_136 rfl) <|
  am_kc (ak_iconst dX8_work_137 (by decide +kernel) rfl) <|
  am_kc (ak_iadd dX8_work_138 rfl) <|
  am_kc (ak_putI (C := RX8) (T := TX8) (N := 27) rfl inX8w tyX8_ok nmX8 (by decide) rfl rfl rfl rfl (by decide +kernel) wd_909 dX8_work_139 rfl) <|
  am_kc (ak_iconst dX8_work_142 (by decide +kernel) rfl) <|
  am_kc (ak_retZ dX8_work_143) <|
  am_kc (ak_ldc2 wd_1108 dX8_work_144 rfl) <|
  am_kc (ak_lload dX8_work_147 rfl) <|
  am_kc (ak_lmul dX8_work_149 rfl) <|
  am_kc (ak_aload_n dX8_work_150 rfl rfl) <|
  am_kc (ak_getR (C := RX8) (T := TX8) (N := 27) rfl inX8w (by decide) rfl rfl rfl wd_895 dX8_work_151 rfl) <|
  am_kc (ak_iload_n dX8_work_154 rfl rfl) <|
  am_kc (ak_iload dX8_work_155 rfl) <|
  am_kc (ak_iadd dX8_work_157 rfl) <|
  am_kc (ak_iald (t := 0) (fun _ => rfl) rfl dX8_work_158 rfl) <|
  am_kc (ak_i2l dX8_work_159 rfl) <|
  am_kc (ak_ladd dX8_work_160 rfl) <|
  am_kc (ak_ldc2 wd_1106 dX8_work_161 rfl) <|
  am_kc (ak_lsub dX8_work_164 rfl) <|
  am_kc (ak_lstore dX8_work_165 rfl) <|
  am_kc (ak_iinc dX8_work_167 (by decide +kernel) rfl) <|
  am_kc (ak_goto dX8_work_170 (by decide +kernel)) <|
  am_kc (ak_aload_n dX8_work_173 rfl rfl) <|
  am_kc (ak_lload dX8_work_174 rfl) <|
  am_kc (ak_callV (C := RX8) (F := TX8) (N := 27) metX8_layE rfl ⟨rfl, by decide +kernel, by decide +kernel, by decide +kernel⟩ (am_w5 wd_1109 wd_1111 wd_34 wd_67 wd_1112) (by decide) dX8_work_176 rfl) <|
  am_kc (ak_iconst dX8_work_179 (by decide +kernel) rfl) <|
  am_kc (ak_istore dX8_work_180 rfl) <|
  am_kc (ak_goto dX8_work_182 (by decide +kernel)) <|
  am_kc (ak_iload dX8_work_185 rfl) <|
  am_kc (ak_if_eq dX8_work_187 (by decide +kernel) rfl) <|
  am_kc (ak_iload dX8_work_190 rfl) <|
  am_kc (ak_callS metX8_factOf ⟨rfl, by decide +kernel, by decide +kernel, by decide +kernel⟩ (am_w4 wd_1120 wd_1121 wd_67 wd_1122) (by decide) dX8_work_192 rfl) <|
  am_kc (ak_if_lt dX8_work_195 (by decide +kernel) rfl) <|
  am_kc (ak_aload_n dX8_work_198 rfl rfl) <|
  am_kc (ak_aload_n dX8_work_199 rfl rfl) <|
  am_kc (ak_getR (C := RX8) (T := TX8) (N := 27) rfl inX8w (by decide) rfl rfl rfl wd_908 dX8_work_200 rfl) <|
  am_kc (ak_iload dX8_work_203 rfl) <|
  am_kc (ak_callS metX8_factOf ⟨rfl, by decide +kernel, by decide +kernel, by decide +kernel⟩ (am_w4 wd_1120 wd_1121 wd_67 wd_1122) (by decide) dX8_work_205 rfl) <|
  am_kc (ak_lald (t := 1) (fun _ => rfl) rfl dX8_work_208 rfl) <|
  am_kc (ak_callV (C := RX8) (F := TX8) (N := 27) metX8_layE rfl ⟨rfl, by decide +kernel, by decide +kernel, by decide +kernel⟩ (am_w5 wd_1109 wd_1111 wd_34 wd_67 wd_1112) (by decide) dX8_work_209 rfl) <|
  am_kc (ak_iconst dX8_work_212 (by decide +kernel) rfl) <|
  am_kc (ak_istore dX8_work_213 rfl) <|
  am_kc (ak_iinc dX8_work_215 (by decide +kernel) rfl) <|
  am_kc (ak_goto dX8_work_218 (by decide +kernel)) <|
  am_kc (ak_iload dX8_work_221 rfl) <|
  am_kc (ak_if_eq dX8_work_223 (by decide +kernel) rfl) <|
  am_kc (ak_iload dX8_work_226 rfl) <|
  am_kc (ak_bipush dX8_work_228 (by decide +kernel) rfl) <|
  am_kc (ak_icmp_ne dX8_work_230 (by decide +kernel) rfl) <|
  am_kc (ak_aload_n dX8_work_233 rfl rfl) <|
  am_kc (ak_callV (C := RX8) (F := TX8) (N := 27) metX8_openedE rfl ⟨rfl, by decide +kernel, by decide +kernel, by decide +kernel⟩ (am_w5 wd_1123 wd_1125 wd_36 wd_67 wd_1126) (by decide) dX8_work_234 rfl) <|
  am_kc (ak_bipush dX8_work_237 (by decide +kernel) rfl) <|
  am_kc (ak_icmp_ne dX8_work_239 (by decide +kernel) rfl) <|
  am_kc (ak_aload_n dX8_work_242 rfl rfl) <|
  am_kc (ak_bipush dX8_work_243 (by decide +kernel) rfl) <|
  am_kc (ak_iload dX8_work_245 rfl) <|
  am_kc (ak_imul dX8_work_247 rfl) <|
  am_kc (ak_iconst dX8_work_248 (by decide +kernel) rfl) <|
  am_kc (ak_iadd dX8_work_249 rfl) <|
  am_kc (ak_putI (C := RX8) (T := TX8) (N := 27) rfl inX8w tyX8_ok nmX8 (by decide) rfl rfl rfl rfl (by decide +kernel) wd_909 dX8_work_250 rfl) <|
  am_kc (ak_iconst dX8_work_253 (by decide +kernel) rfl) <|
  am_kc (ak_retZ dX8_work_254) <|
  am_kc (ak_aload_n dX8_work_255 rfl rfl) <|
  am_kc (ak_bipush dX8_work_256 (by decide +kernel) rfl) <|
  am_kc (ak_callV (C := RX8) (F := TX8) (N := 27) metX8_wait rfl ⟨rfl, by decide +kernel, by decide +kernel, by decide +kernel⟩ (am_w5 wd_1127 wd_1129 wd_37 wd_67 wd_1130) (by decide) dX8_work_258 rfl) <|
  am_kc (ak_iinc dX8_work_261 (by decide +kernel) rfl) <|
  am_kc (ak_goto dX8_work_264 (by decide +kernel)) <|
  am_kc (ak_iload dX8_work_267 rfl) <|
  am_kc (ak_if_eq dX8_work_269 (by decide +kernel) rfl) <|
  am_kc (ak_iload dX8_work_272 rfl) <|
  am_kc (ak_bipush dX8_work_274 (by decide +kernel) rfl) <|
  am_kc (ak_icmp_eq dX8_work_276 (by decide +kernel) rfl) <|
  am_kc (ak_iload dX8_work_279 rfl) <|
  am_kc (ak_bipush dX8_work_281 (by decide +kernel) rfl) <|
  am_kc (ak_icmp_ne dX8_work_283 (by decide +kernel) rfl) <|
  am_kc (ak_aload_n dX8_work_286 rfl rfl) <|
  am_kc (ak_iload dX8_work_287 rfl) <|
  am_kc (ak_bipush dX8_work_289 (by decide +kernel) rfl) <|
  am_kc (ak_icmp_ne dX8_work_291 (by decide +kernel) rfl) <|
  am_kc (ak_iconst dX8_work_294 (by decide +kernel) rfl) <|
  am_kc (ak_goto dX8_work_295 (by decide +kernel)) <|
  am_kc (ak_iconst dX8_work_298 (by decide +kernel) rfl) <|
  am_kc (ak_callV (C := RX8) (F := TX8) (N := 27) metX8_wait rfl ⟨rfl, by decide +kernel, by decide +kernel, by decide +kernel⟩ (am_w5 wd_1127 wd_1129 wd_37 wd_67 wd_1130) (by decide) dX8_work_299 rfl) <|
  am_kc (ak_iinc dX8_work_302 (by decide +kernel) rfl) <|
  am_kc (ak_goto dX8_work_305 (by decide +kernel)) <|
  am_kc (ak_iload dX8_work_308 rfl) <|
  am_kc (ak_if_ne dX8_work_310 (by decide +kernel) rfl) <|
  am_kc (ak_aload_n dX8_work_313 rfl rfl) <|
  am_kc (ak_iload dX8_work_314 rfl) <|
  am_kc (ak_callV (C := RX8) (F := TX8) (N := 27) metX8_behindE rfl ⟨rfl, by decide +kernel, by decide +kernel, by decide +kernel⟩ (am_w5 wd_1131 wd_1133 wd_38 wd_67 wd_1134) (by decide) dX8_work_316 rfl) <|
  am_kc (ak_if_eq dX8_work_319 (by decide +kernel) rfl) <|
  am_kc (ak_iload dX8_work_322 rfl) <|
  am_kc (ak_bipush dX8_work_324 (by decide +kernel) rfl) <|
  am_kc (ak_icmp_eq dX8_work_326 (by decide +kernel) rfl) <|
  am_kc (ak_iconst dX8_work_329 (by decide +kernel) rfl) <|
  am_kc (ak_goto dX8_work_330 (by decide +kernel)) <|
  am_kc (ak_iconst dX8_work_333 (by decide +kernel) rfl) <|
  am_kc (ak_istore dX8_work_334 rfl) <|
  am_kc (ak_iinc dX8_work_336 (by decide +kernel) rfl) <|
  am_kc (ak_goto dX8_work_339 (by decide +kernel)) <|
  am_kc (ak_aload_n dX8_work_342 rfl rfl) <|
  am_kc (ak_bipush dX8_work_343 (by decide +kernel) rfl) <|
  am_kc (ak_iload dX8_work_345 rfl) <|
  am_kc (ak_imul dX8_work_347 rfl) <|
  am_kc (ak_iconst dX8_work_348 (by decide +kernel) rfl) <|
  am_kc (ak_iadd dX8_work_349 rfl) <|
  am_kc (ak_putI (C := RX8) (T := TX8) (N := 27) rfl inX8w tyX8_ok nmX8 (by decide) rfl rfl rfl rfl (by decide +kernel) wd_909 dX8_work_350 rfl) <|
  am_kc (ak_iconst dX8_work_353 (by decide +kernel) rfl) <|
  am_kc (ak_retZ dX8_work_354) <|
  am_kc (ak_goto dX8_work_355 (by decide +kernel)) <|
  am_kc (ak_iload dX8_work_358 rfl) <|
  am_kc (ak_if_ne dX8_work_360 (by decide +kernel) rfl) <|
  am_kc (ak_aload_n dX8_work_363 rfl rfl) <|
  am_kc (ak_callV (C := RX8) (F := TX8) (N := 27) metX8_chooseE rfl ⟨rfl, by decide +kernel, by decide +kernel, by decide +kernel⟩ (am_w5 wd_1145 wd_1147 wd_40 wd_67 wd_1148) (by decide) dX8_work_364 rfl) <|
  am_kc (ak_aload_n dX8_work_367 rfl rfl) <|
  am_kc (ak_bipush dX8_work_368 (by decide +kernel) rfl) <|
  am_kc (ak_iload_n dX8_work_370 rfl rfl) <|
  am_kc (ak_imul dX8_work_371 rfl) <|
  am_kc (ak_iconst dX8_work_372 (by decide +kernel) rfl) <|
  am_kc (ak_iadd dX8_work_373 rfl) <|
  am_kc (ak_putI (C := RX8) (T := TX8) (N := 27) rfl inX8w tyX8_ok nmX8 (by decide) rfl rfl rfl rfl (by decide +kernel) wd_909 dX8_work_374 rfl) <|
  am_kc (ak_iload dX8_work_377 rfl) <|
  am_kc (ak_if_ne dX8_work_379 (by decide +kernel) rfl) <|
  am_kc (ak_aload_n dX8_work_382 rfl rfl) <|
  am_kc (ak_getI (C := RX8) (T := TX8) (N := 27) rfl inX8w (by decide) rfl rfl rfl wd_906 dX8_work_383 rfl) <|
  am_kc (ak_if_ne dX8_work_386 (by decide +kernel) rfl) <|
  am_kc (ak_iconst dX8_work_389 (by decide +kernel) rfl) <|
  am_kc (ak_goto dX8_work_390 (by decide +kernel)) <|
  am_kc (ak_iconst dX8_work_393 (by decide +kernel) rfl) <|
  am_kc (ak_retZ dX8_work_394) <| am_kn
def r_fa (M : am_M) : Int32 → Int64 := fun c => M.2 206 (r_fact c).toNatClampNeg
def r_sg (M : am_M) (pl : Int32) : Nat → Int32 := fun j => M.1 201 (3258 + 50 * pl.toNatClampNeg + j)
def r_sn (M : am_M) (pl : Int32) : Nat := (M.1 201 (3508 + pl.toNatClampNeg)).toNatClampNeg
abbrev r_wr (M : am_M) (pl : Int32) : Sum Int64 Int := w_res (r_fa M) (r_sg M pl) (r_sn M pl) 0 true [] []
/-- what the reader changes -/
def r_wh (M M' : am_M) : Prop := ∃ _ : Unit, (∀ a b, a ≠ 204 → (a ≠ 200 ∨ (b ≠ 11 ∧ b ≠ 12 ∧ b ≠ 14)) → M'.1 a b = M.1 a b) ∧ (∀ a b, a ≠ 205 → M'.2 a b = M.2 a b)
theorem r_wh.rf {M : am_M} : r_wh M M := ⟨(), fun _ _ _ _ => rfl, fun _ _ _ => rfl⟩
theorem r_wh.tr {M M' M'' : am_M} (h : r_wh M M') (h2 : r_wh M' M'') : r_wh M M'' := by
  obtain ⟨-, a1, a2⟩ := h
  obtain ⟨-, b1, b2⟩ := h2
  exact ⟨(), fun a b z y => (b1 a b z y).trans (a1 a b z y), fun a b z => (b2 a b z).trans (a2 a b z)⟩
theorem r_wg.h {M M' : am_M} (h : r_wg M M') : r_wh M M' := by
  obtain ⟨-, a1, a2⟩ := h
  exact ⟨(), fun a b z y => a1 a b z (y.imp id (fun q => ⟨q.1, q.2.1⟩)), a2⟩
theorem r_wh.w14 {M M' : am_M} {v : Int32} (h : r_wh M M') : r_wh M (am_wI M' 200 14 v) := h.tr ⟨(), fun a b _ y => by rw [am_wI_1, if_neg (fun q => by omega)], fun _ _ _ => rfl⟩
theorem r_wh.sc {M M' : am_M} (h : r_wh M M') : r_sc M M' := by
  obtain ⟨-, a1, a2⟩ := h
  exact ⟨(), fun a b z => ⟨a1 a b (by omega) (Or.inl (by omega)), a2 a b (by omega)⟩, a1 _ _ (by decide) (Or.inr ⟨by decide, by decide, by decide⟩), a1 _ _ (by decide) (Or.inr ⟨by decide, by decide, by decide⟩)⟩
theorem r_wh.c {M M' : am_M} (h : r_wh M M') (k : Nat) : M'.1 201 k = M.1 201 k := h.sc.i k
theorem r_wh.f {M M' : am_M} (h : r_wh M M') : r_fa M' = r_fa M := by
  obtain ⟨-, -, a2⟩ := h
  exact funext fun c => a2 206 _ (by decide)
def TE8_work : am_T := fun live as M R => match as with
  | [.ref n, .int pl] => am_mn live ∧ n = 200 ∧ am_in pl 5 ∧ r_I M ∧ (∀ v, r_wr M pl = .inl v → ∀ M', r_wh M M' → M'.2 205 0 = v → R (some (.int 1)) M') ∧ (∀ f, r_wr M pl = .inr f → ∀ M', r_wh M M' → (M'.1 200 14).toInt = f → R (some (.int 0)) M')
  | _ => False
def r_36E (M0 M : am_M) (pl m du i : Int32) : Prop := ∃ (W : List Int32) (V : List Int64), (m = M0.1 201 (3508 + pl.toNatClampNeg) ∧ 0 ≤ i.toInt ∧ i.toInt ≤ m.toInt ∧ m.toInt ≤ 50) ∧ (du = 0 ∨ du = 1) ∧ r_ls M W V ∧ (V.length = w_ws W + (if du = 0 then 1 else 0) ∧ (W.length : Int) ≤ i.toInt ∧ (V.length : Int) ≤ i.toInt) ∧ r_wh M0 M ∧ w_res (r_fa M0) (r_sg M0 pl) (r_sn M0 pl) i.toNatClampNeg (decide (du = 1)) W V = r_wr M0 pl
def r_93E (M0 M : am_M) (pl m i f : Int32) (v : Int64) : Prop := ∃ (W : List Int32) (V : List Int64) (u : Nat), (m = M0.1 201 (3508 + pl.toNatClampNeg) ∧ 0 ≤ f.toInt ∧ f.toInt < m.toInt ∧ m.toInt ≤ 50) ∧ (i.toInt = f.toInt + u ∧ u ≤ 6 ∧ i.toInt ≤ m.toInt) ∧ (0 ≤ v.toInt ∧ v.toInt + 1 ≤ (10 ^ u : Nat)) ∧ (w_dgt (r_sg M0 pl f.toNatClampNeg) = true ∧ w_dig (r_sg M0 pl) (r_sn M0 pl) (8 - u) i.toNatClampNeg u v.toInt = w_dig (r_sg M0 pl) (r_sn M0 pl) 8 f.toNatClampNeg 0 0) ∧ r_ls M W V ∧ (V.length = w_ws W ∧ (W.length : Int) ≤ f.toInt ∧ (V.length : Int) ≤ f.toInt) ∧ r_wh M0 M ∧ w_res (r_fa M0) (r_sg M0 pl) (r_sn M0 pl) f.toNatClampNeg true W V = r_wr M0 pl
def r_67E (M0 M : am_M) (pl m du : Int32) : Prop := ∃ _ : Unit, (m = M0.1 201 (3508 + pl.toNatClampNeg) ∧ 0 ≤ m.toInt ∧ m.toInt ≤ 50) ∧ (du = 0 ∨ du = 1) ∧ r_wh M0 M ∧ (du = 1 → r_wr M0 pl = .inr (10 * m.toInt + 1)) ∧ (du = 0 → ∃ (W : List Int32) (V : List Int64), r_ls M W V ∧ (W.length ≤ 60 ∧ V.length ≤ 60) ∧ r_wr M0 pl = (match W, V with | [], v :: _ => .inl v | _, _ => .inr (10 * m.toInt + 1)) ∧ V.length = w_ws W + 1)
def JE8_work : am_E → List Value → am_M → am_R → am_inv := fun live as M0 R pc => match as with
  | [.ref n, .int pl] => (match pc with
    | 36 => some ([0, 2, 3, 4, 5], fun k L st M => ∃ m du i : Int32, L = [(0, .ref 200), (2, .int (3258 + 50 * pl)), (3, .int m), (4, .int du), (5, .int i)] ∧ st = [] ∧ k = ((60 - i.toInt).toNat * 2 + 1, 0) ∧ r_36E M0 M pl m du i)
    | 93 => some ([0, 2, 3, 5, 7, 8], fun k L st M => ∃ (m i f : Int32) (v : Int64), L = [(0, .ref 200), (2, .int (3258 + 50 * pl)), (3, .int m), (5, .int i), (7, .int f), (8, .long v)] ∧ st = [] ∧ k = ((60 - f.toInt).toNat * 2, (60 - i.toInt).toNat) ∧ r_93E M0 M pl m i f v)
    | 367 => some ([0, 3, 4], fun k L st M => ∃ m du : Int32, L = [(0, .ref 200), (3, .int m), (4, .int du)] ∧ st = [] ∧ k = (1, 0) ∧ r_67E M0 M pl m du)
    | _ => none)
  | _ => none
theorem l_add {x y : Int64} (h1 : -9223372036854775808 ≤ x.toInt + y.toInt) (h2 : x.toInt + y.toInt < 9223372036854775808) : (x + y).toInt = x.toInt + y.toInt := by
  rw [Int64.toInt_add]
  exact Int.bmod_eq_of_le (by omega) (by omega)
theorem l_sub {x y : Int64} (h1 : -9223372036854775808 ≤ x.toInt - y.toInt) (h2 : x.toInt - y.toInt < 9223372036854775808) : (x - y).toInt = x.toInt - y.toInt := by
  rw [Int64.toInt_sub]
  exact Int.bmod_eq_of_le (by omega) (by omega)
theorem l_mul {x y : Int64} (h1 : -9223372036854775808 ≤ x.toInt * y.toInt) (h2 : x.toInt * y.toInt < 9223372036854775808) : (x * y).toInt = x.toInt * y.toInt := by
  rw [Int64.toInt_mul]
  exact Int.bmod_eq_of_le (by omega) (by omega)
theorem l_of (v : Int64) : Int64.ofInt v.toInt = v := Int64.ofInt_toInt v
theorem r_dgt {c : Int32} : ((48 : Int64) ≤ c.toInt64 ∧ c.toInt64 ≤ (57 : Int64)) ↔ w_dgt c = true := by
  unfold w_dgt
  rw [decide_eq_true_iff, j_le, j_le, Int32.toInt_toInt64]
  rfl
section STP
variable {fa : Int32 → Int64} {σ : Nat → Int32} {n i : Nat} {W : List Int32} {V : List Int64}
theorem ws_b {due : Bool} (h : σ i = 32) (hi : i < n) : w_res fa σ n i due W V = w_res fa σ n (i + 1) due W V := w_res_s hi (by unfold w_stp; rw [if_pos h])
theorem ws_d {j : Nat} {v : Int} (h : w_dgt (σ i) = true) (hi : i < n) (e : w_dig σ n 8 i 0 0 = some (j, v)) : w_res fa σ n i true W V = w_res fa σ n j false (w_lay W (Int64.ofInt v) V).1 (w_lay W (Int64.ofInt v) V).2 := w_res_s hi (by unfold w_stp; rw [if_neg (w_dgt_clo h).1, if_pos ⟨rfl, h⟩, e])
theorem ws_df (h : w_dgt (σ i) = true) (hi : i < n) (e : w_dig σ n 8 i 0 0 = none) : w_res fa σ n i true W V = .inr (10 * (i : Int) + 2) := w_res_f hi (by unfold w_stp; rw [if_neg (w_dgt_clo h).1, if_pos ⟨rfl, h⟩, e])
theorem ws_l (h : 0 ≤ (r_fact (σ i)).toInt) (hi : i < n) : w_res fa σ n i true W V = w_res fa σ n (i + 1) false (w_lay W (fa (σ i)) V).1 (w_lay W (fa (σ i)) V).2 := w_res_s hi (by
  have hf := w_fact_no h
  unfold w_stp
  rw [if_neg hf.1, if_neg (fun z => by rw [hf.2.2] at z; exact absurd z.2 (by decide)), if_pos ⟨rfl, h⟩])
theorem ws_o (h : σ i = 40) (hi : i < n) : w_res fa σ n i true W V = if w_opn W = 8 then .inr (10 * (i : Int) + 3) else w_res fa σ n (i + 1) true (40 :: W) V := by
  by_cases z : w_opn W = 8
  · rw [if_pos z]
    exact w_res_f hi (by unfold w_stp; rw [h, if_neg (by decide), if_neg (by decide), if_neg (by decide), if_pos ⟨rfl, rfl⟩, if_pos z])
  · rw [if_neg z]
    exact w_res_s hi (by unfold w_stp; rw [h, if_neg (by decide), if_neg (by decide), if_neg (by decide), if_pos ⟨rfl, rfl⟩, if_neg z])
theorem ws_u {c : Int32} (h : σ i = c) (hc : c = 33 ∨ c = 45) (hi : i < n) : w_res fa σ n i true W V = w_res fa σ n (i + 1) true ((if c = 33 then 1 else 2) :: W) V := w_res_s hi (by
  unfold w_stp
  rw [h, if_neg (by rcases hc with rfl | rfl <;> decide), if_neg (by rcases hc with rfl | rfl <;> decide), if_neg (by rcases hc with rfl | rfl <;> decide), if_neg (by rcases hc with rfl | rfl <;> decide), if_pos ⟨rfl, hc⟩])
theorem ws_x (h32 : σ i ≠ 32) (hd : w_dgt (σ i) = false) (hf : (r_fact (σ i)).toInt < 0) (h40 : σ i ≠ 40) (h33 : σ i ≠ 33) (h45 : σ i ≠ 45) (hi : i < n) : w_res fa σ n i true W V = .inr (10 * (i : Int) + 1) := w_res_f hi (by
  unfold w_stp
  rw [if_neg h32, if_neg (fun z => by rw [hd] at z; exact absurd z.2 (by decide)), if_neg (fun z => by have := z.2; omega), if_neg (fun z => h40 z.2), if_neg (fun z => z.2.elim h33 h45), if_neg (by decide)])
theorem ws_y (h32 : σ i ≠ 32) (hi : i < n) {W' : List Int32} {V' : List Int64} (e : w_beh (σ i) W V = some (W', V')) : w_res fa σ n i false W V = w_res fa σ n (i + 1) (!(decide (σ i = 41))) W' V' := w_res_s hi (by
  unfold w_stp
  rw [if_neg h32, if_neg (by simp), if_neg (by simp), if_neg (by simp), if_neg (by simp), if_pos rfl, e])
theorem ws_n (h32 : σ i ≠ 32) (hi : i < n) (e : w_beh (σ i) W V = none) : w_res fa σ n i false W V = .inr (10 * (i : Int) + 1) := w_res_f hi (by
  unfold w_stp
  rw [if_neg h32, if_neg (by simp), if_neg (by simp), if_neg (by simp), if_neg (by simp), if_pos rfl, e])
end STP
theorem w_beh_ws {c : Int32} {W W' : List Int32} {V V' : List Int64} (h : V.length = w_ws W + 1) (e : w_beh c W V = some (W', V')) : V'.length = w_ws W' + (if c = 41 then 1 else 0) ∧ W'.length ≤ W.length + 1 ∧ V'.length ≤ V.length := by
  unfold w_beh at e
  split at e
  · next z =>
    cases e
    obtain ⟨a, b, d⟩ := w_red_ws (t := r_clo c) (by omega) h
    have hw := r_wt_clo (c := c) (by omega)
    rw [if_neg (fun q => by rw [q] at z; exact absurd z (by decide))]
    refine ⟨?_, by simp only [List.length_cons]; omega, d⟩
    show _ = r_wt c + w_ws _ + 0
    omega
  · split at e
    · next z1 z =>
      split at e
      · cases e
      · cases e
        obtain ⟨a, b, d⟩ := w_red_ws (t := 5) (by decide) h
        have hw := r_wt_clo (c := c) (by rw [z]; decide)
        rw [if_neg (fun q => by rw [q] at z; exact absurd z (by decide))]
        refine ⟨?_, by simp only [List.length_cons]; omega, d⟩
        show _ = r_wt c + w_ws _ + 0
        omega
    · split at e
      · next z1 z2 z =>
        cases e
        obtain ⟨a, b, d⟩ := w_red_ws (t := r_clo c) (by omega) h
        have hw := r_wt_clo (c := c) (by omega)
        rw [if_neg (fun q => by rw [q] at z; exact absurd z (by decide))]
        refine ⟨?_, by simp only [List.length_cons]; omega, d⟩
        show _ = r_wt c + w_ws _ + 0
        omega
      · split at e
        · next z1 z2 z3 z =>
          cases e
          subst z
          obtain ⟨a, b, d⟩ := w_red_ws (t := 2) (by decide) h
          rw [if_neg (by decide)]
          refine ⟨?_, by simp only [List.length_cons]; omega, d⟩
          show _ = r_wt 63 + w_ws _ + 0
          rw [show r_wt 63 = 1 by decide]
          omega
        · split at e
          · next z1 z2 z3 z4 z =>
            split at e
            · next zh =>
              cases e
              subst z
              obtain ⟨a, b, d⟩ := w_chs_ws h
              rw [if_neg (by decide)]
              generalize w_chs W V = r at *
              obtain ⟨W1, V1⟩ := r
              cases W1 with
              | nil => exact absurd (show (0 : Int32) = 63 from zh) (by decide)
              | cons c1 W1 =>
                have zc : c1 = 63 := zh
                subst zc
                have a2 : V1.length = r_wt 63 + w_ws W1 + 1 := a
                rw [show r_wt 63 = 1 by decide] at a2
                simp only [List.length_cons] at b
                refine ⟨?_, by simp only [List.length_cons, List.tail_cons]; omega, d⟩
                show V1.length = r_wt 58 + w_ws W1 + 0
                rw [show r_wt 58 = 2 by decide]
                omega
            · cases e
          · split at e
            · next z1 z2 z3 z4 z5 z =>
              split at e
              · next zh =>
                obtain ⟨a, b, d⟩ := w_chs_ws h
                generalize w_chs W V = r at *
                obtain ⟨W1, V1⟩ := r
                cases W1 with
                | nil => exact absurd (show (0 : Int32) = 40 from zh) (by decide)
                | cons c1 W1 =>
                  have zc : c1 = 40 := zh
                  subst zc
                  cases V1 with
                  | nil => cases e
                  | cons v V1 =>
                    have a2 : V1.length + 1 = r_wt 40 + w_ws W1 + 1 := a
                    rw [show r_wt 40 = 0 by decide] at a2
                    simp only [List.length_cons] at b d
                    have e2 : some (w_lay W1 v V1) = some (W', V') := e
                    have e3 := Option.some.inj e2
                    obtain ⟨p, q, r⟩ := w_lay_ws (W := W1) (x := v) (V := V1) (by omega)
                    rw [e3] at p q r
                    dsimp only at p q r
                    rw [if_pos z]
                    exact ⟨p, by omega, by omega⟩
              · cases e
            · cases e
theorem r_sg_at {M0 M : am_M} {pl i : Int32} (hk : r_wh M0 M) (hp : am_in pl 5) (hi : 0 ≤ i.toInt ∧ i.toInt ≤ 50) : (3258 + 50 * pl + i).toInt = 3258 + 50 * pl.toInt + i.toInt ∧ M.1 201 (3258 + 50 * pl + i).toNatClampNeg = r_sg M0 pl i.toNatClampNeg := by
  have p1 := hp.1
  have p2 := hp.2
  have e50 := r_mul (c := 50) (x := pl) ⟨by decide, by decide⟩ ⟨by omega, by omega⟩
  simp only [Int32.reduceToInt] at e50
  have eb := r_off (c := 3258) (x := 50 * pl) ⟨by decide, by decide⟩ ⟨by omega, by omega⟩
  simp only [e50, Int32.reduceToInt] at eb
  have ec := r_off (c := 3258 + 50 * pl) (x := i) ⟨by omega, by omega⟩ ⟨by omega, by omega⟩
  rw [eb] at ec
  have c1 := i_clamp (x := 3258 + 50 * pl + i) (by omega)
  have c2 := i_clamp p1
  have c3 := i_clamp hi.1
  refine ⟨ec, ?_⟩
  rw [hk.c]
  show _ = M0.1 201 (3258 + 50 * pl.toNatClampNeg + i.toNatClampNeg)
  rw [show (3258 + 50 * pl + i).toNatClampNeg = 3258 + 50 * pl.toNatClampNeg + i.toNatClampNeg by omega]
theorem f10 {i : Int32} {k : Int32} (hi : 0 ≤ i.toInt ∧ i.toInt ≤ 50) (hk : 0 ≤ k.toInt ∧ k.toInt ≤ 3) : (10 * i + k).toInt = 10 * i.toInt + k.toInt := by
  have m := i_mul (x := 10) (y := i) (by simp only [Int32.reduceToInt]; omega) (by simp only [Int32.reduceToInt]; omega)
  simp only [Int32.reduceToInt] at m
  have a := i_add (x := 10 * i) (y := k) (by omega) (by omega)
  omega
set_option maxRecDepth 100000 in
set_option maxHeartbeats 4000000 in
theorem metX8_workE : am_Met yX8_work cX8_work 10 (some .boolean) (5) (106) TE8_work := by
  refine am_met (own := RX8) (by decide +kernel) rfl kX8_workE koX8_workE 150 JE8_work ?_ ?_
  · intro live as M Ret h
    unfold TE8_work at h
    split at h
    · next n pl =>
      refine ⟨Nat.le_of_ble_eq_true rfl, ?_⟩
      change am_wp _ _ _ _ [(0, Value.ref n), (1, Value.int pl)] _ _
      obtain ⟨hmn, rfl, hp, hR, h1, h0⟩ := h
      have hmn2 := hmn
      obtain ⟨i1, i2, rfl⟩ := hmn2
      have l201 : am_len 201 = 3760 := rfl
      have p1 := hp.1
      have p2 := hp.2
      have ea := r_off (c := 3508) (x := pl) ⟨by decide, by decide⟩ ⟨by omega, by omega⟩
      simp only [Int32.reduceToInt] at ea
      have q2 := i_clamp (x := 3508 + pl) (by omega)
      have q3 := i_clamp (x := pl) p1
      have em : M.1 201 (3508 + pl).toNatClampNeg = M.1 201 (3508 + pl.toNatClampNeg) := by rw [show (3508 + pl).toNatClampNeg = 3508 + pl.toNatClampNeg by omega]
      have htx := hR.tx (g_cl hp)
      repeat' (first | apply And.intro | exact rfl | intro hx | (refine Exists.intro _ (And.intro rfl ?_)))
      all_goals try first | (with_reducible change am_tI _ _) | (change Ret _ _) | (change Ret _ _ _) | (change Exists _)
      all_goals try dsimp only at *
      all_goals try exact absurd ‹(1000 : Int64) = 0› (by decide)
      all_goals first
        | omega
        | (rw [l201]; omega)
        | skip
      refine ⟨_, _, _, _, rfl, rfl, rfl, [], [], ⟨em, by decide, by rw [em]; exact htx.1, by rw [em]; exact htx.2⟩, Or.inr rfl, ?_, ⟨rfl, by decide, by decide⟩, ?_, rfl⟩
      · exact ⟨(), rfl, trivial, rfl, trivial⟩
      · exact ⟨(), fun a b z y => by rw [am_wI_1, if_neg (fun q => by omega), am_wI_1, if_neg (fun q => by omega)], fun _ _ _ => rfl⟩
    · exact h.elim
  · intro live as M0 Ret h k pc I hI L st M hi
    unfold TE8_work at h
    split at h
    · next n pl =>
      obtain ⟨hmn, rfl, hp, hR, h1, h0⟩ := h
      have hmn2 := hmn
      obtain ⟨i1, i2, rfl⟩ := hmn2
      have l201 : am_len 201 = 3760 := rfl
      have l206 : am_len 206 = 7 := rfl
      have htx := hR.tx (g_cl hp)
      have cn := i_clamp htx.1
      have en : (r_sn M0 pl : Int) = (M0.1 201 (3508 + pl.toNatClampNeg)).toInt := cn
      have p1 := hp.1
      have p2 := hp.2
      change (match pc with | 36 => _ | 93 => _ | 367 => _ | _ => none) = _ at hI
      split at hI
      · cases hI
        obtain ⟨m, du, i, rfl, rfl, rfl, W, V, ⟨hm, g1, g2, g3⟩, hdu, hl, ⟨d1, d2, d3⟩, hk, hw⟩ := hi
        have hi := i_inc (x := i) (by omega) (by omega)
        have ci := i_clamp g1
        have ci1 := i_clamp (x := i + 1) (by omega)
        have u120 := hl.bd (by omega)
        have hmn' : (r_sn M0 pl : Int) = m.toInt := by rw [hm]; exact en
        by_cases hz : m ≤ i
        · have hz2 := hz
          simp only [i_le] at hz2
          rw [w_res_e (by omega)] at hw
          rcases hdu with rfl | rfl
          · have e0 : (decide ((0 : Int32) = 1)) = false := by decide
            rw [e0] at hw
            have d1' : V.length = w_ws W + 1 := d1
            obtain ⟨v1, v2, v3⟩ := w_chs_ws d1'
            unfold w_end at hw
            rw [if_neg (by decide)] at hw
            repeat' (first | (with_reducible exact hmn) | apply And.intro | exact rfl | (intro hx; with_reducible exact absurd hz hx) | (intro hx; exact absurd hx (by decide)) | (intro hx; exact absurd (by decide) hx) | decide | intro hx | (refine Exists.intro _ (And.intro rfl ?_)) | (refine r_cl_in hl ⟨d1', by omega, by omega⟩ (fun M1 c1 k1 => ?_)))
            all_goals try first | (with_reducible change am_tI _ _) | (change Ret _ _) | (change Ret _ _ _) | (change Exists _)
            all_goals try dsimp only at *
            all_goals try exact absurd ‹(1000 : Int64) = 0› (by decide)
            all_goals first
              | refine ⟨_, am_lt_l (by omega), _, _, rfl, rfl, rfl, (), ⟨hm, by omega, g3⟩, Or.inl rfl, hk.tr c1.h, fun q => absurd q (by decide), fun _ => ⟨_, _, k1, ⟨by omega, by omega⟩, ?_, v1⟩⟩
              | skip
            rw [← hw]
            generalize w_chs W V = r
            obtain ⟨W1, V1⟩ := r
            have en2 : (10 * (r_sn M0 pl : Int) + 1) = 10 * m.toInt + 1 := by omega
            cases W1 with
            | nil =>
              cases V1 with
              | nil => show Sum.inr _ = Sum.inr _; rw [en2]
              | cons v V1 => rfl
            | cons c W1 => show Sum.inr _ = Sum.inr _; rw [en2]
          · have e0 : (decide ((1 : Int32) = 1)) = true := by decide
            rw [e0] at hw
            unfold w_end at hw
            rw [if_pos rfl, show (10 * (r_sn M0 pl : Int) + 1) = 10 * m.toInt + 1 by omega] at hw
            repeat' (first | (with_reducible exact hmn) | apply And.intro | exact rfl | (intro hx; with_reducible exact absurd hz hx) | (intro hx; exact absurd hx (by decide)) | (intro hx; exact absurd (by decide) hx) | decide | intro hx | (refine Exists.intro _ (And.intro rfl ?_)))
            all_goals try first | (with_reducible change am_tI _ _) | (change Ret _ _) | (change Ret _ _ _) | (change Exists _)
            all_goals try dsimp only at *
            all_goals try exact absurd ‹(1000 : Int64) = 0› (by decide)
            all_goals exact ⟨_, am_lt_l (by omega), _, _, rfl, rfl, rfl, (), ⟨hm, by omega, g3⟩, Or.inr rfl, hk, fun _ => hw.symm, fun q => absurd q (by decide)⟩
        · have hz2 := hz
          simp only [i_le] at hz2
          obtain ⟨ec, es⟩ := r_sg_at (i := i) hk hp ⟨g1, by omega⟩
          have x1 : 0 ≤ (3258 + 50 * pl + i).toInt := by omega
          have x2 : (3258 + 50 * pl + i).toInt < (am_len 201 : Int) := by rw [l201]; omega
          have hin : i.toNatClampNeg < r_sn M0 pl := by omega
          have i1e : (i + 1).toNatClampNeg = i.toNatClampNeg + 1 := by omega
          have f1 := f10 (i := i) (k := 1) ⟨g1, by omega⟩ ⟨by decide, by decide⟩
          have f3 := f10 (i := i) (k := 3) ⟨g1, by omega⟩ ⟨by decide, by decide⟩
          simp only [Int32.reduceToInt] at f1 f3
          have nx : ∀ (M2 : am_M) (d2' : Int32) (W2 : List Int32) (V2 : List Int64), d2' = 0 ∨ d2' = 1 → r_ls M2 W2 V2 → V2.length = w_ws W2 + (if d2' = 0 then 1 else 0) → W2.length ≤ W.length + 1 → V2.length ≤ V.length + 1 → r_wh M0 M2 → w_res (r_fa M0) (r_sg M0 pl) (r_sn M0 pl) (i.toNatClampNeg + 1) (decide (d2' = 1)) W2 V2 = r_wr M0 pl → r_36E M0 M2 pl m d2' (i + 1) := fun M2 d2' W2 V2 a1 a2 a3 a4 a5 a6 a7 => ⟨W2, V2, ⟨hm, by omega, by omega, g3⟩, a1, a2, ⟨a3, by omega, by omega⟩, a6, by rw [i1e]; exact a7⟩
          by_cases z32 : M.1 201 (3258 + 50 * pl + i).toNatClampNeg = 32
          · have zs : r_sg M0 pl i.toNatClampNeg = 32 := by rw [← es]; exact z32
            rw [ws_b zs hin] at hw
            rcases hdu with rfl | rfl
            · skip
              repeat' (first | (with_reducible exact x1) | (with_reducible exact x2) | (with_reducible exact hmn) | apply And.intro | exact rfl | (intro hx; with_reducible exact absurd hx hz) | (intro hx; with_reducible exact absurd z32 hx) | (intro hx; exact absurd hx (by decide)) | (intro hx; exact absurd (by decide) hx) | decide | intro hx | (refine Exists.intro _ (And.intro rfl ?_)))
              all_goals try first | (with_reducible change am_tI _ _) | (change Ret _ _) | (change Ret _ _ _) | (change Exists _)
              all_goals try dsimp only at *
              all_goals try exact absurd ‹(1000 : Int64) = 0› (by decide)
              all_goals exact ⟨_, am_lt_l (by omega), _, _, _, rfl, rfl, rfl, nx _ _ _ _ (Or.inl rfl) hl d1 (by omega) (by omega) hk hw⟩
            · skip
              repeat' (first | (with_reducible exact x1) | (with_reducible exact x2) | (with_reducible exact hmn) | apply And.intro | exact rfl | (intro hx; with_reducible exact absurd hx hz) | (intro hx; with_reducible exact absurd z32 hx) | (intro hx; exact absurd hx (by decide)) | (intro hx; exact absurd (by decide) hx) | decide | intro hx | (refine Exists.intro _ (And.intro rfl ?_)))
              all_goals try first | (with_reducible change am_tI _ _) | (change Ret _ _) | (change Ret _ _ _) | (change Exists _)
              all_goals try dsimp only at *
              all_goals try exact absurd ‹(1000 : Int64) = 0› (by decide)
              all_goals exact ⟨_, am_lt_l (by omega), _, _, _, rfl, rfl, rfl, nx _ _ _ _ (Or.inr rfl) hl d1 (by omega) (by omega) hk hw⟩
          · have zs32 : r_sg M0 pl i.toNatClampNeg ≠ 32 := fun q => z32 (es.trans q)
            rcases hdu with rfl | rfl
            · have e0 : (decide ((0 : Int32) = 1)) = false := by decide
              rw [e0] at hw
              have d1' : V.length = w_ws W + 1 := d1
              have kY : ∀ W' V', w_beh (M.1 201 (3258 + 50 * pl + i).toNatClampNeg) W V = some (W', V') → w_res (r_fa M0) (r_sg M0 pl) (r_sn M0 pl) (i.toNatClampNeg + 1) (!(decide (M.1 201 (3258 + 50 * pl + i).toNatClampNeg = 41))) W' V' = r_wr M0 pl := fun W' V' e => by
                rw [es] at e ⊢
                rw [← hw, ws_y zs32 hin e]
              have kN : w_beh (M.1 201 (3258 + 50 * pl + i).toNatClampNeg) W V = none → r_wr M0 pl = .inr (10 * i.toInt + 1) := fun e => by
                rw [es] at e
                rw [← hw, ws_n zs32 hin e, show ((i.toNatClampNeg : Nat) : Int) = i.toInt from ci]
              by_cases z41 : M.1 201 (3258 + 50 * pl + i).toNatClampNeg = 41
              · have ed : (!(decide (M.1 201 (3258 + 50 * pl + i).toNatClampNeg = 41))) = decide ((0 : Int32) = 1) := by rw [z41]; decide
                repeat' (first | (with_reducible exact x1) | (with_reducible exact x2) | (with_reducible exact hmn) | apply And.intro | exact rfl | (intro hx; with_reducible exact absurd hx hz) | (intro hx; with_reducible exact absurd hx z32) | (intro hx; with_reducible exact absurd z41 hx) | (intro hx; exact absurd hx (by decide)) | (intro hx; exact absurd (by decide) hx) | decide | intro hx | (refine Exists.intro _ (And.intro rfl ?_)) | (refine r_cl_in hl ⟨d1', by omega, by omega⟩ ⟨⟨by omega, by omega⟩, fun en M1 c1 => ?_, fun W' V' es' M1 c1 k1 => ?_⟩))
                all_goals try first | (with_reducible change am_tI _ _) | (change Ret _ _) | (change Ret _ _ _) | (change Exists _)
                all_goals try dsimp only at *
                all_goals try exact absurd ‹(1000 : Int64) = 0› (by decide)
                all_goals first
                  | (left; rfl)
                  | exact h0 _ (kN en) _ ((hk.tr c1.h).w14) (by rw [am_wI_self]; exact f1)
                  | (have wb := w_beh_ws d1' es'
                     rw [if_pos z41] at wb
                     have ky := kY _ _ es'
                     rw [ed] at ky
                     exact ⟨_, am_lt_l (by omega), _, _, _, rfl, rfl, rfl, nx _ 0 _ _ (Or.inl rfl) k1 wb.1 wb.2.1 (by omega) (hk.tr c1.h) ky⟩)
                  | skip
              · have ed : (!(decide (M.1 201 (3258 + 50 * pl + i).toNatClampNeg = 41))) = decide ((1 : Int32) = 1) := by rw [decide_eq_false z41]; decide
                repeat' (first | (with_reducible exact x1) | (with_reducible exact x2) | (with_reducible exact hmn) | apply And.intro | exact rfl | (intro hx; with_reducible exact absurd hx hz) | (intro hx; with_reducible exact absurd hx z32) | (intro hx; with_reducible exact absurd hx z41) | (intro hx; exact absurd hx (by decide)) | (intro hx; exact absurd (by decide) hx) | decide | intro hx | (refine Exists.intro _ (And.intro rfl ?_)) | (refine r_cl_in hl ⟨d1', by omega, by omega⟩ ⟨⟨by omega, by omega⟩, fun en M1 c1 => ?_, fun W' V' es' M1 c1 k1 => ?_⟩))
                all_goals try first | (with_reducible change am_tI _ _) | (change Ret _ _) | (change Ret _ _ _) | (change Exists _)
                all_goals try dsimp only at *
                all_goals try exact absurd ‹(1000 : Int64) = 0› (by decide)
                all_goals first
                  | (left; rfl)
                  | exact h0 _ (kN en) _ ((hk.tr c1.h).w14) (by rw [am_wI_self]; exact f1)
                  | (have wb := w_beh_ws d1' es'
                     rw [if_neg z41] at wb
                     have ky := kY _ _ es'
                     rw [ed] at ky
                     exact ⟨_, am_lt_l (by omega), _, _, _, rfl, rfl, rfl, nx _ 1 _ _ (Or.inr rfl) k1 wb.1 wb.2.1 (by omega) (hk.tr c1.h) ky⟩)
                  | skip
            · have e0 : (decide ((1 : Int32) = 1)) = true := by decide
              rw [e0] at hw
              have d1' : V.length = w_ws W + 0 := d1
              have a := hl.a
              have hx1 : 0 ≤ (M.1 200 11).toInt := by omega
              have hx2 : (M.1 200 11).toInt < 120 := by omega
              by_cases zd : (48 : Int64) ≤ (M.1 201 (3258 + 50 * pl + i).toNatClampNeg).toInt64 ∧ (M.1 201 (3258 + 50 * pl + i).toNatClampNeg).toInt64 ≤ (57 : Int64)
              · have qd : ¬ ((if (48 : Int64) ≤ (M.1 201 (3258 + 50 * pl + i).toNatClampNeg).toInt64 ∧ (M.1 201 (3258 + 50 * pl + i).toNatClampNeg).toInt64 ≤ (57 : Int64) then (1 : Int32) else 0) = 0) := by rw [if_pos zd]; decide
                have dg : w_dgt (r_sg M0 pl i.toNatClampNeg) = true := by rw [← es]; exact r_dgt.mp zd
                repeat' (first | (with_reducible exact x1) | (with_reducible exact x2) | (with_reducible exact hmn) | apply And.intro | exact rfl | (intro hx; with_reducible exact absurd hx hz) | (intro hx; with_reducible exact absurd hx z32) | (intro hx; with_reducible exact absurd hx qd) | (intro hx; exact absurd hx (by decide)) | (intro hx; exact absurd (by decide) hx) | decide | intro hx | (refine Exists.intro _ (And.intro rfl ?_)))
                all_goals try first | (with_reducible change am_tI _ _) | (change Ret _ _) | (change Ret _ _ _) | (change Exists _)
                all_goals try dsimp only at *
                all_goals try exact absurd ‹(1000 : Int64) = 0› (by decide)
                all_goals exact ⟨_, am_lt_l (by omega), _, _, _, _, rfl, rfl, rfl, W, V, 0, ⟨hm, g1, by omega, g3⟩, ⟨by omega, by decide, g2⟩, ⟨by decide, by decide⟩, ⟨dg, rfl⟩, hl, ⟨d1', d2, d3⟩, hk, hw⟩
              · have qd : (if (48 : Int64) ≤ (M.1 201 (3258 + 50 * pl + i).toNatClampNeg).toInt64 ∧ (M.1 201 (3258 + 50 * pl + i).toNatClampNeg).toInt64 ≤ (57 : Int64) then (1 : Int32) else 0) = 0 := if_neg zd
                have dg : w_dgt (r_sg M0 pl i.toNatClampNeg) = false := by
                  cases e : w_dgt (r_sg M0 pl i.toNatClampNeg) with
                  | false => rfl
                  | true => exact absurd (r_dgt.mpr (by rw [es]; exact e)) zd
                by_cases zf : r_fact (M.1 201 (3258 + 50 * pl + i).toNatClampNeg) < 0
                · have zf2 := zf
                  simp only [i_lt, es, Int32.reduceToInt] at zf2
                  by_cases z40 : M.1 201 (3258 + 50 * pl + i).toNatClampNeg = 40
                  · have zs : r_sg M0 pl i.toNatClampNeg = 40 := es.symm.trans z40
                    rw [ws_o zs hin] at hw
                    have wo := w_opn_le W
                    have w60 : W.length ≤ 60 := by omega
                    by_cases z8 : w_opn W = 8
                    · rw [if_pos z8, show ((i.toNatClampNeg : Nat) : Int) = i.toInt from ci] at hw
                      have q8 : Int32.ofNat (w_opn W) = 8 := by rw [z8]; rfl
                      repeat' (first | (with_reducible exact x1) | (with_reducible exact x2) | (with_reducible exact hx1) | (with_reducible exact hx2) | (with_reducible exact u120) | (with_reducible exact hmn) | apply And.intro | exact rfl | (intro hx; with_reducible exact absurd hx hz) | (intro hx; with_reducible exact absurd hx z32) | (intro hx; with_reducible exact absurd qd hx) | (intro hx; with_reducible exact absurd zf hx) | (intro hx; with_reducible exact absurd z40 hx) | (intro hx; exact absurd hx (by decide)) | (intro hx; exact absurd (by decide) hx) | decide | intro hx | (refine Exists.intro _ (And.intro rfl ?_)) | (refine Exists.intro W (Exists.intro V (And.intro hl (And.intro w60 ?_)))))
                      all_goals try first | (with_reducible change am_tI _ _) | (change Ret _ _) | (change Ret _ _ _) | (change Exists _)
                      all_goals try dsimp only at *
                      all_goals try exact absurd ‹(1000 : Int64) = 0› (by decide)
                      all_goals first
                        | (left; rfl)
                        | exact absurd q8 (by with_reducible assumption)
                        | exact h0 _ hw.symm _ (hk.w14) (by rw [am_wI_self]; exact f3)
                        | skip
                    · rw [if_neg z8] at hw
                      have q8 : ¬ Int32.ofNat (w_opn W) = 8 := fun q => z8 (by
                        have e := congrArg Int32.toInt q
                        rw [i_nat (by omega)] at e
                        simp only [Int32.reduceToInt] at e
                        omega)
                      repeat' (first | (with_reducible exact x1) | (with_reducible exact x2) | (with_reducible exact hx1) | (with_reducible exact hx2) | (with_reducible exact u120) | (with_reducible exact hmn) | apply And.intro | exact rfl | (intro hx; with_reducible exact absurd hx hz) | (intro hx; with_reducible exact absurd hx z32) | (intro hx; with_reducible exact absurd qd hx) | (intro hx; with_reducible exact absurd zf hx) | (intro hx; with_reducible exact absurd z40 hx) | (intro hx; exact absurd hx (by decide)) | (intro hx; exact absurd (by decide) hx) | decide | intro hx | (refine Exists.intro _ (And.intro rfl ?_)) | (refine Exists.intro W (Exists.intro V (And.intro hl (And.intro w60 ?_)))))
                      all_goals try first | (with_reducible change am_tI _ _) | (change Ret _ _) | (change Ret _ _ _) | (change Exists _)
                      all_goals try dsimp only at *
                      all_goals try exact absurd ‹(1000 : Int64) = 0› (by decide)
                      all_goals first
                        | (left; rfl)
                        | exact absurd (by with_reducible assumption) q8
                        | exact ⟨_, am_lt_l (by omega), _, _, _, rfl, rfl, rfl, nx _ 1 _ _ (Or.inr rfl) (hl.push (by omega)) (by show _ = r_wt 40 + w_ws W + 0; rw [show r_wt 40 = 0 by decide]; omega) (by simp only [List.length_cons]; omega) (by omega) (hk.tr ((r_wg.rf.w204).w11).h) hw⟩
                        | skip
                  · have zs40 : r_sg M0 pl i.toNatClampNeg ≠ 40 := fun q => z40 (es.trans q)
                    by_cases z33 : M.1 201 (3258 + 50 * pl + i).toNatClampNeg = 33
                    · have zs : r_sg M0 pl i.toNatClampNeg = 33 := es.symm.trans z33
                      rw [ws_u zs (Or.inl rfl) hin, if_pos rfl] at hw
                      repeat' (first | (with_reducible exact x1) | (with_reducible exact x2) | (with_reducible exact hx1) | (with_reducible exact hx2) | (with_reducible exact hmn) | apply And.intro | exact rfl | (intro hx; with_reducible exact absurd hx hz) | (intro hx; with_reducible exact absurd hx z32) | (intro hx; with_reducible exact absurd hx z40) | (intro hx; with_reducible exact absurd qd hx) | (intro hx; with_reducible exact absurd zf hx) | (intro hx; with_reducible exact absurd z33 hx) | (intro hx; exact absurd hx (by decide)) | (intro hx; exact absurd (by decide) hx) | decide | intro hx | (refine Exists.intro _ (And.intro rfl ?_)))
                      all_goals try first | (with_reducible change am_tI _ _) | (change Ret _ _) | (change Ret _ _ _) | (change Exists _)
                      all_goals try dsimp only at *
                      all_goals try exact absurd ‹(1000 : Int64) = 0› (by decide)
                      all_goals exact ⟨_, am_lt_l (by omega), _, _, _, rfl, rfl, rfl, nx _ 1 _ _ (Or.inr rfl) (hl.push (by omega)) (by show _ = r_wt 1 + w_ws W + 0; rw [show r_wt 1 = 0 by decide]; omega) (by simp only [List.length_cons]; omega) (by omega) (hk.tr ((r_wg.rf.w204).w11).h) hw⟩
                    · by_cases z45 : M.1 201 (3258 + 50 * pl + i).toNatClampNeg = 45
                      · have zs : r_sg M0 pl i.toNatClampNeg = 45 := es.symm.trans z45
                        rw [ws_u zs (Or.inr rfl) hin, if_neg (by decide)] at hw
                        repeat' (first | (with_reducible exact x1) | (with_reducible exact x2) | (with_reducible exact hx1) | (with_reducible exact hx2) | (with_reducible exact hmn) | apply And.intro | exact rfl | (intro hx; with_reducible exact absurd hx hz) | (intro hx; with_reducible exact absurd hx z32) | (intro hx; with_reducible exact absurd hx z40) | (intro hx; with_reducible exact absurd hx z33) | (intro hx; with_reducible exact absurd qd hx) | (intro hx; with_reducible exact absurd zf hx) | (intro hx; with_reducible exact absurd z45 hx) | (intro hx; exact absurd hx (by decide)) | (intro hx; exact absurd (by decide) hx) | decide | intro hx | (refine Exists.intro _ (And.intro rfl ?_)))
                        all_goals try first | (with_reducible change am_tI _ _) | (change Ret _ _) | (change Ret _ _ _) | (change Exists _)
                        all_goals try dsimp only at *
                        all_goals try exact absurd ‹(1000 : Int64) = 0› (by decide)
                        all_goals exact ⟨_, am_lt_l (by omega), _, _, _, rfl, rfl, rfl, nx _ 1 _ _ (Or.inr rfl) (hl.push (by omega)) (by show _ = r_wt 2 + w_ws W + 0; rw [show r_wt 2 = 0 by decide]; omega) (by simp only [List.length_cons]; omega) (by omega) (hk.tr ((r_wg.rf.w204).w11).h) hw⟩
                      · rw [ws_x zs32 dg zf2 zs40 (fun q => z33 (es.trans q)) (fun q => z45 (es.trans q)) hin, show ((i.toNatClampNeg : Nat) : Int) = i.toInt from ci] at hw
                        repeat' (first | (with_reducible exact x1) | (with_reducible exact x2) | (with_reducible exact hmn) | apply And.intro | exact rfl | (intro hx; with_reducible exact absurd hx hz) | (intro hx; with_reducible exact absurd hx z32) | (intro hx; with_reducible exact absurd hx z40) | (intro hx; with_reducible exact absurd hx z33) | (intro hx; with_reducible exact absurd hx z45) | (intro hx; with_reducible exact absurd qd hx) | (intro hx; with_reducible exact absurd zf hx) | (intro hx; exact absurd hx (by decide)) | (intro hx; exact absurd (by decide) hx) | decide | intro hx | (refine Exists.intro _ (And.intro rfl ?_)))
                        all_goals try first | (with_reducible change am_tI _ _) | (change Ret _ _) | (change Ret _ _ _) | (change Exists _)
                        all_goals try dsimp only at *
                        all_goals try exact absurd ‹(1000 : Int64) = 0› (by decide)
                        all_goals first
                          | (left; rfl)
                          | exact h0 _ hw.symm _ (hk.w14) (by rw [am_wI_self]; exact f1)
                          | skip
                · have zf2 := zf
                  simp only [i_lt, Int32.reduceToInt] at zf2
                  have hf := r_fact_in (M.1 201 (3258 + 50 * pl + i).toNatClampNeg)
                  have y1 : 0 ≤ (r_fact (M.1 201 (3258 + 50 * pl + i).toNatClampNeg)).toInt := by omega
                  have y2 : (r_fact (M.1 201 (3258 + 50 * pl + i).toNatClampNeg)).toInt < (am_len 206 : Int) := by rw [l206]; omega
                  have fv : M.2 206 (r_fact (M.1 201 (3258 + 50 * pl + i).toNatClampNeg)).toNatClampNeg = r_fa M0 (r_sg M0 pl i.toNatClampNeg) := by
                    rw [es]
                    exact congrFun hk.f (r_sg M0 pl i.toNatClampNeg)
                  rw [ws_l (by rw [← es]; exact y1) hin, ← fv] at hw
                  obtain ⟨q1, q2, q3⟩ := w_lay_ws (x := M.2 206 (r_fact (M.1 201 (3258 + 50 * pl + i).toNatClampNeg)).toNatClampNeg) (show V.length = w_ws W by omega)
                  repeat' (first | (with_reducible exact x1) | (with_reducible exact x2) | (with_reducible exact y1) | (with_reducible exact y2) | (with_reducible exact hmn) | apply And.intro | exact rfl | (intro hx; with_reducible exact absurd hx hz) | (intro hx; with_reducible exact absurd hx z32) | (intro hx; with_reducible exact absurd hx zf) | (intro hx; with_reducible exact absurd qd hx) | (intro hx; exact absurd hx (by decide)) | (intro hx; exact absurd (by decide) hx) | decide | intro hx | (refine Exists.intro _ (And.intro rfl ?_)) | (refine r_cl_in hl ⟨d1', by omega, by omega⟩ ⟨by omega, fun M1 c1 k1 => ?_⟩))
                  all_goals try first | (with_reducible change am_tI _ _) | (change Ret _ _) | (change Ret _ _ _) | (change Exists _)
                  all_goals try dsimp only at *
                  all_goals try exact absurd ‹(1000 : Int64) = 0› (by decide)
                  all_goals exact ⟨_, am_lt_l (by omega), _, _, _, rfl, rfl, rfl, nx _ 0 _ _ (Or.inl rfl) k1 q1 (by omega) (by omega) (hk.tr c1.h) hw⟩
      · cases hI
        obtain ⟨m, i, f, v, rfl, rfl, rfl, W, V, u, ⟨hm, g1, g2, g3⟩, ⟨e1, e2, e3⟩, ⟨v1, v2⟩, ⟨dg, ed⟩, hl, ⟨d1, d2, d3⟩, hk, hw⟩ := hi
        have hi := i_inc (x := i) (by omega) (by omega)
        have ci := i_clamp (x := i) (by omega)
        have cf := i_clamp g1
        have hmn' : (r_sn M0 pl : Int) = m.toInt := by rw [hm]; exact en
        have hfn : f.toNatClampNeg < r_sn M0 pl := by omega
        have hv6 : (10 ^ u : Nat) ≤ 1000000 := Nat.le_trans (Nat.pow_le_pow_right (by decide) e2) (by decide)
        obtain ⟨ec, es⟩ := r_sg_at (i := i) hk hp ⟨by omega, by omega⟩
        have done : f.toInt < i.toInt → ¬ (i.toNatClampNeg < r_sn M0 pl ∧ w_dgt (r_sg M0 pl i.toNatClampNeg) = true) → ∀ M1, r_wg M M1 → r_ls M1 (w_lay W v V).1 (w_lay W v V).2 → r_36E M0 M1 pl m 0 i := fun fi hno M1 c1 k1 => by
          have e5 : w_dig (r_sg M0 pl) (r_sn M0 pl) 8 f.toNatClampNeg 0 0 = some (i.toNatClampNeg, v.toInt) := by
            rw [← ed, show 8 - u = (7 - u) + 1 by omega]
            exact w_dig_n hno
          rw [ws_d dg hfn e5, l_of] at hw
          obtain ⟨q1, q2, q3⟩ := w_lay_ws (x := v) d1
          exact ⟨_, _, ⟨hm, by omega, e3, g3⟩, Or.inl rfl, k1, ⟨q1, by omega, by omega⟩, hk.tr c1.h, hw⟩
        by_cases hz : m ≤ i
        · have hz2 := hz
          simp only [i_le] at hz2
          repeat' (first | (with_reducible exact hmn) | apply And.intro | exact rfl | (intro hx; with_reducible exact absurd hz hx) | (intro hx; exact absurd hx (by decide)) | (intro hx; exact absurd (by decide) hx) | decide | intro hx | (refine Exists.intro _ (And.intro rfl ?_)) | (refine r_cl_in hl ⟨by omega, by omega, by omega⟩ ⟨by omega, fun M1 c1 k1 => ?_⟩))
          all_goals try first | (with_reducible change am_tI _ _) | (change Ret _ _) | (change Ret _ _ _) | (change Exists _)
          all_goals try dsimp only at *
          all_goals try exact absurd ‹(1000 : Int64) = 0› (by decide)
          all_goals exact ⟨_, am_lt_l (by omega), _, _, _, rfl, rfl, rfl, done (by omega) (fun q => by have := q.1; omega) M1 c1 k1⟩
        · have hz2 := hz
          simp only [i_le] at hz2
          have x1 : 0 ≤ (3258 + 50 * pl + i).toInt := by omega
          have x2 : (3258 + 50 * pl + i).toInt < (am_len 201 : Int) := by rw [l201]; omega
          have hin : i.toNatClampNeg < r_sn M0 pl := by omega
          have eif := i_sub (x := i) (y := f) (by omega) (by omega)
          by_cases zd : (48 : Int64) ≤ (M.1 201 (3258 + 50 * pl + i).toNatClampNeg).toInt64 ∧ (M.1 201 (3258 + 50 * pl + i).toNatClampNeg).toInt64 ≤ (57 : Int64)
          · have qd : ¬ ((if (48 : Int64) ≤ (M.1 201 (3258 + 50 * pl + i).toNatClampNeg).toInt64 ∧ (M.1 201 (3258 + 50 * pl + i).toNatClampNeg).toInt64 ≤ (57 : Int64) then (1 : Int32) else 0) = 0) := by rw [if_pos zd]; decide
            have dgi : w_dgt (r_sg M0 pl i.toNatClampNeg) = true := by rw [← es]; exact r_dgt.mp zd
            by_cases z6 : i - f = 6
            · have u6 : u = 6 := by
                have e := congrArg Int32.toInt z6
                rw [eif] at e
                simp only [Int32.reduceToInt] at e
                omega
              subst u6
              have e5 : w_dig (r_sg M0 pl) (r_sn M0 pl) 8 f.toNatClampNeg 0 0 = none := by
                rw [← ed]
                exact w_dig_f ⟨hin, dgi⟩
              rw [ws_df dg hfn e5, show ((f.toNatClampNeg : Nat) : Int) = f.toInt from cf] at hw
              have f2 := f10 (i := f) (k := 2) ⟨g1, by omega⟩ ⟨by decide, by decide⟩
              simp only [Int32.reduceToInt] at f2
              repeat' (first | (with_reducible exact x1) | (with_reducible exact x2) | (with_reducible exact hmn) | apply And.intro | exact rfl | (intro hx; with_reducible exact absurd hx hz) | (intro hx; with_reducible exact absurd hx qd) | (intro hx; with_reducible exact absurd z6 hx) | (intro hx; exact absurd hx (by decide)) | (intro hx; exact absurd (by decide) hx) | decide | intro hx | (refine Exists.intro _ (And.intro rfl ?_)))
              all_goals try first | (with_reducible change am_tI _ _) | (change Ret _ _) | (change Ret _ _ _) | (change Exists _)
              all_goals try dsimp only at *
              all_goals try exact absurd ‹(1000 : Int64) = 0› (by decide)
              all_goals first
                | (left; rfl)
                | exact h0 _ hw.symm _ (hk.w14) (by rw [am_wI_self]; exact f2)
                | skip
            · have u6 : u ≠ 6 := fun q => z6 (by rw [i_eq, eif]; simp only [Int32.reduceToInt]; omega)
              have d1' := of_decide_eq_true dgi
              rw [← es] at d1'
              have cs := Int32.toInt_toInt64 (M.1 201 (3258 + 50 * pl + i).toNatClampNeg)
              have t10 : (10 : Int64).toInt = 10 := rfl
              have t48 : (48 : Int64).toInt = 48 := rfl
              have m1 := l_mul (x := 10) (y := v) (by rw [t10]; omega) (by rw [t10]; omega)
              rw [t10] at m1
              have m2 := l_add (x := 10 * v) (y := (M.1 201 (3258 + 50 * pl + i).toNatClampNeg).toInt64) (by rw [cs]; omega) (by rw [cs]; omega)
              have m3 := l_sub (x := 10 * v + (M.1 201 (3258 + 50 * pl + i).toNatClampNeg).toInt64) (y := 48) (by rw [t48, m2, cs]; omega) (by rw [t48, m2, cs]; omega)
              rw [t48, m2, cs] at m3
              have pw : (10 ^ (u + 1) : Nat) = 10 * 10 ^ u := by rw [Nat.pow_succ, Nat.mul_comm]
              have ci1 := i_clamp (x := i + 1) (by omega)
              have e5 : w_dig (r_sg M0 pl) (r_sn M0 pl) (8 - (u + 1)) (i + 1).toNatClampNeg (u + 1) (10 * v + (M.1 201 (3258 + 50 * pl + i).toNatClampNeg).toInt64 - 48).toInt = w_dig (r_sg M0 pl) (r_sn M0 pl) 8 f.toNatClampNeg 0 0 := by
                rw [← ed, show 8 - u = (8 - (u + 1)) + 1 by omega, w_dig_s ⟨hin, dgi⟩ u6, show (i + 1).toNatClampNeg = i.toNatClampNeg + 1 by omega, ← es]
                congr 1
                omega
              repeat' (first | (with_reducible exact x1) | (with_reducible exact x2) | (with_reducible exact hmn) | apply And.intro | exact rfl | (intro hx; with_reducible exact absurd hx hz) | (intro hx; with_reducible exact absurd hx qd) | (intro hx; with_reducible exact absurd hx z6) | (intro hx; exact absurd hx (by decide)) | (intro hx; exact absurd (by decide) hx) | decide | intro hx | (refine Exists.intro _ (And.intro rfl ?_)))
              all_goals try first | (with_reducible change am_tI _ _) | (change Ret _ _) | (change Ret _ _ _) | (change Exists _)
              all_goals try dsimp only at *
              all_goals try exact absurd ‹(1000 : Int64) = 0› (by decide)
              all_goals first
                | exact ⟨_, am_lt_r (by omega), _, _, _, _, rfl, rfl, rfl, W, V, u + 1, ⟨hm, g1, g2, g3⟩, ⟨by omega, by omega, by omega⟩, ⟨by omega, by rw [pw]; omega⟩, ⟨dg, e5⟩, hl, ⟨d1, d2, d3⟩, hk, hw⟩
                | skip
          · have qd : (if (48 : Int64) ≤ (M.1 201 (3258 + 50 * pl + i).toNatClampNeg).toInt64 ∧ (M.1 201 (3258 + 50 * pl + i).toNatClampNeg).toInt64 ≤ (57 : Int64) then (1 : Int32) else 0) = 0 := if_neg zd
            have dgi : ¬ w_dgt (r_sg M0 pl i.toNatClampNeg) = true := fun q => zd (r_dgt.mpr (by rw [es]; exact q))
            have fi : f.toInt < i.toInt := by
              rcases Nat.eq_zero_or_pos u with z | z
              · subst z
                exact absurd (show w_dgt (r_sg M0 pl i.toNatClampNeg) = true by rw [show i.toNatClampNeg = f.toNatClampNeg by omega]; exact dg) dgi
              · omega
            repeat' (first | (with_reducible exact x1) | (with_reducible exact x2) | (with_reducible exact hmn) | apply And.intro | exact rfl | (intro hx; with_reducible exact absurd hx hz) | (intro hx; with_reducible exact absurd qd hx) | (intro hx; exact absurd hx (by decide)) | (intro hx; exact absurd (by decide) hx) | decide | intro hx | (refine Exists.intro _ (And.intro rfl ?_)) | (refine r_cl_in hl ⟨by omega, by omega, by omega⟩ ⟨by omega, fun M1 c1 k1 => ?_⟩))
            all_goals try first | (with_reducible change am_tI _ _) | (change Ret _ _) | (change Ret _ _ _) | (change Exists _)
            all_goals try dsimp only at *
            all_goals try exact absurd ‹(1000 : Int64) = 0› (by decide)
            all_goals exact ⟨_, am_lt_l (by omega), _, _, _, rfl, rfl, rfl, done fi (fun q => dgi q.2) M1 c1 k1⟩
      · cases hI
        obtain ⟨m, du, rfl, rfl, rfl, -, ⟨hm, g1, g3⟩, hdu, hk, k1, k0⟩ := hi
        have f1 := f10 (i := m) (k := 1) ⟨g1, g3⟩ ⟨by decide, by decide⟩
        simp only [Int32.reduceToInt] at f1
        have o11 : ∀ v, (am_wI M 200 14 v).1 200 11 = M.1 200 11 := fun v => by rw [am_wI_1, if_neg (fun q => absurd q.2 (by decide))]
        rcases hdu with rfl | rfl
        · obtain ⟨W, V, hl, ⟨w60, v60⟩, hw, hv⟩ := k0 rfl
          have a := hl.a
          by_cases z : (am_wI M 200 14 (10 * m + 1)).1 200 11 = 0
          · have z2 := z
            rw [o11] at z2
            rw [z2] at a
            simp only [Int32.reduceToInt] at a
            cases W with
            | cons c W => simp only [List.length_cons] at a; omega
            | nil =>
              cases V with
              | nil => simp only [List.length_nil] at hv; omega
              | cons v V =>
                have hv2 : V.length + 1 = 0 + 1 := hv
                have hd := hl.d.1
                rw [show V.length = 0 by omega] at hd
                have hh := h1 v hw (am_wI M 200 14 (10 * m + 1)) (hk.w14) hd
                repeat' (first | (with_reducible exact hmn) | apply And.intro | exact rfl | (intro hx; with_reducible exact absurd z hx) | (intro hx; exact absurd hx (by decide)) | (intro hx; exact absurd (by decide) hx) | decide | intro hx | (refine Exists.intro _ (And.intro rfl ?_)))
                all_goals try first | (with_reducible change am_tI _ _) | (change Ret _ _) | (change Ret _ _ _) | (change Exists _)
                all_goals try dsimp only at *
                all_goals try exact absurd ‹(1000 : Int64) = 0› (by decide)
                all_goals first
                  | (right; rfl)
                  | exact hh
                  | skip
          · have hw2 : r_wr M0 pl = .inr (10 * m.toInt + 1) := by
              cases W with
              | nil => exact absurd (show M.1 200 11 = 0 by rw [i_eq, a]; rfl) (fun q => z ((o11 _).trans q))
              | cons c W => exact hw
            have hh := h0 _ hw2 (am_wI M 200 14 (10 * m + 1)) (hk.w14) (by rw [am_wI_self]; exact f1)
            repeat' (first | (with_reducible exact hmn) | apply And.intro | exact rfl | (intro hx; with_reducible exact absurd hx z) | (intro hx; exact absurd hx (by decide)) | (intro hx; exact absurd (by decide) hx) | decide | intro hx | (refine Exists.intro _ (And.intro rfl ?_)))
            all_goals try first | (with_reducible change am_tI _ _) | (change Ret _ _) | (change Ret _ _ _) | (change Exists _)
            all_goals try dsimp only at *
            all_goals try exact absurd ‹(1000 : Int64) = 0› (by decide)
            all_goals first
              | (left; rfl)
              | exact hh
              | skip
        · have hh := h0 _ (k1 rfl) (am_wI M 200 14 (10 * m + 1)) (hk.w14) (by rw [am_wI_self]; exact f1)
          repeat' (first | (with_reducible exact hmn) | apply And.intro | exact rfl | (intro hx; exact absurd hx (by decide)) | (intro hx; exact absurd (by decide) hx) | decide | intro hx | (refine Exists.intro _ (And.intro rfl ?_)))
          all_goals try first | (with_reducible change am_tI _ _) | (change Ret _ _) | (change Ret _ _ _) | (change Exists _)
          all_goals try dsimp only at *
          all_goals try exact absurd ‹(1000 : Int64) = 0› (by decide)
          all_goals first
            | (left; rfl)
            | exact hh
            | skip
      · cases hI
    · exact h.elim
def kX8_faultE (live : am_E) (Ret : am_R) : am_code := [(0, am_iload 1 1), (1, am_callS live 1 TX8_isPlan 4), (4, am_if1 (fun x => x = 0) 7 10), (7, am_const (.int (-2)) 9), (9, am_retI Ret), (10, am_aload 0 11), (11, am_iload 1 12), (12, am_callV live 8 1 TE8_work 15), (15, am_if1 (fun x => x = 0) 22 18), (18, am_const (.int (-1)) 19), (19, am_goto 26), (22, am_aload 0 23), (23, am_getI live 8 14 26), (26, am_retI Ret)]
theorem koX8_faultE (live : am_E) (Ret : am_R) : ∀ q ∈ kX8_faultE live Ret, am_ok RX8 cX8_fault 2 (some .int) 6 135 live Ret q.1 q.2 :=
  am_kc (ak_iload_n dX8_fault_0 rfl rfl) <|
  am_kc (ak_callS metX8_isPlan ⟨rfl, by decide +kernel, by decide +kernel, by decide +kernel⟩ (am_w4 wd_1034 wd_1035 wd_67 wd_1036) (by decide) dX8_fault_1 rfl) <|
  am_kc (ak_if_ne dX8_fault_4 (by decide +kernel) rfl) <|
  am_kc (ak_bipush dX8_fault_7 (by decide +kernel) rfl) <|
  am_kc (ak_retI dX8_fault_9) <|
  am_kc (ak_aload_n dX8_fault_10 rfl rfl) <|
  am_kc (ak_iload_n dX8_fault_11 rfl rfl) <|
  am_kc (ak_callV (C := RX8) (F := TX8) (N := 27) metX8_workE rfl ⟨rfl, by decide +kernel, by decide +kernel, by decide +kernel⟩ (am_w5 wd_1102 wd_1104 wd_33 wd_67 wd_1105) (by decide) dX8_fault_12 rfl) <|
  am_kc (ak_if_eq dX8_fault_15 (by decide +kernel) rfl) <|
  am_kc (ak_iconst dX8_fault_18 (by decide +kernel) rfl) <|
  am_kc (ak_goto dX8_fault_19 (by decide +kernel)) <|
  am_kc (ak_aload_n dX8_fault_22 rfl rfl) <|
  am_kc (ak_getI (C := RX8) (T := TX8) (N := 27) rfl inX8w (by decide) rfl rfl rfl wd_909 dX8_fault_23 rfl) <|
  am_kc (ak_retI dX8_fault_26) <| am_kn
def TE8_fault : am_T := fun live as M R => match as with
  | [.ref n, .int pl] => am_mn live ∧ n = 200 ∧ r_I M ∧ (¬ (0 ≤ pl ∧ pl < 5) → R (some (.int (-2))) M) ∧ ((0 ≤ pl ∧ pl < 5) → (∀ x, r_wr M pl = .inl x → ∀ M', r_wh M M' → R (some (.int (-1))) M') ∧ (∀ (v : Int32), r_wr M pl = .inr v.toInt → ∀ M', r_wh M M' → R (some (.int v)) M'))
  | _ => False
set_option maxRecDepth 100000 in
set_option maxHeartbeats 4000000 in
theorem metX8_faultE : am_Met yX8_fault cX8_fault 2 (some .int) (6) (135) TE8_fault := by
  refine am_met (own := RX8) (by decide +kernel) rfl kX8_faultE koX8_faultE 100 (fun _ _ _ _ _ => none) (fun live as M Ret h => ?_) (fun _ _ _ _ _ _ _ _ hI => by cases hI)
  unfold TE8_fault at h
  split at h
  · next n pl =>
    refine ⟨Nat.le_of_ble_eq_true rfl, ?_⟩
    change am_wp _ _ _ _ [(0, Value.ref n), (1, Value.int pl)] _ _
    obtain ⟨hmn, rfl, hR, hno, h⟩ := h
    have hmn2 := hmn
    obtain ⟨i1, i2, rfl⟩ := hmn2
    by_cases z0 : 0 ≤ pl ∧ pl < 5
    · have q0 : ¬ ((if 0 ≤ pl ∧ pl < 5 then (1 : Int32) else 0) = 0) := by rw [if_pos z0]; decide
      have hp : am_in pl 5 := ⟨by have q := z0.1; simp only [i_le, Int32.reduceToInt] at q; omega, by have q := z0.2; simp only [i_lt, Int32.reduceToInt] at q; omega⟩
      obtain ⟨h1, h0⟩ := h z0
      repeat' (first | (with_reducible exact hmn) | (with_reducible exact hp) | (with_reducible exact hR) | apply And.intro | exact rfl | (intro hx; with_reducible exact absurd hx q0) | (intro hx; exact absurd hx (by decide)) | (intro hx; exact absurd (by decide) hx) | decide | intro hx | (refine Exists.intro _ (And.intro rfl ?_)))
      all_goals try first | (with_reducible change am_tI _ _) | (change Ret _ _) | (change Ret _ _ _) | (change Exists _)
      all_goals try dsimp only at *
      all_goals try exact absurd ‹(1000 : Int64) = 0› (by decide)
      all_goals first
        | exact h1 _ (by with_reducible assumption) _ (by with_reducible assumption)
        | (rename_i f hf M1 c1 e
           exact h0 _ (hf.trans (congrArg Sum.inr e.symm)) _ c1)
        | skip
    · have q0 : (if 0 ≤ pl ∧ pl < 5 then (1 : Int32) else 0) = 0 := if_neg z0
      have h := hno z0
      repeat' (first | (with_reducible exact hmn) | apply And.intro | exact rfl | (intro hx; with_reducible exact absurd q0 hx) | (intro hx; exact absurd hx (by decide)) | (intro hx; exact absurd (by decide) hx) | decide | intro hx | (refine Exists.intro _ (And.intro rfl ?_)))
      all_goals try first | (with_reducible change am_tI _ _) | (change Ret _ _) | (change Ret _ _ _) | (change Exists _)
      all_goals try dsimp only at *
      all_goals try exact absurd ‹(1000 : Int64) = 0› (by decide)
      all_goals exact h
  · exact h.elim
