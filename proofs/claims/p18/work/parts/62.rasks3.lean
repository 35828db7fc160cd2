/-! general: the reference's calls that ask, III -/
theorem dX8_book_0 : decode cX8_book 0 = .ok (.iload_n 1, 1) := by decide +kernel
theorem dX8_book_1 : decode cX8_book 1 = .ok (.i2l, 1) := by decide +kernel
theorem dX8_book_2 : decode cX8_book 2 = .ok (.lconst 0, 1) := by decide +kernel
theorem dX8_book_3 : decode cX8_book 3 = .ok (.ldc2_w 79, 3) := by decide +kernel
theorem dX8_book_6 : decode cX8_book 6 = .ok (.invokestatic 66, 3) := by decide +kernel
theorem dX8_book_9 : decode cX8_book 9 = .ok (.ifCond .eq 28, 3) := by decide +kernel
theorem dX8_book_12 : decode cX8_book 12 = .ok (.iload_n 2, 1) := by decide +kernel
theorem dX8_book_13 : decode cX8_book 13 = .ok (.invokestatic 72, 3) := by decide +kernel
theorem dX8_book_16 : decode cX8_book 16 = .ok (.ifCond .eq 21, 3) := by decide +kernel
theorem dX8_book_19 : decode cX8_book 19 = .ok (.iload_n 3, 1) := by decide +kernel
theorem dX8_book_20 : decode cX8_book 20 = .ok (.invokestatic 72, 3) := by decide +kernel
theorem dX8_book_23 : decode cX8_book 23 = .ok (.ifCond .eq 14, 3) := by decide +kernel
theorem dX8_book_26 : decode cX8_book 26 = .ok (.iload 4, 2) := by decide +kernel
theorem dX8_book_28 : decode cX8_book 28 = .ok (.i2l, 1) := by decide +kernel
theorem dX8_book_29 : decode cX8_book 29 = .ok (.lconst 0, 1) := by decide +kernel
theorem dX8_book_30 : decode cX8_book 30 = .ok (.lconst 1, 1) := by decide +kernel
theorem dX8_book_31 : decode cX8_book 31 = .ok (.invokestatic 66, 3) := by decide +kernel
theorem dX8_book_34 : decode cX8_book 34 = .ok (.ifCond .ne 7, 3) := by decide +kernel
theorem dX8_book_37 : decode cX8_book 37 = .ok (.ldc2_w 237, 3) := by decide +kernel
theorem dX8_book_40 : decode cX8_book 40 = .ok (.lreturn, 1) := by decide +kernel
theorem dX8_book_41 : decode cX8_book 41 = .ok (.lconst 0, 1) := by decide +kernel
theorem dX8_book_42 : decode cX8_book 42 = .ok (.lstore 5, 2) := by decide +kernel
theorem dX8_book_44 : decode cX8_book 44 = .ok (.iconst 0, 1) := by decide +kernel
theorem dX8_book_45 : decode cX8_book 45 = .ok (.istore 7, 2) := by decide +kernel
theorem dX8_book_47 : decode cX8_book 47 = .ok (.iload 7, 2) := by decide +kernel
theorem dX8_book_49 : decode cX8_book 49 = .ok (.aload_n 0, 1) := by decide +kernel
theorem dX8_book_50 : decode cX8_book 50 = .ok (.getfield 7, 3) := by decide +kernel
theorem dX8_book_53 : decode cX8_book 53 = .ok (.iconst 0, 1) := by decide +kernel
theorem dX8_book_54 : decode cX8_book 54 = .ok (.iaload, 1) := by decide +kernel
theorem dX8_book_55 : decode cX8_book 55 = .ok (.if_icmp .ge 77, 3) := by decide +kernel
theorem dX8_book_58 : decode cX8_book 58 = .ok (.aload_n 0, 1) := by decide +kernel
theorem dX8_book_59 : decode cX8_book 59 = .ok (.iload 7, 2) := by decide +kernel
theorem dX8_book_61 : decode cX8_book 61 = .ok (.iload_n 2, 1) := by decide +kernel
theorem dX8_book_62 : decode cX8_book 62 = .ok (.iload_n 3, 1) := by decide +kernel
theorem dX8_book_63 : decode cX8_book 63 = .ok (.invokevirtual 239, 3) := by decide +kernel
theorem dX8_book_66 : decode cX8_book 66 = .ok (.iconst 0, 1) := by decide +kernel
theorem dX8_book_67 : decode cX8_book 67 = .ok (.istore 8, 2) := by decide +kernel
theorem dX8_book_69 : decode cX8_book 69 = .ok (.iload 8, 2) := by decide +kernel
theorem dX8_book_71 : decode cX8_book 71 = .ok (.aload_n 0, 1) := by decide +kernel
theorem dX8_book_72 : decode cX8_book 72 = .ok (.getfield 7, 3) := by decide +kernel
theorem dX8_book_75 : decode cX8_book 75 = .ok (.iconst 1, 1) := by decide +kernel
theorem dX8_book_76 : decode cX8_book 76 = .ok (.iaload, 1) := by decide +kernel
theorem dX8_book_77 : decode cX8_book 77 = .ok (.if_icmp .ge 49, 3) := by decide +kernel
theorem dX8_book_80 : decode cX8_book 80 = .ok (.lload 5, 2) := by decide +kernel
theorem dX8_book_82 : decode cX8_book 82 = .ok (.aload_n 0, 1) := by decide +kernel
theorem dX8_book_83 : decode cX8_book 83 = .ok (.iload 8, 2) := by decide +kernel
theorem dX8_book_85 : decode cX8_book 85 = .ok (.iconst 0, 1) := by decide +kernel
theorem dX8_book_86 : decode cX8_book 86 = .ok (.invokevirtual 202, 3) := by decide +kernel
theorem dX8_book_89 : decode cX8_book 89 = .ok (.iload 7, 2) := by decide +kernel
theorem dX8_book_91 : decode cX8_book 91 = .ok (.if_icmp .ne 25, 3) := by decide +kernel
theorem dX8_book_94 : decode cX8_book 94 = .ok (.aload_n 0, 1) := by decide +kernel
theorem dX8_book_95 : decode cX8_book 95 = .ok (.iload 8, 2) := by decide +kernel
theorem dX8_book_97 : decode cX8_book 97 = .ok (.bipush 6, 2) := by decide +kernel
theorem dX8_book_99 : decode cX8_book 99 = .ok (.invokevirtual 202, 3) := by decide +kernel
theorem dX8_book_102 : decode cX8_book 102 = .ok (.iload_n 1, 1) := by decide +kernel
theorem dX8_book_103 : decode cX8_book 103 = .ok (.if_icmp .ne 13, 3) := by decide +kernel
theorem dX8_book_106 : decode cX8_book 106 = .ok (.aload_n 0, 1) := by decide +kernel
theorem dX8_book_107 : decode cX8_book 107 = .ok (.getfield 39, 3) := by decide +kernel
theorem dX8_book_110 : decode cX8_book 110 = .ok (.iload 8, 2) := by decide +kernel
theorem dX8_book_112 : decode cX8_book 112 = .ok (.laload, 1) := by decide +kernel
theorem dX8_book_113 : decode cX8_book 113 = .ok (.goto 4, 3) := by decide +kernel
theorem dX8_book_116 : decode cX8_book 116 = .ok (.lconst 0, 1) := by decide +kernel
theorem dX8_book_117 : decode cX8_book 117 = .ok (.ladd, 1) := by decide +kernel
theorem dX8_book_118 : decode cX8_book 118 = .ok (.lstore 5, 2) := by decide +kernel
theorem dX8_book_120 : decode cX8_book 120 = .ok (.iinc 8 1, 3) := by decide +kernel
theorem dX8_book_123 : decode cX8_book 123 = .ok (.goto (-54), 3) := by decide +kernel
theorem dX8_book_126 : decode cX8_book 126 = .ok (.iinc 7 1, 3) := by decide +kernel
theorem dX8_book_129 : decode cX8_book 129 = .ok (.goto (-82), 3) := by decide +kernel
theorem dX8_book_132 : decode cX8_book 132 = .ok (.lconst 0, 1) := by decide +kernel
theorem dX8_book_133 : decode cX8_book 133 = .ok (.lstore 7, 2) := by decide +kernel
theorem dX8_book_135 : decode cX8_book 135 = .ok (.sipush 3513, 3) := by decide +kernel
theorem dX8_book_138 : decode cX8_book 138 = .ok (.istore 9, 2) := by decide +kernel
theorem dX8_book_140 : decode cX8_book 140 = .ok (.iload 9, 2) := by decide +kernel
theorem dX8_book_142 : decode cX8_book 142 = .ok (.sipush 3513, 3) := by decide +kernel
theorem dX8_book_145 : decode cX8_book 145 = .ok (.iconst 3, 1) := by decide +kernel
theorem dX8_book_146 : decode cX8_book 146 = .ok (.aload_n 0, 1) := by decide +kernel
theorem dX8_book_147 : decode cX8_book 147 = .ok (.getfield 7, 3) := by decide +kernel
theorem dX8_book_150 : decode cX8_book 150 = .ok (.iconst 4, 1) := by decide +kernel
theorem dX8_book_151 : decode cX8_book 151 = .ok (.iaload, 1) := by decide +kernel
theorem dX8_book_152 : decode cX8_book 152 = .ok (.imul, 1) := by decide +kernel
theorem dX8_book_153 : decode cX8_book 153 = .ok (.iadd, 1) := by decide +kernel
theorem dX8_book_154 : decode cX8_book 154 = .ok (.if_icmp .ge 52, 3) := by decide +kernel
theorem dX8_book_157 : decode cX8_book 157 = .ok (.lload 7, 2) := by decide +kernel
theorem dX8_book_159 : decode cX8_book 159 = .ok (.aload_n 0, 1) := by decide +kernel
theorem dX8_book_160 : decode cX8_book 160 = .ok (.getfield 7, 3) := by decide +kernel
theorem dX8_book_163 : decode cX8_book 163 = .ok (.iload 9, 2) := by decide +kernel
theorem dX8_book_165 : decode cX8_book 165 = .ok (.iaload, 1) := by decide +kernel
theorem dX8_book_166 : decode cX8_book 166 = .ok (.iload_n 1, 1) := by decide +kernel
theorem dX8_book_167 : decode cX8_book 167 = .ok (.if_icmp .ne 29, 3) := by decide +kernel
theorem dX8_book_170 : decode cX8_book 170 = .ok (.aload_n 0, 1) := by decide +kernel
theorem dX8_book_171 : decode cX8_book 171 = .ok (.getfield 7, 3) := by decide +kernel
theorem dX8_book_174 : decode cX8_book 174 = .ok (.iload 9, 2) := by decide +kernel
theorem dX8_book_176 : decode cX8_book 176 = .ok (.iconst 1, 1) := by decide +kernel
theorem dX8_book_177 : decode cX8_book 177 = .ok (.iadd, 1) := by decide +kernel
theorem dX8_book_178 : decode cX8_book 178 = .ok (.iaload, 1) := by decide +kernel
theorem dX8_book_179 : decode cX8_book 179 = .ok (.iload_n 2, 1) := by decide +kernel
theorem dX8_book_180 : decode cX8_book 180 = .ok (.if_icmp .gt 16, 3) := by decide +kernel
theorem dX8_book_183 : decode cX8_book 183 = .ok (.aload_n 0, 1) := by decide +kernel
theorem dX8_book_184 : decode cX8_book 184 = .ok (.getfield 7, 3) := by decide +kernel
theorem dX8_book_187 : decode cX8_book 187 = .ok (.iload 9, 2) := by decide +kernel
theorem dX8_book_189 : decode cX8_book 189 = .ok (.iconst 2, 1) := by decide +kernel
theorem dX8_book_190 : decode cX8_book 190 = .ok (.iadd, 1) := by decide +kernel
theorem dX8_book_191 : decode cX8_book 191 = .ok (.iaload, 1) := by decide +kernel
theorem dX8_book_192 : decode cX8_book 192 = .ok (.i2l, 1) := by decide +kernel
theorem dX8_book_193 : decode cX8_book 193 = .ok (.goto 4, 3) := by decide +kernel
theorem dX8_book_196 : decode cX8_book 196 = .ok (.lconst 0, 1) := by decide +kernel
theorem dX8_book_197 : decode cX8_book 197 = .ok (.ladd, 1) := by decide +kernel
theorem dX8_book_198 : decode cX8_book 198 = .ok (.lstore 7, 2) := by decide +kernel
theorem dX8_book_200 : decode cX8_book 200 = .ok (.iinc 9 3, 3) := by decide +kernel
theorem dX8_book_203 : decode cX8_book 203 = .ok (.goto (-63), 3) := by decide +kernel
theorem dX8_book_206 : decode cX8_book 206 = .ok (.iload 4, 2) := by decide +kernel
theorem dX8_book_208 : decode cX8_book 208 = .ok (.ifCond .ne 8, 3) := by decide +kernel
theorem dX8_book_211 : decode cX8_book 211 = .ok (.lload 5, 2) := by decide +kernel
theorem dX8_book_213 : decode cX8_book 213 = .ok (.goto 20, 3) := by decide +kernel
theorem dX8_book_216 : decode cX8_book 216 = .ok (.lload 7, 2) := by decide +kernel
theorem dX8_book_218 : decode cX8_book 218 = .ok (.lload 5, 2) := by decide +kernel
theorem dX8_book_220 : decode cX8_book 220 = .ok (.lcmp, 1) := by decide +kernel
theorem dX8_book_221 : decode cX8_book 221 = .ok (.ifCond .le 11, 3) := by decide +kernel
theorem dX8_book_224 : decode cX8_book 224 = .ok (.lload 7, 2) := by decide +kernel
theorem dX8_book_226 : decode cX8_book 226 = .ok (.lload 5, 2) := by decide +kernel
theorem dX8_book_228 : decode cX8_book 228 = .ok (.lsub, 1) := by decide +kernel
theorem dX8_book_229 : decode cX8_book 229 = .ok (.goto 4, 3) := by decide +kernel
theorem dX8_book_232 : decode cX8_book 232 = .ok (.lconst 0, 1) := by decide +kernel
theorem dX8_book_233 : decode cX8_book 233 = .ok (.lreturn, 1) := by decide +kernel
def kX8_book (live : am_E) (Ret : am_R) : am_code := [(0, am_iload 1 1), (1, am_i2l 2), (2, am_const (.long 0) 3), (3, am_const (.long 3) 6), (6, am_callS live 3 TX8_in 9), (9, am_if1 (fun x => x = 0) 37 12), (12, am_iload 2 13), (13, am_callS live 1 TX8_isYear 16), (16, am_if1 (fun x => x = 0) 37 19), (19, am_iload 3 20), (20, am_callS live 1 TX8_isYear 23), (23, am_if1 (fun x => x = 0) 37 26), (26, am_iload 4 28), (28, am_i2l 29), (29, am_const (.long 0) 30), (30, am_const (.long 1) 31), (31, am_callS live 3 TX8_in 34), (34, am_if1 (fun x => x = 0) 37 41), (37, am_const (.long (-2)) 40), (40, am_retL Ret), (41, am_const (.long 0) 42), (42, am_lstore 5 10 44), (44, am_const (.int 0) 45), (45, am_istore 7 10 47), (47, am_iload 7 49), (49, am_aload 0 50), (50, am_getR live 8 0 53), (53, am_const (.int 0) 54), (54, am_ald live 0 55), (55, am_if2 (fun x y => y ≤ x) 132 58), (58, am_aload 0 59), (59, am_iload 7 61), (61, am_iload 2 62), (62, am_iload 3 63), (63, am_callV live 8 3 TX8_run 66), (66, am_const (.int 0) 67), (67, am_istore 8 10 69), (69, am_iload 8 71), (71, am_aload 0 72), (72, am_getR live 8 0 75), (75, am_const (.int 1) 76), (76, am_ald live 0 77), (77, am_if2 (fun x y => y ≤ x) 126 80), (80, am_lload 5 82), (82, am_aload 0 83), (83, am_iload 8 85), (85, am_const (.int 0) 86), (86, am_callV live 8 2 TX8_ofLoan 89), (89, am_iload 7 91), (91, am_if2 (fun x y => x = y) 94 116), (94, am_aload 0 95), (95, am_iload 8 97), (97, am_const (.int 6) 99), (99, am_callV live 8 2 TX8_ofLoan 102), (102, am_iload 1 103), (103, am_if2 (fun x y => x = y) 106 116), (106, am_aload 0 107), (107, am_getR live 8 18 110), (110, am_iload 8 112), (112, am_lald live 1 113), (113, am_goto 117), (116, am_const (.long 0) 117), (117, am_l2 (fun x y => x + y) 118), (118, am_lstore 5 10 120), (120, am_iinc 8 10 1 123), (123, am_goto 69), (126, am_iinc 7 10 1 129), (129, am_goto 47), (132, am_const (.long 0) 133), (133, am_lstore 7 10 135), (135, am_const (.int 3513) 138), (138, am_istore 9 10 140), (140, am_iload 9 142), (142, am_const (.int 3513) 145), (145, am_const (.int 3) 146), (146, am_aload 0 147), (147, am_getR live 8 0 150), (150, am_const (.int 4) 151), (151, am_ald live 0 152), (152, am_i2 (fun x y => x * y) 153), (153, am_i2 (fun x y => x + y) 154), (154, am_if2 (fun x y => y ≤ x) 206 157), (157, am_lload 7 159), (159, am_aload 0 160), (160, am_getR live 8 0 163), (163, am_iload 9 165), (165, am_ald live 0 166), (166, am_iload 1 167), (167, am_if2 (fun x y => x = y) 170 196), (170, am_aload 0 171), (171, am_getR live 8 0 174), (174, am_iload 9 176), (176, am_const (.int 1) 177), (177, am_i2 (fun x y => x + y) 178), (178, am_ald live 0 179), (179, am_iload 2 180), (180, am_if2 (fun x y => y < x) 196 183), (183, am_aload 0 184), (184, am_getR live 8 0 187), (187, am_iload 9 189), (189, am_const (.int 2) 190), (190, am_i2 (fun x y => x + y) 191), (191, am_ald live 0 192), (192, am_i2l 193), (193, am_goto 197), (196, am_const (.long 0) 197), (197, am_l2 (fun x y => x + y) 198), (198, am_lstore 7 10 200), (200, am_iinc 9 10 3 203), (203, am_goto 140), (206, am_iload 4 208), (208, am_if1 (fun x => x = 0) 211 216), (211, am_lload 5 213), (213, am_goto 233), (216, am_lload 7 218), (218, am_lload 5 220), (220, am_lcmp 221), (221, am_if1 (fun x => x ≤ 0) 232 224), (224, am_lload 7 226), (226, am_lload 5 228), (228, am_l2 (fun x y => x - y) 229), (229, am_goto 233), (232, am_const (.long 0) 233), (233, am_retL Ret)]
theorem koX8_book (live : am_E) (Ret : am_R) : ∀ q ∈ kX8_book live Ret, am_ok RX8 cX8_book 10 (some .long) 10 253 live Ret q.1 q.2 :=
  am_kc (ak_iload_n dX8_book_0 rfl rfl) <|
  am_kc (ak_i2l dX8_book_1 rfl) <|
  am_kc (ak_lconst dX8_book_2 (by decide +kernel) rfl) <|
  am_kc (ak_ldc2 wd_997 dX8_book_3 rfl) <|
  am_kc (ak_callS metX8_in ⟨rfl, by decide +kernel, by decide +kernel, by decide +kernel⟩ (am_w4 wd_986 wd_987 wd_67 wd_988) (by decide) dX8_book_6 rfl) <|
  am_kc (ak_if_eq dX8_book_9 (by decide +kernel) rfl) <|
  am_kc (ak_iload_n dX8_book_12 rfl rfl) <|
  am_kc (ak_callS metX8_isYear ⟨rfl, by decide +kernel, by decide +kernel, by decide +kernel⟩ (am_w4 wd_982 wd_983 wd_67 wd_984) (by decide) dX8_book_13 rfl) <|
  am_kc (ak_if_eq dX8_book_16 (by decide +kernel) rfl) <|
  am_kc (ak_iload_n dX8_book_19 rfl rfl) <|
  am_kc (ak_callS metX8_isYear ⟨rfl, by decide +kernel, by decide +kernel, by decide +kernel⟩ (am_w4 wd_982 wd_983 wd_67 wd_984) (by decide) dX8_book_20 rfl) <|
  am_kc (ak_if_eq dX8_book_23 (by decide +kernel) rfl) <|
  am_kc (ak_iload dX8_book_26 rfl) <|
  am_kc (ak_i2l dX8_book_28 rfl) <|
  am_kc (ak_lconst dX8_book_29 (by decide +kernel) rfl) <|
  am_kc (ak_lconst dX8_book_30 (by decide +kernel) rfl) <|
  am_kc (ak_callS metX8_in ⟨rfl, by decide +kernel, by decide +kernel, by decide +kernel⟩ (am_w4 wd_986 wd_987 wd_67 wd_988) (by decide) dX8_book_31 rfl) <|
  am_kc (ak_if_ne dX8_book_34 (by decide +kernel) rfl) <|
  am_kc (ak_ldc2 wd_1153 dX8_book_37 rfl) <|
  am_kc (ak_retL dX8_book_40) <|
  am_kc (ak_lconst dX8_book_41 (by decide +kernel) rfl) <|
  am_kc (ak_lstore dX8_book_42 rfl) <|
  am_kc (ak_iconst dX8_book_44 (by decide +kernel) rfl) <|
  am_kc (ak_istore dX8_book_45 rfl) <|
  am_kc (ak_iload dX8_book_47 rfl) <|
  am_kc (ak_aload_n dX8_book_49 rfl rfl) <|
  am_kc (ak_getR (C := RX8) (T := TX8) (N := 27) rfl inX8w (by decide) rfl rfl rfl wd_895 dX8_book_50 rfl) <|
  am_kc (ak_iconst dX8_book_53 (by decide +kernel) rfl) <|
  am_kc (ak_iald (t := 0) (fun _ => rfl) rfl dX8_book_54 rfl) <|
  am_kc (ak_icmp_ge dX8_book_55 (by decide +kernel) rfl) <|
  am_kc (ak_aload_n dX8_book_58 rfl rfl) <|
  am_kc (ak_iload dX8_book_59 rfl) <|
  am_kc (ak_iload_n dX8_book_61 rfl rfl) <|
  am_kc (ak_iload_n dX8_book_62 rfl rfl) <|
  am_kc (ak_callV (C := RX8) (F := TX8) (N := 27) metX8_run rfl ⟨rfl, by decide +kernel, by decide +kernel, by decide +kernel⟩ (am_w5 wd_1158 wd_1160 wd_42 wd_67 wd_1161) (by decide) dX8_book_63 rfl) <|
  am_kc (ak_iconst dX8_book_66 (by decide +kernel) rfl) <|
  am_kc (ak_istore dX8_book_67 rfl) <|
  am_kc (ak_iload dX8_book_69 rfl) <|
  am_kc (ak_aload_n dX8_book_71 rfl rfl) <|
  am_kc (ak_getR (C := RX8) (T := TX8) (N := 27) rfl inX8w (by decide) rfl rfl rfl wd_895 dX8_book_72 rfl) <|
  am_kc (ak_iconst dX8_book_75 (by decide +kernel) rfl) <|
  am_kc (ak_iald (t := 0) (fun _ => rfl) rfl dX8_book_76 rfl) <|
  am_kc (ak_icmp_ge dX8_book_77 (by decide +kernel) rfl) <|
  am_kc (ak_lload dX8_book_80 rfl) <|
  am_kc (ak_aload_n dX8_book_82 rfl rfl) <|
  am_kc (ak_iload dX8_book_83 rfl) <|
  am_kc (ak_iconst dX8_book_85 (by decide +kernel) rfl) <|
  am_kc (ak_callV (C := RX8) (F := TX8) (N := 27) metX8_ofLoan rfl ⟨rfl, by decide +kernel, by decide +kernel, by decide +kernel⟩ (am_w5 wd_1154 wd_1156 wd_41 wd_67 wd_1157) (by decide) dX8_book_86 rfl) <|
  am_kc (ak_iload dX8_book_89 rfl) <|
  am_kc (ak_icmp_ne dX8_book_91 (by decide +kernel) rfl) <|
  am_kc (ak_aload_n dX8_book_94 rfl rfl) <|
  am_kc (ak_iload dX8_book_95 rfl) <|
  am_kc (ak_bipush dX8_book_97 (by decide +kernel) rfl) <|
  am_kc (ak_callV (C := RX8) (F := TX8) (N := 27) metX8_ofLoan rfl ⟨rfl, by decide +kernel, by decide +kernel, by decide +kernel⟩ (am_w5 wd_1154 wd_1156 wd_41 wd_67 wd_1157) (by decide) dX8_book_99 rfl) <|
  am_kc (ak_iload_n dX8_book_102 rfl rfl) <|
  am_kc (ak_icmp_ne dX8_book_103 (by decide +kernel) rfl) <|
  am_kc (ak_aload_n dX8_book_106 rfl rfl) <|
  am_kc (ak_getR (C := RX8) (T := TX8) (N := 27) rfl inX8w (by decide) rfl rfl rfl wd_913 dX8_book_107 rfl) <|
  am_kc (ak_iload dX8_book_110 rfl) <|
  am_kc (ak_lald (t := 1) (fun _ => rfl) rfl dX8_book_112 rfl) <|
  am_kc (ak_goto dX8_book_113 (by decide +kernel)) <|
  am_kc (ak_lconst dX8_book_116 (by decide +kernel) rfl) <|
  am_kc (ak_ladd dX8_book_117 rfl) <|
  am_kc (ak_lstore dX8_book_118 rfl) <|
  am_kc (ak_iinc dX8_book_120 (by decide +kernel) rfl) <|
  am_kc (ak_goto dX8_book_123 (by decide +kernel)) <|
  am_kc (ak_iinc dX8_book_126 (by decide +kernel) rfl) <|
  am_kc (ak_goto dX8_book_129 (by decide +kernel)) <|
  am_kc (ak_lconst dX8_book_132 (by decide +kernel) rfl) <|
  am_kc (ak_lstore dX8_book_133 rfl) <|
  am_kc (ak_sipush dX8_book_135 (by decide +kernel) rfl) <|
  am_kc (ak_istore dX8_book_138 rfl) <|
  am_kc (ak_iload dX8_book_140 rfl) <|
  am_kc (ak_sipush dX8_book_142 (by decide +kernel) rfl) <|
  am_kc (ak_iconst dX8_book_145 (by decide +kernel) rfl) <|
  am_kc (ak_aload_n dX8_book_146 rfl rfl) <|
  am_kc (ak_getR (C := RX8) (T := TX8) (N := 27) rfl inX8w (by decide) rfl rfl rfl wd_895 dX8_book_147 rfl) <|
  am_kc (ak_iconst dX8_book_150 (by decide +kernel) rfl) <|
  am_kc (ak_iald (t := 0) (fun _ => rfl) rfl dX8_book_151 rfl) <|
  am_kc (ak_imul dX8_book_152 rfl) <|
  am_kc (ak_iadd dX8_book_153 rfl) <|
  am_kc (ak_icmp_ge dX8_book_154 (by decide +kernel) rfl) <|
  am_kc (ak_lload dX8_book_157 rfl) <|
  am_kc (ak_aload_n dX8_book_159 rfl rfl) <|
  am_kc (ak_getR (C := RX8) (T := TX8) (N := 27) rfl inX8w (by decide) rfl rfl rfl wd_895 dX8_book_160 rfl) <|
  am_kc (ak_iload dX8_book_163 rfl) <|
  am_kc (ak_iald (t := 0) (fun _ => rfl) rfl dX8_book_165 rfl) <|
  am_kc (ak_iload_n dX8_book_166 rfl rfl) <|
  am_kc (ak_icmp_ne dX8_book_167 (by decide +kernel) rfl) <|
  am_kc (ak_aload_n dX8_book_170 rfl rfl) <|
  am_kc (ak_getR (C := RX8) (T := TX8) (N := 27) rfl inX8w (by decide) rfl rfl rfl wd_895 dX8_book_171 rfl) <|
  am_kc (ak_iload dX8_book_174 rfl) <|
  am_kc (ak_iconst dX8_book_176 (by decide +kernel) rfl) <|
  am_kc (ak_iadd dX8_book_177 rfl) <|
  am_kc (ak_iald (t := 0) (fun _ => rfl) rfl dX8_book_178 rfl) <|
  am_kc (ak_iload_n dX8_book_179 rfl rfl) <|
  am_kc (ak_icmp_gt dX8_book_180 (by decide +kernel) rfl) <|
  am_kc (ak_aload_n dX8_book_183 rfl rfl) <|
  am_kc (ak_getR (C := RX8) (T := TX8) (N := 27) rfl inX8w (by decide) rfl rfl rfl wd_895 dX8_book_184 rfl) <|
  am_kc (ak_iload dX8_book_187 rfl) <|
  am_kc (ak_iconst dX8_book_189 (by decide +kernel) rfl) <|
  am_kc (ak_iadd dX8_book_190 rfl) <|
  am_kc (ak_iald (t := 0) (fun _ => rfl) rfl dX8_book_191 rfl) <|
  am_kc (ak_i2l dX8_book_192 rfl) <|
  am_kc (ak_goto dX8_book_193 (by decide +kernel)) <|
  am_kc (ak_lconst dX8_book_196 (by decide +kernel) rfl) <|
  am_kc (ak_ladd dX8_book_197 rfl) <|
  am_kc (ak_lstore dX8_book_198 rfl) <|
  am_kc (ak_iinc dX8_book_200 (by decide +kernel) rfl) <|
  am_kc (ak_goto dX8_book_203 (by decide +kernel)) <|
  am_kc (ak_iload dX8_book_206 rfl) <|
  am_kc (ak_if_ne dX8_book_208 (by decide +kernel) rfl) <|
  am_kc (ak_lload dX8_book_211 rfl) <|
  am_kc (ak_goto dX8_book_213 (by decide +kernel)) <|
  am_kc (ak_lload dX8_book_216 rfl) <|
  am_kc (ak_lload dX8_book_218 rfl) <|
  am_kc (ak_lcmp dX8_book_220 rfl) <|
  am_kc (ak_if_le dX8_book_221 (by decide +kernel) rfl) <|
  am_kc (ak_lload dX8_book_224 rfl) <|
  am_kc (ak_lload dX8_book_226 rfl) <|
  am_kc (ak_lsub dX8_book_228 rfl) <|
  am_kc (ak_goto dX8_book_229 (by decide +kernel)) <|
  am_kc (ak_lconst dX8_book_232 (by decide +kernel) rfl) <|
  am_kc (ak_retL dX8_book_233) <| am_kn
def TX8_book : am_T := fun live as M R => match as with
  | [.ref n, .int b, .int y, .int k, .int w] => am_mn live ∧ n = 200 ∧ r_I M ∧ ∀ v M', r_sc M M' → r_I M' → R (some (.long v)) M'
  | _ => False
def JX8_book : am_E → List Value → am_M → am_R → am_inv := fun live as M0 _ pc => match as with
  | [.ref n, .int b, .int y, .int k, .int w] => (match pc with
    | 47 => some ([0, 1, 2, 3, 4, 5, 7], fun u L st M => ∃ (v : Int64) (i : Int32), L = [(0, .ref 200), (1, .int b), (2, .int y), (3, .int k), (4, .int w), (5, .long v), (7, .int i)] ∧ st = [] ∧ u = (5000 + (13 - i.toInt).toNat * 2, 0) ∧ 0 ≤ i.toInt ∧ y.toInt ≤ 39 ∧ r_sc M0 M ∧ r_I M)
    | 69 => some ([0, 1, 2, 3, 4, 5, 7, 8], fun u L st M => ∃ (v : Int64) (i l : Int32), L = [(0, .ref 200), (1, .int b), (2, .int y), (3, .int k), (4, .int w), (5, .long v), (7, .int i), (8, .int l)] ∧ st = [] ∧ u = (5000 + ((13 - i.toInt).toNat * 2 - 1), (31 - l.toInt).toNat) ∧ (0 ≤ i.toInt ∧ i.toInt < 12) ∧ 0 ≤ l.toInt ∧ y.toInt ≤ 39 ∧ r_sc M0 M ∧ r_I M)
    | 140 => some ([0, 1, 2, 4, 5, 7, 9], fun u L st M => ∃ (v q : Int64) (a : Int32), L = [(0, .ref 200), (1, .int b), (2, .int y), (4, .int w), (5, .long v), (7, .long q), (9, .int a)] ∧ st = [] ∧ u = ((4000 - a.toInt).toNat, 0) ∧ (3513 ≤ a.toInt ∧ a.toInt ≤ 3580) ∧ r_sc M0 M ∧ r_I M)
    | _ => none)
  | _ => none
set_option maxRecDepth 100000 in
set_option maxHeartbeats 4000000 in
theorem metX8_book : am_Met yX8_book cX8_book 10 (some .long) (10) (253) TX8_book := by
  refine am_met (own := RX8) (by decide +kernel) rfl kX8_book koX8_book 150 JX8_book ?_ ?_
  · intro live as M Ret h
    unfold TX8_book at h
    split at h
    · next n b y k w =>
      refine ⟨Nat.le_of_ble_eq_true rfl, ?_⟩
      change am_wp _ _ _ _ [(0, Value.ref n), (1, Value.int b), (2, Value.int y), (3, Value.int k), (4, Value.int w)] _ _
      obtain ⟨hmn, rfl, hR, h⟩ := h
      have hmn2 := hmn
      obtain ⟨i1, i2, rfl⟩ := hmn2
      have l201 : am_len 201 = 3760 := rfl
      have n0 := hR.n0
      have n1 := hR.n1
      have n030 : 0 ≤ (M.1 201 0).toInt ∧ (M.1 201 0).toInt ≤ 30 := ⟨n0.1, by omega⟩
      by_cases z0 : 0 ≤ b ∧ b ≤ 3
      rotate_left
      · skip
        have q0 : (if (0 : Int64) ≤ b.toInt64 ∧ b.toInt64 ≤ (3 : Int64) then (1 : Int32) else 0) = 0 := if_neg (fun r => z0 (by simp only [i_le, i_lt, j_le, Int32.toInt_toInt64, Int32.reduceToInt, Int64.reduceToInt] at r ⊢; omega))
        repeat' (first | (with_reducible exact hmn) | (with_reducible exact n030) | (with_reducible exact n1) | apply And.intro | exact rfl | (intro hx; with_reducible exact absurd q0 hx) | (intro hx; exact absurd hx (by decide)) | (intro hx; exact absurd (by decide) hx) | decide | intro hx | (refine Exists.intro _ (And.intro rfl ?_)))
        all_goals try first | (with_reducible change am_tI _ _) | (change Ret _ _) | (change Ret _ _ _) | (change Exists _)
        all_goals try dsimp only at *
        all_goals try exact absurd ‹(1000 : Int64) = 0› (by decide)
        all_goals exact h _ _ r_sc.rf hR
      · skip
        have q0 : ¬ ((if (0 : Int64) ≤ b.toInt64 ∧ b.toInt64 ≤ (3 : Int64) then (1 : Int32) else 0) = 0) := by rw [if_pos (by have q := z0; simp only [i_le, i_lt, j_le, Int32.toInt_toInt64, Int32.reduceToInt, Int64.reduceToInt] at q ⊢; omega)]; decide
        by_cases z1 : 0 ≤ y ∧ y < 40
        rotate_left
        · skip
          have q1 : (if 0 ≤ y ∧ y < 40 then (1 : Int32) else 0) = 0 := if_neg z1
          repeat' (first | (with_reducible exact hmn) | (with_reducible exact n030) | (with_reducible exact n1) | apply And.intro | exact rfl | (intro hx; with_reducible exact absurd hx q0) | (intro hx; with_reducible exact absurd q1 hx) | (intro hx; exact absurd hx (by decide)) | (intro hx; exact absurd (by decide) hx) | decide | intro hx | (refine Exists.intro _ (And.intro rfl ?_)))
          all_goals try first | (with_reducible change am_tI _ _) | (change Ret _ _) | (change Ret _ _ _) | (change Exists _)
          all_goals try dsimp only at *
          all_goals try exact absurd ‹(1000 : Int64) = 0› (by decide)
          all_goals exact h _ _ r_sc.rf hR
        · skip
          have q1 : ¬ ((if 0 ≤ y ∧ y < 40 then (1 : Int32) else 0) = 0) := by rw [if_pos z1]; decide
          by_cases z2 : 0 ≤ k ∧ k < 40
          rotate_left
          · skip
            have q2 : (if 0 ≤ k ∧ k < 40 then (1 : Int32) else 0) = 0 := if_neg z2
            repeat' (first | (with_reducible exact hmn) | (with_reducible exact n030) | (with_reducible exact n1) | apply And.intro | exact rfl | (intro hx; with_reducible exact absurd hx q0) | (intro hx; with_reducible exact absurd hx q1) | (intro hx; with_reducible exact absurd q2 hx) | (intro hx; exact absurd hx (by decide)) | (intro hx; exact absurd (by decide) hx) | decide | intro hx | (refine Exists.intro _ (And.intro rfl ?_)))
            all_goals try first | (with_reducible change am_tI _ _) | (change Ret _ _) | (change Ret _ _ _) | (change Exists _)
            all_goals try dsimp only at *
            all_goals try exact absurd ‹(1000 : Int64) = 0› (by decide)
            all_goals exact h _ _ r_sc.rf hR
          · skip
            have q2 : ¬ ((if 0 ≤ k ∧ k < 40 then (1 : Int32) else 0) = 0) := by rw [if_pos z2]; decide
            by_cases z3 : 0 ≤ w ∧ w ≤ 1
            rotate_left
            · skip
              have q3 : (if (0 : Int64) ≤ w.toInt64 ∧ w.toInt64 ≤ (1 : Int64) then (1 : Int32) else 0) = 0 := if_neg (fun r => z3 (by simp only [i_le, i_lt, j_le, Int32.toInt_toInt64, Int32.reduceToInt, Int64.reduceToInt] at r ⊢; omega))
              repeat' (first | (with_reducible exact hmn) | (with_reducible exact n030) | (with_reducible exact n1) | apply And.intro | exact rfl | (intro hx; with_reducible exact absurd hx q0) | (intro hx; with_reducible exact absurd hx q1) | (intro hx; with_reducible exact absurd hx q2) | (intro hx; with_reducible exact absurd q3 hx) | (intro hx; exact absurd hx (by decide)) | (intro hx; exact absurd (by decide) hx) | decide | intro hx | (refine Exists.intro _ (And.intro rfl ?_)))
              all_goals try first | (with_reducible change am_tI _ _) | (change Ret _ _) | (change Ret _ _ _) | (change Exists _)
              all_goals try dsimp only at *
              all_goals try exact absurd ‹(1000 : Int64) = 0› (by decide)
              all_goals exact h _ _ r_sc.rf hR
            · skip
              have q3 : ¬ ((if (0 : Int64) ≤ w.toInt64 ∧ w.toInt64 ≤ (1 : Int64) then (1 : Int32) else 0) = 0) := by rw [if_pos (by have q := z3; simp only [i_le, i_lt, j_le, Int32.toInt_toInt64, Int32.reduceToInt, Int64.reduceToInt] at q ⊢; omega)]; decide
              have hy : am_in y 40 := ⟨by have q := z1.1; simp only [i_le, Int32.reduceToInt] at q; omega, by have q := z1.2; simp only [i_lt, Int32.reduceToInt] at q; omega⟩
              have y39 : y.toInt ≤ 39 := by have q := hy.2; omega
              repeat' (first | (with_reducible exact hmn) | (with_reducible exact hR) | (with_reducible exact n030) | (with_reducible exact n1) | apply And.intro | exact rfl | (intro hx; with_reducible exact absurd hx q0) | (intro hx; with_reducible exact absurd hx q1) | (intro hx; with_reducible exact absurd hx q2) | (intro hx; with_reducible exact absurd hx q3) | ((with_reducible change r_I _); (with_reducible assumption)) | (intro hx; exact absurd hx (by decide)) | (intro hx; exact absurd (by decide) hx) | decide | intro hx | (refine Exists.intro _ (And.intro rfl ?_)))
              all_goals try first | (with_reducible change am_tI _ _) | (change Ret _ _) | (change Ret _ _ _) | (change Exists _)
              all_goals try dsimp only at *
              all_goals try exact absurd ‹(1000 : Int64) = 0› (by decide)
              all_goals first | exact ⟨_, _, _, rfl, rfl, rfl, by decide, y39, r_sc.rf, hR⟩ | (change r_I _; (repeat' (first | (with_reducible assumption) | ((with_reducible change r_I (am_wJ _ _ _ _)); refine r_I.wJ ?_) | ((with_reducible change r_I (am_wI _ _ _ _)); refine r_I.wI ?_ rfl)))) | ((with_reducible change Ret _ _); exact h _ _ (by (repeat' (first | (with_reducible exact r_sc.rf) | (with_reducible assumption) | ((with_reducible change r_sc _ (am_wI _ _ _ _)); refine r_sc.wI ?_ rfl) | ((with_reducible change r_sc _ (am_wJ _ _ _ _)); refine r_sc.wJ ?_ rfl) | (refine r_sc.tr ?_ (by with_reducible assumption))))) (by (repeat' (first | (with_reducible assumption) | ((with_reducible change r_I (am_wJ _ _ _ _)); refine r_I.wJ ?_) | ((with_reducible change r_I (am_wI _ _ _ _)); refine r_I.wI ?_ rfl))))) | skip
    · exact h.elim
  · intro live as M0 Ret h k pc I hI L st M hi
    unfold TX8_book at h
    split at h
    · next n b y k w =>
      obtain ⟨hmn, rfl, hR, h⟩ := h
      have hmn2 := hmn
      obtain ⟨i1, i2, rfl⟩ := hmn2
      have l201 : am_len 201 = 3760 := rfl
      have w0 : 0 ≤ (0 : Int32).toInt ∧ (0 : Int32).toInt ≤ 7 := ⟨by decide, by decide⟩
      have w6 : 0 ≤ (6 : Int32).toInt ∧ (6 : Int32).toInt ≤ 7 := ⟨by decide, by decide⟩
      have x0l : (0 : Int32).toInt < (am_len 201 : Int) := by rw [l201]; decide
      have x1l : (1 : Int32).toInt < (am_len 201 : Int) := by rw [l201]; decide
      have x2l : (2 : Int32).toInt < (am_len 201 : Int) := by rw [l201]; decide
      have x3l : (3 : Int32).toInt < (am_len 201 : Int) := by rw [l201]; decide
      have x4l : (4 : Int32).toInt < (am_len 201 : Int) := by rw [l201]; decide
      change (match pc with | 47 => _ | 69 => _ | 140 => _ | _ => none) = _ at hI
      split at hI
      · cases hI
        obtain ⟨v, i, rfl, rfl, rfl, e1, y39, e2, e3⟩ := hi
        have n0 : 0 ≤ (M.1 201 (Int32.toNatClampNeg 0)).toInt ∧ (M.1 201 (Int32.toNatClampNeg 0)).toInt ≤ 12 := e3.n0
        by_cases hz : M.1 201 (Int32.toNatClampNeg 0) ≤ i
        · skip
          repeat' (first | (with_reducible exact x0l) | apply And.intro | exact rfl | (intro hx; with_reducible exact absurd hz hx) | (intro hx; exact absurd hx (by decide)) | (intro hx; exact absurd (by decide) hx) | decide | intro hx | (refine Exists.intro _ (And.intro rfl ?_)))
          all_goals try first | (with_reducible change am_tI _ _) | (change Ret _ _) | (change Ret _ _ _) | (change Exists _)
          all_goals try dsimp only at *
          all_goals try exact absurd ‹(1000 : Int64) = 0› (by decide)
          all_goals exact ⟨_, am_lt_l (by simp only [Int32.reduceToInt]; omega), _, _, _, rfl, rfl, rfl, ⟨by decide, by decide⟩, e2, e3⟩
        · have hz2 := hz
          simp only [i_le] at hz2
          have hp : am_in i 12 := ⟨e1, by omega⟩
          repeat' (first | (with_reducible exact x0l) | (with_reducible exact hmn) | (with_reducible exact hp) | (with_reducible exact y39) | (with_reducible exact e3) | apply And.intro | exact rfl | (intro hx; with_reducible exact absurd hx hz) | ((with_reducible change r_I _); (with_reducible assumption)) | (intro hx; exact absurd hx (by decide)) | (intro hx; exact absurd (by decide) hx) | decide | intro hx | (refine Exists.intro _ (And.intro rfl ?_)))
          all_goals try first | (with_reducible change am_tI _ _) | (change Ret _ _) | (change Ret _ _ _) | (change Exists _)
          all_goals try dsimp only at *
          all_goals try exact absurd ‹(1000 : Int64) = 0› (by decide)
          all_goals exact ⟨_, am_lt_l (by omega), _, _, _, rfl, rfl, rfl, ⟨e1, by omega⟩, by decide, y39, by (repeat' (first | (with_reducible exact r_sc.rf) | (with_reducible assumption) | ((with_reducible change r_sc _ (am_wI _ _ _ _)); refine r_sc.wI ?_ rfl) | ((with_reducible change r_sc _ (am_wJ _ _ _ _)); refine r_sc.wJ ?_ rfl) | (refine r_sc.tr ?_ (by with_reducible assumption)))), by (repeat' (first | (with_reducible assumption) | ((with_reducible change r_I (am_wJ _ _ _ _)); refine r_I.wJ ?_) | ((with_reducible change r_I (am_wI _ _ _ _)); refine r_I.wI ?_ rfl)))⟩
      · cases hI
        obtain ⟨v, i, l, rfl, rfl, rfl, ⟨e1, e4⟩, e5, y39, e2, e3⟩ := hi
        have hi := i_inc (x := i) (by omega) (by omega)
        have n1 : 0 ≤ (M.1 201 (Int32.toNatClampNeg 1)).toInt ∧ (M.1 201 (Int32.toNatClampNeg 1)).toInt ≤ 30 := e3.n1
        by_cases hz : M.1 201 (Int32.toNatClampNeg 1) ≤ l
        · skip
          repeat' (first | (with_reducible exact x1l) | apply And.intro | exact rfl | (intro hx; with_reducible exact absurd hz hx) | (intro hx; exact absurd hx (by decide)) | (intro hx; exact absurd (by decide) hx) | decide | intro hx | (refine Exists.intro _ (And.intro rfl ?_)))
          all_goals try first | (with_reducible change am_tI _ _) | (change Ret _ _) | (change Ret _ _ _) | (change Exists _)
          all_goals try dsimp only at *
          all_goals try exact absurd ‹(1000 : Int64) = 0› (by decide)
          all_goals exact ⟨_, am_lt_l (by omega), _, _, rfl, rfl, rfl, by omega, y39, e2, e3⟩
        · have hz2 := hz
          simp only [i_le] at hz2
          have hl : am_in l 30 := ⟨e5, by omega⟩
          have hli := i_inc (x := l) (by omega) (by omega)
          have x2 : l.toInt < ((30 : Nat) : Int) := by omega
          repeat' (first | (with_reducible exact x1l) | (with_reducible exact hmn) | (with_reducible exact hl) | (with_reducible exact w0) | (with_reducible exact w6) | (with_reducible exact e5) | apply And.intro | exact rfl | (intro hx; with_reducible exact absurd hx hz) | (intro hx; exact absurd hx (by decide)) | (intro hx; exact absurd (by decide) hx) | decide | intro hx | (refine Exists.intro _ (And.intro rfl ?_)))
          all_goals try first | (with_reducible change am_tI _ _) | (change Ret _ _) | (change Ret _ _ _) | (change Exists _)
          all_goals try dsimp only at *
          all_goals try exact absurd ‹(1000 : Int64) = 0› (by decide)
          all_goals first
            | exact x2
            | exact ⟨_, am_lt_r (by omega), _, _, _, rfl, rfl, rfl, ⟨e1, e4⟩, by omega, y39, e2, e3⟩
      · cases hI
        obtain ⟨v, q, a, rfl, rfl, rfl, ⟨e1, e4⟩, e2, e3⟩ := hi
        have n4 : 0 ≤ (M.1 201 (Int32.toNatClampNeg 4)).toInt ∧ (M.1 201 (Int32.toNatClampNeg 4)).toInt ≤ 20 := e3.n4
        have em := r_mul (c := 3) (x := M.1 201 (Int32.toNatClampNeg 4)) ⟨by decide, by decide⟩ ⟨n4.1, by omega⟩
        simp only [Int32.reduceToInt] at em
        have eo := r_off (c := 3513) (x := 3 * M.1 201 (Int32.toNatClampNeg 4)) ⟨by decide, by decide⟩ ⟨by omega, by omega⟩
        simp only [em, Int32.reduceToInt] at eo
        by_cases hz : 3513 + 3 * M.1 201 (Int32.toNatClampNeg 4) ≤ a
        · skip
          repeat' (first | (with_reducible exact x4l) | apply And.intro | exact rfl | (intro hx; with_reducible exact absurd hz hx) | (intro hx; exact absurd hx (by decide)) | (intro hx; exact absurd (by decide) hx) | decide | intro hx | (refine Exists.intro _ (And.intro rfl ?_)))
          all_goals try first | (with_reducible change am_tI _ _) | (change Ret _ _) | (change Ret _ _ _) | (change Exists _)
          all_goals try dsimp only at *
          all_goals try exact absurd ‹(1000 : Int64) = 0› (by decide)
          all_goals exact h _ _ e2 e3
        · have hz2 := hz
          simp only [i_le] at hz2
          have a1 := r_off (c := a) (x := 1) ⟨by omega, by omega⟩ ⟨by decide, by decide⟩
          have a2 := r_off (c := a) (x := 2) ⟨by omega, by omega⟩ ⟨by decide, by decide⟩
          have a3 := r_off (c := a) (x := 3) ⟨by omega, by omega⟩ ⟨by decide, by decide⟩
          simp only [Int32.reduceToInt] at a1 a2 a3
          repeat' (first | (with_reducible exact x4l) | apply And.intro | exact rfl | (intro hx; with_reducible exact absurd hx hz) | (intro hx; exact absurd hx (by decide)) | (intro hx; exact absurd (by decide) hx) | decide | intro hx | (refine Exists.intro _ (And.intro rfl ?_)))
          all_goals try first | (with_reducible change am_tI _ _) | (change Ret _ _) | (change Ret _ _ _) | (change Exists _)
          all_goals try dsimp only at *
          all_goals try exact absurd ‹(1000 : Int64) = 0› (by decide)
          all_goals first
            | omega
            | (rw [l201]; omega)
            | exact ⟨_, am_lt_l (by omega), _, _, _, rfl, rfl, rfl, ⟨by omega, by omega⟩, e2, e3⟩
      · cases hI
    · exact h.elim
set_option maxRecDepth 100000 in
theorem wd_1305 : Cond.constantLong "LearnLoansModel" 287 347 ∈ am_ws := am_wsi (List.mem_of_getElem? (i := 1305) (by rfl)) (by decide +kernel)
set_option maxRecDepth 100000 in
theorem wd_1306 : Cond.constantLong "LearnLoansModel" 289 31 ∈ am_ws := am_wsi (List.mem_of_getElem? (i := 1306) (by rfl)) (by decide +kernel)
theorem dX8_digest_0 : decode cX8_digest 0 = .ok (.ldc2_w 287, 3) := by decide +kernel
theorem dX8_digest_3 : decode cX8_digest 3 = .ok (.lstore_n 1, 1) := by decide +kernel
theorem dX8_digest_4 : decode cX8_digest 4 = .ok (.iconst 0, 1) := by decide +kernel
theorem dX8_digest_5 : decode cX8_digest 5 = .ok (.istore_n 3, 1) := by decide +kernel
theorem dX8_digest_6 : decode cX8_digest 6 = .ok (.iload_n 3, 1) := by decide +kernel
theorem dX8_digest_7 : decode cX8_digest 7 = .ok (.bipush 6, 2) := by decide +kernel
theorem dX8_digest_9 : decode cX8_digest 9 = .ok (.if_icmp .ge 23, 3) := by decide +kernel
theorem dX8_digest_12 : decode cX8_digest 12 = .ok (.ldc2_w 289, 3) := by decide +kernel
theorem dX8_digest_15 : decode cX8_digest 15 = .ok (.lload_n 1, 1) := by decide +kernel
theorem dX8_digest_16 : decode cX8_digest 16 = .ok (.lmul, 1) := by decide +kernel
theorem dX8_digest_17 : decode cX8_digest 17 = .ok (.aload_n 0, 1) := by decide +kernel
theorem dX8_digest_18 : decode cX8_digest 18 = .ok (.getfield 7, 3) := by decide +kernel
theorem dX8_digest_21 : decode cX8_digest 21 = .ok (.iload_n 3, 1) := by decide +kernel
theorem dX8_digest_22 : decode cX8_digest 22 = .ok (.iaload, 1) := by decide +kernel
theorem dX8_digest_23 : decode cX8_digest 23 = .ok (.i2l, 1) := by decide +kernel
theorem dX8_digest_24 : decode cX8_digest 24 = .ok (.ladd, 1) := by decide +kernel
theorem dX8_digest_25 : decode cX8_digest 25 = .ok (.lstore_n 1, 1) := by decide +kernel
theorem dX8_digest_26 : decode cX8_digest 26 = .ok (.iinc 3 1, 3) := by decide +kernel
theorem dX8_digest_29 : decode cX8_digest 29 = .ok (.goto (-23), 3) := by decide +kernel
theorem dX8_digest_32 : decode cX8_digest 32 = .ok (.iconst 0, 1) := by decide +kernel
theorem dX8_digest_33 : decode cX8_digest 33 = .ok (.istore_n 3, 1) := by decide +kernel
theorem dX8_digest_34 : decode cX8_digest 34 = .ok (.iload_n 3, 1) := by decide +kernel
theorem dX8_digest_35 : decode cX8_digest 35 = .ok (.aload_n 0, 1) := by decide +kernel
theorem dX8_digest_36 : decode cX8_digest 36 = .ok (.getfield 7, 3) := by decide +kernel
theorem dX8_digest_39 : decode cX8_digest 39 = .ok (.iconst 0, 1) := by decide +kernel
theorem dX8_digest_40 : decode cX8_digest 40 = .ok (.iaload, 1) := by decide +kernel
theorem dX8_digest_41 : decode cX8_digest 41 = .ok (.if_icmp .ge 82, 3) := by decide +kernel
theorem dX8_digest_44 : decode cX8_digest 44 = .ok (.ldc2_w 289, 3) := by decide +kernel
theorem dX8_digest_47 : decode cX8_digest 47 = .ok (.lload_n 1, 1) := by decide +kernel
theorem dX8_digest_48 : decode cX8_digest 48 = .ok (.lmul, 1) := by decide +kernel
theorem dX8_digest_49 : decode cX8_digest 49 = .ok (.aload_n 0, 1) := by decide +kernel
theorem dX8_digest_50 : decode cX8_digest 50 = .ok (.getfield 7, 3) := by decide +kernel
theorem dX8_digest_53 : decode cX8_digest 53 = .ok (.bipush 10, 2) := by decide +kernel
theorem dX8_digest_55 : decode cX8_digest 55 = .ok (.iload_n 3, 1) := by decide +kernel
theorem dX8_digest_56 : decode cX8_digest 56 = .ok (.iadd, 1) := by decide +kernel
theorem dX8_digest_57 : decode cX8_digest 57 = .ok (.iaload, 1) := by decide +kernel
theorem dX8_digest_58 : decode cX8_digest 58 = .ok (.i2l, 1) := by decide +kernel
theorem dX8_digest_59 : decode cX8_digest 59 = .ok (.ladd, 1) := by decide +kernel
theorem dX8_digest_60 : decode cX8_digest 60 = .ok (.lstore_n 1, 1) := by decide +kernel
theorem dX8_digest_61 : decode cX8_digest 61 = .ok (.ldc2_w 289, 3) := by decide +kernel
theorem dX8_digest_64 : decode cX8_digest 64 = .ok (.lload_n 1, 1) := by decide +kernel
theorem dX8_digest_65 : decode cX8_digest 65 = .ok (.lmul, 1) := by decide +kernel
theorem dX8_digest_66 : decode cX8_digest 66 = .ok (.aload_n 0, 1) := by decide +kernel
theorem dX8_digest_67 : decode cX8_digest 67 = .ok (.getfield 7, 3) := by decide +kernel
theorem dX8_digest_70 : decode cX8_digest 70 = .ok (.bipush 22, 2) := by decide +kernel
theorem dX8_digest_72 : decode cX8_digest 72 = .ok (.iload_n 3, 1) := by decide +kernel
theorem dX8_digest_73 : decode cX8_digest 73 = .ok (.iadd, 1) := by decide +kernel
theorem dX8_digest_74 : decode cX8_digest 74 = .ok (.iaload, 1) := by decide +kernel
theorem dX8_digest_75 : decode cX8_digest 75 = .ok (.i2l, 1) := by decide +kernel
theorem dX8_digest_76 : decode cX8_digest 76 = .ok (.ladd, 1) := by decide +kernel
theorem dX8_digest_77 : decode cX8_digest 77 = .ok (.lstore_n 1, 1) := by decide +kernel
theorem dX8_digest_78 : decode cX8_digest 78 = .ok (.iconst 0, 1) := by decide +kernel
theorem dX8_digest_79 : decode cX8_digest 79 = .ok (.istore 4, 2) := by decide +kernel
theorem dX8_digest_81 : decode cX8_digest 81 = .ok (.iload 4, 2) := by decide +kernel
theorem dX8_digest_83 : decode cX8_digest 83 = .ok (.bipush 40, 2) := by decide +kernel
theorem dX8_digest_85 : decode cX8_digest 85 = .ok (.if_icmp .ge 32, 3) := by decide +kernel
theorem dX8_digest_88 : decode cX8_digest 88 = .ok (.ldc2_w 289, 3) := by decide +kernel
theorem dX8_digest_91 : decode cX8_digest 91 = .ok (.lload_n 1, 1) := by decide +kernel
theorem dX8_digest_92 : decode cX8_digest 92 = .ok (.lmul, 1) := by decide +kernel
theorem dX8_digest_93 : decode cX8_digest 93 = .ok (.aload_n 0, 1) := by decide +kernel
theorem dX8_digest_94 : decode cX8_digest 94 = .ok (.getfield 7, 3) := by decide +kernel
theorem dX8_digest_97 : decode cX8_digest 97 = .ok (.bipush 34, 2) := by decide +kernel
theorem dX8_digest_99 : decode cX8_digest 99 = .ok (.bipush 40, 2) := by decide +kernel
theorem dX8_digest_101 : decode cX8_digest 101 = .ok (.iload_n 3, 1) := by decide +kernel
theorem dX8_digest_102 : decode cX8_digest 102 = .ok (.imul, 1) := by decide +kernel
theorem dX8_digest_103 : decode cX8_digest 103 = .ok (.iadd, 1) := by decide +kernel
theorem dX8_digest_104 : decode cX8_digest 104 = .ok (.iload 4, 2) := by decide +kernel
theorem dX8_digest_106 : decode cX8_digest 106 = .ok (.iadd, 1) := by decide +kernel
theorem dX8_digest_107 : decode cX8_digest 107 = .ok (.iaload, 1) := by decide +kernel
theorem dX8_digest_108 : decode cX8_digest 108 = .ok (.i2l, 1) := by decide +kernel
theorem dX8_digest_109 : decode cX8_digest 109 = .ok (.ladd, 1) := by decide +kernel
theorem dX8_digest_110 : decode cX8_digest 110 = .ok (.lstore_n 1, 1) := by decide +kernel
theorem dX8_digest_111 : decode cX8_digest 111 = .ok (.iinc 4 1, 3) := by decide +kernel
theorem dX8_digest_114 : decode cX8_digest 114 = .ok (.goto (-33), 3) := by decide +kernel
theorem dX8_digest_117 : decode cX8_digest 117 = .ok (.iinc 3 1, 3) := by decide +kernel
theorem dX8_digest_120 : decode cX8_digest 120 = .ok (.goto (-86), 3) := by decide +kernel
theorem dX8_digest_123 : decode cX8_digest 123 = .ok (.iconst 0, 1) := by decide +kernel
theorem dX8_digest_124 : decode cX8_digest 124 = .ok (.istore_n 3, 1) := by decide +kernel
theorem dX8_digest_125 : decode cX8_digest 125 = .ok (.iload_n 3, 1) := by decide +kernel
theorem dX8_digest_126 : decode cX8_digest 126 = .ok (.bipush 8, 2) := by decide +kernel
theorem dX8_digest_128 : decode cX8_digest 128 = .ok (.aload_n 0, 1) := by decide +kernel
theorem dX8_digest_129 : decode cX8_digest 129 = .ok (.getfield 7, 3) := by decide +kernel
theorem dX8_digest_132 : decode cX8_digest 132 = .ok (.iconst 1, 1) := by decide +kernel
theorem dX8_digest_133 : decode cX8_digest 133 = .ok (.iaload, 1) := by decide +kernel
theorem dX8_digest_134 : decode cX8_digest 134 = .ok (.imul, 1) := by decide +kernel
theorem dX8_digest_135 : decode cX8_digest 135 = .ok (.if_icmp .ge 27, 3) := by decide +kernel
theorem dX8_digest_138 : decode cX8_digest 138 = .ok (.ldc2_w 289, 3) := by decide +kernel
theorem dX8_digest_141 : decode cX8_digest 141 = .ok (.lload_n 1, 1) := by decide +kernel
theorem dX8_digest_142 : decode cX8_digest 142 = .ok (.lmul, 1) := by decide +kernel
theorem dX8_digest_143 : decode cX8_digest 143 = .ok (.aload_n 0, 1) := by decide +kernel
theorem dX8_digest_144 : decode cX8_digest 144 = .ok (.getfield 7, 3) := by decide +kernel
theorem dX8_digest_147 : decode cX8_digest 147 = .ok (.sipush 2838, 3) := by decide +kernel
theorem dX8_digest_150 : decode cX8_digest 150 = .ok (.iload_n 3, 1) := by decide +kernel
theorem dX8_digest_151 : decode cX8_digest 151 = .ok (.iadd, 1) := by decide +kernel
theorem dX8_digest_152 : decode cX8_digest 152 = .ok (.iaload, 1) := by decide +kernel
theorem dX8_digest_153 : decode cX8_digest 153 = .ok (.i2l, 1) := by decide +kernel
theorem dX8_digest_154 : decode cX8_digest 154 = .ok (.ladd, 1) := by decide +kernel
theorem dX8_digest_155 : decode cX8_digest 155 = .ok (.lstore_n 1, 1) := by decide +kernel
theorem dX8_digest_156 : decode cX8_digest 156 = .ok (.iinc 3 1, 3) := by decide +kernel
theorem dX8_digest_159 : decode cX8_digest 159 = .ok (.goto (-34), 3) := by decide +kernel
theorem dX8_digest_162 : decode cX8_digest 162 = .ok (.iconst 0, 1) := by decide +kernel
theorem dX8_digest_163 : decode cX8_digest 163 = .ok (.istore_n 3, 1) := by decide +kernel
theorem dX8_digest_164 : decode cX8_digest 164 = .ok (.iload_n 3, 1) := by decide +kernel
theorem dX8_digest_165 : decode cX8_digest 165 = .ok (.bipush 6, 2) := by decide +kernel
theorem dX8_digest_167 : decode cX8_digest 167 = .ok (.aload_n 0, 1) := by decide +kernel
theorem dX8_digest_168 : decode cX8_digest 168 = .ok (.getfield 7, 3) := by decide +kernel
theorem dX8_digest_171 : decode cX8_digest 171 = .ok (.iconst 2, 1) := by decide +kernel
theorem dX8_digest_172 : decode cX8_digest 172 = .ok (.iaload, 1) := by decide +kernel
theorem dX8_digest_173 : decode cX8_digest 173 = .ok (.imul, 1) := by decide +kernel
theorem dX8_digest_174 : decode cX8_digest 174 = .ok (.if_icmp .ge 27, 3) := by decide +kernel
theorem dX8_digest_177 : decode cX8_digest 177 = .ok (.ldc2_w 289, 3) := by decide +kernel
theorem dX8_digest_180 : decode cX8_digest 180 = .ok (.lload_n 1, 1) := by decide +kernel
theorem dX8_digest_181 : decode cX8_digest 181 = .ok (.lmul, 1) := by decide +kernel
theorem dX8_digest_182 : decode cX8_digest 182 = .ok (.aload_n 0, 1) := by decide +kernel
theorem dX8_digest_183 : decode cX8_digest 183 = .ok (.getfield 7, 3) := by decide +kernel
theorem dX8_digest_186 : decode cX8_digest 186 = .ok (.sipush 2478, 3) := by decide +kernel
theorem dX8_digest_189 : decode cX8_digest 189 = .ok (.iload_n 3, 1) := by decide +kernel
theorem dX8_digest_190 : decode cX8_digest 190 = .ok (.iadd, 1) := by decide +kernel
theorem dX8_digest_191 : decode cX8_digest 191 = .ok (.iaload, 1) := by decide +kernel
theorem dX8_digest_192 : decode cX8_digest 192 = .ok (.i2l, 1) := by decide +kernel
theorem dX8_digest_193 : decode cX8_digest 193 = .ok (.ladd, 1) := by decide +kernel
theorem dX8_digest_194 : decode cX8_digest 194 = .ok (.lstore_n 1, 1) := by decide +kernel
theorem dX8_digest_195 : decode cX8_digest 195 = .ok (.iinc 3 1, 3) := by decide +kernel
theorem dX8_digest_198 : decode cX8_digest 198 = .ok (.goto (-34), 3) := by decide +kernel
theorem dX8_digest_201 : decode cX8_digest 201 = .ok (.iconst 0, 1) := by decide +kernel
theorem dX8_digest_202 : decode cX8_digest 202 = .ok (.istore_n 3, 1) := by decide +kernel
theorem dX8_digest_203 : decode cX8_digest 203 = .ok (.iload_n 3, 1) := by decide +kernel
theorem dX8_digest_204 : decode cX8_digest 204 = .ok (.iconst 3, 1) := by decide +kernel
theorem dX8_digest_205 : decode cX8_digest 205 = .ok (.aload_n 0, 1) := by decide +kernel
theorem dX8_digest_206 : decode cX8_digest 206 = .ok (.getfield 7, 3) := by decide +kernel
theorem dX8_digest_209 : decode cX8_digest 209 = .ok (.iconst 3, 1) := by decide +kernel
theorem dX8_digest_210 : decode cX8_digest 210 = .ok (.iaload, 1) := by decide +kernel
theorem dX8_digest_211 : decode cX8_digest 211 = .ok (.imul, 1) := by decide +kernel
theorem dX8_digest_212 : decode cX8_digest 212 = .ok (.if_icmp .ge 27, 3) := by decide +kernel
theorem dX8_digest_215 : decode cX8_digest 215 = .ok (.ldc2_w 289, 3) := by decide +kernel
theorem dX8_digest_218 : decode cX8_digest 218 = .ok (.lload_n 1, 1) := by decide +kernel
theorem dX8_digest_219 : decode cX8_digest 219 = .ok (.lmul, 1) := by decide +kernel
theorem dX8_digest_220 : decode cX8_digest 220 = .ok (.aload_n 0, 1) := by decide +kernel
theorem dX8_digest_221 : decode cX8_digest 221 = .ok (.getfield 7, 3) := by decide +kernel
theorem dX8_digest_224 : decode cX8_digest 224 = .ok (.sipush 3078, 3) := by decide +kernel
theorem dX8_digest_227 : decode cX8_digest 227 = .ok (.iload_n 3, 1) := by decide +kernel
theorem dX8_digest_228 : decode cX8_digest 228 = .ok (.iadd, 1) := by decide +kernel
theorem dX8_digest_229 : decode cX8_digest 229 = .ok (.iaload, 1) := by decide +kernel
theorem dX8_digest_230 : decode cX8_digest 230 = .ok (.i2l, 1) := by decide +kernel
theorem dX8_digest_231 : decode cX8_digest 231 = .ok (.ladd, 1) := by decide +kernel
theorem dX8_digest_232 : decode cX8_digest 232 = .ok (.lstore_n 1, 1) := by decide +kernel
theorem dX8_digest_233 : decode cX8_digest 233 = .ok (.iinc 3 1, 3) := by decide +kernel
theorem dX8_digest_236 : decode cX8_digest 236 = .ok (.goto (-33), 3) := by decide +kernel
theorem dX8_digest_239 : decode cX8_digest 239 = .ok (.iconst 0, 1) := by decide +kernel
theorem dX8_digest_240 : decode cX8_digest 240 = .ok (.istore_n 3, 1) := by decide +kernel
theorem dX8_digest_241 : decode cX8_digest 241 = .ok (.iload_n 3, 1) := by decide +kernel
theorem dX8_digest_242 : decode cX8_digest 242 = .ok (.iconst 5, 1) := by decide +kernel
theorem dX8_digest_243 : decode cX8_digest 243 = .ok (.if_icmp .ge 75, 3) := by decide +kernel
theorem dX8_digest_246 : decode cX8_digest 246 = .ok (.ldc2_w 289, 3) := by decide +kernel
theorem dX8_digest_249 : decode cX8_digest 249 = .ok (.lload_n 1, 1) := by decide +kernel
theorem dX8_digest_250 : decode cX8_digest 250 = .ok (.lmul, 1) := by decide +kernel
theorem dX8_digest_251 : decode cX8_digest 251 = .ok (.aload_n 0, 1) := by decide +kernel
theorem dX8_digest_252 : decode cX8_digest 252 = .ok (.getfield 7, 3) := by decide +kernel
theorem dX8_digest_255 : decode cX8_digest 255 = .ok (.sipush 3508, 3) := by decide +kernel
theorem dX8_digest_258 : decode cX8_digest 258 = .ok (.iload_n 3, 1) := by decide +kernel
theorem dX8_digest_259 : decode cX8_digest 259 = .ok (.iadd, 1) := by decide +kernel
theorem dX8_digest_260 : decode cX8_digest 260 = .ok (.iaload, 1) := by decide +kernel
theorem dX8_digest_261 : decode cX8_digest 261 = .ok (.i2l, 1) := by decide +kernel
theorem dX8_digest_262 : decode cX8_digest 262 = .ok (.ladd, 1) := by decide +kernel
theorem dX8_digest_263 : decode cX8_digest 263 = .ok (.lstore_n 1, 1) := by decide +kernel
theorem dX8_digest_264 : decode cX8_digest 264 = .ok (.iconst 0, 1) := by decide +kernel
theorem dX8_digest_265 : decode cX8_digest 265 = .ok (.istore 4, 2) := by decide +kernel
theorem dX8_digest_267 : decode cX8_digest 267 = .ok (.iload 4, 2) := by decide +kernel
theorem dX8_digest_269 : decode cX8_digest 269 = .ok (.aload_n 0, 1) := by decide +kernel
theorem dX8_digest_270 : decode cX8_digest 270 = .ok (.getfield 7, 3) := by decide +kernel
theorem dX8_digest_273 : decode cX8_digest 273 = .ok (.sipush 3508, 3) := by decide +kernel
theorem dX8_digest_276 : decode cX8_digest 276 = .ok (.iload_n 3, 1) := by decide +kernel
theorem dX8_digest_277 : decode cX8_digest 277 = .ok (.iadd, 1) := by decide +kernel
theorem dX8_digest_278 : decode cX8_digest 278 = .ok (.iaload, 1) := by decide +kernel
theorem dX8_digest_279 : decode cX8_digest 279 = .ok (.if_icmp .ge 33, 3) := by decide +kernel
theorem dX8_digest_282 : decode cX8_digest 282 = .ok (.ldc2_w 289, 3) := by decide +kernel
theorem dX8_digest_285 : decode cX8_digest 285 = .ok (.lload_n 1, 1) := by decide +kernel
theorem dX8_digest_286 : decode cX8_digest 286 = .ok (.lmul, 1) := by decide +kernel
theorem dX8_digest_287 : decode cX8_digest 287 = .ok (.aload_n 0, 1) := by decide +kernel
theorem dX8_digest_288 : decode cX8_digest 288 = .ok (.getfield 7, 3) := by decide +kernel
theorem dX8_digest_291 : decode cX8_digest 291 = .ok (.sipush 3258, 3) := by decide +kernel
theorem dX8_digest_294 : decode cX8_digest 294 = .ok (.bipush 50, 2) := by decide +kernel
theorem dX8_digest_296 : decode cX8_digest 296 = .ok (.iload_n 3, 1) := by decide +kernel
theorem dX8_digest_297 : decode cX8_digest 297 = .ok (.imul, 1) := by decide +kernel
theorem dX8_digest_298 : decode cX8_digest 298 = .ok (.iadd, 1) := by decide +kernel
theorem dX8_digest_299 : decode cX8_digest 299 = .ok (.iload 4, 2) := by decide +kernel
theorem dX8_digest_301 : decode cX8_digest 301 = .ok (.iadd, 1) := by decide +kernel
theorem dX8_digest_302 : decode cX8_digest 302 = .ok (.iaload, 1) := by decide +kernel
theorem dX8_digest_303 : decode cX8_digest 303 = .ok (.i2l, 1) := by decide +kernel
theorem dX8_digest_304 : decode cX8_digest 304 = .ok (.ladd, 1) := by decide +kernel
theorem dX8_digest_305 : decode cX8_digest 305 = .ok (.lstore_n 1, 1) := by decide +kernel
theorem dX8_digest_306 : decode cX8_digest 306 = .ok (.iinc 4 1, 3) := by decide +kernel
theorem dX8_digest_309 : decode cX8_digest 309 = .ok (.goto (-42), 3) := by decide +kernel
theorem dX8_digest_312 : decode cX8_digest 312 = .ok (.iinc 3 1, 3) := by decide +kernel
theorem dX8_digest_315 : decode cX8_digest 315 = .ok (.goto (-74), 3) := by decide +kernel
theorem dX8_digest_318 : decode cX8_digest 318 = .ok (.iconst 0, 1) := by decide +kernel
theorem dX8_digest_319 : decode cX8_digest 319 = .ok (.istore_n 3, 1) := by decide +kernel
theorem dX8_digest_320 : decode cX8_digest 320 = .ok (.iload_n 3, 1) := by decide +kernel
theorem dX8_digest_321 : decode cX8_digest 321 = .ok (.aload_n 0, 1) := by decide +kernel
theorem dX8_digest_322 : decode cX8_digest 322 = .ok (.getfield 7, 3) := by decide +kernel
theorem dX8_digest_325 : decode cX8_digest 325 = .ok (.iconst 1, 1) := by decide +kernel
theorem dX8_digest_326 : decode cX8_digest 326 = .ok (.iaload, 1) := by decide +kernel
theorem dX8_digest_327 : decode cX8_digest 327 = .ok (.if_icmp .ge 49, 3) := by decide +kernel
theorem dX8_digest_330 : decode cX8_digest 330 = .ok (.aload_n 0, 1) := by decide +kernel
theorem dX8_digest_331 : decode cX8_digest 331 = .ok (.aload_n 0, 1) := by decide +kernel
theorem dX8_digest_332 : decode cX8_digest 332 = .ok (.iload_n 3, 1) := by decide +kernel
theorem dX8_digest_333 : decode cX8_digest 333 = .ok (.iconst 0, 1) := by decide +kernel
theorem dX8_digest_334 : decode cX8_digest 334 = .ok (.invokevirtual 202, 3) := by decide +kernel
theorem dX8_digest_337 : decode cX8_digest 337 = .ok (.bipush 39, 2) := by decide +kernel
theorem dX8_digest_339 : decode cX8_digest 339 = .ok (.bipush 39, 2) := by decide +kernel
theorem dX8_digest_341 : decode cX8_digest 341 = .ok (.invokevirtual 239, 3) := by decide +kernel
theorem dX8_digest_344 : decode cX8_digest 344 = .ok (.ldc2_w 289, 3) := by decide +kernel
theorem dX8_digest_347 : decode cX8_digest 347 = .ok (.lload_n 1, 1) := by decide +kernel
theorem dX8_digest_348 : decode cX8_digest 348 = .ok (.lmul, 1) := by decide +kernel
theorem dX8_digest_349 : decode cX8_digest 349 = .ok (.aload_n 0, 1) := by decide +kernel
theorem dX8_digest_350 : decode cX8_digest 350 = .ok (.getfield 30, 3) := by decide +kernel
theorem dX8_digest_353 : decode cX8_digest 353 = .ok (.iload_n 3, 1) := by decide +kernel
theorem dX8_digest_354 : decode cX8_digest 354 = .ok (.laload, 1) := by decide +kernel
theorem dX8_digest_355 : decode cX8_digest 355 = .ok (.ladd, 1) := by decide +kernel
theorem dX8_digest_356 : decode cX8_digest 356 = .ok (.lstore_n 1, 1) := by decide +kernel
theorem dX8_digest_357 : decode cX8_digest 357 = .ok (.ldc2_w 289, 3) := by decide +kernel
theorem dX8_digest_360 : decode cX8_digest 360 = .ok (.lload_n 1, 1) := by decide +kernel
theorem dX8_digest_361 : decode cX8_digest 361 = .ok (.lmul, 1) := by decide +kernel
theorem dX8_digest_362 : decode cX8_digest 362 = .ok (.aload_n 0, 1) := by decide +kernel
theorem dX8_digest_363 : decode cX8_digest 363 = .ok (.getfield 36, 3) := by decide +kernel
theorem dX8_digest_366 : decode cX8_digest 366 = .ok (.iload_n 3, 1) := by decide +kernel
theorem dX8_digest_367 : decode cX8_digest 367 = .ok (.laload, 1) := by decide +kernel
theorem dX8_digest_368 : decode cX8_digest 368 = .ok (.ladd, 1) := by decide +kernel
theorem dX8_digest_369 : decode cX8_digest 369 = .ok (.lstore_n 1, 1) := by decide +kernel
theorem dX8_digest_370 : decode cX8_digest 370 = .ok (.iinc 3 1, 3) := by decide +kernel
theorem dX8_digest_373 : decode cX8_digest 373 = .ok (.goto (-53), 3) := by decide +kernel
theorem dX8_digest_376 : decode cX8_digest 376 = .ok (.lload_n 1, 1) := by decide +kernel
theorem dX8_digest_377 : decode cX8_digest 377 = .ok (.lreturn, 1) := by decide +kernel
def kX8_digest (live : am_E) (Ret : am_R) : am_code := [(0, am_const (.long 347) 3), (3, am_lstore 1 5 4), (4, am_const (.int 0) 5), (5, am_istore 3 5 6), (6, am_iload 3 7), (7, am_const (.int 6) 9), (9, am_if2 (fun x y => y ≤ x) 32 12), (12, am_const (.long 31) 15), (15, am_lload 1 16), (16, am_l2 (fun x y => x * y) 17), (17, am_aload 0 18), (18, am_getR live 8 0 21), (21, am_iload 3 22), (22, am_ald live 0 23), (23, am_i2l 24), (24, am_l2 (fun x y => x + y) 25), (25, am_lstore 1 5 26), (26, am_iinc 3 5 1 29), (29, am_goto 6), (32, am_const (.int 0) 33), (33, am_istore 3 5 34), (34, am_iload 3 35), (35, am_aload 0 36), (36, am_getR live 8 0 39), (39, am_const (.int 0) 40), (40, am_ald live 0 41), (41, am_if2 (fun x y => y ≤ x) 123 44), (44, am_const (.long 31) 47), (47, am_lload 1 48), (48, am_l2 (fun x y => x * y) 49), (49, am_aload 0 50), (50, am_getR live 8 0 53), (53, am_const (.int 10) 55), (55, am_iload 3 56), (56, am_i2 (fun x y => x + y) 57), (57, am_ald live 0 58), (58, am_i2l 59), (59, am_l2 (fun x y => x + y) 60), (60, am_lstore 1 5 61), (61, am_const (.long 31) 64), (64, am_lload 1 65), (65, am_l2 (fun x y => x * y) 66), (66, am_aload 0 67), (67, am_getR live 8 0 70), (70, am_const (.int 22) 72), (72, am_iload 3 73), (73, am_i2 (fun x y => x + y) 74), (74, am_ald live 0 75), (75, am_i2l 76), (76, am_l2 (fun x y => x + y) 77), (77, am_lstore 1 5 78), (78, am_const (.int 0) 79), (79, am_istore 4 5 81), (81, am_iload 4 83), (83, am_const (.int 40) 85), (85, am_if2 (fun x y => y ≤ x) 117 88), (88, am_const (.long 31) 91), (91, am_lload 1 92), (92, am_l2 (fun x y => x * y) 93), (93, am_aload 0 94), (94, am_getR live 8 0 97), (97, am_const (.int 34) 99), (99, am_const (.int 40) 101), (101, am_iload 3 102), (102, am_i2 (fun x y => x * y) 103), (103, am_i2 (fun x y => x + y) 104), (104, am_iload 4 106), (106, am_i2 (fun x y => x + y) 107), (107, am_ald live 0 108), (108, am_i2l 109), (109, am_l2 (fun x y => x + y) 110), (110, am_lstore 1 5 111), (111, am_iinc 4 5 1 114), (114, am_goto 81), (117, am_iinc 3 5 1 120), (120, am_goto 34), (123, am_const (.int 0) 124), (124, am_istore 3 5 125), (125, am_iload 3 126), (126, am_const (.int 8) 128), (128, am_aload 0 129), (129, am_getR live 8 0 132), (132, am_const (.int 1) 133), (133, am_ald live 0 134), (134, am_i2 (fun x y => x * y) 135), (135, am_if2 (fun x y => y ≤ x) 162 138), (138, am_const (.long 31) 141), (141, am_lload 1 142), (142, am_l2 (fun x y => x * y) 143), (143, am_aload 0 144), (144, am_getR live 8 0 147), (147, am_const (.int 2838) 150), (150, am_iload 3 151), (151, am_i2 (fun x y => x + y) 152), (152, am_ald live 0 153), (153, am_i2l 154), (154, am_l2 (fun x y => x + y) 155), (155, am_lstore 1 5 156), (156, am_iinc 3 5 1 159), (159, am_goto 125), (162, am_const (.int 0) 163), (163, am_istore 3 5 164), (164, am_iload 3 165), (165, am_const (.int 6) 167), (167, am_aload 0 168), (168, am_getR live 8 0 171), (171, am_const (.int 2) 172), (172, am_ald live 0 173), (173, am_i2 (fun x y => x * y) 174), (174, am_if2 (fun x y => y ≤ x) 201 177), (177, am_const (.long 31) 180), (180, am_lload 1 181), (181, am_l2 (fun x y => x * y) 182), (182, am_aload 0 183), (183, am_getR live 8 0 186), (186, am_const (.int 2478) 189), (189, am_iload 3 190), (190, am_i2 (fun x y => x + y) 191), (191, am_ald live 0 192), (192, am_i2l 193), (193, am_l2 (fun x y => x + y) 194), (194, am_lstore 1 5 195), (195, am_iinc 3 5 1 198), (198, am_goto 164), (201, am_const (.int 0) 202), (202, am_istore 3 5 203), (203, am_iload 3 204), (204, am_const (.int 3) 205), (205, am_aload 0 206), (206, am_getR live 8 0 209), (209, am_const (.int 3) 210), (210, am_ald live 0 211), (211, am_i2 (fun x y => x * y) 212), (212, am_if2 (fun x y => y ≤ x) 239 215), (215, am_const (.long 31) 218), (218, am_lload 1 219), (219, am_l2 (fun x y => x * y) 220), (220, am_aload 0 221), (221, am_getR live 8 0 224), (224, am_const (.int 3078) 227), (227, am_iload 3 228), (228, am_i2 (fun x y => x + y) 229), (229, am_ald live 0 230), (230, am_i2l 231), (231, am_l2 (fun x y => x + y) 232), (232, am_lstore 1 5 233), (233, am_iinc 3 5 1 236), (236, am_goto 203), (239, am_const (.int 0) 240), (240, am_istore 3 5 241), (241, am_iload 3 242), (242, am_const (.int 5) 243), (243, am_if2 (fun x y => y ≤ x) 318 246), (246, am_const (.long 31) 249), (249, am_lload 1 250), (250, am_l2 (fun x y => x * y) 251), (251, am_aload 0 252), (252, am_getR live 8 0 255), (255, am_const (.int 3508) 258), (258, am_iload 3 259), (259, am_i2 (fun x y => x + y) 260), (260, am_ald live 0 261), (261, am_i2l 262), (262, am_l2 (fun x y => x + y) 263), (263, am_lstore 1 5 264), (264, am_const (.int 0) 265), (265, am_istore 4 5 267), (267, am_iload 4 269), (269, am_aload 0 270), (270, am_getR live 8 0 273), (273, am_const (.int 3508) 276), (276, am_iload 3 277), (277, am_i2 (fun x y => x + y) 278), (278, am_ald live 0 279), (279, am_if2 (fun x y => y ≤ x) 312 282), (282, am_const (.long 31) 285), (285, am_lload 1 286), (286, am_l2 (fun x y => x * y) 287), (287, am_aload 0 288), (288, am_getR live 8 0 291), (291, am_const (.int 3258) 294), (294, am_const (.int 50) 296), (296, am_iload 3 297), (297, am_i2 (fun x y => x * y) 298), (298, am_i2 (fun x y => x + y) 299), (299, am_iload 4 301), (301, am_i2 (fun x y => x + y) 302), (302, am_ald live 0 303), (303, am_i2l 304), (304, am_l2 (fun x y => x + y) 305), (305, am_lstore 1 5 306), (306, am_iinc 4 5 1 309), (309, am_goto 267), (312, am_iinc 3 5 1 315), (315, am_goto 241), (318, am_const (.int 0) 319), (319, am_istore 3 5 320), (320, am_iload 3 321), (321, am_aload 0 322), (322, am_getR live 8 0 325), (325, am_const (.int 1) 326), (326, am_ald live 0 327), (327, am_if2 (fun x y => y ≤ x) 376 330), (330, am_aload 0 331), (331, am_aload 0 332), (332, am_iload 3 333), (333, am_const (.int 0) 334), (334, am_callV live 8 2 TX8_ofLoan 337), (337, am_const (.int 39) 339), (339, am_const (.int 39) 341), (341, am_callV live 8 3 TX8_run 344), (344, am_const (.long 31) 347), (347, am_lload 1 348), (348, am_l2 (fun x y => x * y) 349), (349, am_aload 0 350), (350, am_getR live 8 15 353), (353, am_iload 3 354), (354, am_lald live 1 355), (355, am_l2 (fun x y => x + y) 356), (356, am_lstore 1 5 357), (357, am_const (.long 31) 360), (360, am_lload 1 361), (361, am_l2 (fun x y => x * y) 362), (362, am_aload 0 363), (363, am_getR live 8 17 366), (366, am_iload 3 367), (367, am_lald live 1 368), (368, am_l2 (fun x y => x + y) 369), (369, am_lstore 1 5 370), (370, am_iinc 3 5 1 373), (373, am_goto 320), (376, am_lload 1 377), (377, am_retL Ret)]
theorem koX8_digest (live : am_E) (Ret : am_R) : ∀ q ∈ kX8_digest live Ret, am_ok RX8 cX8_digest 5 (some .long) 10 253 live Ret q.1 q.2 :=
  am_kc (ak_ldc2 wd_1305 dX8_digest_0 rfl) <|
  am_kc (ak_lstore_n dX8_digest_3 rfl rfl) <|
  am_kc (ak_iconst dX8_digest_4 (by decide +kernel) rfl) <|
  am_kc (ak_istore_n dX8_digest_5 rfl rfl) <|
  am_kc (ak_iload_n dX8_digest_6 rfl rfl) <|
  am_kc (ak_bipush dX8_digest_7 (by decide +kernel) rfl) <|
  am_kc (ak_icmp_ge dX8_digest_9 (by decide +kernel) rfl) <|
  am_kc (ak_ldc2 wd_1306 dX8_digest_12 rfl) <|
  am_kc (ak_lload_n dX8_digest_15 rfl rfl) <|
  am_kc (ak_lmul dX8_digest_16 rfl) <|
  am_kc (ak_aload_n dX8_digest_17 rfl rfl) <|
  am_kc (ak_getR (C := RX8) (T := TX8) (N := 27) rfl inX8w (by decide) rfl rfl rfl wd_895 dX8_digest_18 rfl) <|
  am_kc (ak_iload_n dX8_digest_21 rfl rfl) <|
  am_kc (ak_iald (t := 0) (fun _ => rfl) rfl dX8_digest_22 rfl) <|
  am_kc (ak_i2l dX8_digest_23 rfl) <|
  am_kc (ak_ladd dX8_digest_24 rfl) <|
  am_kc (ak_lstore_n dX8_digest_25 rfl rfl) <|
  am_kc (ak_iinc dX8_digest_26 (by decide +kernel) rfl) <|
  am_kc (ak_goto dX8_digest_29 (by decide +kernel)) <|
  am_kc (ak_iconst dX8_digest_32 (by decide +kernel) rfl) <|
  am_kc (ak_istore_n dX8_digest_33 rfl rfl) <|
  am_kc (ak_iload_n dX8_digest_34 rfl rfl) <|
  am_kc (ak_aload_n dX8_digest_35 rfl rfl) <|
  am_kc (ak_getR (C := RX8) (T := TX8) (N := 27) rfl inX8w (by decide) rfl rfl rfl wd_895 dX8_digest_36 rfl) <|
  am_kc (ak_iconst dX8_digest_39 (by decide +kernel) rfl) <|
  am_kc (ak_iald (t := 0) (fun _ => rfl) rfl dX8_digest_40 rfl) <|
  am_kc (ak_icmp_ge dX8_digest_41 (by decide +kernel) rfl) <|
  am_kc (ak_ldc2 wd_1306 dX8_digest_44 rfl) <|
  am_kc (ak_lload_n dX8_digest_47 rfl rfl) <|
  am_kc (ak_lmul dX8_digest_48 rfl) <|
  am_kc (ak_aload_n dX8_digest_49 rfl rfl) <|
  am_kc (ak_getR (C := RX8) (T := TX8) (N := 27) rfl inX8w (by decide) rfl rfl rfl wd_895 dX8_digest_50 rfl) <|
  am_kc (ak_bipush dX8_digest_53 (by decide +kernel) rfl) <|
  am_kc (ak_iload_n dX8_digest_55 rfl rfl) <|
  am_kc (ak_iadd dX8_digest_56 rfl) <|
  am_kc (ak_iald (t := 0) (fun _ => rfl) rfl dX8_digest_57 rfl) <|
  am_kc (ak_i2l dX8_digest_58 rfl) <|
  am_kc (ak_ladd dX8_digest_59 rfl) <|
  am_kc (ak_lstore_n dX8_digest_60 rfl rfl) <|
  am_kc (ak_ldc2 wd_1306 dX8_digest_61 rfl) <|
  am_kc (ak_lload_n dX8_digest_64 rfl rfl) <|
  am_kc (ak_lmul dX8_digest_65 rfl) <|
  am_kc (ak_aload_n dX8_digest_66 rfl rfl) <|
  am_kc (ak_getR (C := RX8) (T := TX8) (N := 27) rfl inX8w (by decide) rfl rfl rfl wd_895 dX8_digest_67 rfl) <|
  am_kc (ak_bipush dX8_digest_70 (by decide +kernel) rfl) <|
  am_kc (ak_iload_n dX8_digest_72 rfl rfl) <|
  am_kc (ak_iadd dX8_digest_73 rfl) <|
  am_kc (ak_iald (t := 0) (fun _ => rfl) rfl dX8_digest_74 rfl) <|
  am_kc (ak_i2l dX8_digest_75 rfl) <|
  am_kc (ak_ladd dX8_digest_76 rfl) <|
  am_kc (ak_lstore_n dX8_digest_77 rfl rfl) <|
  am_kc (ak_iconst dX8_digest_78 (by decide +kernel) rfl) <|
  am_kc (ak_istore dX8_digest_79 rfl) <|
  am_kc (ak_iload dX8_digest_81 rfl) <|
  am_kc (ak_bipush dX8_digest_83 (by decide +kernel) rfl) <|
  am_kc (ak_icmp_ge dX8_digest_85 (by decide +kernel) rfl) <|
  am_kc (ak_ldc2 wd_1306 dX8_digest_88 rfl) <|
  am_kc (ak_lload_n dX8_digest_91 rfl rfl) <|
  am_kc (ak_lmul dX8_digest_92 rfl) <|
  am_kc (ak_aload_n dX8_digest_93 rfl rfl) <|
  am_kc (ak_getR (C := RX8) (T := TX8) (N := 27) rfl inX8w (by decide) rfl rfl rfl wd_895 dX8_digest_94 rfl) <|
  am_kc (ak_bipush dX8_digest_97 (by decide +kernel) rfl) <|
  am_kc (ak_bipush dX8_digest_99 (by decide +kernel) rfl) <|
  am_kc (ak_iload_n dX8_digest_101 rfl rfl) <|
  am_kc (ak_imul dX8_digest_102 rfl) <|
  am_kc (ak_iadd dX8_digest_103 rfl) <|
  am_kc (ak_iload dX8_digest_104 rfl) <|
  am_kc (ak_iadd dX8_digest_106 rfl) <|
  am_kc (ak_iald (t := 0) (fun _ => rfl) rfl dX8_digest_107 rfl) <|
  am_kc (ak_i2l dX8_digest_108 rfl) <|
  am_kc (ak_ladd dX8_digest_109 rfl) <|
  am_kc (ak_lstore_n dX8_digest_110 rfl rfl) <|
  am_kc (ak_iinc dX8_digest_111 (by decide +kernel) rfl) <|
  am_kc (ak_goto dX8_digest_114 (by decide +kernel)) <|
  am_kc (ak_iinc dX8_digest_117 (by decide +kernel) rfl) <|
  am_kc (ak_goto dX8_digest_120 (by decide +kernel)) <|
  am_kc (ak_iconst dX8_digest_123 (by decide +kernel) rfl) <|
  am_kc (ak_istore_n dX8_digest_124 rfl rfl) <|
  am_kc (ak_iload_n dX8_digest_125 rfl rfl) <|
  am_kc (ak_bipush dX8_digest_126 (by decide +kernel) rfl) <|
  am_kc (ak_aload_n dX8_digest_128 rfl rfl) <|
  am_kc (ak_getR (C := RX8) (T := TX8) (N := 27) rfl inX8w (by decide) rfl rfl rfl wd_895 dX8_digest_129 rfl) <|
  am_kc (ak_iconst dX8_digest_132 (by decide +kernel) rfl) <|
  am_kc (ak_iald (t := 0) (fun _ => rfl) rfl dX8_digest_133 rfl) <|
  am_kc (ak_imul dX8_digest_134 rfl) <|
  am_kc (ak_icmp_ge dX8_digest_135 (by decide +kernel) rfl) <|
  am_kc (ak_ldc2 wd_1306 dX8_digest_138 rfl) <|
  am_kc (ak_lload_n dX8_digest_141 rfl rfl) <|
  am_kc (ak_lmul dX8_digest_142 rfl) <|
  am_kc (ak_aload_n dX8_digest_143 rfl rfl) <|
  am_kc (ak_getR (C := RX8) (T := TX8) (N := 27) rfl inX8w (by decide) rfl rfl rfl wd_895 dX8_digest_144 rfl) <|
  am_kc (ak_sipush dX8_digest_147 (by decide +kernel) rfl) <|
  am_kc (ak_iload_n dX8_digest_150 rfl rfl) <|
  am_kc (ak_iadd dX8_digest_151 rfl) <|
  am_kc (ak_iald (t := 0) (fun _ => rfl) rfl dX8_digest_152 rfl) <|
  am_kc (ak_i2l dX8_digest_153 rfl) <|
  am_kc (ak_ladd dX8_digest_154 rfl) <|
  am_kc (ak_lstore_n dX8_digest_155 rfl rfl) <|
  am_kc (ak_iinc dX8_digest_156 (by decide +kernel) rfl) <|
  am_kc (ak_goto dX8_digest_159 (by decide +kernel)) <|
  am_kc (ak_iconst dX8_digest_162 (by decide +kernel) rfl) <|
  am_kc (ak_istore_n dX8_digest_163 rfl rfl) <|
  am_kc (ak_iload_n dX8_digest_164 rfl rfl) <|
  am_kc (ak_bipush dX8_digest_165 (by decide +kernel) rfl) <|
  am_kc (ak_aload_n dX8_digest_167 rfl rfl) <|
  am_kc (ak_getR (C := RX8) (T := TX8) (N := 27) rfl inX8w (by decide) rfl rfl rfl wd_895 dX8_digest_168 rfl) <|
  am_kc (ak_iconst dX8_digest_171 (by decide +kernel) rfl) <|
  am_kc (ak_iald (t := 0) (fun _ => rfl) rfl dX8_digest_172 rfl) <|
  am_kc (ak_imul dX8_digest_173 rfl) <|
  am_kc (ak_icmp_ge dX8_digest_174 (by decide +kernel) rfl) <|
  am_kc (ak_ldc2 wd_1306 dX8_digest_177 rfl) <|
  am_kc (ak_lload_n dX8_digest_180 rfl rfl) <|
  am_kc (ak_lmul dX8_digest_181 rfl) <|
  am_kc (ak_aload_n dX8_digest_182 rfl rfl) <|
  am_kc (ak_getR (C := RX8) (T := TX8) (N := 27) rfl inX8w (by decide) rfl rfl rfl wd_895 dX8_digest_183 rfl) <|
  am_kc (ak_sipush dX8_digest_186 (by decide +kernel) rfl) <|
  am_kc (ak_iload_n dX8_digest_189 rfl rfl) <|
  am_kc (ak_iadd dX8_digest_190 rfl) <|
  am_kc (ak_iald (t := 0) (fun _ => rfl) rfl dX8_digest_191 rfl) <|
  am_kc (ak_i2l dX8_digest_192 rfl) <|
  am_kc (ak_ladd dX8_digest_193 rfl) <|
  am_kc (ak_lstore_n dX8_digest_194 rfl rfl) <|
  am_kc (ak_iinc dX8_digest_195 (by decide +kernel) rfl) <|
  am_kc (ak_goto dX8_digest_198 (by decide +kernel)) <|
  am_kc (ak_iconst dX8_digest_201 (by decide +kernel) rfl) <|
  am_kc (ak_istore_n dX8_digest_202 rfl rfl) <|
  am_kc (ak_iload_n dX8_digest_203 rfl rfl) <|
  am_kc (ak_iconst dX8_digest_204 (by decide +kernel) rfl) <|
  am_kc (ak_aload_n dX8_digest_205 rfl rfl) <|
  am_kc (ak_getR (C := RX8) (T := TX8) (N := 27) rfl inX8w (by decide) rfl rfl rfl wd_895 dX8_digest_206 rfl) <|
  am_kc (ak_iconst dX8_digest_209 (by decide +kernel) rfl) <|
  am_kc (ak_iald (t := 0) (fun _ => rfl) rfl dX8_digest_210 rfl) <|
  am_kc (ak_imul dX8_digest_211 rfl) <|
  am_kc (ak_icmp_ge dX8_digest_212 (by decide +kernel) rfl) <|
  am_kc (ak_ldc2 wd_1306 dX8_digest_215 rfl) <|
  am_kc (ak_lload_n dX8_digest_218 rfl rfl) <|
  am_kc (ak_lmul dX8_digest_219 rfl) <|
  am_kc (ak_aload_n dX8_digest_220 rfl rfl) <|
  am_kc (ak_getR (C := RX8) (T := TX8) (N := 27) rfl inX8w (by decide) rfl rfl rfl wd_895 dX8_digest_221 rfl) <|
  am_kc (ak_sipush dX8_digest_224 (by decide +kernel) rfl) <|
  am_kc (ak_iload_n dX8_digest_227 rfl rfl) <|
  am_kc (ak_iadd dX8_digest_228 rfl) <|
  am_kc (ak_iald (t := 0) (fun _ => rfl) rfl dX8_digest_229 rfl) <|
  am_kc (ak_i2l dX8_digest_230 rfl) <|
  am_kc (ak_ladd dX8_digest_231 rfl) <|
  am_kc (ak_lstore_n dX8_digest_232 rfl rfl) <|
  am_kc (ak_iinc dX8_digest_233 (by decide +kernel) rfl) <|
  am_kc (ak_goto dX8_digest_236 (by decide +kernel)) <|
  am_kc (ak_iconst dX8_digest_239 (by decide +kernel) rfl) <|
  am_kc (ak_istore_n dX8_digest_240 rfl rfl) <|
  am_kc (ak_iload_n dX8_digest_241 rfl rfl) <|
  am_kc (ak_iconst dX8_digest_242 (by decide +kernel) rfl) <|
  am_kc (ak_icmp_ge dX8_digest_243 (by decide +kernel) rfl) <|
  am_kc (ak_ldc2 wd_1306 dX8_digest_246 rfl) <|
  am_kc (ak_lload_n dX8_digest_249 rfl rfl) <|
  am_kc (ak_lmul dX8_digest_250 rfl) <|
  am_kc (ak_aload_n dX8_digest_251 rfl rfl) <|
  am_kc (ak_getR (C := RX8) (T := TX8) (N := 27) rfl inX8w (by decide) rfl rfl rfl wd_895 dX8_digest_252 rfl) <|
  am_kc (ak_sipush dX8_digest_255 (by decide +kernel) rfl) <|
  am_kc (ak_iload_n dX8_digest_258 rfl rfl) <|
  am_kc (ak_iadd dX8_digest_259 rfl) <|
  am_kc (ak_iald (t := 0) (fun _ => rfl) rfl dX8_digest_260 rfl) <|
  am_kc (ak_i2l dX8_digest_261 rfl) <|
  am_kc (ak_ladd dX8_digest_262 rfl) <|
  am_kc (ak_lstore_n dX8_digest_263 rfl rfl) <|
  am_kc (ak_iconst dX8_digest_264 (by decide +kernel) rfl) <|
  am_kc (ak_istore dX8_digest_265 rfl) <|
  am_kc (ak_iload dX8_digest_267 rfl) <|
  am_kc (ak_aload_n dX8_digest_269 rfl rfl) <|
  am_kc (ak_getR (C := RX8) (T := TX8) (N := 27) rfl inX8w (by decide) rfl rfl rfl wd_895 dX8_digest_270 rfl) <|
  am_kc (ak_sipush dX8_digest_273 (by decide +kernel) rfl) <|
  am_kc (ak_iload_n dX8_digest_276 rfl rfl) <|
  am_kc (ak_iadd dX8_digest_277 rfl) <|
  am_kc (ak_iald (t := 0) (fun _ => rfl) rfl dX8_digest_278 rfl) <|
  am_kc (ak_icmp_ge dX8_digest_279 (by decide +kernel) rfl) <|
  am_kc (ak_ldc2 wd_1306 dX8_digest_282 rfl) <|
  am_kc (ak_lload_n dX8_digest_285 rfl rfl) <|
  am_kc (ak_lmul dX8_digest_286 rfl) <|
  am_kc (ak_aload_n dX8_digest_287 rfl rfl) <|
  am_kc (ak_getR (C := RX8) (T := TX8) (N := 27) rfl inX8w (by decide) rfl rfl rfl wd_895 dX8_digest_288 rfl) <|
  am_kc (ak_sipush dX8_digest_291 (by decide +kernel) rfl) <|
  am_kc (ak_bipush dX8_digest_294 (by decide +kernel) rfl) <|
  am_kc (ak_iload_n dX8_digest_296 rfl rfl) <|
  am_kc (ak_imul dX8_digest_297 rfl) <|
  am_kc (ak_iadd dX8_digest_298 rfl) <|
  am_kc (ak_iload dX8_digest_299 rfl) <|
  am_kc (ak_iadd dX8_digest_301 rfl) <|
  am_kc (ak_iald (t := 0) (fun _ => rfl) rfl dX8_digest_302 rfl) <|
  am_kc (ak_i2l dX8_digest_303 rfl) <|
  am_kc (ak_ladd dX8_digest_304 rfl) <|
  am_kc (ak_lstore_n dX8_digest_305 rfl rfl) <|
  am_kc (ak_iinc dX8_digest_306 (by decide +kernel) rfl) <|
  am_kc (ak_goto dX8_digest_309 (by decide +kernel)) <|
  am_kc (ak_iinc dX8_digest_312 (by decide +kernel) rfl) <|
  am_kc (ak_goto dX8_digest_315 (by decide +kernel)) <|
  am_kc (ak_iconst dX8_digest_318 (by decide +kernel) rfl) <|
  am_kc (ak_istore_n dX8_digest_319 rfl rfl) <|
  am_kc (ak_iload_n dX8_digest_320 rfl rfl) <|
  am_kc (ak_aload_n dX8_digest_321 rfl rfl) <|
  am_kc (ak_getR (C := RX8) (T := TX8) (N := 27) rfl inX8w (by decide) rfl rfl rfl wd_895 dX8_digest_322 rfl) <|
  am_kc (ak_iconst dX8_digest_325 (by decide +kernel) rfl) <|
  am_kc (ak_iald (t := 0) (fun _ => rfl) rfl dX8_digest_326 rfl) <|
  am_kc (ak_icmp_ge dX8_digest_327 (by decide +kernel) rfl) <|
  am_kc (ak_aload_n dX8_digest_330 rfl rfl) <|
  am_kc (ak_aload_n dX8_digest_331 rfl rfl) <|
  am_kc (ak_iload_n dX8_digest_332 rfl rfl) <|
  am_kc (ak_iconst dX8_digest_333 (by decide +kernel) rfl) <|
  am_kc (ak_callV (C := RX8) (F := TX8) (N := 27) metX8_ofLoan rfl ⟨rfl, by decide +kernel, by decide +kernel, by decide +kernel⟩ (am_w5 wd_1154 wd_1156 wd_41 wd_67 wd_1157) (by decide) dX8_digest_334 rfl) <|
  am_kc (ak_bipush dX8_digest_337 (by decide +kernel) rfl) <|
  am_kc (ak_bipush dX8_digest_339 (by decide +kernel) rfl) <|
  am_kc (ak_callV (C := RX8) (F := TX8) (N := 27) metX8_run rfl ⟨rfl, by decide +kernel, by decide +kernel, by decide +kernel⟩ (am_w5 wd_1158 wd_1160 wd_42 wd_67 wd_1161) (by decide) dX8_digest_341 rfl) <|
  am_kc (ak_ldc2 wd_1306 dX8_digest_344 rfl) <|
  am_kc (ak_lload_n dX8_digest_347 rfl rfl) <|
  am_kc (ak_lmul dX8_digest_348 rfl) <|
  am_kc (ak_aload_n dX8_digest_349 rfl rfl) <|
  am_kc (ak_getR (C := RX8) (T := TX8) (N := 27) rfl inX8w (by decide) rfl rfl rfl wd_910 dX8_digest_350 rfl) <|
  am_kc (ak_iload_n dX8_digest_353 rfl rfl) <|
  am_kc (ak_lald (t := 1) (fun _ => rfl) rfl dX8_digest_354 rfl) <|
  am_kc (ak_ladd dX8_digest_355 rfl) <|
  am_kc (ak_lstore_n dX8_digest_356 rfl rfl) <|
  am_kc (ak_ldc2 wd_1306 dX8_digest_357 rfl) <|
  am_kc (ak_lload_n dX8_digest_360 rfl rfl) <|
  am_kc (ak_lmul dX8_digest_361 rfl) <|
  am_kc (ak_aload_n dX8_digest_362 rfl rfl) <|
  am_kc (ak_getR (C := RX8) (T := TX8) (N := 27) rfl inX8w (by decide) rfl rfl rfl wd_912 dX8_digest_363 rfl) <|
  am_kc (ak_iload_n dX8_digest_366 rfl rfl) <|
  am_kc (ak_lald (t := 1) (fun _ => rfl) rfl dX8_digest_367 rfl) <|
  am_kc (ak_ladd dX8_digest_368 rfl) <|
  am_kc (ak_lstore_n dX8_digest_369 rfl rfl) <|
  am_kc (ak_iinc dX8_digest_370 (by decide +kernel) rfl) <|
  am_kc (ak_goto dX8_digest_373 (by decide +kernel)) <|
  am_kc (ak_lload_n dX8_digest_376 rfl rfl) <|
  am_kc (ak_retL dX8_digest_377) <| am_kn
def TX8_digest : am_T := fun live as M R => match as with
  | [.ref n] => am_mn live ∧ n = 200 ∧ r_I M ∧ ∀ v M', r_sc M M' → r_I M' → R (some (.long v)) M'
  | _ => False
def JX8_digest : am_E → List Value → am_M → am_R → am_inv := fun live as M0 _ pc => match as with
  | [.ref n] => (match pc with
    | 6 => some ([0, 1, 3], fun u L st M => ∃ (v : Int64) (i : Int32), L = [(0, .ref 200), (1, .long v), (3, .int i)] ∧ st = [] ∧ u = (9000 + (7 - i.toInt).toNat, 0) ∧ 0 ≤ i.toInt ∧ M = M0)
    | 34 => some ([0, 1, 3], fun u L st M => ∃ (v : Int64) (i : Int32), L = [(0, .ref 200), (1, .long v), (3, .int i)] ∧ st = [] ∧ u = (8000 + (13 - i.toInt).toNat * 2, 0) ∧ 0 ≤ i.toInt ∧ M = M0)
    | 81 => some ([0, 1, 3, 4], fun u L st M => ∃ (v : Int64) (i j : Int32), L = [(0, .ref 200), (1, .long v), (3, .int i), (4, .int j)] ∧ st = [] ∧ u = (8000 + ((13 - i.toInt).toNat * 2 - 1), (41 - j.toInt).toNat) ∧ (0 ≤ i.toInt ∧ i.toInt < 12) ∧ 0 ≤ j.toInt ∧ M = M0)
    | 125 => some ([0, 1, 3], fun u L st M => ∃ (v : Int64) (i : Int32), L = [(0, .ref 200), (1, .long v), (3, .int i)] ∧ st = [] ∧ u = (7000 + (300 - i.toInt).toNat, 0) ∧ 0 ≤ i.toInt ∧ M = M0)
    | 164 => some ([0, 1, 3], fun u L st M => ∃ (v : Int64) (i : Int32), L = [(0, .ref 200), (1, .long v), (3, .int i)] ∧ st = [] ∧ u = (6000 + (400 - i.toInt).toNat, 0) ∧ 0 ≤ i.toInt ∧ M = M0)
    | 203 => some ([0, 1, 3], fun u L st M => ∃ (v : Int64) (i : Int32), L = [(0, .ref 200), (1, .long v), (3, .int i)] ∧ st = [] ∧ u = (5000 + (200 - i.toInt).toNat, 0) ∧ 0 ≤ i.toInt ∧ M = M0)
    | 241 => some ([0, 1, 3], fun u L st M => ∃ (v : Int64) (i : Int32), L = [(0, .ref 200), (1, .long v), (3, .int i)] ∧ st = [] ∧ u = (4000 + (6 - i.toInt).toNat * 2, 0) ∧ 0 ≤ i.toInt ∧ M = M0)
    | 267 => some ([0, 1, 3, 4], fun u L st M => ∃ (v : Int64) (i j : Int32), L = [(0, .ref 200), (1, .long v), (3, .int i), (4, .int j)] ∧ st = [] ∧ u = (4000 + ((6 - i.toInt).toNat * 2 - 1), (51 - j.toInt).toNat) ∧ (0 ≤ i.toInt ∧ i.toInt < 5) ∧ 0 ≤ j.toInt ∧ M = M0)
    | 320 => some ([0, 1, 3], fun u L st M => ∃ (v : Int64) (i : Int32), L = [(0, .ref 200), (1, .long v), (3, .int i)] ∧ st = [] ∧ u = ((31 - i.toInt).toNat, 0) ∧ 0 ≤ i.toInt ∧ r_sc M0 M ∧ r_I M)
    | _ => none)
  | _ => none
set_option maxRecDepth 100000 in
set_option maxHeartbeats 4000000 in
theorem metX8_digest : am_Met yX8_digest cX8_digest 5 (some .long) (10) (253) TX8_digest := by
  refine am_met (own := RX8) (by decide +kernel) rfl kX8_digest koX8_digest 150 JX8_digest ?_ ?_
  · intro live as M Ret h
    unfold TX8_digest at h
    split at h
    · next n =>
      refine ⟨Nat.le_of_ble_eq_true rfl, ?_⟩
      change am_wp _ _ _ _ [(0, Value.ref n)] _ _
      obtain ⟨hmn, rfl, hR, h⟩ := h
      have hmn2 := hmn
      obtain ⟨i1, i2, rfl⟩ := hmn2
      have l201 : am_len 201 = 3760 := rfl
      have n0 := hR.n0
      have n1 := hR.n1
      have n030 : 0 ≤ (M.1 201 0).toInt ∧ (M.1 201 0).toInt ≤ 30 := ⟨n0.1, by omega⟩
      repeat' (first | (with_reducible exact hmn) | (with_reducible exact hR) | (with_reducible exact n030) | (with_reducible exact n1) | apply And.intro | exact rfl | ((with_reducible change r_I _); (with_reducible assumption)) | (intro hx; exact absurd hx (by decide)) | (intro hx; exact absurd (by decide) hx) | decide | intro hx | (refine Exists.intro _ (And.intro rfl ?_)))
      all_goals try first | (with_reducible change am_tI _ _) | (change Ret _ _) | (change Ret _ _ _) | (change Exists _)
      all_goals try dsimp only at *
      all_goals try exact absurd ‹(1000 : Int64) = 0› (by decide)
      all_goals first | exact ⟨_, _, _, rfl, rfl, rfl, by decide, rfl⟩ | (change r_I _; (repeat' (first | (with_reducible assumption) | ((with_reducible change r_I (am_wJ _ _ _ _)); refine r_I.wJ ?_) | ((with_reducible change r_I (am_wI _ _ _ _)); refine r_I.wI ?_ rfl)))) | ((with_reducible change Ret _ _); exact h _ _ (by (repeat' (first | (with_reducible exact r_sc.rf) | (with_reducible assumption) | ((with_reducible change r_sc _ (am_wI _ _ _ _)); refine r_sc.wI ?_ rfl) | ((with_reducible change r_sc _ (am_wJ _ _ _ _)); refine r_sc.wJ ?_ rfl) | (refine r_sc.tr ?_ (by with_reducible assumption))))) (by (repeat' (first | (with_reducible assumption) | ((with_reducible change r_I (am_wJ _ _ _ _)); refine r_I.wJ ?_) | ((with_reducible change r_I (am_wI _ _ _ _)); refine r_I.wI ?_ rfl))))) | skip
    · exact h.elim
  · intro live as M0 Ret h k pc I hI L st M hi
    unfold TX8_digest at h
    split at h
    · next n =>
      obtain ⟨hmn, rfl, hR, h⟩ := h
      have hmn2 := hmn
      obtain ⟨i1, i2, rfl⟩ := hmn2
      have l201 : am_len 201 = 3760 := rfl
      have w0 : 0 ≤ (0 : Int32).toInt ∧ (0 : Int32).toInt ≤ 7 := ⟨by decide, by decide⟩
      have w6 : 0 ≤ (6 : Int32).toInt ∧ (6 : Int32).toInt ≤ 7 := ⟨by decide, by decide⟩
      have x0l : (0 : Int32).toInt < (am_len 201 : Int) := by rw [l201]; decide
      have x1l : (1 : Int32).toInt < (am_len 201 : Int) := by rw [l201]; decide
      have x2l : (2 : Int32).toInt < (am_len 201 : Int) := by rw [l201]; decide
      have x3l : (3 : Int32).toInt < (am_len 201 : Int) := by rw [l201]; decide
      have x4l : (4 : Int32).toInt < (am_len 201 : Int) := by rw [l201]; decide
      change (match pc with | 6 => _ | 34 => _ | 81 => _ | 125 => _ | 164 => _ | 203 => _ | 241 => _ | 267 => _ | 320 => _ | _ => none) = _ at hI
      split at hI
      · cases hI
        obtain ⟨v, i, rfl, rfl, rfl, e1, rfl⟩ := hi
        by_cases hz : (6 : Int32) ≤ i
        · skip
          repeat' (first | apply And.intro | exact rfl | (intro hx; with_reducible exact absurd hz hx) | intro hx | (refine Exists.intro _ (And.intro rfl ?_)))
          all_goals try first | (with_reducible change am_tI _ _) | (change Ret _ _) | (change Ret _ _ _) | (change Exists _)
          all_goals try dsimp only at *
          all_goals try exact absurd ‹(1000 : Int64) = 0› (by decide)
          all_goals exact ⟨_, am_lt_l (by simp only [Int32.reduceToInt]; omega), _, _, rfl, rfl, rfl, by decide, rfl⟩
        · have hz2 := hz
          simp only [i_le, Int32.reduceToInt] at hz2
          have hi := i_inc (x := i) (by omega) (by omega)
          repeat' (first | apply And.intro | exact rfl | (intro hx; with_reducible exact absurd hx hz) | intro hx | (refine Exists.intro _ (And.intro rfl ?_)))
          all_goals try first | (with_reducible change am_tI _ _) | (change Ret _ _) | (change Ret _ _ _) | (change Exists _)
          all_goals try dsimp only at *
          all_goals try exact absurd ‹(1000 : Int64) = 0› (by decide)
          all_goals first
            | omega
            | (rw [l201]; omega)
            | exact ⟨_, am_lt_l (by omega), _, _, rfl, rfl, rfl, by omega, rfl⟩
      · cases hI
        obtain ⟨v, i, rfl, rfl, rfl, e1, rfl⟩ := hi
        have n0 : 0 ≤ (M.1 201 (Int32.toNatClampNeg 0)).toInt ∧ (M.1 201 (Int32.toNatClampNeg 0)).toInt ≤ 12 := hR.n0
        by_cases hz : M.1 201 (Int32.toNatClampNeg 0) ≤ i
        · skip
          repeat' (first | (with_reducible exact x0l) | apply And.intro | exact rfl | (intro hx; with_reducible exact absurd hz hx) | (intro hx; exact absurd hx (by decide)) | (intro hx; exact absurd (by decide) hx) | decide | intro hx | (refine Exists.intro _ (And.intro rfl ?_)))
          all_goals try first | (with_reducible change am_tI _ _) | (change Ret _ _) | (change Ret _ _ _) | (change Exists _)
          all_goals try dsimp only at *
          all_goals try exact absurd ‹(1000 : Int64) = 0› (by decide)
          all_goals exact ⟨_, am_lt_l (by simp only [Int32.reduceToInt]; omega), _, _, rfl, rfl, rfl, by decide, rfl⟩
        · have hz2 := hz
          simp only [i_le] at hz2
          have e10 := r_off (c := 10) (x := i) ⟨by decide, by decide⟩ ⟨by omega, by omega⟩
          have e22 := r_off (c := 22) (x := i) ⟨by decide, by decide⟩ ⟨by omega, by omega⟩
          simp only [Int32.reduceToInt] at e10 e22
          repeat' (first | (with_reducible exact x0l) | apply And.intro | exact rfl | (intro hx; with_reducible exact absurd hx hz) | (intro hx; exact absurd hx (by decide)) | (intro hx; exact absurd (by decide) hx) | decide | intro hx | (refine Exists.intro _ (And.intro rfl ?_)))
          all_goals try first | (with_reducible change am_tI _ _) | (change Ret _ _) | (change Ret _ _ _) | (change Exists _)
          all_goals try dsimp only at *
          all_goals try exact absurd ‹(1000 : Int64) = 0› (by decide)
          all_goals first
            | omega
            | (rw [l201]; omega)
            | exact ⟨_, am_lt_l (by omega), _, _, _, rfl, rfl, rfl, ⟨e1, by omega⟩, by decide, rfl⟩
      · cases hI
        obtain ⟨v, i, j, rfl, rfl, rfl, ⟨e1, e4⟩, e5, rfl⟩ := hi
        have hi := i_inc (x := i) (by omega) (by omega)
        by_cases hz : (40 : Int32) ≤ j
        · skip
          repeat' (first | apply And.intro | exact rfl | (intro hx; with_reducible exact absurd hz hx) | intro hx | (refine Exists.intro _ (And.intro rfl ?_)))
          all_goals try first | (with_reducible change am_tI _ _) | (change Ret _ _) | (change Ret _ _ _) | (change Exists _)
          all_goals try dsimp only at *
          all_goals try exact absurd ‹(1000 : Int64) = 0› (by decide)
          all_goals exact ⟨_, am_lt_l (by omega), _, _, rfl, rfl, rfl, by omega, rfl⟩
        · have hz2 := hz
          simp only [i_le, Int32.reduceToInt] at hz2
          have hj := i_inc (x := j) (by omega) (by omega)
          have e40 := r_mul (c := 40) (x := i) ⟨by decide, by decide⟩ ⟨by omega, by omega⟩
          simp only [Int32.reduceToInt] at e40
          have ea := r_off (c := 34) (x := 40 * i) ⟨by decide, by decide⟩ ⟨by omega, by omega⟩
          simp only [e40, Int32.reduceToInt] at ea
          have eb := r_off (c := 34 + 40 * i) (x := j) ⟨by omega, by omega⟩ ⟨by omega, by omega⟩
          repeat' (first | apply And.intro | exact rfl | (intro hx; with_reducible exact absurd hx hz) | intro hx | (refine Exists.intro _ (And.intro rfl ?_)))
          all_goals try first | (with_reducible change am_tI _ _) | (change Ret _ _) | (change Ret _ _ _) | (change Exists _)
          all_goals try dsimp only at *
          all_goals try exact absurd ‹(1000 : Int64) = 0› (by decide)
          all_goals first
            | omega
            | (rw [l201]; omega)
            | exact ⟨_, am_lt_r (by omega), _, _, _, rfl, rfl, rfl, ⟨e1, e4⟩, by omega, rfl⟩
      · cases hI
        obtain ⟨v, i, rfl, rfl, rfl, e1, rfl⟩ := hi
        have n1 : 0 ≤ (M.1 201 (Int32.toNatClampNeg 1)).toInt ∧ (M.1 201 (Int32.toNatClampNeg 1)).toInt ≤ 30 := hR.n1
        have em := r_mul (c := 8) (x := M.1 201 (Int32.toNatClampNeg 1)) ⟨by decide, by decide⟩ ⟨n1.1, by omega⟩
        simp only [Int32.reduceToInt] at em
        by_cases hz : 8 * M.1 201 (Int32.toNatClampNeg 1) ≤ i
        · skip
          repeat' (first | (with_reducible exact x1l) | apply And.intro | exact rfl | (intro hx; with_reducible exact absurd hz hx) | (intro hx; exact absurd hx (by decide)) | (intro hx; exact absurd (by decide) hx) | decide | intro hx | (refine Exists.intro _ (And.intro rfl ?_)))
          all_goals try first | (with_reducible change am_tI _ _) | (change Ret _ _) | (change Ret _ _ _) | (change Exists _)
          all_goals try dsimp only at *
          all_goals try exact absurd ‹(1000 : Int64) = 0› (by decide)
          all_goals exact ⟨_, am_lt_l (by simp only [Int32.reduceToInt]; omega), _, _, rfl, rfl, rfl, by decide, rfl⟩
        · have hz2 := hz
          simp only [i_le] at hz2
          have hi := i_inc (x := i) (by omega) (by omega)
          have eo := r_off (c := 2838) (x := i) ⟨by decide, by decide⟩ ⟨by omega, by omega⟩
          simp only [Int32.reduceToInt] at eo
          repeat' (first | (with_reducible exact x1l) | apply And.intro | exact rfl | (intro hx; with_reducible exact absurd hx hz) | (intro hx; exact absurd hx (by decide)) | (intro hx; exact absurd (by decide) hx) | decide | intro hx | (refine Exists.intro _ (And.intro rfl ?_)))
          all_goals try first | (with_reducible change am_tI _ _) | (change Ret _ _) | (change Ret _ _ _) | (change Exists _)
          all_goals try dsimp only at *
          all_goals try exact absurd ‹(1000 : Int64) = 0› (by decide)
          all_goals first
            | omega
            | (rw [l201]; omega)
            | exact ⟨_, am_lt_l (by omega), _, _, rfl, rfl, rfl, by omega, rfl⟩
      · cases hI
        obtain ⟨v, i, rfl, rfl, rfl, e1, rfl⟩ := hi
        have n2 : 0 ≤ (M.1 201 (Int32.toNatClampNeg 2)).toInt ∧ (M.1 201 (Int32.toNatClampNeg 2)).toInt ≤ 60 := hR.n2
        have em := r_mul (c := 6) (x := M.1 201 (Int32.toNatClampNeg 2)) ⟨by decide, by decide⟩ ⟨n2.1, by omega⟩
        simp only [Int32.reduceToInt] at em
        by_cases hz : 6 * M.1 201 (Int32.toNatClampNeg 2) ≤ i
        · skip
          repeat' (first | (with_reducible exact x2l) | apply And.intro | exact rfl | (intro hx; with_reducible exact absurd hz hx) | (intro hx; exact absurd hx (by decide)) | (intro hx; exact absurd (by decide) hx) | decide | intro hx | (refine Exists.intro _ (And.intro rfl ?_)))
          all_goals try first | (with_reducible change am_tI _ _) | (change Ret _ _) | (change Ret _ _ _) | (change Exists _)
          all_goals try dsimp only at *
          all_goals try exact absurd ‹(1000 : Int64) = 0› (by decide)
          all_goals exact ⟨_, am_lt_l (by simp only [Int32.reduceToInt]; omega), _, _, rfl, rfl, rfl, by decide, rfl⟩
        · have hz2 := hz
          simp only [i_le] at hz2
          have hi := i_inc (x := i) (by omega) (by omega)
          have eo := r_off (c := 2478) (x := i) ⟨by decide, by decide⟩ ⟨by omega, by omega⟩
          simp only [Int32.reduceToInt] at eo
          repeat' (first | (with_reducible exact x2l) | apply And.intro | exact rfl | (intro hx; with_reducible exact absurd hx hz) | (intro hx; exact absurd hx (by decide)) | (intro hx; exact absurd (by decide) hx) | decide | intro hx | (refine Exists.intro _ (And.intro rfl ?_)))
          all_goals try first | (with_reducible change am_tI _ _) | (change Ret _ _) | (change Ret _ _ _) | (change Exists _)
          all_goals try dsimp only at *
          all_goals try exact absurd ‹(1000 : Int64) = 0› (by decide)
          all_goals first
            | omega
            | (rw [l201]; omega)
            | exact ⟨_, am_lt_l (by omega), _, _, rfl, rfl, rfl, by omega, rfl⟩
      · cases hI
        obtain ⟨v, i, rfl, rfl, rfl, e1, rfl⟩ := hi
        have n3 : 0 ≤ (M.1 201 (Int32.toNatClampNeg 3)).toInt ∧ (M.1 201 (Int32.toNatClampNeg 3)).toInt ≤ 60 := hR.n3
        have em := r_mul (c := 3) (x := M.1 201 (Int32.toNatClampNeg 3)) ⟨by decide, by decide⟩ ⟨n3.1, by omega⟩
        simp only [Int32.reduceToInt] at em
        by_cases hz : 3 * M.1 201 (Int32.toNatClampNeg 3) ≤ i
        · skip
          repeat' (first | (with_reducible exact x3l) | apply And.intro | exact rfl | (intro hx; with_reducible exact absurd hz hx) | (intro hx; exact absurd hx (by decide)) | (intro hx; exact absurd (by decide) hx) | decide | intro hx | (refine Exists.intro _ (And.intro rfl ?_)))
          all_goals try first | (with_reducible change am_tI _ _) | (change Ret _ _) | (change Ret _ _ _) | (change Exists _)
          all_goals try dsimp only at *
          all_goals try exact absurd ‹(1000 : Int64) = 0› (by decide)
          all_goals exact ⟨_, am_lt_l (by simp only [Int32.reduceToInt]; omega), _, _, rfl, rfl, rfl, by decide, rfl⟩
        · have hz2 := hz
          simp only [i_le] at hz2
          have hi := i_inc (x := i) (by omega) (by omega)
          have eo := r_off (c := 3078) (x := i) ⟨by decide, by decide⟩ ⟨by omega, by omega⟩
          simp only [Int32.reduceToInt] at eo
          repeat' (first | (with_reducible exact x3l) | apply And.intro | exact rfl | (intro hx; with_reducible exact absurd hx hz) | (intro hx; exact absurd hx (by decide)) | (intro hx; exact absurd (by decide) hx) | decide | intro hx | (refine Exists.intro _ (And.intro rfl ?_)))
          all_goals try first | (with_reducible change am_tI _ _) | (change Ret _ _) | (change Ret _ _ _) | (change Exists _)
          all_goals try dsimp only at *
          all_goals try exact absurd ‹(1000 : Int64) = 0› (by decide)
          all_goals first
            | omega
            | (rw [l201]; omega)
            | exact ⟨_, am_lt_l (by omega), _, _, rfl, rfl, rfl, by omega, rfl⟩
      · cases hI
        obtain ⟨v, i, rfl, rfl, rfl, e1, rfl⟩ := hi
        by_cases hz : (5 : Int32) ≤ i
        · skip
          repeat' (first | apply And.intro | exact rfl | (intro hx; with_reducible exact absurd hz hx) | intro hx | (refine Exists.intro _ (And.intro rfl ?_)))
          all_goals try first | (with_reducible change am_tI _ _) | (change Ret _ _) | (change Ret _ _ _) | (change Exists _)
          all_goals try dsimp only at *
          all_goals try exact absurd ‹(1000 : Int64) = 0› (by decide)
          all_goals exact ⟨_, am_lt_l (by simp only [Int32.reduceToInt]; omega), _, _, rfl, rfl, rfl, by decide, r_sc.rf, hR⟩
        · have hz2 := hz
          simp only [i_le, Int32.reduceToInt] at hz2
          have ea := r_off (c := 3508) (x := i) ⟨by decide, by decide⟩ ⟨by omega, by omega⟩
          simp only [Int32.reduceToInt] at ea
          repeat' (first | apply And.intro | exact rfl | (intro hx; with_reducible exact absurd hx hz) | intro hx | (refine Exists.intro _ (And.intro rfl ?_)))
          all_goals try first | (with_reducible change am_tI _ _) | (change Ret _ _) | (change Ret _ _ _) | (change Exists _)
          all_goals try dsimp only at *
          all_goals try exact absurd ‹(1000 : Int64) = 0› (by decide)
          all_goals first
            | omega
            | (rw [l201]; omega)
            | exact ⟨_, am_lt_l (by omega), _, _, _, rfl, rfl, rfl, ⟨e1, by omega⟩, by decide, rfl⟩
      · cases hI
        obtain ⟨v, i, j, rfl, rfl, rfl, ⟨e1, e4⟩, e5, rfl⟩ := hi
        have hi := i_inc (x := i) (by omega) (by omega)
        have ht5 : am_in i 5 := ⟨e1, by omega⟩
        have ea := r_off (c := 3508) (x := i) ⟨by decide, by decide⟩ ⟨by omega, by omega⟩
        simp only [Int32.reduceToInt] at ea
        have htx : (M.1 201 (3508 + i).toNatClampNeg).toInt ≤ 50 := by
          have q := hR.tx (g_cl ht5)
          have q2 := i_clamp (x := 3508 + i) (by omega)
          have q3 := i_clamp (x := i) e1
          rw [show (3508 + i).toNatClampNeg = 3508 + i.toNatClampNeg by omega]
          exact q.2
        by_cases hz : M.1 201 (3508 + i).toNatClampNeg ≤ j
        · skip
          repeat' (first | apply And.intro | exact rfl | (intro hx; with_reducible exact absurd hz hx) | intro hx | (refine Exists.intro _ (And.intro rfl ?_)))
          all_goals try first | (with_reducible change am_tI _ _) | (change Ret _ _) | (change Ret _ _ _) | (change Exists _)
          all_goals try dsimp only at *
          all_goals try exact absurd ‹(1000 : Int64) = 0› (by decide)
          all_goals first
            | omega
            | (rw [l201]; omega)
            | exact ⟨_, am_lt_l (by omega), _, _, rfl, rfl, rfl, by omega, rfl⟩
        · have hz2 := hz
          simp only [i_le] at hz2
          have hj := i_inc (x := j) (by omega) (by omega)
          have e50 := r_mul (c := 50) (x := i) ⟨by decide, by decide⟩ ⟨by omega, by omega⟩
          simp only [Int32.reduceToInt] at e50
          have eb := r_off (c := 3258) (x := 50 * i) ⟨by decide, by decide⟩ ⟨by omega, by omega⟩
          simp only [e50, Int32.reduceToInt] at eb
          have ec := r_off (c := 3258 + 50 * i) (x := j) ⟨by omega, by omega⟩ ⟨by omega, by omega⟩
          repeat' (first | apply And.intro | exact rfl | (intro hx; with_reducible exact absurd hx hz) | intro hx | (refine Exists.intro _ (And.intro rfl ?_)))
          all_goals try first | (with_reducible change am_tI _ _) | (change Ret _ _) | (change Ret _ _ _) | (change Exists _)
          all_goals try dsimp only at *
          all_goals try exact absurd ‹(1000 : Int64) = 0› (by decide)
          all_goals first
            | omega
            | (rw [l201]; omega)
            | exact ⟨_, am_lt_r (by omega), _, _, _, rfl, rfl, rfl, ⟨e1, e4⟩, by omega, rfl⟩
      · cases hI
        obtain ⟨v, i, rfl, rfl, rfl, e1, e2, e3⟩ := hi
        have n1 : 0 ≤ (M.1 201 (Int32.toNatClampNeg 1)).toInt ∧ (M.1 201 (Int32.toNatClampNeg 1)).toInt ≤ 30 := e3.n1
        have y39 : (39 : Int32).toInt ≤ 39 := by decide
        by_cases hz : M.1 201 (Int32.toNatClampNeg 1) ≤ i
        · skip
          repeat' (first | (with_reducible exact x1l) | apply And.intro | exact rfl | (intro hx; with_reducible exact absurd hz hx) | (intro hx; exact absurd hx (by decide)) | (intro hx; exact absurd (by decide) hx) | decide | intro hx | (refine Exists.intro _ (And.intro rfl ?_)))
          all_goals try first | (with_reducible change am_tI _ _) | (change Ret _ _) | (change Ret _ _ _) | (change Exists _)
          all_goals try dsimp only at *
          all_goals try exact absurd ‹(1000 : Int64) = 0› (by decide)
          all_goals exact h _ _ e2 e3
        · have hz2 := hz
          simp only [i_le] at hz2
          have hl : am_in i 30 := ⟨e1, by omega⟩
          have hp := r_pers e3 hl
          have hi := i_inc (x := i) (by omega) (by omega)
          have x2 : i.toInt < ((30 : Nat) : Int) := by omega
          repeat' (first | (with_reducible exact x1l) | (with_reducible exact hmn) | (with_reducible exact hl) | (with_reducible exact hp) | (with_reducible exact w0) | (with_reducible exact y39) | (with_reducible exact e1) | (with_reducible exact e3) | apply And.intro | exact rfl | (intro hx; with_reducible exact absurd hx hz) | ((with_reducible change r_I _); (with_reducible assumption)) | (intro hx; exact absurd hx (by decide)) | (intro hx; exact absurd (by decide) hx) | decide | intro hx | (refine Exists.intro _ (And.intro rfl ?_)))
          all_goals try first | (with_reducible change am_tI _ _) | (change Ret _ _) | (change Ret _ _ _) | (change Exists _)
          all_goals try dsimp only at *
          all_goals try exact absurd ‹(1000 : Int64) = 0› (by decide)
          all_goals first
            | exact x2
            | exact ⟨_, am_lt_l (by omega), _, _, rfl, rfl, rfl, by omega, by (repeat' (first | (with_reducible exact r_sc.rf) | (with_reducible assumption) | ((with_reducible change r_sc _ (am_wI _ _ _ _)); refine r_sc.wI ?_ rfl) | ((with_reducible change r_sc _ (am_wJ _ _ _ _)); refine r_sc.wJ ?_ rfl) | (refine r_sc.tr ?_ (by with_reducible assumption)))), by (repeat' (first | (with_reducible assumption) | ((with_reducible change r_I (am_wJ _ _ _ _)); refine r_I.wJ ?_) | ((with_reducible change r_I (am_wI _ _ _ _)); refine r_I.wI ?_ rfl)))⟩
      · cases hI
    · exact h.elim
