/-! p1: the reference, answers on a new object -/
theorem dX8_act_0 : decode cX8_act 0 = .ok (.iload_n 1, 1) := by decide +kernel
theorem dX8_act_1 : decode cX8_act 1 = .ok (.invokestatic 104, 3) := by decide +kernel
theorem dX8_act_4 : decode cX8_act 4 = .ok (.ifCond .eq 49, 3) := by decide +kernel
theorem dX8_act_7 : decode cX8_act 7 = .ok (.iload_n 2, 1) := by decide +kernel
theorem dX8_act_8 : decode cX8_act 8 = .ok (.invokestatic 107, 3) := by decide +kernel
theorem dX8_act_11 : decode cX8_act 11 = .ok (.ifCond .eq 42, 3) := by decide +kernel
theorem dX8_act_14 : decode cX8_act 14 = .ok (.iload_n 2, 1) := by decide +kernel
theorem dX8_act_15 : decode cX8_act 15 = .ok (.iload_n 3, 1) := by decide +kernel
theorem dX8_act_16 : decode cX8_act 16 = .ok (.invokestatic 110, 3) := by decide +kernel
theorem dX8_act_19 : decode cX8_act 19 = .ok (.ifCond .eq 34, 3) := by decide +kernel
theorem dX8_act_22 : decode cX8_act 22 = .ok (.iload 4, 2) := by decide +kernel
theorem dX8_act_24 : decode cX8_act 24 = .ok (.invokestatic 72, 3) := by decide +kernel
theorem dX8_act_27 : decode cX8_act 27 = .ok (.ifCond .eq 26, 3) := by decide +kernel
theorem dX8_act_30 : decode cX8_act 30 = .ok (.iload 5, 2) := by decide +kernel
theorem dX8_act_32 : decode cX8_act 32 = .ok (.invokestatic 72, 3) := by decide +kernel
theorem dX8_act_35 : decode cX8_act 35 = .ok (.ifCond .eq 18, 3) := by decide +kernel
theorem dX8_act_38 : decode cX8_act 38 = .ok (.iload 6, 2) := by decide +kernel
theorem dX8_act_40 : decode cX8_act 40 = .ok (.invokestatic 72, 3) := by decide +kernel
theorem dX8_act_43 : decode cX8_act 43 = .ok (.ifCond .eq 10, 3) := by decide +kernel
theorem dX8_act_46 : decode cX8_act 46 = .ok (.iload 5, 2) := by decide +kernel
theorem dX8_act_48 : decode cX8_act 48 = .ok (.iload 6, 2) := by decide +kernel
theorem dX8_act_50 : decode cX8_act 50 = .ok (.if_icmp .le 6, 3) := by decide +kernel
theorem dX8_act_53 : decode cX8_act 53 = .ok (.bipush (-2), 2) := by decide +kernel
theorem dX8_act_55 : decode cX8_act 55 = .ok (.ireturn, 1) := by decide +kernel
theorem dX8_act_56 : decode cX8_act 56 = .ok (.aload_n 0, 1) := by decide +kernel
theorem dX8_act_57 : decode cX8_act 57 = .ok (.getfield 7, 3) := by decide +kernel
theorem dX8_act_60 : decode cX8_act 60 = .ok (.iconst 2, 1) := by decide +kernel
theorem dX8_act_61 : decode cX8_act 61 = .ok (.iaload, 1) := by decide +kernel
theorem dX8_act_62 : decode cX8_act 62 = .ok (.bipush 60, 2) := by decide +kernel
theorem dX8_act_64 : decode cX8_act 64 = .ok (.if_icmp .ne 6, 3) := by decide +kernel
theorem dX8_act_67 : decode cX8_act 67 = .ok (.bipush (-4), 2) := by decide +kernel
theorem dX8_act_69 : decode cX8_act 69 = .ok (.ireturn, 1) := by decide +kernel
theorem dX8_act_70 : decode cX8_act 70 = .ok (.sipush 2478, 3) := by decide +kernel
theorem dX8_act_73 : decode cX8_act 73 = .ok (.bipush 6, 2) := by decide +kernel
theorem dX8_act_75 : decode cX8_act 75 = .ok (.aload_n 0, 1) := by decide +kernel
theorem dX8_act_76 : decode cX8_act 76 = .ok (.getfield 7, 3) := by decide +kernel
theorem dX8_act_79 : decode cX8_act 79 = .ok (.iconst 2, 1) := by decide +kernel
theorem dX8_act_80 : decode cX8_act 80 = .ok (.iaload, 1) := by decide +kernel
theorem dX8_act_81 : decode cX8_act 81 = .ok (.imul, 1) := by decide +kernel
theorem dX8_act_82 : decode cX8_act 82 = .ok (.iadd, 1) := by decide +kernel
theorem dX8_act_83 : decode cX8_act 83 = .ok (.istore 7, 2) := by decide +kernel
theorem dX8_act_85 : decode cX8_act 85 = .ok (.aload_n 0, 1) := by decide +kernel
theorem dX8_act_86 : decode cX8_act 86 = .ok (.getfield 7, 3) := by decide +kernel
theorem dX8_act_89 : decode cX8_act 89 = .ok (.iload 7, 2) := by decide +kernel
theorem dX8_act_91 : decode cX8_act 91 = .ok (.iload_n 1, 1) := by decide +kernel
theorem dX8_act_92 : decode cX8_act 92 = .ok (.iastore, 1) := by decide +kernel
theorem dX8_act_93 : decode cX8_act 93 = .ok (.aload_n 0, 1) := by decide +kernel
theorem dX8_act_94 : decode cX8_act 94 = .ok (.getfield 7, 3) := by decide +kernel
theorem dX8_act_97 : decode cX8_act 97 = .ok (.iload 7, 2) := by decide +kernel
theorem dX8_act_99 : decode cX8_act 99 = .ok (.iconst 1, 1) := by decide +kernel
theorem dX8_act_100 : decode cX8_act 100 = .ok (.iadd, 1) := by decide +kernel
theorem dX8_act_101 : decode cX8_act 101 = .ok (.iload_n 2, 1) := by decide +kernel
theorem dX8_act_102 : decode cX8_act 102 = .ok (.iastore, 1) := by decide +kernel
theorem dX8_act_103 : decode cX8_act 103 = .ok (.aload_n 0, 1) := by decide +kernel
theorem dX8_act_104 : decode cX8_act 104 = .ok (.getfield 7, 3) := by decide +kernel
theorem dX8_act_107 : decode cX8_act 107 = .ok (.iload 7, 2) := by decide +kernel
theorem dX8_act_109 : decode cX8_act 109 = .ok (.iconst 2, 1) := by decide +kernel
theorem dX8_act_110 : decode cX8_act 110 = .ok (.iadd, 1) := by decide +kernel
theorem dX8_act_111 : decode cX8_act 111 = .ok (.iload_n 3, 1) := by decide +kernel
theorem dX8_act_112 : decode cX8_act 112 = .ok (.iastore, 1) := by decide +kernel
theorem dX8_act_113 : decode cX8_act 113 = .ok (.aload_n 0, 1) := by decide +kernel
theorem dX8_act_114 : decode cX8_act 114 = .ok (.getfield 7, 3) := by decide +kernel
theorem dX8_act_117 : decode cX8_act 117 = .ok (.iload 7, 2) := by decide +kernel
theorem dX8_act_119 : decode cX8_act 119 = .ok (.iconst 3, 1) := by decide +kernel
theorem dX8_act_120 : decode cX8_act 120 = .ok (.iadd, 1) := by decide +kernel
theorem dX8_act_121 : decode cX8_act 121 = .ok (.iload 4, 2) := by decide +kernel
theorem dX8_act_123 : decode cX8_act 123 = .ok (.iastore, 1) := by decide +kernel
theorem dX8_act_124 : decode cX8_act 124 = .ok (.aload_n 0, 1) := by decide +kernel
theorem dX8_act_125 : decode cX8_act 125 = .ok (.getfield 7, 3) := by decide +kernel
theorem dX8_act_128 : decode cX8_act 128 = .ok (.iload 7, 2) := by decide +kernel
theorem dX8_act_130 : decode cX8_act 130 = .ok (.iconst 4, 1) := by decide +kernel
theorem dX8_act_131 : decode cX8_act 131 = .ok (.iadd, 1) := by decide +kernel
theorem dX8_act_132 : decode cX8_act 132 = .ok (.iload 5, 2) := by decide +kernel
theorem dX8_act_134 : decode cX8_act 134 = .ok (.iastore, 1) := by decide +kernel
theorem dX8_act_135 : decode cX8_act 135 = .ok (.aload_n 0, 1) := by decide +kernel
theorem dX8_act_136 : decode cX8_act 136 = .ok (.getfield 7, 3) := by decide +kernel
theorem dX8_act_139 : decode cX8_act 139 = .ok (.iload 7, 2) := by decide +kernel
theorem dX8_act_141 : decode cX8_act 141 = .ok (.iconst 5, 1) := by decide +kernel
theorem dX8_act_142 : decode cX8_act 142 = .ok (.iadd, 1) := by decide +kernel
theorem dX8_act_143 : decode cX8_act 143 = .ok (.iload 6, 2) := by decide +kernel
theorem dX8_act_145 : decode cX8_act 145 = .ok (.iastore, 1) := by decide +kernel
theorem dX8_act_146 : decode cX8_act 146 = .ok (.aload_n 0, 1) := by decide +kernel
theorem dX8_act_147 : decode cX8_act 147 = .ok (.getfield 7, 3) := by decide +kernel
theorem dX8_act_150 : decode cX8_act 150 = .ok (.iconst 2, 1) := by decide +kernel
theorem dX8_act_151 : decode cX8_act 151 = .ok (.dup2, 1) := by decide +kernel
theorem dX8_act_152 : decode cX8_act 152 = .ok (.iaload, 1) := by decide +kernel
theorem dX8_act_153 : decode cX8_act 153 = .ok (.iconst 1, 1) := by decide +kernel
theorem dX8_act_154 : decode cX8_act 154 = .ok (.iadd, 1) := by decide +kernel
theorem dX8_act_155 : decode cX8_act 155 = .ok (.iastore, 1) := by decide +kernel
theorem dX8_act_156 : decode cX8_act 156 = .ok (.aload_n 0, 1) := by decide +kernel
theorem dX8_act_157 : decode cX8_act 157 = .ok (.getfield 7, 3) := by decide +kernel
theorem dX8_act_160 : decode cX8_act 160 = .ok (.iconst 2, 1) := by decide +kernel
theorem dX8_act_161 : decode cX8_act 161 = .ok (.iaload, 1) := by decide +kernel
theorem dX8_act_162 : decode cX8_act 162 = .ok (.iconst 1, 1) := by decide +kernel
theorem dX8_act_163 : decode cX8_act 163 = .ok (.isub, 1) := by decide +kernel
theorem dX8_act_164 : decode cX8_act 164 = .ok (.ireturn, 1) := by decide +kernel
def kX8_act (live : am_E) (Ret : am_R) : am_code := [(0, am_iload 1 1), (1, am_callS live 1 TX8_isPlan 4), (4, am_if1 (fun x => x = 0) 53 7), (7, am_iload 2 8), (8, am_callS live 1 TX8_isWhat 11), (11, am_if1 (fun x => x = 0) 53 14), (14, am_iload 2 15), (15, am_iload 3 16), (16, am_callS live 2 TX8_mayBe 19), (19, am_if1 (fun x => x = 0) 53 22), (22, am_iload 4 24), (24, am_callS live 1 TX8_isYear 27), (27, am_if1 (fun x => x = 0) 53 30), (30, am_iload 5 32), (32, am_callS live 1 TX8_isYear 35), (35, am_if1 (fun x => x = 0) 53 38), (38, am_iload 6 40), (40, am_callS live 1 TX8_isYear 43), (43, am_if1 (fun x => x = 0) 53 46), (46, am_iload 5 48), (48, am_iload 6 50), (50, am_if2 (fun x y => x ≤ y) 56 53), (53, am_const (.int (-2)) 55), (55, am_retI Ret), (56, am_aload 0 57), (57, am_getR live 8 0 60), (60, am_const (.int 2) 61), (61, am_ald live 0 62), (62, am_const (.int 60) 64), (64, am_if2 (fun x y => x = y) 67 70), (67, am_const (.int (-4)) 69), (69, am_retI Ret), (70, am_const (.int 2478) 73), (73, am_const (.int 6) 75), (75, am_aload 0 76), (76, am_getR live 8 0 79), (79, am_const (.int 2) 80), (80, am_ald live 0 81), (81, am_i2 (fun x y => x * y) 82), (82, am_i2 (fun x y => x + y) 83), (83, am_istore 7 8 85), (85, am_aload 0 86), (86, am_getR live 8 0 89), (89, am_iload 7 91), (91, am_iload 1 92), (92, am_ast live 0 93), (93, am_aload 0 94), (94, am_getR live 8 0 97), (97, am_iload 7 99), (99, am_const (.int 1) 100), (100, am_i2 (fun x y => x + y) 101), (101, am_iload 2 102), (102, am_ast live 0 103), (103, am_aload 0 104), (104, am_getR live 8 0 107), (107, am_iload 7 109), (109, am_const (.int 2) 110), (110, am_i2 (fun x y => x + y) 111), (111, am_iload 3 112), (112, am_ast live 0 113), (113, am_aload 0 114), (114, am_getR live 8 0 117), (117, am_iload 7 119), (119, am_const (.int 3) 120), (120, am_i2 (fun x y => x + y) 121), (121, am_iload 4 123), (123, am_ast live 0 124), (124, am_aload 0 125), (125, am_getR live 8 0 128), (128, am_iload 7 130), (130, am_const (.int 4) 131), (131, am_i2 (fun x y => x + y) 132), (132, am_iload 5 134), (134, am_ast live 0 135), (135, am_aload 0 136), (136, am_getR live 8 0 139), (139, am_iload 7 141), (141, am_const (.int 5) 142), (142, am_i2 (fun x y => x + y) 143), (143, am_iload 6 145), (145, am_ast live 0 146), (146, am_aload 0 147), (147, am_getR live 8 0 150), (150, am_const (.int 2) 151), (151, am_dup2 152), (152, am_ald live 0 153), (153, am_const (.int 1) 154), (154, am_i2 (fun x y => x + y) 155), (155, am_ast live 0 156), (156, am_aload 0 157), (157, am_getR live 8 0 160), (160, am_const (.int 2) 161), (161, am_ald live 0 162), (162, am_const (.int 1) 163), (163, am_i2 (fun x y => x - y) 164), (164, am_retI Ret)]
theorem koX8_act (live : am_E) (Ret : am_R) : ∀ q ∈ kX8_act live Ret, am_ok RX8 cX8_act 8 (some .int) 2 46 live Ret q.1 q.2 :=
  am_kc (ak_iload_n dX8_act_0 rfl rfl) <|
  am_kc (ak_callS metX8_isPlan ⟨rfl, by decide +kernel, by decide +kernel, by decide +kernel⟩ (am_w4 wd_1034 wd_1035 wd_67 wd_1036) (by decide) dX8_act_1 rfl) <|
  am_kc (ak_if_eq dX8_act_4 (by decide +kernel) rfl) <|
  am_kc (ak_iload_n dX8_act_7 rfl rfl) <|
  am_kc (ak_callS metX8_isWhat ⟨rfl, by decide +kernel, by decide +kernel, by decide +kernel⟩ (am_w4 wd_1038 wd_1039 wd_67 wd_1040) (by decide) dX8_act_8 rfl) <|
  am_kc (ak_if_eq dX8_act_11 (by decide +kernel) rfl) <|
  am_kc (ak_iload_n dX8_act_14 rfl rfl) <|
  am_kc (ak_iload_n dX8_act_15 rfl rfl) <|
  am_kc (ak_callS metX8_mayBe ⟨rfl, by decide +kernel, by decide +kernel, by decide +kernel⟩ (am_w4 wd_1042 wd_1043 wd_67 wd_1044) (by decide) dX8_act_16 rfl) <|
  am_kc (ak_if_eq dX8_act_19 (by decide +kernel) rfl) <|
  am_kc (ak_iload dX8_act_22 rfl) <|
  am_kc (ak_callS metX8_isYear ⟨rfl, by decide +kernel, by decide +kernel, by decide +kernel⟩ (am_w4 wd_982 wd_983 wd_67 wd_984) (by decide) dX8_act_24 rfl) <|
  am_kc (ak_if_eq dX8_act_27 (by decide +kernel) rfl) <|
  am_kc (ak_iload dX8_act_30 rfl) <|
  am_kc (ak_callS metX8_isYear ⟨rfl, by decide +kernel, by decide +kernel, by decide +kernel⟩ (am_w4 wd_982 wd_983 wd_67 wd_984) (by decide) dX8_act_32 rfl) <|
  am_kc (ak_if_eq dX8_act_35 (by decide +kernel) rfl) <|
  am_kc (ak_iload dX8_act_38 rfl) <|
  am_kc (ak_callS metX8_isYear ⟨rfl, by decide +kernel, by decide +kernel, by decide +kernel⟩ (am_w4 wd_982 wd_983 wd_67 wd_984) (by decide) dX8_act_40 rfl) <|
  am_kc (ak_if_eq dX8_act_43 (by decide +kernel) rfl) <|
  am_kc (ak_iload dX8_act_46 rfl) <|
  am_kc (ak_iload dX8_act_48 rfl) <|
  am_kc (ak_icmp_le dX8_act_50 (by decide +kernel) rfl) <|
  am_kc (ak_bipush dX8_act_53 (by decide +kernel) rfl) <|
  am_kc (ak_retI dX8_act_55) <|
  am_kc (ak_aload_n dX8_act_56 rfl rfl) <|
  am_kc (ak_getR (C := RX8) (T := TX8) (N := 27) rfl inX8w (by decide) rfl rfl rfl wd_895 dX8_act_57 rfl) <|
  am_kc (ak_iconst dX8_act_60 (by decide +kernel) rfl) <|
  am_kc (ak_iald (t := 0) (fun _ => rfl) rfl dX8_act_61 rfl) <|
  am_kc (ak_bipush dX8_act_62 (by decide +kernel) rfl) <|
  am_kc (ak_icmp_ne dX8_act_64 (by decide +kernel) rfl) <|
  am_kc (ak_bipush dX8_act_67 (by decide +kernel) rfl) <|
  am_kc (ak_retI dX8_act_69) <|
  am_kc (ak_sipush dX8_act_70 (by decide +kernel) rfl) <|
  am_kc (ak_bipush dX8_act_73 (by decide +kernel) rfl) <|
  am_kc (ak_aload_n dX8_act_75 rfl rfl) <|
  am_kc (ak_getR (C := RX8) (T := TX8) (N := 27) rfl inX8w (by decide) rfl rfl rfl wd_895 dX8_act_76 rfl) <|
  am_kc (ak_iconst dX8_act_79 (by decide +kernel) rfl) <|
  am_kc (ak_iald (t := 0) (fun _ => rfl) rfl dX8_act_80 rfl) <|
  am_kc (ak_imul dX8_act_81 rfl) <|
  am_kc (ak_iadd dX8_act_82 rfl) <|
  am_kc (ak_istore dX8_act_83 rfl) <|
  am_kc (ak_aload_n dX8_act_85 rfl rfl) <|
  am_kc (ak_getR (C := RX8) (T := TX8) (N := 27) rfl inX8w (by decide) rfl rfl rfl wd_895 dX8_act_86 rfl) <|
  am_kc (ak_iload dX8_act_89 rfl) <|
  am_kc (ak_iload_n dX8_act_91 rfl rfl) <|
  am_kc (ak_iast (t := 0) (fun _ => rfl) rfl dX8_act_92 rfl) <|
  am_kc (ak_aload_n dX8_act_93 rfl rfl) <|
  am_kc (ak_getR (C := RX8) (T := TX8) (N := 27) rfl inX8w (by decide) rfl rfl rfl wd_895 dX8_act_94 rfl) <|
  am_kc (ak_iload dX8_act_97 rfl) <|
  am_kc (ak_iconst dX8_act_99 (by decide +kernel) rfl) <|
  am_kc (ak_iadd dX8_act_100 rfl) <|
  am_kc (ak_iload_n dX8_act_101 rfl rfl) <|
  am_kc (ak_iast (t := 0) (fun _ => rfl) rfl dX8_act_102 rfl) <|
  am_kc (ak_aload_n dX8_act_103 rfl rfl) <|
  am_kc (ak_getR (C := RX8) (T := TX8) (N := 27) rfl inX8w (by decide) rfl rfl rfl wd_895 dX8_act_104 rfl) <|
  am_kc (ak_iload dX8_act_107 rfl) <|
  am_kc (ak_iconst dX8_act_109 (by decide +kernel) rfl) <|
  am_kc (ak_iadd dX8_act_110 rfl) <|
  am_kc (ak_iload_n dX8_act_111 rfl rfl) <|
  am_kc (ak_iast (t := 0) (fun _ => rfl) rfl dX8_act_112 rfl) <|
  am_kc (ak_aload_n dX8_act_113 rfl rfl) <|
  am_kc (ak_getR (C := RX8) (T := TX8) (N := 27) rfl inX8w (by decide) rfl rfl rfl wd_895 dX8_act_114 rfl) <|
  am_kc (ak_iload dX8_act_117 rfl) <|
  am_kc (ak_iconst dX8_act_119 (by decide +kernel) rfl) <|
  am_kc (ak_iadd dX8_act_120 rfl) <|
  am_kc (ak_iload dX8_act_121 rfl) <|
  am_kc (ak_iast (t := 0) (fun _ => rfl) rfl dX8_act_123 rfl) <|
  am_kc (ak_aload_n dX8_act_124 rfl rfl) <|
  am_kc (ak_getR (C := RX8) (T := TX8) (N := 27) rfl inX8w (by decide) rfl rfl rfl wd_895 dX8_act_125 rfl) <|
  am_kc (ak_iload dX8_act_128 rfl) <|
  am_kc (ak_iconst dX8_act_130 (by decide +kernel) rfl) <|
  am_kc (ak_iadd dX8_act_131 rfl) <|
  am_kc (ak_iload dX8_act_132 rfl) <|
  am_kc (ak_iast (t := 0) (fun _ => rfl) rfl dX8_act_134 rfl) <|
  am_kc (ak_aload_n dX8_act_135 rfl rfl) <|
  am_kc (ak_getR (C := RX8) (T := TX8) (N := 27) rfl inX8w (by decide) rfl rfl rfl wd_895 dX8_act_136 rfl) <|
  am_kc (ak_iload dX8_act_139 rfl) <|
  am_kc (ak_iconst dX8_act_141 (by decide +kernel) rfl) <|
  am_kc (ak_iadd dX8_act_142 rfl) <|
  am_kc (ak_iload dX8_act_143 rfl) <|
  am_kc (ak_iast (t := 0) (fun _ => rfl) rfl dX8_act_145 rfl) <|
  am_kc (ak_aload_n dX8_act_146 rfl rfl) <|
  am_kc (ak_getR (C := RX8) (T := TX8) (N := 27) rfl inX8w (by decide) rfl rfl rfl wd_895 dX8_act_147 rfl) <|
  am_kc (ak_iconst dX8_act_150 (by decide +kernel) rfl) <|
  am_kc (ak_dup2 dX8_act_151 rfl) <|
  am_kc (ak_iald (t := 0) (fun _ => rfl) rfl dX8_act_152 rfl) <|
  am_kc (ak_iconst dX8_act_153 (by decide +kernel) rfl) <|
  am_kc (ak_iadd dX8_act_154 rfl) <|
  am_kc (ak_iast (t := 0) (fun _ => rfl) rfl dX8_act_155 rfl) <|
  am_kc (ak_aload_n dX8_act_156 rfl rfl) <|
  am_kc (ak_getR (C := RX8) (T := TX8) (N := 27) rfl inX8w (by decide) rfl rfl rfl wd_895 dX8_act_157 rfl) <|
  am_kc (ak_iconst dX8_act_160 (by decide +kernel) rfl) <|
  am_kc (ak_iald (t := 0) (fun _ => rfl) rfl dX8_act_161 rfl) <|
  am_kc (ak_iconst dX8_act_162 (by decide +kernel) rfl) <|
  am_kc (ak_isub dX8_act_163 rfl) <|
  am_kc (ak_retI dX8_act_164) <| am_kn
def TX8_act : am_T := fun live as M R => match as with
  | [.ref n, .int p, .int w, .int v, .int f, .int b, .int e] => am_mn live ∧ n = 200 ∧ am_F8 M ∧ ∀ M', am_ch am_hi M M' → R (some (.int (a_act p w v f b e))) M'
  | _ => False
set_option maxRecDepth 100000 in
set_option maxHeartbeats 4000000 in
theorem metX8_act : am_Met yX8_act cX8_act 8 (some .int) (2) (46) TX8_act := by
  refine am_met (own := RX8) (by decide +kernel) rfl kX8_act koX8_act 300 (fun _ _ _ _ _ => none) (fun live as M Ret h => ?_) (fun _ _ _ _ _ _ _ _ hI => by cases hI)
  unfold TX8_act at h
  split at h
  · next n p w v f b e =>
    refine ⟨Nat.le_of_ble_eq_true rfl, ?_⟩
    change am_wp _ _ _ _ [(0, Value.ref n), (1, Value.int p), (2, Value.int w), (3, Value.int v), (4, Value.int f), (5, Value.int b), (6, Value.int e)] _ _
    obtain ⟨⟨i1, i2, rfl⟩, rfl, hF, h⟩ := h
    have hF0 := hF
    obtain ⟨s1, s2, s3, s4, s5⟩ := hF
    have q0 : M.1 201 (Int32.toNatClampNeg 0) = 0 := s1 0 (by decide)
    have q1 : M.1 201 (Int32.toNatClampNeg 1) = 0 := s1 1 (by decide)
    have q2 : M.1 201 (Int32.toNatClampNeg 2) = 0 := s1 2 (by decide)
    have q3 : M.1 201 (Int32.toNatClampNeg 3) = 0 := s1 3 (by decide)
    have q4 : M.1 201 (Int32.toNatClampNeg 4) = 0 := s1 4 (by decide)
    have q5 : M.1 201 (Int32.toNatClampNeg 5) = 0 := s1 5 (by decide)
    have r0 : M.1 201 0 = 0 := q0
    have r1 : M.1 201 1 = 0 := q1
    have r2 : M.1 201 2 = 0 := q2
    have r3 : M.1 201 3 = 0 := q3
    have r4 : M.1 201 4 = 0 := q4
    have r5 : M.1 201 5 = 0 := q5
    have l201 : (am_len 201 : Int) = 3760 := rfl
    have s0 := True.intro
    by_cases hc : (0 ≤ p ∧ p < 5) ∧ am_isN w v ∧ (0 ≤ f ∧ f < 40) ∧ (0 ≤ b ∧ b ≤ e ∧ e < 40)
    ·
      have z0 : (0 ≤ p ∧ p < 5) := by clear h hF0 s1 s2 s3 s4 s5; simp only [am_isNum, am_isN, i_le, i_lt, i_eq, j_le, Int32.toInt_toInt64, Int32.reduceToInt, Int64.reduceToInt, Int32.toInt_zero] at *; omega
      have hn0 : ¬ (if (0 ≤ p ∧ p < 5) then (1 : Int32) else 0) = 0 := by rw [if_pos (z0)]; decide
      have z1 : (0 ≤ w ∧ w < 6) := by clear h hF0 s1 s2 s3 s4 s5; simp only [am_isNum, am_isN, i_le, i_lt, i_eq, j_le, Int32.toInt_toInt64, Int32.reduceToInt, Int64.reduceToInt, Int32.toInt_zero] at *; omega
      have hn1 : ¬ (if (0 ≤ w ∧ w < 6) then (1 : Int32) else 0) = 0 := by rw [if_pos (z1)]; decide
      have z2 : am_isNum w v := by clear h hF0 s1 s2 s3 s4 s5; simp only [am_isNum, am_isN, i_le, i_lt, i_eq, j_le, Int32.toInt_toInt64, Int32.reduceToInt, Int64.reduceToInt, Int32.toInt_zero] at *; omega
      have hn2 : am_isNum w v := z2
      have z3 : (0 ≤ f ∧ f < 40) := by clear h hF0 s1 s2 s3 s4 s5; simp only [am_isNum, am_isN, i_le, i_lt, i_eq, j_le, Int32.toInt_toInt64, Int32.reduceToInt, Int64.reduceToInt, Int32.toInt_zero] at *; omega
      have hn3 : ¬ (if (0 ≤ f ∧ f < 40) then (1 : Int32) else 0) = 0 := by rw [if_pos (z3)]; decide
      have z4 : (0 ≤ b ∧ b < 40) := by clear h hF0 s1 s2 s3 s4 s5; simp only [am_isNum, am_isN, i_le, i_lt, i_eq, j_le, Int32.toInt_toInt64, Int32.reduceToInt, Int64.reduceToInt, Int32.toInt_zero] at *; omega
      have hn4 : ¬ (if (0 ≤ b ∧ b < 40) then (1 : Int32) else 0) = 0 := by rw [if_pos (z4)]; decide
      have z5 : (0 ≤ e ∧ e < 40) := by clear h hF0 s1 s2 s3 s4 s5; simp only [am_isNum, am_isN, i_le, i_lt, i_eq, j_le, Int32.toInt_toInt64, Int32.reduceToInt, Int64.reduceToInt, Int32.toInt_zero] at *; omega
      have hn5 : ¬ (if (0 ≤ e ∧ e < 40) then (1 : Int32) else 0) = 0 := by rw [if_pos (z5)]; decide
      have z6 : b ≤ e := by clear h hF0 s1 s2 s3 s4 s5; simp only [am_isNum, am_isN, i_le, i_lt, i_eq, j_le, Int32.toInt_toInt64, Int32.reduceToInt, Int64.reduceToInt, Int32.toInt_zero] at *; omega
      have hn6 : b ≤ e := z6
      have e9 : a_act p w v f b e = _ := if_pos hc
      rw [e9] at h
      have hp12 : ¬ (M.1 201 (Int32.toNatClampNeg 2) = 60) := by rw [q2]; decide
      repeat' (first | (with_reducible exact z1) | apply And.intro | exact rfl | (intro hx; with_reducible exact absurd hx hn0) | (intro hx; with_reducible exact absurd hx hn1) | (intro hx; with_reducible exact absurd hx hn3) | (intro hx; with_reducible exact absurd hx hn4) | (intro hx; with_reducible exact absurd hx hn5) | (intro hx; with_reducible exact absurd hx hp12) | (intro hx; with_reducible exact absurd hn2 hx) | (intro hx; with_reducible exact absurd hn6 hx) | (intro hx; exact absurd hx (by decide)) | (intro hx; exact absurd (by decide) hx) | decide | intro hx | (refine Exists.intro _ (And.intro rfl ?_)))
      all_goals try first | (with_reducible change am_tI _ _) | (change Ret _ _) | (change Ret _ _ _) | (change Exists _)
      all_goals try dsimp only at *
      all_goals try exact absurd ‹(1000 : Int64) = 0› (by decide)
      all_goals first
        | exact ⟨i1, i2, rfl⟩
        | exact z1.1
        | exact z1.2
        | exact h _ (by repeat (first | exact am_ch.rf | refine am_ch.wI ?_ (by show 200 ≤ (_ : Nat); decide) | refine am_ch.wJ ?_ (by show 200 ≤ (_ : Nat); decide)))
        | exact am_rI (h _ (by repeat (first | exact am_ch.rf | refine am_ch.wI ?_ (by show 200 ≤ (_ : Nat); decide) | refine am_ch.wJ ?_ (by show 200 ≤ (_ : Nat); decide)))) (by first | rfl | exact r0.symm | exact r2.symm | exact r4.symm | exact r5.symm | (rw [am_wI_s]; (repeat (rw [am_wI_o (by first | (rw [q0]; decide) | (rw [q2]; decide) | (rw [q4]; decide) | (rw [q5]; decide))])); (first | rw [q0] | rw [q2] | rw [q4] | rw [q5]); (first | done | rfl)) | (simp only [am_wI_1, q0, q1, q2, q3, q4, q5]; done) | (simp only [am_wI_1, r0, r1, r2, r3, r4, r5]; done) | (simp only [am_wI_1, r0, r1, r2, r3, r4, r5]; rfl) | (simp only []; done) | (rw []))
        | (clear h; decide)
        | (clear h; simp only [q0, q1, q2, q3, q4, q5]; decide)
        | (clear h; simp only [r0, r1, r2, r3, r4, r5]; decide)
        | (clear h; simp only [l201]; omega)
    ·
      have e9 : a_act p w v f b e = _ := if_neg hc
      rw [e9] at h
      by_cases z0 : (0 ≤ p ∧ p < 5)
      rotate_left
      ·
        have hp : (if (0 ≤ p ∧ p < 5) then (1 : Int32) else 0) = 0 := if_neg z0
        repeat' (first | apply And.intro | exact rfl | (intro hx; with_reducible exact absurd hp hx) | (intro hx; exact absurd hx (by decide)) | (intro hx; exact absurd (by decide) hx) | decide | intro hx | (refine Exists.intro _ (And.intro rfl ?_)))
        all_goals try first | (with_reducible change am_tI _ _) | (change Ret _ _) | (change Ret _ _ _) | (change Exists _)
        all_goals try dsimp only at *
        all_goals try exact absurd ‹(1000 : Int64) = 0› (by decide)
        all_goals first | exact h _ am_ch.rf | exact ⟨i1, i2, rfl⟩ | exact z1.1 | exact z1.2
      have hn0 : ¬ (if (0 ≤ p ∧ p < 5) then (1 : Int32) else 0) = 0 := by rw [if_pos (z0)]; decide
      by_cases z1 : (0 ≤ w ∧ w < 6)
      rotate_left
      ·
        have hp : (if (0 ≤ w ∧ w < 6) then (1 : Int32) else 0) = 0 := if_neg z1
        repeat' (first | apply And.intro | exact rfl | (intro hx; with_reducible exact absurd hx hn0) | (intro hx; with_reducible exact absurd hp hx) | (intro hx; exact absurd hx (by decide)) | (intro hx; exact absurd (by decide) hx) | decide | intro hx | (refine Exists.intro _ (And.intro rfl ?_)))
        all_goals try first | (with_reducible change am_tI _ _) | (change Ret _ _) | (change Ret _ _ _) | (change Exists _)
        all_goals try dsimp only at *
        all_goals try exact absurd ‹(1000 : Int64) = 0› (by decide)
        all_goals first | exact h _ am_ch.rf | exact ⟨i1, i2, rfl⟩ | exact z1.1 | exact z1.2
      have hn1 : ¬ (if (0 ≤ w ∧ w < 6) then (1 : Int32) else 0) = 0 := by rw [if_pos (z1)]; decide
      by_cases z2 : am_isNum w v
      rotate_left
      ·
        repeat' (first | apply And.intro | exact rfl | (intro hx; with_reducible exact absurd hx hn0) | (intro hx; with_reducible exact absurd hx hn1) | (intro hx; with_reducible exact absurd hx z2) | (intro hx; exact absurd hx (by decide)) | (intro hx; exact absurd (by decide) hx) | decide | intro hx | (refine Exists.intro _ (And.intro rfl ?_)))
        all_goals try first | (with_reducible change am_tI _ _) | (change Ret _ _) | (change Ret _ _ _) | (change Exists _)
        all_goals try dsimp only at *
        all_goals try exact absurd ‹(1000 : Int64) = 0› (by decide)
        all_goals first | exact h _ am_ch.rf | exact ⟨i1, i2, rfl⟩ | exact z1.1 | exact z1.2
      have hn2 : am_isNum w v := z2
      by_cases z3 : (0 ≤ f ∧ f < 40)
      rotate_left
      ·
        have hp : (if (0 ≤ f ∧ f < 40) then (1 : Int32) else 0) = 0 := if_neg z3
        repeat' (first | apply And.intro | exact rfl | (intro hx; with_reducible exact absurd hx hn0) | (intro hx; with_reducible exact absurd hx hn1) | (intro hx; with_reducible exact absurd hn2 hx) | (intro hx; with_reducible exact absurd hp hx) | (intro hx; exact absurd hx (by decide)) | (intro hx; exact absurd (by decide) hx) | decide | intro hx | (refine Exists.intro _ (And.intro rfl ?_)))
        all_goals try first | (with_reducible change am_tI _ _) | (change Ret _ _) | (change Ret _ _ _) | (change Exists _)
        all_goals try dsimp only at *
        all_goals try exact absurd ‹(1000 : Int64) = 0› (by decide)
        all_goals first | exact h _ am_ch.rf | exact ⟨i1, i2, rfl⟩ | exact z1.1 | exact z1.2
      have hn3 : ¬ (if (0 ≤ f ∧ f < 40) then (1 : Int32) else 0) = 0 := by rw [if_pos (z3)]; decide
      by_cases z4 : (0 ≤ b ∧ b < 40)
      rotate_left
      ·
        have hp : (if (0 ≤ b ∧ b < 40) then (1 : Int32) else 0) = 0 := if_neg z4
        repeat' (first | apply And.intro | exact rfl | (intro hx; with_reducible exact absurd hx hn0) | (intro hx; with_reducible exact absurd hx hn1) | (intro hx; with_reducible exact absurd hx hn3) | (intro hx; with_reducible exact absurd hn2 hx) | (intro hx; with_reducible exact absurd hp hx) | (intro hx; exact absurd hx (by decide)) | (intro hx; exact absurd (by decide) hx) | decide | intro hx | (refine Exists.intro _ (And.intro rfl ?_)))
        all_goals try first | (with_reducible change am_tI _ _) | (change Ret _ _) | (change Ret _ _ _) | (change Exists _)
        all_goals try dsimp only at *
        all_goals try exact absurd ‹(1000 : Int64) = 0› (by decide)
        all_goals first | exact h _ am_ch.rf | exact ⟨i1, i2, rfl⟩ | exact z1.1 | exact z1.2
      have hn4 : ¬ (if (0 ≤ b ∧ b < 40) then (1 : Int32) else 0) = 0 := by rw [if_pos (z4)]; decide
      by_cases z5 : (0 ≤ e ∧ e < 40)
      rotate_left
      ·
        have hp : (if (0 ≤ e ∧ e < 40) then (1 : Int32) else 0) = 0 := if_neg z5
        repeat' (first | apply And.intro | exact rfl | (intro hx; with_reducible exact absurd hx hn0) | (intro hx; with_reducible exact absurd hx hn1) | (intro hx; with_reducible exact absurd hx hn3) | (intro hx; with_reducible exact absurd hx hn4) | (intro hx; with_reducible exact absurd hn2 hx) | (intro hx; with_reducible exact absurd hp hx) | (intro hx; exact absurd hx (by decide)) | (intro hx; exact absurd (by decide) hx) | decide | intro hx | (refine Exists.intro _ (And.intro rfl ?_)))
        all_goals try first | (with_reducible change am_tI _ _) | (change Ret _ _) | (change Ret _ _ _) | (change Exists _)
        all_goals try dsimp only at *
        all_goals try exact absurd ‹(1000 : Int64) = 0› (by decide)
        all_goals first | exact h _ am_ch.rf | exact ⟨i1, i2, rfl⟩ | exact z1.1 | exact z1.2
      have hn5 : ¬ (if (0 ≤ e ∧ e < 40) then (1 : Int32) else 0) = 0 := by rw [if_pos (z5)]; decide
      by_cases z6 : b ≤ e
      rotate_left
      ·
        repeat' (first | apply And.intro | exact rfl | (intro hx; with_reducible exact absurd hx hn0) | (intro hx; with_reducible exact absurd hx hn1) | (intro hx; with_reducible exact absurd hx hn3) | (intro hx; with_reducible exact absurd hx hn4) | (intro hx; with_reducible exact absurd hx hn5) | (intro hx; with_reducible exact absurd hx z6) | (intro hx; with_reducible exact absurd hn2 hx) | (intro hx; exact absurd hx (by decide)) | (intro hx; exact absurd (by decide) hx) | decide | intro hx | (refine Exists.intro _ (And.intro rfl ?_)))
        all_goals try first | (with_reducible change am_tI _ _) | (change Ret _ _) | (change Ret _ _ _) | (change Exists _)
        all_goals try dsimp only at *
        all_goals try exact absurd ‹(1000 : Int64) = 0› (by decide)
        all_goals first | exact h _ am_ch.rf | exact ⟨i1, i2, rfl⟩ | exact z1.1 | exact z1.2
      have hn6 : b ≤ e := z6
      exact absurd (by clear h e9 hc hF0 s1 s2 s3 s4 s5; simp only [am_isNum, am_isN, i_le, i_lt, i_eq, j_le, Int32.toInt_toInt64, Int32.reduceToInt, Int64.reduceToInt, Int32.toInt_zero] at *; omega) hc
  · exact h.elim
theorem dX8_tell_0 : decode cX8_tell 0 = .ok (.iload_n 1, 1) := by decide +kernel
theorem dX8_tell_1 : decode cX8_tell 1 = .ok (.i2l, 1) := by decide +kernel
theorem dX8_tell_2 : decode cX8_tell 2 = .ok (.lconst 0, 1) := by decide +kernel
theorem dX8_tell_3 : decode cX8_tell 3 = .ok (.ldc2_w 87, 3) := by decide +kernel
theorem dX8_tell_6 : decode cX8_tell 6 = .ok (.invokestatic 66, 3) := by decide +kernel
theorem dX8_tell_9 : decode cX8_tell 9 = .ok (.ifCond .ne 6, 3) := by decide +kernel
theorem dX8_tell_12 : decode cX8_tell 12 = .ok (.bipush (-2), 2) := by decide +kernel
theorem dX8_tell_14 : decode cX8_tell 14 = .ok (.ireturn, 1) := by decide +kernel
theorem dX8_tell_15 : decode cX8_tell 15 = .ok (.aload_n 0, 1) := by decide +kernel
theorem dX8_tell_16 : decode cX8_tell 16 = .ok (.getfield 7, 3) := by decide +kernel
theorem dX8_tell_19 : decode cX8_tell 19 = .ok (.iconst 5, 1) := by decide +kernel
theorem dX8_tell_20 : decode cX8_tell 20 = .ok (.iaload, 1) := by decide +kernel
theorem dX8_tell_21 : decode cX8_tell 21 = .ok (.bipush 9, 2) := by decide +kernel
theorem dX8_tell_23 : decode cX8_tell 23 = .ok (.if_icmp .ne 6, 3) := by decide +kernel
theorem dX8_tell_26 : decode cX8_tell 26 = .ok (.bipush (-4), 2) := by decide +kernel
theorem dX8_tell_28 : decode cX8_tell 28 = .ok (.ireturn, 1) := by decide +kernel
theorem dX8_tell_29 : decode cX8_tell 29 = .ok (.aload_n 0, 1) := by decide +kernel
theorem dX8_tell_30 : decode cX8_tell 30 = .ok (.getfield 7, 3) := by decide +kernel
theorem dX8_tell_33 : decode cX8_tell 33 = .ok (.sipush 3745, 3) := by decide +kernel
theorem dX8_tell_36 : decode cX8_tell 36 = .ok (.aload_n 0, 1) := by decide +kernel
theorem dX8_tell_37 : decode cX8_tell 37 = .ok (.getfield 7, 3) := by decide +kernel
theorem dX8_tell_40 : decode cX8_tell 40 = .ok (.iconst 5, 1) := by decide +kernel
theorem dX8_tell_41 : decode cX8_tell 41 = .ok (.iaload, 1) := by decide +kernel
theorem dX8_tell_42 : decode cX8_tell 42 = .ok (.iadd, 1) := by decide +kernel
theorem dX8_tell_43 : decode cX8_tell 43 = .ok (.iload_n 1, 1) := by decide +kernel
theorem dX8_tell_44 : decode cX8_tell 44 = .ok (.iastore, 1) := by decide +kernel
theorem dX8_tell_45 : decode cX8_tell 45 = .ok (.aload_n 0, 1) := by decide +kernel
theorem dX8_tell_46 : decode cX8_tell 46 = .ok (.getfield 7, 3) := by decide +kernel
theorem dX8_tell_49 : decode cX8_tell 49 = .ok (.iconst 5, 1) := by decide +kernel
theorem dX8_tell_50 : decode cX8_tell 50 = .ok (.dup2, 1) := by decide +kernel
theorem dX8_tell_51 : decode cX8_tell 51 = .ok (.iaload, 1) := by decide +kernel
theorem dX8_tell_52 : decode cX8_tell 52 = .ok (.iconst 1, 1) := by decide +kernel
theorem dX8_tell_53 : decode cX8_tell 53 = .ok (.iadd, 1) := by decide +kernel
theorem dX8_tell_54 : decode cX8_tell 54 = .ok (.iastore, 1) := by decide +kernel
theorem dX8_tell_55 : decode cX8_tell 55 = .ok (.aload_n 0, 1) := by decide +kernel
theorem dX8_tell_56 : decode cX8_tell 56 = .ok (.getfield 7, 3) := by decide +kernel
theorem dX8_tell_59 : decode cX8_tell 59 = .ok (.iconst 5, 1) := by decide +kernel
theorem dX8_tell_60 : decode cX8_tell 60 = .ok (.iaload, 1) := by decide +kernel
theorem dX8_tell_61 : decode cX8_tell 61 = .ok (.ireturn, 1) := by decide +kernel
def kX8_tell (live : am_E) (Ret : am_R) : am_code := [(0, am_iload 1 1), (1, am_i2l 2), (2, am_const (.long 0) 3), (3, am_const (.long 10000000) 6), (6, am_callS live 3 TX8_in 9), (9, am_if1 (fun x => x = 0) 12 15), (12, am_const (.int (-2)) 14), (14, am_retI Ret), (15, am_aload 0 16), (16, am_getR live 8 0 19), (19, am_const (.int 5) 20), (20, am_ald live 0 21), (21, am_const (.int 9) 23), (23, am_if2 (fun x y => x = y) 26 29), (26, am_const (.int (-4)) 28), (28, am_retI Ret), (29, am_aload 0 30), (30, am_getR live 8 0 33), (33, am_const (.int 3745) 36), (36, am_aload 0 37), (37, am_getR live 8 0 40), (40, am_const (.int 5) 41), (41, am_ald live 0 42), (42, am_i2 (fun x y => x + y) 43), (43, am_iload 1 44), (44, am_ast live 0 45), (45, am_aload 0 46), (46, am_getR live 8 0 49), (49, am_const (.int 5) 50), (50, am_dup2 51), (51, am_ald live 0 52), (52, am_const (.int 1) 53), (53, am_i2 (fun x y => x + y) 54), (54, am_ast live 0 55), (55, am_aload 0 56), (56, am_getR live 8 0 59), (59, am_const (.int 5) 60), (60, am_ald live 0 61), (61, am_retI Ret)]
theorem koX8_tell (live : am_E) (Ret : am_R) : ∀ q ∈ kX8_tell live Ret, am_ok RX8 cX8_tell 2 (some .int) 1 25 live Ret q.1 q.2 :=
  am_kc (ak_iload_n dX8_tell_0 rfl rfl) <|
  am_kc (ak_i2l dX8_tell_1 rfl) <|
  am_kc (ak_lconst dX8_tell_2 (by decide +kernel) rfl) <|
  am_kc (ak_ldc2 wd_1017 dX8_tell_3 rfl) <|
  am_kc (ak_callS metX8_in ⟨rfl, by decide +kernel, by decide +kernel, by decide +kernel⟩ (am_w4 wd_986 wd_987 wd_67 wd_988) (by decide) dX8_tell_6 rfl) <|
  am_kc (ak_if_ne dX8_tell_9 (by decide +kernel) rfl) <|
  am_kc (ak_bipush dX8_tell_12 (by decide +kernel) rfl) <|
  am_kc (ak_retI dX8_tell_14) <|
  am_kc (ak_aload_n dX8_tell_15 rfl rfl) <|
  am_kc (ak_getR (C := RX8) (T := TX8) (N := 27) rfl inX8w (by decide) rfl rfl rfl wd_895 dX8_tell_16 rfl) <|
  am_kc (ak_iconst dX8_tell_19 (by decide +kernel) rfl) <|
  am_kc (ak_iald (t := 0) (fun _ => rfl) rfl dX8_tell_20 rfl) <|
  am_kc (ak_bipush dX8_tell_21 (by decide +kernel) rfl) <|
  am_kc (ak_icmp_ne dX8_tell_23 (by decide +kernel) rfl) <|
  am_kc (ak_bipush dX8_tell_26 (by decide +kernel) rfl) <|
  am_kc (ak_retI dX8_tell_28) <|
  am_kc (ak_aload_n dX8_tell_29 rfl rfl) <|
  am_kc (ak_getR (C := RX8) (T := TX8) (N := 27) rfl inX8w (by decide) rfl rfl rfl wd_895 dX8_tell_30 rfl) <|
  am_kc (ak_sipush dX8_tell_33 (by decide +kernel) rfl) <|
  am_kc (ak_aload_n dX8_tell_36 rfl rfl) <|
  am_kc (ak_getR (C := RX8) (T := TX8) (N := 27) rfl inX8w (by decide) rfl rfl rfl wd_895 dX8_tell_37 rfl) <|
  am_kc (ak_iconst dX8_tell_40 (by decide +kernel) rfl) <|
  am_kc (ak_iald (t := 0) (fun _ => rfl) rfl dX8_tell_41 rfl) <|
  am_kc (ak_iadd dX8_tell_42 rfl) <|
  am_kc (ak_iload_n dX8_tell_43 rfl rfl) <|
  am_kc (ak_iast (t := 0) (fun _ => rfl) rfl dX8_tell_44 rfl) <|
  am_kc (ak_aload_n dX8_tell_45 rfl rfl) <|
  am_kc (ak_getR (C := RX8) (T := TX8) (N := 27) rfl inX8w (by decide) rfl rfl rfl wd_895 dX8_tell_46 rfl) <|
  am_kc (ak_iconst dX8_tell_49 (by decide +kernel) rfl) <|
  am_kc (ak_dup2 dX8_tell_50 rfl) <|
  am_kc (ak_iald (t := 0) (fun _ => rfl) rfl dX8_tell_51 rfl) <|
  am_kc (ak_iconst dX8_tell_52 (by decide +kernel) rfl) <|
  am_kc (ak_iadd dX8_tell_53 rfl) <|
  am_kc (ak_iast (t := 0) (fun _ => rfl) rfl dX8_tell_54 rfl) <|
  am_kc (ak_aload_n dX8_tell_55 rfl rfl) <|
  am_kc (ak_getR (C := RX8) (T := TX8) (N := 27) rfl inX8w (by decide) rfl rfl rfl wd_895 dX8_tell_56 rfl) <|
  am_kc (ak_iconst dX8_tell_59 (by decide +kernel) rfl) <|
  am_kc (ak_iald (t := 0) (fun _ => rfl) rfl dX8_tell_60 rfl) <|
  am_kc (ak_retI dX8_tell_61) <| am_kn
def TX8_tell : am_T := fun live as M R => match as with
  | [.ref n, .int v] => am_mn live ∧ n = 200 ∧ am_F8 M ∧ ∀ M', am_ch am_hi M M' → R (some (.int (a_tell v))) M'
  | _ => False
set_option maxRecDepth 100000 in
set_option maxHeartbeats 4000000 in
theorem metX8_tell : am_Met yX8_tell cX8_tell 2 (some .int) (1) (25) TX8_tell := by
  refine am_met (own := RX8) (by decide +kernel) rfl kX8_tell koX8_tell 300 (fun _ _ _ _ _ => none) (fun live as M Ret h => ?_) (fun _ _ _ _ _ _ _ _ hI => by cases hI)
  unfold TX8_tell at h
  split at h
  · next n v =>
    refine ⟨Nat.le_of_ble_eq_true rfl, ?_⟩
    change am_wp _ _ _ _ [(0, Value.ref n), (1, Value.int v)] _ _
    obtain ⟨⟨i1, i2, rfl⟩, rfl, hF, h⟩ := h
    have hF0 := hF
    obtain ⟨s1, s2, s3, s4, s5⟩ := hF
    have q0 : M.1 201 (Int32.toNatClampNeg 0) = 0 := s1 0 (by decide)
    have q1 : M.1 201 (Int32.toNatClampNeg 1) = 0 := s1 1 (by decide)
    have q2 : M.1 201 (Int32.toNatClampNeg 2) = 0 := s1 2 (by decide)
    have q3 : M.1 201 (Int32.toNatClampNeg 3) = 0 := s1 3 (by decide)
    have q4 : M.1 201 (Int32.toNatClampNeg 4) = 0 := s1 4 (by decide)
    have q5 : M.1 201 (Int32.toNatClampNeg 5) = 0 := s1 5 (by decide)
    have r0 : M.1 201 0 = 0 := q0
    have r1 : M.1 201 1 = 0 := q1
    have r2 : M.1 201 2 = 0 := q2
    have r3 : M.1 201 3 = 0 := q3
    have r4 : M.1 201 4 = 0 := q4
    have r5 : M.1 201 5 = 0 := q5
    have l201 : (am_len 201 : Int) = 3760 := rfl
    have s0 := True.intro
    by_cases hc : (0 ≤ v ∧ v ≤ 10000000)
    ·
      have z0 : ((0 : Int64) ≤ v.toInt64 ∧ v.toInt64 ≤ 10000000) := by clear h hF0 s1 s2 s3 s4 s5; simp only [am_isNum, am_isN, i_le, i_lt, i_eq, j_le, Int32.toInt_toInt64, Int32.reduceToInt, Int64.reduceToInt, Int32.toInt_zero] at *; omega
      have hn0 : ¬ (if ((0 : Int64) ≤ v.toInt64 ∧ v.toInt64 ≤ 10000000) then (1 : Int32) else 0) = 0 := by rw [if_pos (z0)]; decide
      have e9 : a_tell v = _ := if_pos hc
      rw [e9] at h
      have hp12 : ¬ (M.1 201 (Int32.toNatClampNeg 5) = 9) := by rw [q5]; decide
      repeat' (first | apply And.intro | exact rfl | (intro hx; with_reducible exact absurd hx hn0) | (intro hx; with_reducible exact absurd hx hp12) | (intro hx; exact absurd hx (by decide)) | (intro hx; exact absurd (by decide) hx) | decide | intro hx | (refine Exists.intro _ (And.intro rfl ?_)))
      all_goals try first | (with_reducible change am_tI _ _) | (change Ret _ _) | (change Ret _ _ _) | (change Exists _)
      all_goals try dsimp only at *
      all_goals try exact absurd ‹(1000 : Int64) = 0› (by decide)
      all_goals first
        | exact h _ (by repeat (first | exact am_ch.rf | refine am_ch.wI ?_ (by show 200 ≤ (_ : Nat); decide) | refine am_ch.wJ ?_ (by show 200 ≤ (_ : Nat); decide)))
        | exact am_rI (h _ (by repeat (first | exact am_ch.rf | refine am_ch.wI ?_ (by show 200 ≤ (_ : Nat); decide) | refine am_ch.wJ ?_ (by show 200 ≤ (_ : Nat); decide)))) (by first | rfl | exact r0.symm | exact r2.symm | exact r4.symm | exact r5.symm | (rw [am_wI_s]; (repeat (rw [am_wI_o (by first | (rw [q0]; decide) | (rw [q2]; decide) | (rw [q4]; decide) | (rw [q5]; decide))])); (first | rw [q0] | rw [q2] | rw [q4] | rw [q5]); (first | done | rfl)) | (simp only [am_wI_1, q0, q1, q2, q3, q4, q5]; done) | (simp only [am_wI_1, r0, r1, r2, r3, r4, r5]; done) | (simp only [am_wI_1, r0, r1, r2, r3, r4, r5]; rfl) | (simp only []; done) | (rw []))
        | (clear h; decide)
        | (clear h; simp only [q0, q1, q2, q3, q4, q5]; decide)
        | (clear h; simp only [r0, r1, r2, r3, r4, r5]; decide)
        | (clear h; simp only [l201]; omega)
    ·
      have e9 : a_tell v = _ := if_neg hc
      rw [e9] at h
      by_cases z0 : ((0 : Int64) ≤ v.toInt64 ∧ v.toInt64 ≤ 10000000)
      rotate_left
      ·
        have hp : (if ((0 : Int64) ≤ v.toInt64 ∧ v.toInt64 ≤ 10000000) then (1 : Int32) else 0) = 0 := if_neg z0
        repeat' (first | apply And.intro | exact rfl | (intro hx; with_reducible exact absurd hp hx) | (intro hx; exact absurd hx (by decide)) | (intro hx; exact absurd (by decide) hx) | decide | intro hx | (refine Exists.intro _ (And.intro rfl ?_)))
        all_goals try first | (with_reducible change am_tI _ _) | (change Ret _ _) | (change Ret _ _ _) | (change Exists _)
        all_goals try dsimp only at *
        all_goals try exact absurd ‹(1000 : Int64) = 0› (by decide)
        all_goals first | exact h _ am_ch.rf | exact ⟨i1, i2, rfl⟩ | exact z1.1 | exact z1.2
      have hn0 : ¬ (if ((0 : Int64) ≤ v.toInt64 ∧ v.toInt64 ≤ 10000000) then (1 : Int32) else 0) = 0 := by rw [if_pos (z0)]; decide
      exact absurd (by clear h e9 hc hF0 s1 s2 s3 s4 s5; simp only [am_isNum, am_isN, i_le, i_lt, i_eq, j_le, Int32.toInt_toInt64, Int32.reduceToInt, Int64.reduceToInt, Int32.toInt_zero] at *; omega) hc
  · exact h.elim
theorem dX8_promise_0 : decode cX8_promise 0 = .ok (.iload_n 1, 1) := by decide +kernel
theorem dX8_promise_1 : decode cX8_promise 1 = .ok (.i2l, 1) := by decide +kernel
theorem dX8_promise_2 : decode cX8_promise 2 = .ok (.lconst 0, 1) := by decide +kernel
theorem dX8_promise_3 : decode cX8_promise 3 = .ok (.ldc2_w 79, 3) := by decide +kernel
theorem dX8_promise_6 : decode cX8_promise 6 = .ok (.invokestatic 66, 3) := by decide +kernel
theorem dX8_promise_9 : decode cX8_promise 9 = .ok (.ifCond .eq 22, 3) := by decide +kernel
theorem dX8_promise_12 : decode cX8_promise 12 = .ok (.iload_n 2, 1) := by decide +kernel
theorem dX8_promise_13 : decode cX8_promise 13 = .ok (.invokestatic 72, 3) := by decide +kernel
theorem dX8_promise_16 : decode cX8_promise 16 = .ok (.ifCond .eq 15, 3) := by decide +kernel
theorem dX8_promise_19 : decode cX8_promise 19 = .ok (.iload_n 3, 1) := by decide +kernel
theorem dX8_promise_20 : decode cX8_promise 20 = .ok (.i2l, 1) := by decide +kernel
theorem dX8_promise_21 : decode cX8_promise 21 = .ok (.lconst 1, 1) := by decide +kernel
theorem dX8_promise_22 : decode cX8_promise 22 = .ok (.ldc2_w 248, 3) := by decide +kernel
theorem dX8_promise_25 : decode cX8_promise 25 = .ok (.invokestatic 66, 3) := by decide +kernel
theorem dX8_promise_28 : decode cX8_promise 28 = .ok (.ifCond .ne 6, 3) := by decide +kernel
theorem dX8_promise_31 : decode cX8_promise 31 = .ok (.bipush (-2), 2) := by decide +kernel
theorem dX8_promise_33 : decode cX8_promise 33 = .ok (.ireturn, 1) := by decide +kernel
theorem dX8_promise_34 : decode cX8_promise 34 = .ok (.aload_n 0, 1) := by decide +kernel
theorem dX8_promise_35 : decode cX8_promise 35 = .ok (.getfield 7, 3) := by decide +kernel
theorem dX8_promise_38 : decode cX8_promise 38 = .ok (.iconst 4, 1) := by decide +kernel
theorem dX8_promise_39 : decode cX8_promise 39 = .ok (.iaload, 1) := by decide +kernel
theorem dX8_promise_40 : decode cX8_promise 40 = .ok (.bipush 20, 2) := by decide +kernel
theorem dX8_promise_42 : decode cX8_promise 42 = .ok (.if_icmp .ne 6, 3) := by decide +kernel
theorem dX8_promise_45 : decode cX8_promise 45 = .ok (.bipush (-4), 2) := by decide +kernel
theorem dX8_promise_47 : decode cX8_promise 47 = .ok (.ireturn, 1) := by decide +kernel
theorem dX8_promise_48 : decode cX8_promise 48 = .ok (.sipush 3513, 3) := by decide +kernel
theorem dX8_promise_51 : decode cX8_promise 51 = .ok (.iconst 3, 1) := by decide +kernel
theorem dX8_promise_52 : decode cX8_promise 52 = .ok (.aload_n 0, 1) := by decide +kernel
theorem dX8_promise_53 : decode cX8_promise 53 = .ok (.getfield 7, 3) := by decide +kernel
theorem dX8_promise_56 : decode cX8_promise 56 = .ok (.iconst 4, 1) := by decide +kernel
theorem dX8_promise_57 : decode cX8_promise 57 = .ok (.iaload, 1) := by decide +kernel
theorem dX8_promise_58 : decode cX8_promise 58 = .ok (.imul, 1) := by decide +kernel
theorem dX8_promise_59 : decode cX8_promise 59 = .ok (.iadd, 1) := by decide +kernel
theorem dX8_promise_60 : decode cX8_promise 60 = .ok (.istore 4, 2) := by decide +kernel
theorem dX8_promise_62 : decode cX8_promise 62 = .ok (.aload_n 0, 1) := by decide +kernel
theorem dX8_promise_63 : decode cX8_promise 63 = .ok (.getfield 7, 3) := by decide +kernel
theorem dX8_promise_66 : decode cX8_promise 66 = .ok (.iload 4, 2) := by decide +kernel
theorem dX8_promise_68 : decode cX8_promise 68 = .ok (.iload_n 1, 1) := by decide +kernel
theorem dX8_promise_69 : decode cX8_promise 69 = .ok (.iastore, 1) := by decide +kernel
theorem dX8_promise_70 : decode cX8_promise 70 = .ok (.aload_n 0, 1) := by decide +kernel
theorem dX8_promise_71 : decode cX8_promise 71 = .ok (.getfield 7, 3) := by decide +kernel
theorem dX8_promise_74 : decode cX8_promise 74 = .ok (.iload 4, 2) := by decide +kernel
theorem dX8_promise_76 : decode cX8_promise 76 = .ok (.iconst 1, 1) := by decide +kernel
theorem dX8_promise_77 : decode cX8_promise 77 = .ok (.iadd, 1) := by decide +kernel
theorem dX8_promise_78 : decode cX8_promise 78 = .ok (.iload_n 2, 1) := by decide +kernel
theorem dX8_promise_79 : decode cX8_promise 79 = .ok (.iastore, 1) := by decide +kernel
theorem dX8_promise_80 : decode cX8_promise 80 = .ok (.aload_n 0, 1) := by decide +kernel
theorem dX8_promise_81 : decode cX8_promise 81 = .ok (.getfield 7, 3) := by decide +kernel
theorem dX8_promise_84 : decode cX8_promise 84 = .ok (.iload 4, 2) := by decide +kernel
theorem dX8_promise_86 : decode cX8_promise 86 = .ok (.iconst 2, 1) := by decide +kernel
theorem dX8_promise_87 : decode cX8_promise 87 = .ok (.iadd, 1) := by decide +kernel
theorem dX8_promise_88 : decode cX8_promise 88 = .ok (.iload_n 3, 1) := by decide +kernel
theorem dX8_promise_89 : decode cX8_promise 89 = .ok (.iastore, 1) := by decide +kernel
theorem dX8_promise_90 : decode cX8_promise 90 = .ok (.aload_n 0, 1) := by decide +kernel
theorem dX8_promise_91 : decode cX8_promise 91 = .ok (.getfield 7, 3) := by decide +kernel
theorem dX8_promise_94 : decode cX8_promise 94 = .ok (.iconst 4, 1) := by decide +kernel
theorem dX8_promise_95 : decode cX8_promise 95 = .ok (.dup2, 1) := by decide +kernel
theorem dX8_promise_96 : decode cX8_promise 96 = .ok (.iaload, 1) := by decide +kernel
theorem dX8_promise_97 : decode cX8_promise 97 = .ok (.iconst 1, 1) := by decide +kernel
theorem dX8_promise_98 : decode cX8_promise 98 = .ok (.iadd, 1) := by decide +kernel
theorem dX8_promise_99 : decode cX8_promise 99 = .ok (.iastore, 1) := by decide +kernel
theorem dX8_promise_100 : decode cX8_promise 100 = .ok (.aload_n 0, 1) := by decide +kernel
theorem dX8_promise_101 : decode cX8_promise 101 = .ok (.getfield 7, 3) := by decide +kernel
theorem dX8_promise_104 : decode cX8_promise 104 = .ok (.iconst 4, 1) := by decide +kernel
theorem dX8_promise_105 : decode cX8_promise 105 = .ok (.iaload, 1) := by decide +kernel
theorem dX8_promise_106 : decode cX8_promise 106 = .ok (.ireturn, 1) := by decide +kernel
def kX8_promise (live : am_E) (Ret : am_R) : am_code := [(0, am_iload 1 1), (1, am_i2l 2), (2, am_const (.long 0) 3), (3, am_const (.long 3) 6), (6, am_callS live 3 TX8_in 9), (9, am_if1 (fun x => x = 0) 31 12), (12, am_iload 2 13), (13, am_callS live 1 TX8_isYear 16), (16, am_if1 (fun x => x = 0) 31 19), (19, am_iload 3 20), (20, am_i2l 21), (21, am_const (.long 1) 22), (22, am_const (.long 1000000000) 25), (25, am_callS live 3 TX8_in 28), (28, am_if1 (fun x => x = 0) 31 34), (31, am_const (.int (-2)) 33), (33, am_retI Ret), (34, am_aload 0 35), (35, am_getR live 8 0 38), (38, am_const (.int 4) 39), (39, am_ald live 0 40), (40, am_const (.int 20) 42), (42, am_if2 (fun x y => x = y) 45 48), (45, am_const (.int (-4)) 47), (47, am_retI Ret), (48, am_const (.int 3513) 51), (51, am_const (.int 3) 52), (52, am_aload 0 53), (53, am_getR live 8 0 56), (56, am_const (.int 4) 57), (57, am_ald live 0 58), (58, am_i2 (fun x y => x * y) 59), (59, am_i2 (fun x y => x + y) 60), (60, am_istore 4 5 62), (62, am_aload 0 63), (63, am_getR live 8 0 66), (66, am_iload 4 68), (68, am_iload 1 69), (69, am_ast live 0 70), (70, am_aload 0 71), (71, am_getR live 8 0 74), (74, am_iload 4 76), (76, am_const (.int 1) 77), (77, am_i2 (fun x y => x + y) 78), (78, am_iload 2 79), (79, am_ast live 0 80), (80, am_aload 0 81), (81, am_getR live 8 0 84), (84, am_iload 4 86), (86, am_const (.int 2) 87), (87, am_i2 (fun x y => x + y) 88), (88, am_iload 3 89), (89, am_ast live 0 90), (90, am_aload 0 91), (91, am_getR live 8 0 94), (94, am_const (.int 4) 95), (95, am_dup2 96), (96, am_ald live 0 97), (97, am_const (.int 1) 98), (98, am_i2 (fun x y => x + y) 99), (99, am_ast live 0 100), (100, am_aload 0 101), (101, am_getR live 8 0 104), (104, am_const (.int 4) 105), (105, am_ald live 0 106), (106, am_retI Ret)]
theorem koX8_promise (live : am_E) (Ret : am_R) : ∀ q ∈ kX8_promise live Ret, am_ok RX8 cX8_promise 5 (some .int) 2 45 live Ret q.1 q.2 :=
  am_kc (ak_iload_n dX8_promise_0 rfl rfl) <|
  am_kc (ak_i2l dX8_promise_1 rfl) <|
  am_kc (ak_lconst dX8_promise_2 (by decide +kernel) rfl) <|
  am_kc (ak_ldc2 wd_997 dX8_promise_3 rfl) <|
  am_kc (ak_callS metX8_in ⟨rfl, by decide +kernel, by decide +kernel, by decide +kernel⟩ (am_w4 wd_986 wd_987 wd_67 wd_988) (by decide) dX8_promise_6 rfl) <|
  am_kc (ak_if_eq dX8_promise_9 (by decide +kernel) rfl) <|
  am_kc (ak_iload_n dX8_promise_12 rfl rfl) <|
  am_kc (ak_callS metX8_isYear ⟨rfl, by decide +kernel, by decide +kernel, by decide +kernel⟩ (am_w4 wd_982 wd_983 wd_67 wd_984) (by decide) dX8_promise_13 rfl) <|
  am_kc (ak_if_eq dX8_promise_16 (by decide +kernel) rfl) <|
  am_kc (ak_iload_n dX8_promise_19 rfl rfl) <|
  am_kc (ak_i2l dX8_promise_20 rfl) <|
  am_kc (ak_lconst dX8_promise_21 (by decide +kernel) rfl) <|
  am_kc (ak_ldc2 wd_1216 dX8_promise_22 rfl) <|
  am_kc (ak_callS metX8_in ⟨rfl, by decide +kernel, by decide +kernel, by decide +kernel⟩ (am_w4 wd_986 wd_987 wd_67 wd_988) (by decide) dX8_promise_25 rfl) <|
  am_kc (ak_if_ne dX8_promise_28 (by decide +kernel) rfl) <|
  am_kc (ak_bipush dX8_promise_31 (by decide +kernel) rfl) <|
  am_kc (ak_retI dX8_promise_33) <|
  am_kc (ak_aload_n dX8_promise_34 rfl rfl) <|
  am_kc (ak_getR (C := RX8) (T := TX8) (N := 27) rfl inX8w (by decide) rfl rfl rfl wd_895 dX8_promise_35 rfl) <|
  am_kc (ak_iconst dX8_promise_38 (by decide +kernel) rfl) <|
  am_kc (ak_iald (t := 0) (fun _ => rfl) rfl dX8_promise_39 rfl) <|
  am_kc (ak_bipush dX8_promise_40 (by decide +kernel) rfl) <|
  am_kc (ak_icmp_ne dX8_promise_42 (by decide +kernel) rfl) <|
  am_kc (ak_bipush dX8_promise_45 (by decide +kernel) rfl) <|
  am_kc (ak_retI dX8_promise_47) <|
  am_kc (ak_sipush dX8_promise_48 (by decide +kernel) rfl) <|
  am_kc (ak_iconst dX8_promise_51 (by decide +kernel) rfl) <|
  am_kc (ak_aload_n dX8_promise_52 rfl rfl) <|
  am_kc (ak_getR (C := RX8) (T := TX8) (N := 27) rfl inX8w (by decide) rfl rfl rfl wd_895 dX8_promise_53 rfl) <|
  am_kc (ak_iconst dX8_promise_56 (by decide +kernel) rfl) <|
  am_kc (ak_iald (t := 0) (fun _ => rfl) rfl dX8_promise_57 rfl) <|
  am_kc (ak_imul dX8_promise_58 rfl) <|
  am_kc (ak_iadd dX8_promise_59 rfl) <|
  am_kc (ak_istore dX8_promise_60 rfl) <|
  am_kc (ak_aload_n dX8_promise_62 rfl rfl) <|
  am_kc (ak_getR (C := RX8) (T := TX8) (N := 27) rfl inX8w (by decide) rfl rfl rfl wd_895 dX8_promise_63 rfl) <|
  am_kc (ak_iload dX8_promise_66 rfl) <|
  am_kc (ak_iload_n dX8_promise_68 rfl rfl) <|
  am_kc (ak_iast (t := 0) (fun _ => rfl) rfl dX8_promise_69 rfl) <|
  am_kc (ak_aload_n dX8_promise_70 rfl rfl) <|
  am_kc (ak_getR (C := RX8) (T := TX8) (N := 27) rfl inX8w (by decide) rfl rfl rfl wd_895 dX8_promise_71 rfl) <|
  am_kc (ak_iload dX8_promise_74 rfl) <|
  am_kc (ak_iconst dX8_promise_76 (by decide +kernel) rfl) <|
  am_kc (ak_iadd dX8_promise_77 rfl) <|
  am_kc (ak_iload_n dX8_promise_78 rfl rfl) <|
  am_kc (ak_iast (t := 0) (fun _ => rfl) rfl dX8_promise_79 rfl) <|
  am_kc (ak_aload_n dX8_promise_80 rfl rfl) <|
  am_kc (ak_getR (C := RX8) (T := TX8) (N := 27) rfl inX8w (by decide) rfl rfl rfl wd_895 dX8_promise_81 rfl) <|
  am_kc (ak_iload dX8_promise_84 rfl) <|
  am_kc (ak_iconst dX8_promise_86 (by decide +kernel) rfl) <|
  am_kc (ak_iadd dX8_promise_87 rfl) <|
  am_kc (ak_iload_n dX8_promise_88 rfl rfl) <|
  am_kc (ak_iast (t := 0) (fun _ => rfl) rfl dX8_promise_89 rfl) <|
  am_kc (ak_aload_n dX8_promise_90 rfl rfl) <|
  am_kc (ak_getR (C := RX8) (T := TX8) (N := 27) rfl inX8w (by decide) rfl rfl rfl wd_895 dX8_promise_91 rfl) <|
  am_kc (ak_iconst dX8_promise_94 (by decide +kernel) rfl) <|
  am_kc (ak_dup2 dX8_promise_95 rfl) <|
  am_kc (ak_iald (t := 0) (fun _ => rfl) rfl dX8_promise_96 rfl) <|
  am_kc (ak_iconst dX8_promise_97 (by decide +kernel) rfl) <|
  am_kc (ak_iadd dX8_promise_98 rfl) <|
  am_kc (ak_iast (t := 0) (fun _ => rfl) rfl dX8_promise_99 rfl) <|
  am_kc (ak_aload_n dX8_promise_100 rfl rfl) <|
  am_kc (ak_getR (C := RX8) (T := TX8) (N := 27) rfl inX8w (by decide) rfl rfl rfl wd_895 dX8_promise_101 rfl) <|
  am_kc (ak_iconst dX8_promise_104 (by decide +kernel) rfl) <|
  am_kc (ak_iald (t := 0) (fun _ => rfl) rfl dX8_promise_105 rfl) <|
  am_kc (ak_retI dX8_promise_106) <| am_kn
def TX8_promise : am_T := fun live as M R => match as with
  | [.ref n, .int b, .int y, .int p] => am_mn live ∧ n = 200 ∧ am_F8 M ∧ ∀ M', am_ch am_hi M M' → R (some (.int (a_promise b y p))) M'
  | _ => False
set_option maxRecDepth 100000 in
set_option maxHeartbeats 4000000 in
theorem metX8_promise : am_Met yX8_promise cX8_promise 5 (some .int) (2) (45) TX8_promise := by
  refine am_met (own := RX8) (by decide +kernel) rfl kX8_promise koX8_promise 300 (fun _ _ _ _ _ => none) (fun live as M Ret h => ?_) (fun _ _ _ _ _ _ _ _ hI => by cases hI)
  unfold TX8_promise at h
  split at h
  · next n b y p =>
    refine ⟨Nat.le_of_ble_eq_true rfl, ?_⟩
    change am_wp _ _ _ _ [(0, Value.ref n), (1, Value.int b), (2, Value.int y), (3, Value.int p)] _ _
    obtain ⟨⟨i1, i2, rfl⟩, rfl, hF, h⟩ := h
    have hF0 := hF
    obtain ⟨s1, s2, s3, s4, s5⟩ := hF
    have q0 : M.1 201 (Int32.toNatClampNeg 0) = 0 := s1 0 (by decide)
    have q1 : M.1 201 (Int32.toNatClampNeg 1) = 0 := s1 1 (by decide)
    have q2 : M.1 201 (Int32.toNatClampNeg 2) = 0 := s1 2 (by decide)
    have q3 : M.1 201 (Int32.toNatClampNeg 3) = 0 := s1 3 (by decide)
    have q4 : M.1 201 (Int32.toNatClampNeg 4) = 0 := s1 4 (by decide)
    have q5 : M.1 201 (Int32.toNatClampNeg 5) = 0 := s1 5 (by decide)
    have r0 : M.1 201 0 = 0 := q0
    have r1 : M.1 201 1 = 0 := q1
    have r2 : M.1 201 2 = 0 := q2
    have r3 : M.1 201 3 = 0 := q3
    have r4 : M.1 201 4 = 0 := q4
    have r5 : M.1 201 5 = 0 := q5
    have l201 : (am_len 201 : Int) = 3760 := rfl
    have s0 := True.intro
    by_cases hc : (0 ≤ b ∧ b ≤ 3) ∧ (0 ≤ y ∧ y < 40) ∧ (1 ≤ p ∧ p ≤ 1000000000)
    ·
      have z0 : ((0 : Int64) ≤ b.toInt64 ∧ b.toInt64 ≤ 3) := by clear h hF0 s1 s2 s3 s4 s5; simp only [am_isNum, am_isN, i_le, i_lt, i_eq, j_le, Int32.toInt_toInt64, Int32.reduceToInt, Int64.reduceToInt, Int32.toInt_zero] at *; omega
      have hn0 : ¬ (if ((0 : Int64) ≤ b.toInt64 ∧ b.toInt64 ≤ 3) then (1 : Int32) else 0) = 0 := by rw [if_pos (z0)]; decide
      have z1 : (0 ≤ y ∧ y < 40) := by clear h hF0 s1 s2 s3 s4 s5; simp only [am_isNum, am_isN, i_le, i_lt, i_eq, j_le, Int32.toInt_toInt64, Int32.reduceToInt, Int64.reduceToInt, Int32.toInt_zero] at *; omega
      have hn1 : ¬ (if (0 ≤ y ∧ y < 40) then (1 : Int32) else 0) = 0 := by rw [if_pos (z1)]; decide
      have z2 : ((1 : Int64) ≤ p.toInt64 ∧ p.toInt64 ≤ 1000000000) := by clear h hF0 s1 s2 s3 s4 s5; simp only [am_isNum, am_isN, i_le, i_lt, i_eq, j_le, Int32.toInt_toInt64, Int32.reduceToInt, Int64.reduceToInt, Int32.toInt_zero] at *; omega
      have hn2 : ¬ (if ((1 : Int64) ≤ p.toInt64 ∧ p.toInt64 ≤ 1000000000) then (1 : Int32) else 0) = 0 := by rw [if_pos (z2)]; decide
      have e9 : a_promise b y p = _ := if_pos hc
      rw [e9] at h
      have hp12 : ¬ (M.1 201 (Int32.toNatClampNeg 4) = 20) := by rw [q4]; decide
      repeat' (first | apply And.intro | exact rfl | (intro hx; with_reducible exact absurd hx hn0) | (intro hx; with_reducible exact absurd hx hn1) | (intro hx; with_reducible exact absurd hx hn2) | (intro hx; with_reducible exact absurd hx hp12) | (intro hx; exact absurd hx (by decide)) | (intro hx; exact absurd (by decide) hx) | decide | intro hx | (refine Exists.intro _ (And.intro rfl ?_)))
      all_goals try first | (with_reducible change am_tI _ _) | (change Ret _ _) | (change Ret _ _ _) | (change Exists _)
      all_goals try dsimp only at *
      all_goals try exact absurd ‹(1000 : Int64) = 0› (by decide)
      all_goals first
        | exact h _ (by repeat (first | exact am_ch.rf | refine am_ch.wI ?_ (by show 200 ≤ (_ : Nat); decide) | refine am_ch.wJ ?_ (by show 200 ≤ (_ : Nat); decide)))
        | exact am_rI (h _ (by repeat (first | exact am_ch.rf | refine am_ch.wI ?_ (by show 200 ≤ (_ : Nat); decide) | refine am_ch.wJ ?_ (by show 200 ≤ (_ : Nat); decide)))) (by first | rfl | exact r0.symm | exact r2.symm | exact r4.symm | exact r5.symm | (rw [am_wI_s]; (repeat (rw [am_wI_o (by first | (rw [q0]; decide) | (rw [q2]; decide) | (rw [q4]; decide) | (rw [q5]; decide))])); (first | rw [q0] | rw [q2] | rw [q4] | rw [q5]); (first | done | rfl)) | (simp only [am_wI_1, q0, q1, q2, q3, q4, q5]; done) | (simp only [am_wI_1, r0, r1, r2, r3, r4, r5]; done) | (simp only [am_wI_1, r0, r1, r2, r3, r4, r5]; rfl) | (simp only []; done) | (rw []))
        | (clear h; decide)
        | (clear h; simp only [q0, q1, q2, q3, q4, q5]; decide)
        | (clear h; simp only [r0, r1, r2, r3, r4, r5]; decide)
        | (clear h; simp only [l201]; omega)
    ·
      have e9 : a_promise b y p = _ := if_neg hc
      rw [e9] at h
      by_cases z0 : ((0 : Int64) ≤ b.toInt64 ∧ b.toInt64 ≤ 3)
      rotate_left
      ·
        have hp : (if ((0 : Int64) ≤ b.toInt64 ∧ b.toInt64 ≤ 3) then (1 : Int32) else 0) = 0 := if_neg z0
        repeat' (first | apply And.intro | exact rfl | (intro hx; with_reducible exact absurd hp hx) | (intro hx; exact absurd hx (by decide)) | (intro hx; exact absurd (by decide) hx) | decide | intro hx | (refine Exists.intro _ (And.intro rfl ?_)))
        all_goals try first | (with_reducible change am_tI _ _) | (change Ret _ _) | (change Ret _ _ _) | (change Exists _)
        all_goals try dsimp only at *
        all_goals try exact absurd ‹(1000 : Int64) = 0› (by decide)
        all_goals first | exact h _ am_ch.rf | exact ⟨i1, i2, rfl⟩ | exact z1.1 | exact z1.2
      have hn0 : ¬ (if ((0 : Int64) ≤ b.toInt64 ∧ b.toInt64 ≤ 3) then (1 : Int32) else 0) = 0 := by rw [if_pos (z0)]; decide
      by_cases z1 : (0 ≤ y ∧ y < 40)
      rotate_left
      ·
        have hp : (if (0 ≤ y ∧ y < 40) then (1 : Int32) else 0) = 0 := if_neg z1
        repeat' (first | apply And.intro | exact rfl | (intro hx; with_reducible exact absurd hx hn0) | (intro hx; with_reducible exact absurd hp hx) | (intro hx; exact absurd hx (by decide)) | (intro hx; exact absurd (by decide) hx) | decide | intro hx | (refine Exists.intro _ (And.intro rfl ?_)))
        all_goals try first | (with_reducible change am_tI _ _) | (change Ret _ _) | (change Ret _ _ _) | (change Exists _)
        all_goals try dsimp only at *
        all_goals try exact absurd ‹(1000 : Int64) = 0› (by decide)
        all_goals first | exact h _ am_ch.rf | exact ⟨i1, i2, rfl⟩ | exact z1.1 | exact z1.2
      have hn1 : ¬ (if (0 ≤ y ∧ y < 40) then (1 : Int32) else 0) = 0 := by rw [if_pos (z1)]; decide
      by_cases z2 : ((1 : Int64) ≤ p.toInt64 ∧ p.toInt64 ≤ 1000000000)
      rotate_left
      ·
        have hp : (if ((1 : Int64) ≤ p.toInt64 ∧ p.toInt64 ≤ 1000000000) then (1 : Int32) else 0) = 0 := if_neg z2
        repeat' (first | apply And.intro | exact rfl | (intro hx; with_reducible exact absurd hx hn0) | (intro hx; with_reducible exact absurd hx hn1) | (intro hx; with_reducible exact absurd hp hx) | (intro hx; exact absurd hx (by decide)) | (intro hx; exact absurd (by decide) hx) | decide | intro hx | (refine Exists.intro _ (And.intro rfl ?_)))
        all_goals try first | (with_reducible change am_tI _ _) | (change Ret _ _) | (change Ret _ _ _) | (change Exists _)
        all_goals try dsimp only at *
        all_goals try exact absurd ‹(1000 : Int64) = 0› (by decide)
        all_goals first | exact h _ am_ch.rf | exact ⟨i1, i2, rfl⟩ | exact z1.1 | exact z1.2
      have hn2 : ¬ (if ((1 : Int64) ≤ p.toInt64 ∧ p.toInt64 ≤ 1000000000) then (1 : Int32) else 0) = 0 := by rw [if_pos (z2)]; decide
      exact absurd (by clear h e9 hc hF0 s1 s2 s3 s4 s5; simp only [am_isNum, am_isN, i_le, i_lt, i_eq, j_le, Int32.toInt_toInt64, Int32.reduceToInt, Int64.reduceToInt, Int32.toInt_zero] at *; omega) hc
  · exact h.elim
theorem dX8_count_0 : decode cX8_count 0 = .ok (.iload_n 1, 1) := by decide +kernel
theorem dX8_count_1 : decode cX8_count 1 = .ok (.i2l, 1) := by decide +kernel
theorem dX8_count_2 : decode cX8_count 2 = .ok (.lconst 0, 1) := by decide +kernel
theorem dX8_count_3 : decode cX8_count 3 = .ok (.ldc2_w 102, 3) := by decide +kernel
theorem dX8_count_6 : decode cX8_count 6 = .ok (.invokestatic 66, 3) := by decide +kernel
theorem dX8_count_9 : decode cX8_count 9 = .ok (.ifCond .eq 12, 3) := by decide +kernel
theorem dX8_count_12 : decode cX8_count 12 = .ok (.aload_n 0, 1) := by decide +kernel
theorem dX8_count_13 : decode cX8_count 13 = .ok (.getfield 7, 3) := by decide +kernel
theorem dX8_count_16 : decode cX8_count 16 = .ok (.iload_n 1, 1) := by decide +kernel
theorem dX8_count_17 : decode cX8_count 17 = .ok (.iaload, 1) := by decide +kernel
theorem dX8_count_18 : decode cX8_count 18 = .ok (.goto 5, 3) := by decide +kernel
theorem dX8_count_21 : decode cX8_count 21 = .ok (.bipush (-2), 2) := by decide +kernel
theorem dX8_count_23 : decode cX8_count 23 = .ok (.ireturn, 1) := by decide +kernel
def kX8_count (live : am_E) (Ret : am_R) : am_code := [(0, am_iload 1 1), (1, am_i2l 2), (2, am_const (.long 0) 3), (3, am_const (.long 5) 6), (6, am_callS live 3 TX8_in 9), (9, am_if1 (fun x => x = 0) 21 12), (12, am_aload 0 13), (13, am_getR live 8 0 16), (16, am_iload 1 17), (17, am_ald live 0 18), (18, am_goto 23), (21, am_const (.int (-2)) 23), (23, am_retI Ret)]
theorem koX8_count (live : am_E) (Ret : am_R) : ∀ q ∈ kX8_count live Ret, am_ok RX8 cX8_count 2 (some .int) 1 25 live Ret q.1 q.2 :=
  am_kc (ak_iload_n dX8_count_0 rfl rfl) <|
  am_kc (ak_i2l dX8_count_1 rfl) <|
  am_kc (ak_lconst dX8_count_2 (by decide +kernel) rfl) <|
  am_kc (ak_ldc2 wd_1041 dX8_count_3 rfl) <|
  am_kc (ak_callS metX8_in ⟨rfl, by decide +kernel, by decide +kernel, by decide +kernel⟩ (am_w4 wd_986 wd_987 wd_67 wd_988) (by decide) dX8_count_6 rfl) <|
  am_kc (ak_if_eq dX8_count_9 (by decide +kernel) rfl) <|
  am_kc (ak_aload_n dX8_count_12 rfl rfl) <|
  am_kc (ak_getR (C := RX8) (T := TX8) (N := 27) rfl inX8w (by decide) rfl rfl rfl wd_895 dX8_count_13 rfl) <|
  am_kc (ak_iload_n dX8_count_16 rfl rfl) <|
  am_kc (ak_iald (t := 0) (fun _ => rfl) rfl dX8_count_17 rfl) <|
  am_kc (ak_goto dX8_count_18 (by decide +kernel)) <|
  am_kc (ak_bipush dX8_count_21 (by decide +kernel) rfl) <|
  am_kc (ak_retI dX8_count_23) <| am_kn
def TX8_count : am_T := fun live as M R => match as with
  | [.ref n, .int w] => am_mn live ∧ n = 200 ∧ am_F8 M ∧ ∀ M', am_ch am_hi M M' → R (some (.int (a_count w))) M'
  | _ => False
set_option maxRecDepth 100000 in
set_option maxHeartbeats 4000000 in
theorem metX8_count : am_Met yX8_count cX8_count 2 (some .int) (1) (25) TX8_count := by
  refine am_met (own := RX8) (by decide +kernel) rfl kX8_count koX8_count 300 (fun _ _ _ _ _ => none) (fun live as M Ret h => ?_) (fun _ _ _ _ _ _ _ _ hI => by cases hI)
  unfold TX8_count at h
  split at h
  · next n w =>
    refine ⟨Nat.le_of_ble_eq_true rfl, ?_⟩
    change am_wp _ _ _ _ [(0, Value.ref n), (1, Value.int w)] _ _
    obtain ⟨⟨i1, i2, rfl⟩, rfl, hF, h⟩ := h
    have hF0 := hF
    obtain ⟨s1, s2, s3, s4, s5⟩ := hF
    have q0 : M.1 201 (Int32.toNatClampNeg 0) = 0 := s1 0 (by decide)
    have q1 : M.1 201 (Int32.toNatClampNeg 1) = 0 := s1 1 (by decide)
    have q2 : M.1 201 (Int32.toNatClampNeg 2) = 0 := s1 2 (by decide)
    have q3 : M.1 201 (Int32.toNatClampNeg 3) = 0 := s1 3 (by decide)
    have q4 : M.1 201 (Int32.toNatClampNeg 4) = 0 := s1 4 (by decide)
    have q5 : M.1 201 (Int32.toNatClampNeg 5) = 0 := s1 5 (by decide)
    have r0 : M.1 201 0 = 0 := q0
    have r1 : M.1 201 1 = 0 := q1
    have r2 : M.1 201 2 = 0 := q2
    have r3 : M.1 201 3 = 0 := q3
    have r4 : M.1 201 4 = 0 := q4
    have r5 : M.1 201 5 = 0 := q5
    have l201 : (am_len 201 : Int) = 3760 := rfl
    have s0 := True.intro
    by_cases hc : (0 ≤ w ∧ w ≤ 5)
    ·
      have z0 : ((0 : Int64) ≤ w.toInt64 ∧ w.toInt64 ≤ 5) := by clear h hF0 s1 s2 s3 s4 s5; simp only [am_isNum, am_isN, i_le, i_lt, i_eq, j_le, Int32.toInt_toInt64, Int32.reduceToInt, Int64.reduceToInt, Int32.toInt_zero] at *; omega
      have hn0 : ¬ (if ((0 : Int64) ≤ w.toInt64 ∧ w.toInt64 ≤ 5) then (1 : Int32) else 0) = 0 := by rw [if_pos (z0)]; decide
      have e9 : a_count w = _ := if_pos hc
      rw [e9] at h
      repeat' (first | apply And.intro | exact rfl | (intro hx; with_reducible exact absurd hx hn0) | (intro hx; exact absurd hx (by decide)) | (intro hx; exact absurd (by decide) hx) | decide | intro hx | (refine Exists.intro _ (And.intro rfl ?_)))
      all_goals try first | (with_reducible change am_tI _ _) | (change Ret _ _) | (change Ret _ _ _) | (change Exists _)
      all_goals try dsimp only at *
      all_goals try exact absurd ‹(1000 : Int64) = 0› (by decide)
      all_goals first
        | (clear h; simp only [i_le, Int32.reduceToInt] at hc; first | omega | (simp only [l201]; omega))
        | exact am_rI (h _ am_ch.rf) (s1 _ (by simp only [i_le, Int32.reduceToInt] at hc; have := i_clamp (x := w) (by omega); omega)).symm
        | exact h _ (by repeat (first | exact am_ch.rf | refine am_ch.wI ?_ (by show 200 ≤ (_ : Nat); decide) | refine am_ch.wJ ?_ (by show 200 ≤ (_ : Nat); decide)))
        | exact am_rI (h _ (by repeat (first | exact am_ch.rf | refine am_ch.wI ?_ (by show 200 ≤ (_ : Nat); decide) | refine am_ch.wJ ?_ (by show 200 ≤ (_ : Nat); decide)))) (by first | rfl | exact r0.symm | exact r2.symm | exact r4.symm | exact r5.symm | (rw [am_wI_s]; (repeat (rw [am_wI_o (by first | (rw [q0]; decide) | (rw [q2]; decide) | (rw [q4]; decide) | (rw [q5]; decide))])); (first | rw [q0] | rw [q2] | rw [q4] | rw [q5]); (first | done | rfl)) | (simp only [am_wI_1, q0, q1, q2, q3, q4, q5]; done) | (simp only [am_wI_1, r0, r1, r2, r3, r4, r5]; done) | (simp only [am_wI_1, r0, r1, r2, r3, r4, r5]; rfl) | (simp only []; done) | (rw []))
        | (clear h; decide)
        | (clear h; simp only [q0, q1, q2, q3, q4, q5]; decide)
        | (clear h; simp only [r0, r1, r2, r3, r4, r5]; decide)
        | (clear h; simp only [l201]; omega)
    ·
      have e9 : a_count w = _ := if_neg hc
      rw [e9] at h
      by_cases z0 : ((0 : Int64) ≤ w.toInt64 ∧ w.toInt64 ≤ 5)
      rotate_left
      ·
        have hp : (if ((0 : Int64) ≤ w.toInt64 ∧ w.toInt64 ≤ 5) then (1 : Int32) else 0) = 0 := if_neg z0
        repeat' (first | apply And.intro | exact rfl | (intro hx; with_reducible exact absurd hp hx) | (intro hx; exact absurd hx (by decide)) | (intro hx; exact absurd (by decide) hx) | decide | intro hx | (refine Exists.intro _ (And.intro rfl ?_)))
        all_goals try first | (with_reducible change am_tI _ _) | (change Ret _ _) | (change Ret _ _ _) | (change Exists _)
        all_goals try dsimp only at *
        all_goals try exact absurd ‹(1000 : Int64) = 0› (by decide)
        all_goals first | exact h _ am_ch.rf | exact ⟨i1, i2, rfl⟩ | exact z1.1 | exact z1.2
      have hn0 : ¬ (if ((0 : Int64) ≤ w.toInt64 ∧ w.toInt64 ≤ 5) then (1 : Int32) else 0) = 0 := by rw [if_pos (z0)]; decide
      exact absurd (by clear h e9 hc hF0 s1 s2 s3 s4 s5; simp only [am_isNum, am_isN, i_le, i_lt, i_eq, j_le, Int32.toInt_toInt64, Int32.reduceToInt, Int64.reduceToInt, Int32.toInt_zero] at *; omega) hc
  · exact h.elim
