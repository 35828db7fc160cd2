/-! p1: the reference, texts and more -/
theorem wd_1244 : Cond.constantLong "LearnLoansModel" 257 2 ∈ am_ws := am_wsi (List.mem_of_getElem? (i := 1244) (by decide +kernel)) (by decide +kernel)
theorem dX8_chances_0 : decode cX8_chances 0 = .ok (.iload_n 1, 1) := by decide +kernel
theorem dX8_chances_1 : decode cX8_chances 1 = .ok (.i2l, 1) := by decide +kernel
theorem dX8_chances_2 : decode cX8_chances 2 = .ok (.lconst 0, 1) := by decide +kernel
theorem dX8_chances_3 : decode cX8_chances 3 = .ok (.ldc2_w 257, 3) := by decide +kernel
theorem dX8_chances_6 : decode cX8_chances 6 = .ok (.invokestatic 66, 3) := by decide +kernel
theorem dX8_chances_9 : decode cX8_chances 9 = .ok (.ifCond .eq 67, 3) := by decide +kernel
theorem dX8_chances_12 : decode cX8_chances 12 = .ok (.iload_n 2, 1) := by decide +kernel
theorem dX8_chances_13 : decode cX8_chances 13 = .ok (.i2l, 1) := by decide +kernel
theorem dX8_chances_14 : decode cX8_chances 14 = .ok (.lconst 0, 1) := by decide +kernel
theorem dX8_chances_15 : decode cX8_chances 15 = .ok (.ldc2_w 188, 3) := by decide +kernel
theorem dX8_chances_18 : decode cX8_chances 18 = .ok (.invokestatic 66, 3) := by decide +kernel
theorem dX8_chances_21 : decode cX8_chances 21 = .ok (.ifCond .eq 55, 3) := by decide +kernel
theorem dX8_chances_24 : decode cX8_chances 24 = .ok (.iload_n 3, 1) := by decide +kernel
theorem dX8_chances_25 : decode cX8_chances 25 = .ok (.i2l, 1) := by decide +kernel
theorem dX8_chances_26 : decode cX8_chances 26 = .ok (.lconst 0, 1) := by decide +kernel
theorem dX8_chances_27 : decode cX8_chances 27 = .ok (.ldc2_w 188, 3) := by decide +kernel
theorem dX8_chances_30 : decode cX8_chances 30 = .ok (.invokestatic 66, 3) := by decide +kernel
theorem dX8_chances_33 : decode cX8_chances 33 = .ok (.ifCond .eq 43, 3) := by decide +kernel
theorem dX8_chances_36 : decode cX8_chances 36 = .ok (.iload 4, 2) := by decide +kernel
theorem dX8_chances_38 : decode cX8_chances 38 = .ok (.i2l, 1) := by decide +kernel
theorem dX8_chances_39 : decode cX8_chances 39 = .ok (.lconst 0, 1) := by decide +kernel
theorem dX8_chances_40 : decode cX8_chances 40 = .ok (.ldc2_w 188, 3) := by decide +kernel
theorem dX8_chances_43 : decode cX8_chances 43 = .ok (.invokestatic 66, 3) := by decide +kernel
theorem dX8_chances_46 : decode cX8_chances 46 = .ok (.ifCond .eq 30, 3) := by decide +kernel
theorem dX8_chances_49 : decode cX8_chances 49 = .ok (.iload 5, 2) := by decide +kernel
theorem dX8_chances_51 : decode cX8_chances 51 = .ok (.i2l, 1) := by decide +kernel
theorem dX8_chances_52 : decode cX8_chances 52 = .ok (.lconst 0, 1) := by decide +kernel
theorem dX8_chances_53 : decode cX8_chances 53 = .ok (.ldc2_w 188, 3) := by decide +kernel
theorem dX8_chances_56 : decode cX8_chances 56 = .ok (.invokestatic 66, 3) := by decide +kernel
theorem dX8_chances_59 : decode cX8_chances 59 = .ok (.ifCond .eq 17, 3) := by decide +kernel
theorem dX8_chances_62 : decode cX8_chances 62 = .ok (.iload_n 2, 1) := by decide +kernel
theorem dX8_chances_63 : decode cX8_chances 63 = .ok (.iload_n 3, 1) := by decide +kernel
theorem dX8_chances_64 : decode cX8_chances 64 = .ok (.iadd, 1) := by decide +kernel
theorem dX8_chances_65 : decode cX8_chances 65 = .ok (.iload 4, 2) := by decide +kernel
theorem dX8_chances_67 : decode cX8_chances 67 = .ok (.iadd, 1) := by decide +kernel
theorem dX8_chances_68 : decode cX8_chances 68 = .ok (.iload 5, 2) := by decide +kernel
theorem dX8_chances_70 : decode cX8_chances 70 = .ok (.iadd, 1) := by decide +kernel
theorem dX8_chances_71 : decode cX8_chances 71 = .ok (.bipush 10, 2) := by decide +kernel
theorem dX8_chances_73 : decode cX8_chances 73 = .ok (.if_icmp .eq 6, 3) := by decide +kernel
theorem dX8_chances_76 : decode cX8_chances 76 = .ok (.bipush (-2), 2) := by decide +kernel
theorem dX8_chances_78 : decode cX8_chances 78 = .ok (.ireturn, 1) := by decide +kernel
theorem dX8_chances_79 : decode cX8_chances 79 = .ok (.aload_n 0, 1) := by decide +kernel
theorem dX8_chances_80 : decode cX8_chances 80 = .ok (.getfield 7, 3) := by decide +kernel
theorem dX8_chances_83 : decode cX8_chances 83 = .ok (.sipush 3733, 3) := by decide +kernel
theorem dX8_chances_86 : decode cX8_chances 86 = .ok (.iconst 4, 1) := by decide +kernel
theorem dX8_chances_87 : decode cX8_chances 87 = .ok (.iload_n 1, 1) := by decide +kernel
theorem dX8_chances_88 : decode cX8_chances 88 = .ok (.imul, 1) := by decide +kernel
theorem dX8_chances_89 : decode cX8_chances 89 = .ok (.iadd, 1) := by decide +kernel
theorem dX8_chances_90 : decode cX8_chances 90 = .ok (.iload_n 2, 1) := by decide +kernel
theorem dX8_chances_91 : decode cX8_chances 91 = .ok (.iastore, 1) := by decide +kernel
theorem dX8_chances_92 : decode cX8_chances 92 = .ok (.aload_n 0, 1) := by decide +kernel
theorem dX8_chances_93 : decode cX8_chances 93 = .ok (.getfield 7, 3) := by decide +kernel
theorem dX8_chances_96 : decode cX8_chances 96 = .ok (.sipush 3733, 3) := by decide +kernel
theorem dX8_chances_99 : decode cX8_chances 99 = .ok (.iconst 4, 1) := by decide +kernel
theorem dX8_chances_100 : decode cX8_chances 100 = .ok (.iload_n 1, 1) := by decide +kernel
theorem dX8_chances_101 : decode cX8_chances 101 = .ok (.imul, 1) := by decide +kernel
theorem dX8_chances_102 : decode cX8_chances 102 = .ok (.iadd, 1) := by decide +kernel
theorem dX8_chances_103 : decode cX8_chances 103 = .ok (.iconst 1, 1) := by decide +kernel
theorem dX8_chances_104 : decode cX8_chances 104 = .ok (.iadd, 1) := by decide +kernel
theorem dX8_chances_105 : decode cX8_chances 105 = .ok (.iload_n 3, 1) := by decide +kernel
theorem dX8_chances_106 : decode cX8_chances 106 = .ok (.iastore, 1) := by decide +kernel
theorem dX8_chances_107 : decode cX8_chances 107 = .ok (.aload_n 0, 1) := by decide +kernel
theorem dX8_chances_108 : decode cX8_chances 108 = .ok (.getfield 7, 3) := by decide +kernel
theorem dX8_chances_111 : decode cX8_chances 111 = .ok (.sipush 3733, 3) := by decide +kernel
theorem dX8_chances_114 : decode cX8_chances 114 = .ok (.iconst 4, 1) := by decide +kernel
theorem dX8_chances_115 : decode cX8_chances 115 = .ok (.iload_n 1, 1) := by decide +kernel
theorem dX8_chances_116 : decode cX8_chances 116 = .ok (.imul, 1) := by decide +kernel
theorem dX8_chances_117 : decode cX8_chances 117 = .ok (.iadd, 1) := by decide +kernel
theorem dX8_chances_118 : decode cX8_chances 118 = .ok (.iconst 2, 1) := by decide +kernel
theorem dX8_chances_119 : decode cX8_chances 119 = .ok (.iadd, 1) := by decide +kernel
theorem dX8_chances_120 : decode cX8_chances 120 = .ok (.iload 4, 2) := by decide +kernel
theorem dX8_chances_122 : decode cX8_chances 122 = .ok (.iastore, 1) := by decide +kernel
theorem dX8_chances_123 : decode cX8_chances 123 = .ok (.aload_n 0, 1) := by decide +kernel
theorem dX8_chances_124 : decode cX8_chances 124 = .ok (.getfield 7, 3) := by decide +kernel
theorem dX8_chances_127 : decode cX8_chances 127 = .ok (.sipush 3733, 3) := by decide +kernel
theorem dX8_chances_130 : decode cX8_chances 130 = .ok (.iconst 4, 1) := by decide +kernel
theorem dX8_chances_131 : decode cX8_chances 131 = .ok (.iload_n 1, 1) := by decide +kernel
theorem dX8_chances_132 : decode cX8_chances 132 = .ok (.imul, 1) := by decide +kernel
theorem dX8_chances_133 : decode cX8_chances 133 = .ok (.iadd, 1) := by decide +kernel
theorem dX8_chances_134 : decode cX8_chances 134 = .ok (.iconst 3, 1) := by decide +kernel
theorem dX8_chances_135 : decode cX8_chances 135 = .ok (.iadd, 1) := by decide +kernel
theorem dX8_chances_136 : decode cX8_chances 136 = .ok (.iload 5, 2) := by decide +kernel
theorem dX8_chances_138 : decode cX8_chances 138 = .ok (.iastore, 1) := by decide +kernel
theorem dX8_chances_139 : decode cX8_chances 139 = .ok (.iconst 1, 1) := by decide +kernel
theorem dX8_chances_140 : decode cX8_chances 140 = .ok (.ireturn, 1) := by decide +kernel
def kX8_chances (live : am_E) (Ret : am_R) : am_code := [(0, am_iload 1 1), (1, am_i2l 2), (2, am_const (.long 0) 3), (3, am_const (.long 2) 6), (6, am_callS live 3 TX8_in 9), (9, am_if1 (fun x => x = 0) 76 12), (12, am_iload 2 13), (13, am_i2l 14), (14, am_const (.long 0) 15), (15, am_const (.long 10) 18), (18, am_callS live 3 TX8_in 21), (21, am_if1 (fun x => x = 0) 76 24), (24, am_iload 3 25), (25, am_i2l 26), (26, am_const (.long 0) 27), (27, am_const (.long 10) 30), (30, am_callS live 3 TX8_in 33), (33, am_if1 (fun x => x = 0) 76 36), (36, am_iload 4 38), (38, am_i2l 39), (39, am_const (.long 0) 40), (40, am_const (.long 10) 43), (43, am_callS live 3 TX8_in 46), (46, am_if1 (fun x => x = 0) 76 49), (49, am_iload 5 51), (51, am_i2l 52), (52, am_const (.long 0) 53), (53, am_const (.long 10) 56), (56, am_callS live 3 TX8_in 59), (59, am_if1 (fun x => x = 0) 76 62), (62, am_iload 2 63), (63, am_iload 3 64), (64, am_i2 (fun x y => x + y) 65), (65, am_iload 4 67), (67, am_i2 (fun x y => x + y) 68), (68, am_iload 5 70), (70, am_i2 (fun x y => x + y) 71), (71, am_const (.int 10) 73), (73, am_if2 (fun x y => x = y) 79 76), (76, am_const (.int (-2)) 78), (78, am_retI Ret), (79, am_aload 0 80), (80, am_getR live 8 0 83), (83, am_const (.int 3733) 86), (86, am_const (.int 4) 87), (87, am_iload 1 88), (88, am_i2 (fun x y => x * y) 89), (89, am_i2 (fun x y => x + y) 90), (90, am_iload 2 91), (91, am_ast live 0 92), (92, am_aload 0 93), (93, am_getR live 8 0 96), (96, am_const (.int 3733) 99), (99, am_const (.int 4) 100), (100, am_iload 1 101), (101, am_i2 (fun x y => x * y) 102), (102, am_i2 (fun x y => x + y) 103), (103, am_const (.int 1) 104), (104, am_i2 (fun x y => x + y) 105), (105, am_iload 3 106), (106, am_ast live 0 107), (107, am_aload 0 108), (108, am_getR live 8 0 111), (111, am_const (.int 3733) 114), (114, am_const (.int 4) 115), (115, am_iload 1 116), (116, am_i2 (fun x y => x * y) 117), (117, am_i2 (fun x y => x + y) 118), (118, am_const (.int 2) 119), (119, am_i2 (fun x y => x + y) 120), (120, am_iload 4 122), (122, am_ast live 0 123), (123, am_aload 0 124), (124, am_getR live 8 0 127), (127, am_const (.int 3733) 130), (130, am_const (.int 4) 131), (131, am_iload 1 132), (132, am_i2 (fun x y => x * y) 133), (133, am_i2 (fun x y => x + y) 134), (134, am_const (.int 3) 135), (135, am_i2 (fun x y => x + y) 136), (136, am_iload 5 138), (138, am_ast live 0 139), (139, am_const (.int 1) 140), (140, am_retI Ret)]
theorem koX8_chances (live : am_E) (Ret : am_R) : ∀ q ∈ kX8_chances live Ret, am_ok RX8 cX8_chances 6 (some .int) 1 25 live Ret q.1 q.2 :=
  am_kc (ak_iload_n dX8_chances_0 rfl rfl) <|
  am_kc (ak_i2l dX8_chances_1 rfl) <|
  am_kc (ak_lconst dX8_chances_2 (by decide +kernel) rfl) <|
  am_kc (ak_ldc2 wd_1244 dX8_chances_3 rfl) <|
  am_kc (ak_callS metX8_in ⟨rfl, by decide +kernel, by decide +kernel, by decide +kernel⟩ (am_w4 wd_986 wd_987 wd_67 wd_988) (by decide) dX8_chances_6 rfl) <|
  am_kc (ak_if_eq dX8_chances_9 (by decide +kernel) rfl) <|
  am_kc (ak_iload_n dX8_chances_12 rfl rfl) <|
  am_kc (ak_i2l dX8_chances_13 rfl) <|
  am_kc (ak_lconst dX8_chances_14 (by decide +kernel) rfl) <|
  am_kc (ak_ldc2 wd_1108 dX8_chances_15 rfl) <|
  am_kc (ak_callS metX8_in ⟨rfl, by decide +kernel, by decide +kernel, by decide +kernel⟩ (am_w4 wd_986 wd_987 wd_67 wd_988) (by decide) dX8_chances_18 rfl) <|
  am_kc (ak_if_eq dX8_chances_21 (by decide +kernel) rfl) <|
  am_kc (ak_iload_n dX8_chances_24 rfl rfl) <|
  am_kc (ak_i2l dX8_chances_25 rfl) <|
  am_kc (ak_lconst dX8_chances_26 (by decide +kernel) rfl) <|
  am_kc (ak_ldc2 wd_1108 dX8_chances_27 rfl) <|
  am_kc (ak_callS metX8_in ⟨rfl, by decide +kernel, by decide +kernel, by decide +kernel⟩ (am_w4 wd_986 wd_987 wd_67 wd_988) (by decide) dX8_chances_30 rfl) <|
  am_kc (ak_if_eq dX8_chances_33 (by decide +kernel) rfl) <|
  am_kc (ak_iload dX8_chances_36 rfl) <|
  am_kc (ak_i2l dX8_chances_38 rfl) <|
  am_kc (ak_lconst dX8_chances_39 (by decide +kernel) rfl) <|
  am_kc (ak_ldc2 wd_1108 dX8_chances_40 rfl) <|
  am_kc (ak_callS metX8_in ⟨rfl, by decide +kernel, by decide +kernel, by decide +kernel⟩ (am_w4 wd_986 wd_987 wd_67 wd_988) (by decide) dX8_chances_43 rfl) <|
  am_kc (ak_if_eq dX8_chances_46 (by decide +kernel) rfl) <|
  am_kc (ak_iload dX8_chances_49 rfl) <|
  am_kc (ak_i2l dX8_chances_51 rfl) <|
  am_kc (ak_lconst dX8_chances_52 (by decide +kernel) rfl) <|
  am_kc (ak_ldc2 wd_1108 dX8_chances_53 rfl) <|
  am_kc (ak_callS metX8_in ⟨rfl, by decide +kernel, by decide +kernel, by decide +kernel⟩ (am_w4 wd_986 wd_987 wd_67 wd_988) (by decide) dX8_chances_56 rfl) <|
  am_kc (ak_if_eq dX8_chances_59 (by decide +kernel) rfl) <|
  am_kc (ak_iload_n dX8_chances_62 rfl rfl) <|
  am_kc (ak_iload_n dX8_chances_63 rfl rfl) <|
  am_kc (ak_iadd dX8_chances_64 rfl) <|
  am_kc (ak_iload dX8_chances_65 rfl) <|
  am_kc (ak_iadd dX8_chances_67 rfl) <|
  am_kc (ak_iload dX8_chances_68 rfl) <|
  am_kc (ak_iadd dX8_chances_70 rfl) <|
  am_kc (ak_bipush dX8_chances_71 (by decide +kernel) rfl) <|
  am_kc (ak_icmp_eq dX8_chances_73 (by decide +kernel) rfl) <|
  am_kc (ak_bipush dX8_chances_76 (by decide +kernel) rfl) <|
  am_kc (ak_retI dX8_chances_78) <|
  am_kc (ak_aload_n dX8_chances_79 rfl rfl) <|
  am_kc (ak_getR (C := RX8) (T := TX8) (N := 27) rfl inX8w (by decide) rfl rfl rfl wd_895 dX8_chances_80 rfl) <|
  am_kc (ak_sipush dX8_chances_83 (by decide +kernel) rfl) <|
  am_kc (ak_iconst dX8_chances_86 (by decide +kernel) rfl) <|
  am_kc (ak_iload_n dX8_chances_87 rfl rfl) <|
  am_kc (ak_imul dX8_chances_88 rfl) <|
  am_kc (ak_iadd dX8_chances_89 rfl) <|
  am_kc (ak_iload_n dX8_chances_90 rfl rfl) <|
  am_kc (ak_iast (t := 0) (fun _ => rfl) rfl dX8_chances_91 rfl) <|
  am_kc (ak_aload_n dX8_chances_92 rfl rfl) <|
  am_kc (ak_getR (C := RX8) (T := TX8) (N := 27) rfl inX8w (by decide) rfl rfl rfl wd_895 dX8_chances_93 rfl) <|
  am_kc (ak_sipush dX8_chances_96 (by decide +kernel) rfl) <|
  am_kc (ak_iconst dX8_chances_99 (by decide +kernel) rfl) <|
  am_kc (ak_iload_n dX8_chances_100 rfl rfl) <|
  am_kc (ak_imul dX8_chances_101 rfl) <|
  am_kc (ak_iadd dX8_chances_102 rfl) <|
  am_kc (ak_iconst dX8_chances_103 (by decide +kernel) rfl) <|
  am_kc (ak_iadd dX8_chances_104 rfl) <|
  am_kc (ak_iload_n dX8_chances_105 rfl rfl) <|
  am_kc (ak_iast (t := 0) (fun _ => rfl) rfl dX8_chances_106 rfl) <|
  am_kc (ak_aload_n dX8_chances_107 rfl rfl) <|
  am_kc (ak_getR (C := RX8) (T := TX8) (N := 27) rfl inX8w (by decide) rfl rfl rfl wd_895 dX8_chances_108 rfl) <|
  am_kc (ak_sipush dX8_chances_111 (by decide +kernel) rfl) <|
  am_kc (ak_iconst dX8_chances_114 (by decide +kernel) rfl) <|
  am_kc (ak_iload_n dX8_chances_115 rfl rfl) <|
  am_kc (ak_imul dX8_chances_116 rfl) <|
  am_kc (ak_iadd dX8_chances_117 rfl) <|
  am_kc (ak_iconst dX8_chances_118 (by decide +kernel) rfl) <|
  am_kc (ak_iadd dX8_chances_119 rfl) <|
  am_kc (ak_iload dX8_chances_120 rfl) <|
  am_kc (ak_iast (t := 0) (fun _ => rfl) rfl dX8_chances_122 rfl) <|
  am_kc (ak_aload_n dX8_chances_123 rfl rfl) <|
  am_kc (ak_getR (C := RX8) (T := TX8) (N := 27) rfl inX8w (by decide) rfl rfl rfl wd_895 dX8_chances_124 rfl) <|
  am_kc (ak_sipush dX8_chances_127 (by decide +kernel) rfl) <|
  am_kc (ak_iconst dX8_chances_130 (by decide +kernel) rfl) <|
  am_kc (ak_iload_n dX8_chances_131 rfl rfl) <|
  am_kc (ak_imul dX8_chances_132 rfl) <|
  am_kc (ak_iadd dX8_chances_133 rfl) <|
  am_kc (ak_iconst dX8_chances_134 (by decide +kernel) rfl) <|
  am_kc (ak_iadd dX8_chances_135 rfl) <|
  am_kc (ak_iload dX8_chances_136 rfl) <|
  am_kc (ak_iast (t := 0) (fun _ => rfl) rfl dX8_chances_138 rfl) <|
  am_kc (ak_iconst dX8_chances_139 (by decide +kernel) rfl) <|
  am_kc (ak_retI dX8_chances_140) <| am_kn
def TX8_chances : am_T := fun live as M R => match as with
  | [.ref n, .int s, .int w, .int g, .int a, .int d] => am_mn live ∧ n = 200 ∧ am_F8 M ∧ ∀ M', am_ch am_hi M M' → R (some (.int (a_chances s w g a d))) M'
  | _ => False
def JX8_chances : am_E → List Value → am_M → am_R → am_inv := fun live as M0 _ pc => match as with
  | [.ref _, .int s, .int w, .int g, .int a, .int d] => (match pc with
    | 12 => some ([0, 1, 2, 3, 4, 5], fun k L st M => L = [(0, .ref 200), (1, .int s), (2, .int w), (3, .int g), (4, .int a), (5, .int d)] ∧ st = [] ∧ k = (6, 0) ∧ (((0 : Int64) ≤ s.toInt64 ∧ s.toInt64 ≤ 2)) ∧ M = M0)
    | 24 => some ([0, 1, 2, 3, 4, 5], fun k L st M => L = [(0, .ref 200), (1, .int s), (2, .int w), (3, .int g), (4, .int a), (5, .int d)] ∧ st = [] ∧ k = (5, 0) ∧ (((0 : Int64) ≤ s.toInt64 ∧ s.toInt64 ≤ 2) ∧ ((0 : Int64) ≤ w.toInt64 ∧ w.toInt64 ≤ 10)) ∧ M = M0)
    | 36 => some ([0, 1, 2, 3, 4, 5], fun k L st M => L = [(0, .ref 200), (1, .int s), (2, .int w), (3, .int g), (4, .int a), (5, .int d)] ∧ st = [] ∧ k = (4, 0) ∧ (((0 : Int64) ≤ s.toInt64 ∧ s.toInt64 ≤ 2) ∧ ((0 : Int64) ≤ w.toInt64 ∧ w.toInt64 ≤ 10) ∧ ((0 : Int64) ≤ g.toInt64 ∧ g.toInt64 ≤ 10)) ∧ M = M0)
    | 49 => some ([0, 1, 2, 3, 4, 5], fun k L st M => L = [(0, .ref 200), (1, .int s), (2, .int w), (3, .int g), (4, .int a), (5, .int d)] ∧ st = [] ∧ k = (3, 0) ∧ (((0 : Int64) ≤ s.toInt64 ∧ s.toInt64 ≤ 2) ∧ ((0 : Int64) ≤ w.toInt64 ∧ w.toInt64 ≤ 10) ∧ ((0 : Int64) ≤ g.toInt64 ∧ g.toInt64 ≤ 10) ∧ ((0 : Int64) ≤ a.toInt64 ∧ a.toInt64 ≤ 10)) ∧ M = M0)
    | 62 => some ([0, 1, 2, 3, 4, 5], fun k L st M => L = [(0, .ref 200), (1, .int s), (2, .int w), (3, .int g), (4, .int a), (5, .int d)] ∧ st = [] ∧ k = (2, 0) ∧ (((0 : Int64) ≤ s.toInt64 ∧ s.toInt64 ≤ 2) ∧ ((0 : Int64) ≤ w.toInt64 ∧ w.toInt64 ≤ 10) ∧ ((0 : Int64) ≤ g.toInt64 ∧ g.toInt64 ≤ 10) ∧ ((0 : Int64) ≤ a.toInt64 ∧ a.toInt64 ≤ 10) ∧ ((0 : Int64) ≤ d.toInt64 ∧ d.toInt64 ≤ 10)) ∧ M = M0)
    | 79 => some ([0, 1, 2, 3, 4, 5], fun k L st M => L = [(0, .ref 200), (1, .int s), (2, .int w), (3, .int g), (4, .int a), (5, .int d)] ∧ st = [] ∧ k = (1, 0) ∧ (((0 : Int64) ≤ s.toInt64 ∧ s.toInt64 ≤ 2) ∧ ((0 : Int64) ≤ w.toInt64 ∧ w.toInt64 ≤ 10) ∧ ((0 : Int64) ≤ g.toInt64 ∧ g.toInt64 ≤ 10) ∧ ((0 : Int64) ≤ a.toInt64 ∧ a.toInt64 ≤ 10) ∧ ((0 : Int64) ≤ d.toInt64 ∧ d.toInt64 ≤ 10) ∧ w + g + a + d = 10) ∧ M = M0)
    | _ => none)
  | _ => none
set_option maxRecDepth 100000 in
set_option maxHeartbeats 4000000 in
theorem metX8_chances : am_Met yX8_chances cX8_chances 6 (some .int) (1) (25) TX8_chances := by
  refine am_met (own := RX8) (by decide +kernel) rfl kX8_chances koX8_chances 100 JX8_chances ?_ ?_
  · intro live as M Ret h
    unfold TX8_chances at h
    split at h
    · next n s w g a d =>
      refine ⟨Nat.le_of_ble_eq_true rfl, ?_⟩
      change am_wp _ _ _ _ [(0, Value.ref n), (1, Value.int s), (2, Value.int w), (3, Value.int g), (4, Value.int a), (5, Value.int d)] _ _
      obtain ⟨⟨i1, i2, rfl⟩, rfl, hF, h⟩ := h
      clear hF
      by_cases z9 : ((0 : Int64) ≤ s.toInt64 ∧ s.toInt64 ≤ 2)
      ·
        have n9 : ¬ (if ((0 : Int64) ≤ s.toInt64 ∧ s.toInt64 ≤ 2) then (1 : Int32) else 0) = 0 := by rw [if_pos z9]; decide
        repeat' (first | apply And.intro | exact rfl | (intro hx; with_reducible exact absurd hx n9) | intro hx | (refine Exists.intro _ (And.intro rfl ?_)))
        all_goals try first | (with_reducible change am_tI _ _) | (change Ret _ _) | (change Ret _ _ _) | (change Exists _)
        all_goals try dsimp only at *
        all_goals try exact absurd ‹(1000 : Int64) = 0› (by decide)
        exact ⟨_, rfl, rfl, rfl, z9, rfl⟩
      ·
        have p9 : (if ((0 : Int64) ≤ s.toInt64 ∧ s.toInt64 ≤ 2) then (1 : Int32) else 0) = 0 := if_neg z9
        have e9 : a_chances s w g a d = -2 := if_neg (fun z => z9 (by have z := z.1; simp only [i_le, i_lt, i_eq, j_le, Int32.toInt_toInt64, Int32.reduceToInt, Int64.reduceToInt, Int32.toInt_zero] at z ⊢; omega))
        rw [e9] at h
        clear e9
        repeat' (first | apply And.intro | exact rfl | (intro hx; with_reducible exact absurd p9 hx) | intro hx | (refine Exists.intro _ (And.intro rfl ?_)))
        all_goals try first | (with_reducible change am_tI _ _) | (change Ret _ _) | (change Ret _ _ _) | (change Exists _)
        all_goals try dsimp only at *
        all_goals try exact absurd ‹(1000 : Int64) = 0› (by decide)
        all_goals exact h _ am_ch.rf
    · exact h.elim
  · intro live as M0 Ret h k pc I hI L st M hi
    unfold TX8_chances at h
    split at h
    · next n s w g a d =>
      obtain ⟨⟨i1, i2, rfl⟩, rfl, hF, h⟩ := h
      clear hF
      change (match pc with | 12 => _ | 24 => _ | 36 => _ | 49 => _ | 62 => _ | 79 => _ | _ => none) = _ at hI
      split at hI
      · cases hI
        obtain ⟨rfl, rfl, rfl, hz, rfl⟩ := hi
        by_cases z9 : ((0 : Int64) ≤ w.toInt64 ∧ w.toInt64 ≤ 10)
        ·
          have n9 : ¬ (if ((0 : Int64) ≤ w.toInt64 ∧ w.toInt64 ≤ 10) then (1 : Int32) else 0) = 0 := by rw [if_pos z9]; decide
          repeat' (first | apply And.intro | exact rfl | (intro hx; with_reducible exact absurd hx n9) | intro hx | (refine Exists.intro _ (And.intro rfl ?_)))
          all_goals try first | (with_reducible change am_tI _ _) | (change Ret _ _) | (change Ret _ _ _) | (change Exists _)
          all_goals try dsimp only at *
          all_goals try exact absurd ‹(1000 : Int64) = 0› (by decide)
          exact ⟨(5, 0), Or.inl (by decide), rfl, rfl, rfl, ⟨hz, z9⟩, rfl⟩
        ·
          have p9 : (if ((0 : Int64) ≤ w.toInt64 ∧ w.toInt64 ≤ 10) then (1 : Int32) else 0) = 0 := if_neg z9
          have e9 : a_chances s w g a d = -2 := if_neg (fun z => z9 (by have z := z.2.1; simp only [i_le, i_lt, i_eq, j_le, Int32.toInt_toInt64, Int32.reduceToInt, Int64.reduceToInt, Int32.toInt_zero] at z ⊢; omega))
          rw [e9] at h
          clear e9
          repeat' (first | apply And.intro | exact rfl | (intro hx; with_reducible exact absurd p9 hx) | intro hx | (refine Exists.intro _ (And.intro rfl ?_)))
          all_goals try first | (with_reducible change am_tI _ _) | (change Ret _ _) | (change Ret _ _ _) | (change Exists _)
          all_goals try dsimp only at *
          all_goals try exact absurd ‹(1000 : Int64) = 0› (by decide)
          all_goals exact h _ am_ch.rf
      · cases hI
        obtain ⟨rfl, rfl, rfl, hz, rfl⟩ := hi
        by_cases z9 : ((0 : Int64) ≤ g.toInt64 ∧ g.toInt64 ≤ 10)
        ·
          have n9 : ¬ (if ((0 : Int64) ≤ g.toInt64 ∧ g.toInt64 ≤ 10) then (1 : Int32) else 0) = 0 := by rw [if_pos z9]; decide
          repeat' (first | apply And.intro | exact rfl | (intro hx; with_reducible exact absurd hx n9) | intro hx | (refine Exists.intro _ (And.intro rfl ?_)))
          all_goals try first | (with_reducible change am_tI _ _) | (change Ret _ _) | (change Ret _ _ _) | (change Exists _)
          all_goals try dsimp only at *
          all_goals try exact absurd ‹(1000 : Int64) = 0› (by decide)
          exact ⟨(4, 0), Or.inl (by decide), rfl, rfl, rfl, ⟨hz.1, hz.2, z9⟩, rfl⟩
        ·
          have p9 : (if ((0 : Int64) ≤ g.toInt64 ∧ g.toInt64 ≤ 10) then (1 : Int32) else 0) = 0 := if_neg z9
          have e9 : a_chances s w g a d = -2 := if_neg (fun z => z9 (by have z := z.2.2.1; simp only [i_le, i_lt, i_eq, j_le, Int32.toInt_toInt64, Int32.reduceToInt, Int64.reduceToInt, Int32.toInt_zero] at z ⊢; omega))
          rw [e9] at h
          clear e9
          repeat' (first | apply And.intro | exact rfl | (intro hx; with_reducible exact absurd p9 hx) | intro hx | (refine Exists.intro _ (And.intro rfl ?_)))
          all_goals try first | (with_reducible change am_tI _ _) | (change Ret _ _) | (change Ret _ _ _) | (change Exists _)
          all_goals try dsimp only at *
          all_goals try exact absurd ‹(1000 : Int64) = 0› (by decide)
          all_goals exact h _ am_ch.rf
      · cases hI
        obtain ⟨rfl, rfl, rfl, hz, rfl⟩ := hi
        by_cases z9 : ((0 : Int64) ≤ a.toInt64 ∧ a.toInt64 ≤ 10)
        ·
          have n9 : ¬ (if ((0 : Int64) ≤ a.toInt64 ∧ a.toInt64 ≤ 10) then (1 : Int32) else 0) = 0 := by rw [if_pos z9]; decide
          repeat' (first | apply And.intro | exact rfl | (intro hx; with_reducible exact absurd hx n9) | intro hx | (refine Exists.intro _ (And.intro rfl ?_)))
          all_goals try first | (with_reducible change am_tI _ _) | (change Ret _ _) | (change Ret _ _ _) | (change Exists _)
          all_goals try dsimp only at *
          all_goals try exact absurd ‹(1000 : Int64) = 0› (by decide)
          exact ⟨(3, 0), Or.inl (by decide), rfl, rfl, rfl, ⟨hz.1, hz.2.1, hz.2.2, z9⟩, rfl⟩
        ·
          have p9 : (if ((0 : Int64) ≤ a.toInt64 ∧ a.toInt64 ≤ 10) then (1 : Int32) else 0) = 0 := if_neg z9
          have e9 : a_chances s w g a d = -2 := if_neg (fun z => z9 (by have z := z.2.2.2.1; simp only [i_le, i_lt, i_eq, j_le, Int32.toInt_toInt64, Int32.reduceToInt, Int64.reduceToInt, Int32.toInt_zero] at z ⊢; omega))
          rw [e9] at h
          clear e9
          repeat' (first | apply And.intro | exact rfl | (intro hx; with_reducible exact absurd p9 hx) | intro hx | (refine Exists.intro _ (And.intro rfl ?_)))
          all_goals try first | (with_reducible change am_tI _ _) | (change Ret _ _) | (change Ret _ _ _) | (change Exists _)
          all_goals try dsimp only at *
          all_goals try exact absurd ‹(1000 : Int64) = 0› (by decide)
          all_goals exact h _ am_ch.rf
      · cases hI
        obtain ⟨rfl, rfl, rfl, hz, rfl⟩ := hi
        by_cases z9 : ((0 : Int64) ≤ d.toInt64 ∧ d.toInt64 ≤ 10)
        ·
          have n9 : ¬ (if ((0 : Int64) ≤ d.toInt64 ∧ d.toInt64 ≤ 10) then (1 : Int32) else 0) = 0 := by rw [if_pos z9]; decide
          repeat' (first | apply And.intro | exact rfl | (intro hx; with_reducible exact absurd hx n9) | intro hx | (refine Exists.intro _ (And.intro rfl ?_)))
          all_goals try first | (with_reducible change am_tI _ _) | (change Ret _ _) | (change Ret _ _ _) | (change Exists _)
          all_goals try dsimp only at *
          all_goals try exact absurd ‹(1000 : Int64) = 0› (by decide)
          exact ⟨(2, 0), Or.inl (by decide), rfl, rfl, rfl, ⟨hz.1, hz.2.1, hz.2.2.1, hz.2.2.2, z9⟩, rfl⟩
        ·
          have p9 : (if ((0 : Int64) ≤ d.toInt64 ∧ d.toInt64 ≤ 10) then (1 : Int32) else 0) = 0 := if_neg z9
          have e9 : a_chances s w g a d = -2 := if_neg (fun z => z9 (by have z := z.2.2.2.2.1; simp only [i_le, i_lt, i_eq, j_le, Int32.toInt_toInt64, Int32.reduceToInt, Int64.reduceToInt, Int32.toInt_zero] at z ⊢; omega))
          rw [e9] at h
          clear e9
          repeat' (first | apply And.intro | exact rfl | (intro hx; with_reducible exact absurd p9 hx) | intro hx | (refine Exists.intro _ (And.intro rfl ?_)))
          all_goals try first | (with_reducible change am_tI _ _) | (change Ret _ _) | (change Ret _ _ _) | (change Exists _)
          all_goals try dsimp only at *
          all_goals try exact absurd ‹(1000 : Int64) = 0› (by decide)
          all_goals exact h _ am_ch.rf
      · cases hI
        obtain ⟨rfl, rfl, rfl, hz, rfl⟩ := hi
        by_cases z9 : w + g + a + d = 10
        ·
          repeat' (first | apply And.intro | exact rfl | (intro hx; with_reducible exact absurd z9 hx) | intro hx | (refine Exists.intro _ (And.intro rfl ?_)))
          all_goals try first | (with_reducible change am_tI _ _) | (change Ret _ _) | (change Ret _ _ _) | (change Exists _)
          all_goals try dsimp only at *
          all_goals try exact absurd ‹(1000 : Int64) = 0› (by decide)
          exact ⟨(1, 0), Or.inl (by decide), rfl, rfl, rfl, ⟨hz.1, hz.2.1, hz.2.2.1, hz.2.2.2.1, hz.2.2.2.2, z9⟩, rfl⟩
        ·
          have e9 : a_chances s w g a d = -2 := if_neg (fun z => z9 z.2.2.2.2.2)
          rw [e9] at h
          clear e9
          repeat' (first | apply And.intro | exact rfl | (intro hx; with_reducible exact absurd hx z9) | intro hx | (refine Exists.intro _ (And.intro rfl ?_)))
          all_goals try first | (with_reducible change am_tI _ _) | (change Ret _ _) | (change Ret _ _ _) | (change Exists _)
          all_goals try dsimp only at *
          all_goals try exact absurd ‹(1000 : Int64) = 0› (by decide)
          all_goals exact h _ am_ch.rf
      · cases hI
        obtain ⟨rfl, rfl, rfl, hz, rfl⟩ := hi
        have hc : (0 ≤ s ∧ s ≤ 2) ∧ (0 ≤ w ∧ w ≤ 10) ∧ (0 ≤ g ∧ g ≤ 10) ∧ (0 ≤ a ∧ a ≤ 10) ∧ (0 ≤ d ∧ d ≤ 10) ∧ w + g + a + d = 10 := ⟨by have z := hz.1; simp only [i_le, i_lt, i_eq, j_le, Int32.toInt_toInt64, Int32.reduceToInt, Int64.reduceToInt, Int32.toInt_zero] at z ⊢; omega, by have z := hz.2.1; simp only [i_le, i_lt, i_eq, j_le, Int32.toInt_toInt64, Int32.reduceToInt, Int64.reduceToInt, Int32.toInt_zero] at z ⊢; omega, by have z := hz.2.2.1; simp only [i_le, i_lt, i_eq, j_le, Int32.toInt_toInt64, Int32.reduceToInt, Int64.reduceToInt, Int32.toInt_zero] at z ⊢; omega, by have z := hz.2.2.2.1; simp only [i_le, i_lt, i_eq, j_le, Int32.toInt_toInt64, Int32.reduceToInt, Int64.reduceToInt, Int32.toInt_zero] at z ⊢; omega, by have z := hz.2.2.2.2.1; simp only [i_le, i_lt, i_eq, j_le, Int32.toInt_toInt64, Int32.reduceToInt, Int64.reduceToInt, Int32.toInt_zero] at z ⊢; omega, hz.2.2.2.2.2⟩
        have e9 : a_chances s w g a d = 1 := if_pos hc
        rw [e9] at h
        have l201 : (am_len 201 : Int) = 3760 := rfl
        have y : 0 ≤ s.toInt ∧ s.toInt ≤ 2 := by
          have z := hc.1
          simp only [i_le, Int32.reduceToInt] at z
          omega
        have e1 : (4 * s).toInt = 4 * s.toInt := i_mul (by simp only [Int32.reduceToInt]; omega) (by simp only [Int32.reduceToInt]; omega)
        have e2 : (3733 + 4 * s).toInt = 3733 + 4 * s.toInt := by rw [i_add (by simp only [e1, Int32.reduceToInt]; omega) (by simp only [e1, Int32.reduceToInt]; omega), e1]; simp only [Int32.reduceToInt]
        have f1 : (3733 + 4 * s + 1).toInt = 3734 + 4 * s.toInt := by rw [i_add (by simp only [e2, Int32.reduceToInt]; omega) (by simp only [e2, Int32.reduceToInt]; omega), e2]; simp only [Int32.reduceToInt]; omega
        have f2 : (3733 + 4 * s + 2).toInt = 3735 + 4 * s.toInt := by rw [i_add (by simp only [e2, Int32.reduceToInt]; omega) (by simp only [e2, Int32.reduceToInt]; omega), e2]; simp only [Int32.reduceToInt]; omega
        have f3 : (3733 + 4 * s + 3).toInt = 3736 + 4 * s.toInt := by rw [i_add (by simp only [e2, Int32.reduceToInt]; omega) (by simp only [e2, Int32.reduceToInt]; omega), e2]; simp only [Int32.reduceToInt]; omega
        have b0 : 0 ≤ (3733 + 4 * s).toInt := by rw [e2]; omega
        have b1 : (3733 + 4 * s).toInt < (am_len 201 : Int) := by rw [e2, l201]; omega
        have b2 : 0 ≤ (3733 + 4 * s + 1).toInt := by rw [f1]; omega
        have b3 : (3733 + 4 * s + 1).toInt < (am_len 201 : Int) := by rw [f1, l201]; omega
        have b4 : 0 ≤ (3733 + 4 * s + 2).toInt := by rw [f2]; omega
        have b5 : (3733 + 4 * s + 2).toInt < (am_len 201 : Int) := by rw [f2, l201]; omega
        have b6 : 0 ≤ (3733 + 4 * s + 3).toInt := by rw [f3]; omega
        have b7 : (3733 + 4 * s + 3).toInt < (am_len 201 : Int) := by rw [f3, l201]; omega
        clear e1 e2 f1 f2 f3 y e9 hc hz
        repeat' (first | (with_reducible exact b0) | (with_reducible exact b1) | (with_reducible exact b2) | (with_reducible exact b3) | (with_reducible exact b4) | (with_reducible exact b5) | (with_reducible exact b6) | (with_reducible exact b7) | apply And.intro | exact rfl | intro hx | (refine Exists.intro _ (And.intro rfl ?_)))
        all_goals try first | (with_reducible change am_tI _ _) | (change Ret _ _) | (change Ret _ _ _) | (change Exists _)
        all_goals try dsimp only at *
        all_goals try exact absurd ‹(1000 : Int64) = 0› (by decide)
        all_goals exact h _ (by repeat (first | exact am_ch.rf | refine am_ch.wI ?_ (by show 200 ≤ (_ : Nat); decide) | refine am_ch.wJ ?_ (by show 200 ≤ (_ : Nat); decide)))
      · cases hI
    · exact h.elim
