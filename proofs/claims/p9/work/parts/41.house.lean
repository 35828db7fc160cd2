def an_t0 (n : Nat) : Bool := [20, 60, 100].contains n
theorem an_t0_of {n : Nat} (h : an_t0 n = true) : n = 20 ∨ n = 60 ∨ n = 100 := by
  unfold an_t0 at h
  simpa using h
set_option maxRecDepth 100000 in
theorem wd_95 : Cond.methodLink "LearnLoans$House" 3 objectInit ∈ am_ws := am_wt1 (List.mem_of_getElem? (i := 38) (by rfl)) (by decide +kernel)
set_option maxRecDepth 100000 in
theorem wd_96 : Cond.classLink "LearnLoans$House" 9 "LearnLoans$People" ∈ am_ws := am_wt1 (List.mem_of_getElem? (i := 39) (by rfl)) (by decide +kernel)
set_option maxRecDepth 100000 in
theorem wd_97 : Cond.instantiable "LearnLoans$People" 8 ∈ am_ws := am_wt1 (List.mem_of_getElem? (i := 40) (by rfl)) (by decide +kernel)
theorem hy_X2_init : yX2_init.cls ≠ "java/lang/invoke/MethodHandle" ∧ yX2_init.cls ≠ "java/lang/invoke/VarHandle" ∧ (parseMethodDescriptor yX2_init.desc).map (fun d => d.parameters.length) = some 0 := ⟨by decide +kernel, by decide +kernel, by decide +kernel⟩
set_option maxRecDepth 100000 in
theorem wd_98 : Cond.methodLink "LearnLoans$House" 11 yX2_init ∈ am_ws := am_wt1 (List.mem_of_getElem? (i := 41) (by rfl)) (by decide +kernel)
set_option maxRecDepth 100000 in
theorem wd_99 : Cond.instanceMethod yX2_init ∈ am_ws := am_wt1 (List.mem_of_getElem? (i := 42) (by rfl)) (by decide +kernel)
set_option maxRecDepth 100000 in
theorem wd_100 : Cond.code yX2_init cX2_init 1 none ∈ am_ws := am_wt1 (List.mem_of_getElem? (i := 43) (by rfl)) (by decide +kernel)
set_option maxRecDepth 100000 in
theorem wd_141 : Cond.classLink "LearnLoans$House" 25 "LearnLoans$Rows" ∈ am_ws := am_wt1 (List.mem_of_getElem? (i := 84) (by rfl)) (by decide +kernel)
set_option maxRecDepth 100000 in
theorem wd_142 : Cond.instantiable "LearnLoans$Rows" 3 ∈ am_ws := am_wt1 (List.mem_of_getElem? (i := 85) (by rfl)) (by decide +kernel)
theorem hy_X3_init : yX3_init.cls ≠ "java/lang/invoke/MethodHandle" ∧ yX3_init.cls ≠ "java/lang/invoke/VarHandle" ∧ (parseMethodDescriptor yX3_init.desc).map (fun d => d.parameters.length) = some 2 := ⟨by decide +kernel, by decide +kernel, by decide +kernel⟩
set_option maxRecDepth 100000 in
theorem wd_143 : Cond.methodLink "LearnLoans$House" 27 yX3_init ∈ am_ws := am_wt1 (List.mem_of_getElem? (i := 86) (by rfl)) (by decide +kernel)
set_option maxRecDepth 100000 in
theorem wd_144 : Cond.instanceMethod yX3_init ∈ am_ws := am_wt1 (List.mem_of_getElem? (i := 87) (by rfl)) (by decide +kernel)
set_option maxRecDepth 100000 in
theorem wd_145 : Cond.code yX3_init cX3_init 3 none ∈ am_ws := am_wt1 (List.mem_of_getElem? (i := 88) (by rfl)) (by decide +kernel)
set_option maxRecDepth 100000 in
theorem wd_160 : Cond.classLink "LearnLoans$House" 43 "LearnLoans$Text" ∈ am_ws := am_wt1 (List.mem_of_getElem? (i := 103) (by rfl)) (by decide +kernel)
set_option maxRecDepth 100000 in
theorem wd_162 : Cond.methodLink "LearnLoans$House" 61 yJ7_fill_53178 ∈ am_ws := am_wt1 (List.mem_of_getElem? (i := 105) (by rfl)) (by decide +kernel)
set_option maxRecDepth 100000 in
theorem wd_163 : Cond.instantiable "LearnLoans$Text" 7 ∈ am_ws := am_wt1 (List.mem_of_getElem? (i := 106) (by rfl)) (by decide +kernel)
theorem hy_X5_init : yX5_init.cls ≠ "java/lang/invoke/MethodHandle" ∧ yX5_init.cls ≠ "java/lang/invoke/VarHandle" ∧ (parseMethodDescriptor yX5_init.desc).map (fun d => d.parameters.length) = some 0 := ⟨by decide +kernel, by decide +kernel, by decide +kernel⟩
set_option maxRecDepth 100000 in
theorem wd_165 : Cond.instanceMethod yX5_init ∈ am_ws := am_wt1 (List.mem_of_getElem? (i := 108) (by rfl)) (by decide +kernel)
set_option maxRecDepth 100000 in
theorem wd_166 : Cond.code yX5_init cX5_init 1 none ∈ am_ws := am_wt1 (List.mem_of_getElem? (i := 109) (by rfl)) (by decide +kernel)
def rwX0_init : List dz_r := [(0, .aload_n 0, 1), (1, .invokespecial 3, 3), (4, .aload_n 0, 1), (5, .new 9, 3), (8, .dup, 1), (9, .invokespecial 11, 3), (12, .putfield 12, 3), (15, .aload_n 0, 1), (16, .iconst 4, 1), (17, .newarray .int, 2), (19, .putfield 18, 3), (22, .aload_n 0, 1), (23, .bipush 40, 2), (25, .newarray .int, 2), (27, .putfield 22, 3), (30, .aload_n 0, 1), (31, .new 25, 3), (34, .dup, 1), (35, .sipush 366, 3), (38, .newarray .int, 2), (40, .bipush 6, 2), (42, .invokespecial 27, 3), (45, .putfield 30, 3), (48, .aload_n 0, 1), (49, .new 25, 3), (52, .dup, 1), (53, .sipush 240, 3), (56, .newarray .int, 2), (58, .bipush 8, 2), (60, .invokespecial 27, 3), (63, .putfield 34, 3), (66, .aload_n 0, 1), (67, .new 25, 3), (70, .dup, 1), (71, .sipush 180, 3), (74, .newarray .int, 2), (76, .iconst 3, 1), (77, .invokespecial 27, 3), (80, .putfield 37, 3), (83, .aload_n 0, 1), (84, .sipush 1200, 3), (87, .newarray .int, 2), (89, .putfield 40, 3), (92, .aload_n 0, 1), (93, .iconst 5, 1), (94, .anewarray 43, 3), (97, .putfield 45, 3), (100, .aload_n 0, 1), (101, .new 25, 3), (104, .dup, 1), (105, .bipush 60, 2), (107, .newarray .int, 2), (109, .iconst 3, 1), (110, .invokespecial 27, 3), (113, .putfield 49, 3), (116, .aload_n 0, 1), (117, .sipush 160, 3), (120, .newarray .int, 2), (122, .putfield 52, 3), (125, .aload_n 0, 1), (126, .bipush 16, 2), (128, .newarray .int, 2), (130, .putfield 55, 3), (133, .aload_n 0, 1), (134, .bipush 9, 2), (136, .newarray .int, 2), (138, .putfield 58, 3), (141, .aload_n 0, 1), (142, .getfield 18, 3), (145, .sipush 1000, 3), (148, .invokestatic 61, 3), (151, .iconst 0, 1), (152, .istore_n 1, 1), (153, .iload_n 1, 1), (154, .iconst 5, 1), (155, .if_icmp .ge 22, 3), (158, .aload_n 0, 1), (159, .getfield 45, 3), (162, .iload_n 1, 1), (163, .new 43, 3), (166, .dup, 1), (167, .invokespecial 66, 3), (170, .aastore, 1), (171, .iinc 1 1, 3), (174, .goto (-21), 3), (177, .iconst 0, 1), (178, .istore_n 1, 1), (179, .iload_n 1, 1), (180, .iconst 4, 1), (181, .if_icmp .ge 21, 3), (184, .aload_n 0, 1), (185, .getfield 55, 3), (188, .iload_n 1, 1), (189, .iconst 4, 1), (190, .imul, 1), (191, .iload_n 1, 1), (192, .iadd, 1), (193, .bipush 10, 2), (195, .iastore, 1), (196, .iinc 1 1, 3), (199, .goto (-20), 3), (202, .return_, 1)]
theorem dzX0_init : dz cX0_init rwX0_init := dz_all 0 (by decide +kernel)
def kX0_init (b : Nat) (Ret : an_R) : an_code := [(0, an_lf (fun live => am_aload 0 1)), (1, an_obj 43 4), (4, an_lf (fun live => am_aload 0 5)), (5, an_new 2 8 (fun L => b + 1) 38 5259 8), (8, an_lf (fun live => am_dup 9)), (9, an_callI 2 0 TX2_init 38 5259 7 2424 12), (12, an_putFR 0 0 15), (15, an_lf (fun live => am_aload 0 16)), (16, an_lf (fun live => am_const (.int 4) 17)), (17, an_newa 0 4 (fun L => b + 9) 38 5259 19), (19, an_putFR 0 1 22), (22, an_lf (fun live => am_aload 0 23)), (23, an_lf (fun live => am_const (.int 40) 25)), (25, an_newa 0 40 (fun L => b + 10) 38 5259 27), (27, an_putFR 0 2 30), (30, an_lf (fun live => am_aload 0 31)), (31, an_new 3 3 (fun L => b + 11) 38 5259 34), (34, an_lf (fun live => am_dup 35)), (35, an_lf (fun live => am_const (.int 366) 38)), (38, an_newa 0 366 (fun L => b + 12) 38 5259 40), (40, an_lf (fun live => am_const (.int 6) 42)), (42, an_callI 3 2 TX3_init 38 5259 0 0 45), (45, an_putFR 0 3 48), (48, an_lf (fun live => am_aload 0 49)), (49, an_new 3 3 (fun L => b + 13) 38 5259 52), (52, an_lf (fun live => am_dup 53)), (53, an_lf (fun live => am_const (.int 240) 56)), (56, an_newa 0 240 (fun L => b + 14) 38 5259 58), (58, an_lf (fun live => am_const (.int 8) 60)), (60, an_callI 3 2 TX3_init 38 5259 0 0 63), (63, an_putFR 0 4 66), (66, an_lf (fun live => am_aload 0 67)), (67, an_new 3 3 (fun L => b + 15) 38 5259 70), (70, an_lf (fun live => am_dup 71)), (71, an_lf (fun live => am_const (.int 180) 74)), (74, an_newa 0 180 (fun L => b + 16) 38 5259 76), (76, an_lf (fun live => am_const (.int 3) 77)), (77, an_callI 3 2 TX3_init 38 5259 0 0 80), (80, an_putFR 0 5 83), (83, an_lf (fun live => am_aload 0 84)), (84, an_lf (fun live => am_const (.int 1200) 87)), (87, an_newa 0 1200 (fun L => b + 17) 38 5259 89), (89, an_putFR 0 6 92), (92, an_lf (fun live => am_aload 0 93)), (93, an_lf (fun live => am_const (.int 5) 94)), (94, an_newa 3 5 (fun L => b + 18) 38 5259 97), (97, an_putFR 0 7 100), (100, an_lf (fun live => am_aload 0 101)), (101, an_new 3 3 (fun L => b + 34) 38 5259 104), (104, an_lf (fun live => am_dup 105)), (105, an_lf (fun live => am_const (.int 60) 107)), (107, an_newa 0 60 (fun L => b + 35) 38 5259 109), (109, an_lf (fun live => am_const (.int 3) 110)), (110, an_callI 3 2 TX3_init 38 5259 0 0 113), (113, an_putFR 0 8 116), (116, an_lf (fun live => am_aload 0 117)), (117, an_lf (fun live => am_const (.int 160) 120)), (120, an_newa 0 160 (fun L => b + 36) 38 5259 122), (122, an_putFR 0 9 125), (125, an_lf (fun live => am_aload 0 126)), (126, an_lf (fun live => am_const (.int 16) 128)), (128, an_newa 0 16 (fun L => b + 37) 38 5259 130), (130, an_putFR 0 10 133), (133, an_lf (fun live => am_aload 0 134)), (134, an_lf (fun live => am_const (.int 9) 136)), (136, an_newa 0 9 (fun L => b + 38) 38 5259 138), (138, an_putFR 0 11 141), (141, an_lf (fun live => am_aload 0 142)), (142, an_lf (fun live => am_getR live 0 1 145)), (145, an_lf (fun live => am_const (.int 1000) 148)), (148, an_lf (fun live => am_callS live 2 TJ7_fill_53178 151)), (151, an_lf (fun live => am_const (.int 0) 152)), (152, an_lf (fun live => am_istore 1 2 153)), (153, an_lf (fun live => am_iload 1 154)), (154, an_lf (fun live => am_const (.int 5) 155)), (155, an_lf (fun live => am_if2 (fun x y => y ≤ x) 177 158)), (158, an_lf (fun live => am_aload 0 159)), (159, an_lf (fun live => am_getR live 0 7 162)), (162, an_lf (fun live => am_iload 1 163)), (163, an_new 5 7 (fun L => b + 19 + 3 * an_int L 1) 38 5259 166), (166, an_lf (fun live => am_dup 167)), (167, an_callI 5 0 TX5_init 38 5259 2 100 170), (170, an_astR 3 5 171), (171, an_lf (fun live => am_iinc 1 2 1 174)), (174, an_lf (fun live => am_goto 153)), (177, an_lf (fun live => am_const (.int 0) 178)), (178, an_lf (fun live => am_istore 1 2 179)), (179, an_lf (fun live => am_iload 1 180)), (180, an_lf (fun live => am_const (.int 4) 181)), (181, an_lf (fun live => am_if2 (fun x y => y ≤ x) 202 184)), (184, an_lf (fun live => am_aload 0 185)), (185, an_lf (fun live => am_getR live 0 10 188)), (188, an_lf (fun live => am_iload 1 189)), (189, an_lf (fun live => am_const (.int 4) 190)), (190, an_lf (fun live => am_i2 (fun x y => x * y) 191)), (191, an_lf (fun live => am_iload 1 192)), (192, an_lf (fun live => am_i2 (fun x y => x + y) 193)), (193, an_lf (fun live => am_const (.int 10) 195)), (195, an_lf (fun live => am_ast live 0 196)), (196, an_lf (fun live => am_iinc 1 2 1 199)), (199, an_lf (fun live => am_goto 179)), (202, an_retV Ret)]
theorem koX0_init (b : Nat) (Ret : an_R) : ∀ q ∈ kX0_init b Ret, an_ok RX0 cX0_init 2 none 2 43 38 5259 true (fun _ _ _ => True) Ret q.1 q.2 :=
  am_kz dzX0_init <|
  an_kd (fun d => an_lift (fun live => ak_aload_n d rfl rfl)) <|
  an_kd (fun d => nk_obj (am_w3 wd_95 wd_76 wd_77) (by decide) d rfl) <|
  an_kd (fun d => an_lift (fun live => ak_aload_n d rfl rfl)) <|
  an_kd (fun d => nk_new (C := RX2) (T := TX2) (N := 8) (ty := tyX2) rfl inX2w tyX2_ok rfl zX2 (am_w3 wd_96 wd_97 wd_62) d rfl) <|
  an_kd (fun d => an_lift (fun live => ak_dup d rfl)) <|
  an_kd (fun d => nk_callI metX2_init rfl hy_X2_init (am_w4 wd_62 wd_98 wd_99 wd_100) (by decide) d rfl) <|
  an_kd (fun d => nk_putFR (C := RX0) (C2 := RX0) (T := TX0) (N := 13) rfl inX0w tyX0_ok nmX0 (by decide) rfl rfl rfl rfl rfl (tyX0_ok 0 (by decide)) (fun _ => ⟨rfl, rfl⟩) rfl wd_193 d rfl) <|
  an_kd (fun d => an_lift (fun live => ak_aload_n d rfl rfl)) <|
  an_kd (fun d => an_lift (fun live => ak_iconst d (by decide +kernel) rfl)) <|
  an_kd (fun d => nk_newa (t := 0) (len := 4) (atype := .int) (ty := .int) rfl (fun _ => rfl) (fun _ z => by cases z) (fun _ => rfl) wd_140 (by decide) d rfl) <|
  an_kd (fun d => nk_putFR (C := RX0) (C2 := RX0) (T := TX0) (N := 13) rfl inX0w tyX0_ok nmX0 (by decide) rfl rfl rfl rfl rfl (tyX0_ok 1 (by decide)) (fun _ => ⟨rfl, rfl⟩) rfl wd_196 d rfl) <|
  an_kd (fun d => an_lift (fun live => ak_aload_n d rfl rfl)) <|
  an_kd (fun d => an_lift (fun live => ak_bipush d (by decide +kernel) rfl)) <|
  an_kd (fun d => nk_newa (t := 0) (len := 40) (atype := .int) (ty := .int) rfl (fun _ => rfl) (fun _ z => by cases z) (fun _ => rfl) wd_140 (by decide) d rfl) <|
  an_kd (fun d => nk_putFR (C := RX0) (C2 := RX0) (T := TX0) (N := 13) rfl inX0w tyX0_ok nmX0 (by decide) rfl rfl rfl rfl rfl (tyX0_ok 2 (by decide)) (fun _ => ⟨rfl, rfl⟩) rfl wd_199 d rfl) <|
  an_kd (fun d => an_lift (fun live => ak_aload_n d rfl rfl)) <|
  an_kd (fun d => nk_new (C := RX3) (T := TX3) (N := 3) (ty := tyX3) rfl inX3w tyX3_ok rfl zX3 (am_w3 wd_141 wd_142 wd_64) d rfl) <|
  an_kd (fun d => an_lift (fun live => ak_dup d rfl)) <|
  an_kd (fun d => an_lift (fun live => ak_sipush d (by decide +kernel) rfl)) <|
  an_kd (fun d => nk_newa (t := 0) (len := 366) (atype := .int) (ty := .int) rfl (fun _ => rfl) (fun _ z => by cases z) (fun _ => rfl) wd_140 (by decide) d rfl) <|
  an_kd (fun d => an_lift (fun live => ak_bipush d (by decide +kernel) rfl)) <|
  an_kd (fun d => nk_callI metX3_init rfl hy_X3_init (am_w4 wd_64 wd_143 wd_144 wd_145) (by decide) d rfl) <|
  an_kd (fun d => nk_putFR (C := RX0) (C2 := RX0) (T := TX0) (N := 13) rfl inX0w tyX0_ok nmX0 (by decide) rfl rfl rfl rfl rfl (tyX0_ok 3 (by decide)) (fun _ => ⟨rfl, rfl⟩) rfl wd_202 d rfl) <|
  an_kd (fun d => an_lift (fun live => ak_aload_n d rfl rfl)) <|
  an_kd (fun d => nk_new (C := RX3) (T := TX3) (N := 3) (ty := tyX3) rfl inX3w tyX3_ok rfl zX3 (am_w3 wd_141 wd_142 wd_64) d rfl) <|
  an_kd (fun d => an_lift (fun live => ak_dup d rfl)) <|
  an_kd (fun d => an_lift (fun live => ak_sipush d (by decide +kernel) rfl)) <|
  an_kd (fun d => nk_newa (t := 0) (len := 240) (atype := .int) (ty := .int) rfl (fun _ => rfl) (fun _ z => by cases z) (fun _ => rfl) wd_140 (by decide) d rfl) <|
  an_kd (fun d => an_lift (fun live => ak_bipush d (by decide +kernel) rfl)) <|
  an_kd (fun d => nk_callI metX3_init rfl hy_X3_init (am_w4 wd_64 wd_143 wd_144 wd_145) (by decide) d rfl) <|
  an_kd (fun d => nk_putFR (C := RX0) (C2 := RX0) (T := TX0) (N := 13) rfl inX0w tyX0_ok nmX0 (by decide) rfl rfl rfl rfl rfl (tyX0_ok 4 (by decide)) (fun _ => ⟨rfl, rfl⟩) rfl wd_205 d rfl) <|
  an_kd (fun d => an_lift (fun live => ak_aload_n d rfl rfl)) <|
  an_kd (fun d => nk_new (C := RX3) (T := TX3) (N := 3) (ty := tyX3) rfl inX3w tyX3_ok rfl zX3 (am_w3 wd_141 wd_142 wd_64) d rfl) <|
  an_kd (fun d => an_lift (fun live => ak_dup d rfl)) <|
  an_kd (fun d => an_lift (fun live => ak_sipush d (by decide +kernel) rfl)) <|
  an_kd (fun d => nk_newa (t := 0) (len := 180) (atype := .int) (ty := .int) rfl (fun _ => rfl) (fun _ z => by cases z) (fun _ => rfl) wd_140 (by decide) d rfl) <|
  an_kd (fun d => an_lift (fun live => ak_iconst d (by decide +kernel) rfl)) <|
  an_kd (fun d => nk_callI metX3_init rfl hy_X3_init (am_w4 wd_64 wd_143 wd_144 wd_145) (by decide) d rfl) <|
  an_kd (fun d => nk_putFR (C := RX0) (C2 := RX0) (T := TX0) (N := 13) rfl inX0w tyX0_ok nmX0 (by decide) rfl rfl rfl rfl rfl (tyX0_ok 5 (by decide)) (fun _ => ⟨rfl, rfl⟩) rfl wd_208 d rfl) <|
  an_kd (fun d => an_lift (fun live => ak_aload_n d rfl rfl)) <|
  an_kd (fun d => an_lift (fun live => ak_sipush d (by decide +kernel) rfl)) <|
  an_kd (fun d => nk_newa (t := 0) (len := 1200) (atype := .int) (ty := .int) rfl (fun _ => rfl) (fun _ z => by cases z) (fun _ => rfl) wd_140 (by decide) d rfl) <|
  an_kd (fun d => nk_putFR (C := RX0) (C2 := RX0) (T := TX0) (N := 13) rfl inX0w tyX0_ok nmX0 (by decide) rfl rfl rfl rfl rfl (tyX0_ok 6 (by decide)) (fun _ => ⟨rfl, rfl⟩) rfl wd_210 d rfl) <|
  an_kd (fun d => an_lift (fun live => ak_aload_n d rfl rfl)) <|
  an_kd (fun d => an_lift (fun live => ak_iconst d (by decide +kernel) rfl)) <|
  an_kd (fun d => nk_newq (t := 3) (len := 5) (C := "LearnLoans$Text") (fun _ => rfl) rfl (by decide +kernel) wd_160 d rfl) <|
  an_kd (fun d => nk_putFR (C := RX0) (C2 := RX0) (T := TX0) (N := 13) rfl inX0w tyX0_ok nmX0 (by decide) rfl rfl rfl rfl rfl (tyX0_ok 7 (by decide)) (fun _ => ⟨rfl, rfl⟩) rfl wd_213 d rfl) <|
  an_kd (fun d => an_lift (fun live => ak_aload_n d rfl rfl)) <|
  an_kd (fun d => nk_new (C := RX3) (T := TX3) (N := 3) (ty := tyX3) rfl inX3w tyX3_ok rfl zX3 (am_w3 wd_141 wd_142 wd_64) d rfl) <|
  an_kd (fun d => an_lift (fun live => ak_dup d rfl)) <|
  an_kd (fun d => an_lift (fun live => ak_bipush d (by decide +kernel) rfl)) <|
  an_kd (fun d => nk_newa (t := 0) (len := 60) (atype := .int) (ty := .int) rfl (fun _ => rfl) (fun _ z => by cases z) (fun _ => rfl) wd_140 (by decide) d rfl) <|
  an_kd (fun d => an_lift (fun live => ak_iconst d (by decide +kernel) rfl)) <|
  an_kd (fun d => nk_callI metX3_init rfl hy_X3_init (am_w4 wd_64 wd_143 wd_144 wd_145) (by decide) d rfl) <|
  an_kd (fun d => nk_putFR (C := RX0) (C2 := RX0) (T := TX0) (N := 13) rfl inX0w tyX0_ok nmX0 (by decide) rfl rfl rfl rfl rfl (tyX0_ok 8 (by decide)) (fun _ => ⟨rfl, rfl⟩) rfl wd_216 d rfl) <|
  an_kd (fun d => an_lift (fun live => ak_aload_n d rfl rfl)) <|
  an_kd (fun d => an_lift (fun live => ak_sipush d (by decide +kernel) rfl)) <|
  an_kd (fun d => nk_newa (t := 0) (len := 160) (atype := .int) (ty := .int) rfl (fun _ => rfl) (fun _ z => by cases z) (fun _ => rfl) wd_140 (by decide) d rfl) <|
  an_kd (fun d => nk_putFR (C := RX0) (C2 := RX0) (T := TX0) (N := 13) rfl inX0w tyX0_ok nmX0 (by decide) rfl rfl rfl rfl rfl (tyX0_ok 9 (by decide)) (fun _ => ⟨rfl, rfl⟩) rfl wd_218 d rfl) <|
  an_kd (fun d => an_lift (fun live => ak_aload_n d rfl rfl)) <|
  an_kd (fun d => an_lift (fun live => ak_bipush d (by decide +kernel) rfl)) <|
  an_kd (fun d => nk_newa (t := 0) (len := 16) (atype := .int) (ty := .int) rfl (fun _ => rfl) (fun _ z => by cases z) (fun _ => rfl) wd_140 (by decide) d rfl) <|
  an_kd (fun d => nk_putFR (C := RX0) (C2 := RX0) (T := TX0) (N := 13) rfl inX0w tyX0_ok nmX0 (by decide) rfl rfl rfl rfl rfl (tyX0_ok 10 (by decide)) (fun _ => ⟨rfl, rfl⟩) rfl wd_221 d rfl) <|
  an_kd (fun d => an_lift (fun live => ak_aload_n d rfl rfl)) <|
  an_kd (fun d => an_lift (fun live => ak_bipush d (by decide +kernel) rfl)) <|
  an_kd (fun d => nk_newa (t := 0) (len := 9) (atype := .int) (ty := .int) rfl (fun _ => rfl) (fun _ z => by cases z) (fun _ => rfl) wd_140 (by decide) d rfl) <|
  an_kd (fun d => nk_putFR (C := RX0) (C2 := RX0) (T := TX0) (N := 13) rfl inX0w tyX0_ok nmX0 (by decide) rfl rfl rfl rfl rfl (tyX0_ok 11 (by decide)) (fun _ => ⟨rfl, rfl⟩) rfl wd_224 d rfl) <|
  an_kd (fun d => an_lift (fun live => ak_aload_n d rfl rfl)) <|
  an_kd (fun d => an_lift (fun live => ak_getR (C := RX0) (T := TX0) (N := 13) rfl inX0w (by decide) rfl rfl rfl wd_196 d rfl)) <|
  an_kd (fun d => an_lift (fun live => ak_sipush d (by decide +kernel) rfl)) <|
  an_kd (fun d => an_lift (fun live => ak_callSO metJ7_fill_53178 hy_J7_fill_53178 (am_w4 wd_162 wd_103 wd_63 wd_104) (by decide) d rfl)) <|
  an_kd (fun d => an_lift (fun live => ak_iconst d (by decide +kernel) rfl)) <|
  an_kd (fun d => an_lift (fun live => ak_istore_n d rfl rfl)) <|
  an_kd (fun d => an_lift (fun live => ak_iload_n d rfl rfl)) <|
  an_kd (fun d => an_lift (fun live => ak_iconst d (by decide +kernel) rfl)) <|
  an_kd (fun d => an_lift (fun live => ak_icmp_ge d (by decide +kernel) rfl)) <|
  an_kd (fun d => an_lift (fun live => ak_aload_n d rfl rfl)) <|
  an_kd (fun d => an_lift (fun live => ak_getR (C := RX0) (T := TX0) (N := 13) rfl inX0w (by decide) rfl rfl rfl wd_213 d rfl)) <|
  an_kd (fun d => an_lift (fun live => ak_iload_n d rfl rfl)) <|
  an_kd (fun d => nk_new (C := RX5) (T := TX5) (N := 7) (ty := tyX5) rfl inX5w tyX5_ok rfl zX5 (am_w3 wd_160 wd_163 wd_65) d rfl) <|
  an_kd (fun d => an_lift (fun live => ak_dup d rfl)) <|
  an_kd (fun d => nk_callIN (host := "LearnLoans") metX5_init rfl hy_X5_init (by decide +kernel) (am_w3 wd_65 wd_165 wd_166) (by decide) d rfl) <|
  an_kd (fun d => nk_astR (t := 3) (ci := 5) (r0 := (RX5, TX5, 7)) (fun _ => rfl) rfl rfl d rfl) <|
  an_kd (fun d => an_lift (fun live => ak_iinc d (by decide +kernel) rfl)) <|
  an_kd (fun d => an_lift (fun live => ak_goto d (by decide +kernel))) <|
  an_kd (fun d => an_lift (fun live => ak_iconst d (by decide +kernel) rfl)) <|
  an_kd (fun d => an_lift (fun live => ak_istore_n d rfl rfl)) <|
  an_kd (fun d => an_lift (fun live => ak_iload_n d rfl rfl)) <|
  an_kd (fun d => an_lift (fun live => ak_iconst d (by decide +kernel) rfl)) <|
  an_kd (fun d => an_lift (fun live => ak_icmp_ge d (by decide +kernel) rfl)) <|
  an_kd (fun d => an_lift (fun live => ak_aload_n d rfl rfl)) <|
  an_kd (fun d => an_lift (fun live => ak_getR (C := RX0) (T := TX0) (N := 13) rfl inX0w (by decide) rfl rfl rfl wd_221 d rfl)) <|
  an_kd (fun d => an_lift (fun live => ak_iload_n d rfl rfl)) <|
  an_kd (fun d => an_lift (fun live => ak_iconst d (by decide +kernel) rfl)) <|
  an_kd (fun d => an_lift (fun live => ak_imul d rfl)) <|
  an_kd (fun d => an_lift (fun live => ak_iload_n d rfl rfl)) <|
  an_kd (fun d => an_lift (fun live => ak_iadd d rfl)) <|
  an_kd (fun d => an_lift (fun live => ak_bipush d (by decide +kernel) rfl)) <|
  an_kd (fun d => an_lift (fun live => ak_iast (t := 0) (fun _ => rfl) rfl d rfl)) <|
  an_kd (fun d => an_lift (fun live => ak_iinc d (by decide +kernel) rfl)) <|
  an_kd (fun d => an_lift (fun live => ak_goto d (by decide +kernel))) <|
  an_kd (fun d => nk_retV d) <| an_kdn
def eX0 (b : Nat) (E : am_E) : am_E := an_rE (eX5 (b + 19 + 3 * 4) (an_bE (an_rE (eX5 (b + 19 + 3 * 3) (an_bE (an_rE (eX5 (b + 19 + 3 * 2) (an_bE (an_rE (eX5 (b + 19 + 3 * 1) (an_bE (an_rE (eX5 (b + 19 + 3 * 0) (an_bE (an_rE (an_bE (an_rE (an_bE (an_rE (an_bE (an_rE (an_rE (an_bE (an_bE (an_rE (an_bE (an_rE (an_bE (an_rE (an_rE (an_bE (an_bE (an_rE (an_rE (an_bE (an_bE (an_rE (an_rE (an_bE (an_bE (an_rE (an_bE (an_rE (an_bE (an_rE (eX2 (b + 1) (an_bE (E) (b + 1))) (b) 0 (b + 1)) (b + 9)) (b) 1 (b + 9)) (b + 10)) (b) 2 (b + 10)) (b + 11)) (b + 12)) (b + 11) 0 (b + 12)) (b) 3 (b + 11)) (b + 13)) (b + 14)) (b + 13) 0 (b + 14)) (b) 4 (b + 13)) (b + 15)) (b + 16)) (b + 15) 0 (b + 16)) (b) 5 (b + 15)) (b + 17)) (b) 6 (b + 17)) (b + 18)) (b) 7 (b + 18)) (b + 34)) (b + 35)) (b + 34) 0 (b + 35)) (b) 8 (b + 34)) (b + 36)) (b) 9 (b + 36)) (b + 37)) (b) 10 (b + 37)) (b + 38)) (b) 11 (b + 38)) (b + 19 + 3 * 0))) (b + 18) 0 (b + 19 + 3 * 0)) (b + 19 + 3 * 1))) (b + 18) 1 (b + 19 + 3 * 1)) (b + 19 + 3 * 2))) (b + 18) 2 (b + 19 + 3 * 2)) (b + 19 + 3 * 3))) (b + 18) 3 (b + 19 + 3 * 3)) (b + 19 + 3 * 4))) (b + 18) 4 (b + 19 + 3 * 4)
def mX0 (b : Nat) (M : am_M) : am_M := am_wI (am_wI (am_wI (am_wI (mX5 (b + 19 + 3 * 4) (an_bM (mX5 (b + 19 + 3 * 3) (an_bM (mX5 (b + 19 + 3 * 2) (an_bM (mX5 (b + 19 + 3 * 1) (an_bM (mX5 (b + 19 + 3 * 0) (an_bM (am_lay (an_bM (an_bM (an_bM (am_wI (an_bM (an_bM (an_bM (an_bM (am_wI (an_bM (an_bM (am_wI (an_bM (an_bM (am_wI (an_bM (an_bM (an_bM (an_bM (mX2 (b + 1) (an_bM (M) (b + 1))) (b + 9)) (b + 10)) (b + 11)) (b + 12)) (b + 11) 1 6) (b + 13)) (b + 14)) (b + 13) 1 8) (b + 15)) (b + 16)) (b + 15) 1 3) (b + 17)) (b + 18)) (b + 34)) (b + 35)) (b + 34) 1 3) (b + 36)) (b + 37)) (b + 38)) (b + 9) 0 ((4 : Int) - 1) 1000) (b + 19 + 3 * 0))) (b + 19 + 3 * 1))) (b + 19 + 3 * 2))) (b + 19 + 3 * 3))) (b + 19 + 3 * 4))) (b + 37) 0 10) (b + 37) 5 10) (b + 37) 10 10) (b + 37) 15 10
def TX0n (b : Nat) : an_T := fun E as M R => match as with
  | [.ref r] => am_if (Nat.beq r b && (an_t0 b && an_fc E b 38)) (R none (eX0 b E) (mX0 b M))
  | _ => False
set_option maxRecDepth 100000 in
set_option maxHeartbeats 4000000 in
theorem metX0_initn (b : Nat) : an_Met yX0_init cX0_init 2 none (2) (43) 38 5259 (TX0n b) := by
  refine an_met (own := RX0) (ini := true) (by decide +kernel) rfl (fun _ => rfl) (kX0_init b ) (koX0_init b  ) 400 (fun _ _ _ _ _ => none) (fun live as M Ret h => ?_) (fun _ _ _ _ _ _ _ _ hI => by cases hI)
  unfold TX0n at h
  split at h
  · next r =>
    refine ⟨Nat.le_of_ble_eq_true rfl, ?_⟩
    change an_wp _ _ _ _ [(0, Value.ref r)] _ _
    have hh := am_if_mp h
    clear h
    obtain ⟨hb, h⟩ := hh
    rw [Bool.and_eq_true, Bool.and_eq_true] at hb
    obtain ⟨h1, h2, h3⟩ := hb
    have h1 := Nat.eq_of_beq_eq_true h1
    subst h1
    obtain ⟨E, rfl⟩ : ∃ E, live = an_ho r 38 E := ⟨live, an_ho_of h3⟩
    clear h3
    have h2 := an_t0_of h2
    rcases h2 with rfl | rfl | rfl
    repeat' (first | apply And.intro | exact rfl | (intro hx; exact absurd hx (by decide)) | (intro hx; exact absurd (by decide) hx) | decide | intro hx | (refine Exists.intro _ (And.intro rfl ?_)))
    all_goals try first | (with_reducible change am_tI _ _) | (change Ret _ _) | (change Ret _ _ _) | (change Exists _)
    all_goals try dsimp only at *
    all_goals try (with_reducible exact absurd ‹(1000 : Int64) = 0› am_z1000)
    all_goals exact h
  · exact h.elim
def TX0_init : an_T := fun E as M R => match as with
  | [.ref n] => TX0n n E [.ref n] M R
  | _ => False
theorem metX0_init : an_Met yX0_init cX0_init 2 none 2 43 38 5259 TX0_init := by
  intro l D cA al B live as M Ret hcl hT
  unfold TX0_init at hT
  split at hT
  · next n => exact metX0_initn n l D cA al B live _ M Ret hcl hT
  · exact hT.elim
