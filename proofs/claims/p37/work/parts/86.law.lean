/-! the law: cases 18 to 23 -/
def rwL_c18 : List dz_r := [(1028, .aload_n 1, 1), (1029, .aload_n 0, 1), (1030, .iload_n 3, 1), (1031, .iconst 1, 1), (1032, .iadd, 1), (1033, .iaload, 1), (1034, .aload_n 0, 1), (1035, .iload_n 3, 1), (1036, .iconst 2, 1), (1037, .iadd, 1), (1038, .iaload, 1), (1039, .invokevirtual 93, 3), (1042, .pop, 1), (1043, .aload_n 2, 1), (1044, .aload_n 0, 1), (1045, .iload_n 3, 1), (1046, .iconst 1, 1), (1047, .iadd, 1), (1048, .iaload, 1), (1049, .aload_n 0, 1), (1050, .iload_n 3, 1), (1051, .iconst 2, 1), (1052, .iadd, 1), (1053, .iaload, 1), (1054, .invokevirtual 96, 3), (1057, .pop, 1), (1058, .goto 783, 3)]
theorem dzL_c18 : dz cL_law rwL_c18 := dz_all 1028 (by decide +kernel)
theorem hy_X7_write : yX7_write.cls ≠ "java/lang/invoke/MethodHandle" ∧ yX7_write.cls ≠ "java/lang/invoke/VarHandle" ∧ (parseMethodDescriptor yX7_write.desc).map (fun d => d.parameters.length) = some 2 := ⟨by decide +kernel, by decide +kernel, by decide +kernel⟩
set_option maxRecDepth 100000 in
theorem wd_664 : Cond.methodLink "LearnLoansLaw" 93 yX7_write ∈ am_ws := am_wt3 (List.mem_of_getElem? (i := 127) (by rfl)) (by decide +kernel)
set_option maxRecDepth 100000 in
theorem wd_665 : Cond.instanceMethod yX7_write ∈ am_ws := am_wt3 (List.mem_of_getElem? (i := 128) (by rfl)) (by decide +kernel)
set_option maxRecDepth 100000 in
theorem wd_666 : Cond.selects "LearnLoans" yX7_write yX7_write ∈ am_ws := am_wt3 (List.mem_of_getElem? (i := 129) (by rfl)) (by decide +kernel)
set_option maxRecDepth 100000 in
theorem wd_667 : Cond.code yX7_write cX7_write 4 (some .int) ∈ am_ws := am_wt3 (List.mem_of_getElem? (i := 130) (by rfl)) (by decide +kernel)
theorem hy_X8_write : yX8_write.cls ≠ "java/lang/invoke/MethodHandle" ∧ yX8_write.cls ≠ "java/lang/invoke/VarHandle" ∧ (parseMethodDescriptor yX8_write.desc).map (fun d => d.parameters.length) = some 2 := ⟨by decide +kernel, by decide +kernel, by decide +kernel⟩
set_option maxRecDepth 100000 in
theorem wd_1089 : Cond.methodLink "LearnLoansLaw" 96 yX8_write ∈ am_ws := am_wt5 (List.mem_of_getElem? (i := 72) (by rfl)) (by decide +kernel)
set_option maxRecDepth 100000 in
theorem wd_1090 : Cond.instanceMethod yX8_write ∈ am_ws := am_wt5 (List.mem_of_getElem? (i := 73) (by rfl)) (by decide +kernel)
set_option maxRecDepth 100000 in
theorem wd_1091 : Cond.selects "LearnLoansModel" yX8_write yX8_write ∈ am_ws := am_wt5 (List.mem_of_getElem? (i := 74) (by rfl)) (by decide +kernel)
set_option maxRecDepth 100000 in
theorem wd_1092 : Cond.code yX8_write cX8_write 4 (some .int) ∈ am_ws := am_wt5 (List.mem_of_getElem? (i := 75) (by rfl)) (by decide +kernel)
def kL_c18 (Ln : Nat) (xs : Nat → Int32) : an_code := [(1028, an_lf (fun live => am_aload 1 1029)), (1029, an_lf (fun live => am_aload 0 1030)), (1030, an_lf (fun live => am_iload 3 1031)), (1031, an_lf (fun live => am_const (.int 1) 1032)), (1032, an_lf (fun live => am_i2 (fun x y => x + y) 1033)), (1033, an_sld Ln xs 1034), (1034, an_lf (fun live => am_aload 0 1035)), (1035, an_lf (fun live => am_iload 3 1036)), (1036, an_lf (fun live => am_const (.int 2) 1037)), (1037, an_lf (fun live => am_i2 (fun x y => x + y) 1038)), (1038, an_sld Ln xs 1039), (1039, an_lf (fun live => am_callV live 7 2 TW_write 1042)), (1042, an_lf (fun live => am_pop 1043)), (1043, an_lf (fun live => am_aload 2 1044)), (1044, an_lf (fun live => am_aload 0 1045)), (1045, an_lf (fun live => am_iload 3 1046)), (1046, an_lf (fun live => am_const (.int 1) 1047)), (1047, an_lf (fun live => am_i2 (fun x y => x + y) 1048)), (1048, an_sld Ln xs 1049), (1049, an_lf (fun live => am_aload 0 1050)), (1050, an_lf (fun live => am_iload 3 1051)), (1051, an_lf (fun live => am_const (.int 2) 1052)), (1052, an_lf (fun live => am_i2 (fun x y => x + y) 1053)), (1053, an_sld Ln xs 1054), (1054, an_lf (fun live => am_callV live 8 2 TX8_write 1057)), (1057, an_lf (fun live => am_pop 1058)), (1058, an_lf (fun live => am_goto 1841))]
theorem koL_c18 (Ln : Nat) (xs : Nat → Int32) : ∀ q ∈ kL_c18 Ln xs, an_ok RL cL_law 4 (some .boolean) 2000 80000 600000 7302250 false (lawP Ln xs) an_noR q.1 q.2 :=
  am_kz dzL_c18 <|
  an_kd (fun d => an_lift (fun live => ak_aload_n d rfl rfl)) <|
  an_kd (fun d => an_lift (fun live => ak_aload_n d rfl rfl)) <|
  an_kd (fun d => an_lift (fun live => ak_iload_n d rfl rfl)) <|
  an_kd (fun d => an_lift (fun live => ak_iconst d (by decide +kernel) rfl)) <|
  an_kd (fun d => an_lift (fun live => ak_iadd d rfl)) <|
  an_kd (fun d => nk_sld d rfl) <|
  an_kd (fun d => an_lift (fun live => ak_aload_n d rfl rfl)) <|
  an_kd (fun d => an_lift (fun live => ak_iload_n d rfl rfl)) <|
  an_kd (fun d => an_lift (fun live => ak_iconst d (by decide +kernel) rfl)) <|
  an_kd (fun d => an_lift (fun live => ak_iadd d rfl)) <|
  an_kd (fun d => nk_sld d rfl) <|
  an_kd (fun d => an_lift (fun live => ak_callV (C := RX7) (F := TX7) (N := 4) metW_write rfl ⟨rfl, hy_X7_write⟩ (am_w5 wd_664 wd_665 wd_666 wd_58 wd_667) (by decide) d rfl)) <|
  an_kd (fun d => an_lift (fun live => ak_pop d rfl)) <|
  an_kd (fun d => an_lift (fun live => ak_aload_n d rfl rfl)) <|
  an_kd (fun d => an_lift (fun live => ak_aload_n d rfl rfl)) <|
  an_kd (fun d => an_lift (fun live => ak_iload_n d rfl rfl)) <|
  an_kd (fun d => an_lift (fun live => ak_iconst d (by decide +kernel) rfl)) <|
  an_kd (fun d => an_lift (fun live => ak_iadd d rfl)) <|
  an_kd (fun d => nk_sld d rfl) <|
  an_kd (fun d => an_lift (fun live => ak_aload_n d rfl rfl)) <|
  an_kd (fun d => an_lift (fun live => ak_iload_n d rfl rfl)) <|
  an_kd (fun d => an_lift (fun live => ak_iconst d (by decide +kernel) rfl)) <|
  an_kd (fun d => an_lift (fun live => ak_iadd d rfl)) <|
  an_kd (fun d => nk_sld d rfl) <|
  an_kd (fun d => an_lift (fun live => ak_callV (C := RX8) (F := TX8) (N := 27) metX8_write rfl ⟨rfl, hy_X8_write⟩ (am_w5 wd_1089 wd_1090 wd_1091 wd_67 wd_1092) (by decide) d rfl)) <|
  an_kd (fun d => an_lift (fun live => ak_pop d rfl)) <|
  an_kd (fun d => an_lift (fun live => ak_goto d (by decide +kernel))) <| an_kdn
set_option maxRecDepth 100000 in
set_option maxHeartbeats 4000000 in
theorem caseL_c18 {Ln : Nat} (xs : Nat → Int32) {i : Int32} {i1 i2 : Bool} {kc kn : Nat} {M : am_M} (h : LI i1 i2 M) (hi : lawI Ln i kc kn) : an_wp (kL_c18 Ln xs) (lawC Ln i) 200 (an_go (kL_c18 Ln xs) 1028) (lawL i) [] ((am_lv i1 i2, am_q i1 i2), kc, kn, M) := by
    obtain ⟨⟨f1, f2, f3, f4, f5, f6, f7⟩, k1, k2, k3, k4⟩ := hi.f
    have hmn : am_mn (am_lv i1 i2, am_q i1 i2) := ⟨_, _, rfl⟩
    repeat' (first | (with_reducible exact f1) | (with_reducible exact f2) | (with_reducible exact f3) | (with_reducible exact f4) | (with_reducible exact f5) | (with_reducible exact f6) | (with_reducible exact f7) | (with_reducible exact hmn) | (with_reducible exact h) | (with_reducible exact k1) | (with_reducible exact k2) | (with_reducible exact k3) | (with_reducible exact k4) | apply And.intro | exact rfl | ((with_reducible change r_I _); (with_reducible assumption)) | (intro hx; exact absurd hx (by decide)) | (intro hx; exact absurd (by decide) hx) | decide | intro hx | (refine Exists.intro _ (And.intro rfl ?_)) | (refine Exists.intro _ (Exists.intro _ (And.intro rfl (And.intro rfl ?_)))) | ((with_reducible change LI _ _ _); (with_reducible assumption)) | ((with_reducible change _ = true); simp only [k1, k2, k3, k4, Bool.true_and]; rfl))
    all_goals try first | (with_reducible change am_tI _ _) | (change Ret _ _) | (change Ret _ _ _) | (change Exists _)
    all_goals try dsimp only at *
    all_goals try (with_reducible exact absurd ‹(1000 : Int64) = 0› am_z1000)
    all_goals first
      | exact ⟨_, _, rfl⟩
      | exact lawE.mk hi (by with_reducible assumption) (by omega) (by omega)
      | skip
def rwL_c19 : List dz_r := [(1061, .aload_n 1, 1), (1062, .aload_n 0, 1), (1063, .iload_n 3, 1), (1064, .iconst 1, 1), (1065, .iadd, 1), (1066, .iaload, 1), (1067, .invokevirtual 97, 3), (1070, .pop, 1), (1071, .aload_n 2, 1), (1072, .aload_n 0, 1), (1073, .iload_n 3, 1), (1074, .iconst 1, 1), (1075, .iadd, 1), (1076, .iaload, 1), (1077, .invokevirtual 100, 3), (1080, .pop, 1), (1081, .goto 760, 3)]
theorem dzL_c19 : dz cL_law rwL_c19 := dz_all 1061 (by decide +kernel)
theorem hy_X7_erase : yX7_erase.cls ≠ "java/lang/invoke/MethodHandle" ∧ yX7_erase.cls ≠ "java/lang/invoke/VarHandle" ∧ (parseMethodDescriptor yX7_erase.desc).map (fun d => d.parameters.length) = some 1 := ⟨by decide +kernel, by decide +kernel, by decide +kernel⟩
set_option maxRecDepth 100000 in
theorem wd_718 : Cond.methodLink "LearnLoansLaw" 97 yX7_erase ∈ am_ws := am_wt3 (List.mem_of_getElem? (i := 181) (by rfl)) (by decide +kernel)
set_option maxRecDepth 100000 in
theorem wd_719 : Cond.instanceMethod yX7_erase ∈ am_ws := am_wt3 (List.mem_of_getElem? (i := 182) (by rfl)) (by decide +kernel)
set_option maxRecDepth 100000 in
theorem wd_720 : Cond.selects "LearnLoans" yX7_erase yX7_erase ∈ am_ws := am_wt3 (List.mem_of_getElem? (i := 183) (by rfl)) (by decide +kernel)
set_option maxRecDepth 100000 in
theorem wd_721 : Cond.code yX7_erase cX7_erase 4 (some .int) ∈ am_ws := am_wt3 (List.mem_of_getElem? (i := 184) (by rfl)) (by decide +kernel)
theorem hy_X8_erase : yX8_erase.cls ≠ "java/lang/invoke/MethodHandle" ∧ yX8_erase.cls ≠ "java/lang/invoke/VarHandle" ∧ (parseMethodDescriptor yX8_erase.desc).map (fun d => d.parameters.length) = some 1 := ⟨by decide +kernel, by decide +kernel, by decide +kernel⟩
set_option maxRecDepth 100000 in
theorem wd_1094 : Cond.methodLink "LearnLoansLaw" 100 yX8_erase ∈ am_ws := am_wt5 (List.mem_of_getElem? (i := 77) (by rfl)) (by decide +kernel)
set_option maxRecDepth 100000 in
theorem wd_1095 : Cond.instanceMethod yX8_erase ∈ am_ws := am_wt5 (List.mem_of_getElem? (i := 78) (by rfl)) (by decide +kernel)
set_option maxRecDepth 100000 in
theorem wd_1096 : Cond.selects "LearnLoansModel" yX8_erase yX8_erase ∈ am_ws := am_wt5 (List.mem_of_getElem? (i := 79) (by rfl)) (by decide +kernel)
set_option maxRecDepth 100000 in
theorem wd_1097 : Cond.code yX8_erase cX8_erase 3 (some .int) ∈ am_ws := am_wt5 (List.mem_of_getElem? (i := 80) (by rfl)) (by decide +kernel)
def kL_c19 (Ln : Nat) (xs : Nat → Int32) : an_code := [(1061, an_lf (fun live => am_aload 1 1062)), (1062, an_lf (fun live => am_aload 0 1063)), (1063, an_lf (fun live => am_iload 3 1064)), (1064, an_lf (fun live => am_const (.int 1) 1065)), (1065, an_lf (fun live => am_i2 (fun x y => x + y) 1066)), (1066, an_sld Ln xs 1067), (1067, an_lf (fun live => am_callV live 7 1 TW_erase 1070)), (1070, an_lf (fun live => am_pop 1071)), (1071, an_lf (fun live => am_aload 2 1072)), (1072, an_lf (fun live => am_aload 0 1073)), (1073, an_lf (fun live => am_iload 3 1074)), (1074, an_lf (fun live => am_const (.int 1) 1075)), (1075, an_lf (fun live => am_i2 (fun x y => x + y) 1076)), (1076, an_sld Ln xs 1077), (1077, an_lf (fun live => am_callV live 8 1 TX8_erase 1080)), (1080, an_lf (fun live => am_pop 1081)), (1081, an_lf (fun live => am_goto 1841))]
theorem koL_c19 (Ln : Nat) (xs : Nat → Int32) : ∀ q ∈ kL_c19 Ln xs, an_ok RL cL_law 4 (some .boolean) 2000 80000 600000 7302250 false (lawP Ln xs) an_noR q.1 q.2 :=
  am_kz dzL_c19 <|
  an_kd (fun d => an_lift (fun live => ak_aload_n d rfl rfl)) <|
  an_kd (fun d => an_lift (fun live => ak_aload_n d rfl rfl)) <|
  an_kd (fun d => an_lift (fun live => ak_iload_n d rfl rfl)) <|
  an_kd (fun d => an_lift (fun live => ak_iconst d (by decide +kernel) rfl)) <|
  an_kd (fun d => an_lift (fun live => ak_iadd d rfl)) <|
  an_kd (fun d => nk_sld d rfl) <|
  an_kd (fun d => an_lift (fun live => ak_callV (C := RX7) (F := TX7) (N := 4) metW_erase rfl ⟨rfl, hy_X7_erase⟩ (am_w5 wd_718 wd_719 wd_720 wd_58 wd_721) (by decide) d rfl)) <|
  an_kd (fun d => an_lift (fun live => ak_pop d rfl)) <|
  an_kd (fun d => an_lift (fun live => ak_aload_n d rfl rfl)) <|
  an_kd (fun d => an_lift (fun live => ak_aload_n d rfl rfl)) <|
  an_kd (fun d => an_lift (fun live => ak_iload_n d rfl rfl)) <|
  an_kd (fun d => an_lift (fun live => ak_iconst d (by decide +kernel) rfl)) <|
  an_kd (fun d => an_lift (fun live => ak_iadd d rfl)) <|
  an_kd (fun d => nk_sld d rfl) <|
  an_kd (fun d => an_lift (fun live => ak_callV (C := RX8) (F := TX8) (N := 27) metX8_erase rfl ⟨rfl, hy_X8_erase⟩ (am_w5 wd_1094 wd_1095 wd_1096 wd_67 wd_1097) (by decide) d rfl)) <|
  an_kd (fun d => an_lift (fun live => ak_pop d rfl)) <|
  an_kd (fun d => an_lift (fun live => ak_goto d (by decide +kernel))) <| an_kdn
set_option maxRecDepth 100000 in
set_option maxHeartbeats 4000000 in
theorem caseL_c19 {Ln : Nat} (xs : Nat → Int32) {i : Int32} {i1 i2 : Bool} {kc kn : Nat} {M : am_M} (h : LI i1 i2 M) (hi : lawI Ln i kc kn) : an_wp (kL_c19 Ln xs) (lawC Ln i) 200 (an_go (kL_c19 Ln xs) 1061) (lawL i) [] ((am_lv i1 i2, am_q i1 i2), kc, kn, M) := by
    obtain ⟨⟨f1, f2, f3, f4, f5, f6, f7⟩, k1, k2, k3, k4⟩ := hi.f
    have hmn : am_mn (am_lv i1 i2, am_q i1 i2) := ⟨_, _, rfl⟩
    repeat' (first | (with_reducible exact f1) | (with_reducible exact f2) | (with_reducible exact f3) | (with_reducible exact f4) | (with_reducible exact f5) | (with_reducible exact f6) | (with_reducible exact f7) | (with_reducible exact hmn) | (with_reducible exact h) | (with_reducible exact k1) | (with_reducible exact k2) | (with_reducible exact k3) | (with_reducible exact k4) | apply And.intro | exact rfl | ((with_reducible change r_I _); (with_reducible assumption)) | (intro hx; exact absurd hx (by decide)) | (intro hx; exact absurd (by decide) hx) | decide | intro hx | (refine Exists.intro _ (And.intro rfl ?_)) | (refine Exists.intro _ (Exists.intro _ (And.intro rfl (And.intro rfl ?_)))) | ((with_reducible change LI _ _ _); (with_reducible assumption)) | ((with_reducible change _ = true); simp only [k1, k2, k3, k4, Bool.true_and]; rfl))
    all_goals try first | (with_reducible change am_tI _ _) | (change Ret _ _) | (change Ret _ _ _) | (change Exists _)
    all_goals try dsimp only at *
    all_goals try (with_reducible exact absurd ‹(1000 : Int64) = 0› am_z1000)
    all_goals first
      | exact ⟨_, _, rfl⟩
      | exact lawE.mk hi (by with_reducible assumption) (by omega) (by omega)
      | skip
def rwL_c20 : List dz_r := [(1084, .aload_n 1, 1), (1085, .aload_n 0, 1), (1086, .iload_n 3, 1), (1087, .iconst 1, 1), (1088, .iadd, 1), (1089, .iaload, 1), (1090, .invokevirtual 101, 3), (1093, .pop, 1), (1094, .aload_n 2, 1), (1095, .aload_n 0, 1), (1096, .iload_n 3, 1), (1097, .iconst 1, 1), (1098, .iadd, 1), (1099, .iaload, 1), (1100, .invokevirtual 104, 3), (1103, .pop, 1), (1104, .goto 737, 3)]
theorem dzL_c20 : dz cL_law rwL_c20 := dz_all 1084 (by decide +kernel)
theorem hy_X7_fault : yX7_fault.cls ≠ "java/lang/invoke/MethodHandle" ∧ yX7_fault.cls ≠ "java/lang/invoke/VarHandle" ∧ (parseMethodDescriptor yX7_fault.desc).map (fun d => d.parameters.length) = some 1 := ⟨by decide +kernel, by decide +kernel, by decide +kernel⟩
set_option maxRecDepth 100000 in
theorem wd_726 : Cond.methodLink "LearnLoansLaw" 101 yX7_fault ∈ am_ws := am_wt3 (List.mem_of_getElem? (i := 189) (by rfl)) (by decide +kernel)
set_option maxRecDepth 100000 in
theorem wd_727 : Cond.instanceMethod yX7_fault ∈ am_ws := am_wt3 (List.mem_of_getElem? (i := 190) (by rfl)) (by decide +kernel)
set_option maxRecDepth 100000 in
theorem wd_728 : Cond.selects "LearnLoans" yX7_fault yX7_fault ∈ am_ws := am_wt3 (List.mem_of_getElem? (i := 191) (by rfl)) (by decide +kernel)
set_option maxRecDepth 100000 in
theorem wd_729 : Cond.code yX7_fault cX7_fault 2 (some .int) ∈ am_ws := am_wt3 (List.mem_of_getElem? (i := 192) (by rfl)) (by decide +kernel)
theorem hy_X8_fault : yX8_fault.cls ≠ "java/lang/invoke/MethodHandle" ∧ yX8_fault.cls ≠ "java/lang/invoke/VarHandle" ∧ (parseMethodDescriptor yX8_fault.desc).map (fun d => d.parameters.length) = some 1 := ⟨by decide +kernel, by decide +kernel, by decide +kernel⟩
set_option maxRecDepth 100000 in
theorem wd_1098 : Cond.methodLink "LearnLoansLaw" 104 yX8_fault ∈ am_ws := am_wt5 (List.mem_of_getElem? (i := 81) (by rfl)) (by decide +kernel)
set_option maxRecDepth 100000 in
theorem wd_1099 : Cond.instanceMethod yX8_fault ∈ am_ws := am_wt5 (List.mem_of_getElem? (i := 82) (by rfl)) (by decide +kernel)
set_option maxRecDepth 100000 in
theorem wd_1100 : Cond.selects "LearnLoansModel" yX8_fault yX8_fault ∈ am_ws := am_wt5 (List.mem_of_getElem? (i := 83) (by rfl)) (by decide +kernel)
set_option maxRecDepth 100000 in
theorem wd_1101 : Cond.code yX8_fault cX8_fault 2 (some .int) ∈ am_ws := am_wt5 (List.mem_of_getElem? (i := 84) (by rfl)) (by decide +kernel)
def kL_c20 (Ln : Nat) (xs : Nat → Int32) : an_code := [(1084, an_lf (fun live => am_aload 1 1085)), (1085, an_lf (fun live => am_aload 0 1086)), (1086, an_lf (fun live => am_iload 3 1087)), (1087, an_lf (fun live => am_const (.int 1) 1088)), (1088, an_lf (fun live => am_i2 (fun x y => x + y) 1089)), (1089, an_sld Ln xs 1090), (1090, an_lf (fun live => am_callV live 7 1 TW_fault 1093)), (1093, an_lf (fun live => am_pop 1094)), (1094, an_lf (fun live => am_aload 2 1095)), (1095, an_lf (fun live => am_aload 0 1096)), (1096, an_lf (fun live => am_iload 3 1097)), (1097, an_lf (fun live => am_const (.int 1) 1098)), (1098, an_lf (fun live => am_i2 (fun x y => x + y) 1099)), (1099, an_sld Ln xs 1100), (1100, an_lf (fun live => am_callV live 8 1 TV_fault 1103)), (1103, an_lf (fun live => am_pop 1104)), (1104, an_lf (fun live => am_goto 1841))]
theorem koL_c20 (Ln : Nat) (xs : Nat → Int32) : ∀ q ∈ kL_c20 Ln xs, an_ok RL cL_law 4 (some .boolean) 2000 80000 600000 7302250 false (lawP Ln xs) an_noR q.1 q.2 :=
  am_kz dzL_c20 <|
  an_kd (fun d => an_lift (fun live => ak_aload_n d rfl rfl)) <|
  an_kd (fun d => an_lift (fun live => ak_aload_n d rfl rfl)) <|
  an_kd (fun d => an_lift (fun live => ak_iload_n d rfl rfl)) <|
  an_kd (fun d => an_lift (fun live => ak_iconst d (by decide +kernel) rfl)) <|
  an_kd (fun d => an_lift (fun live => ak_iadd d rfl)) <|
  an_kd (fun d => nk_sld d rfl) <|
  an_kd (fun d => an_lift (fun live => ak_callV (C := RX7) (F := TX7) (N := 4) metW_fault rfl ⟨rfl, hy_X7_fault⟩ (am_w5 wd_726 wd_727 wd_728 wd_58 wd_729) (by decide) d rfl)) <|
  an_kd (fun d => an_lift (fun live => ak_pop d rfl)) <|
  an_kd (fun d => an_lift (fun live => ak_aload_n d rfl rfl)) <|
  an_kd (fun d => an_lift (fun live => ak_aload_n d rfl rfl)) <|
  an_kd (fun d => an_lift (fun live => ak_iload_n d rfl rfl)) <|
  an_kd (fun d => an_lift (fun live => ak_iconst d (by decide +kernel) rfl)) <|
  an_kd (fun d => an_lift (fun live => ak_iadd d rfl)) <|
  an_kd (fun d => nk_sld d rfl) <|
  an_kd (fun d => an_lift (fun live => ak_callV (C := RX8) (F := TX8) (N := 27) metV_fault rfl ⟨rfl, hy_X8_fault⟩ (am_w5 wd_1098 wd_1099 wd_1100 wd_67 wd_1101) (by decide) d rfl)) <|
  an_kd (fun d => an_lift (fun live => ak_pop d rfl)) <|
  an_kd (fun d => an_lift (fun live => ak_goto d (by decide +kernel))) <| an_kdn
set_option maxRecDepth 100000 in
set_option maxHeartbeats 4000000 in
theorem caseL_c20 {Ln : Nat} (xs : Nat → Int32) {i : Int32} {i1 i2 : Bool} {kc kn : Nat} {M : am_M} (h : LI i1 i2 M) (hi : lawI Ln i kc kn) : an_wp (kL_c20 Ln xs) (lawC Ln i) 200 (an_go (kL_c20 Ln xs) 1084) (lawL i) [] ((am_lv i1 i2, am_q i1 i2), kc, kn, M) := by
    obtain ⟨⟨f1, f2, f3, f4, f5, f6, f7⟩, k1, k2, k3, k4⟩ := hi.f
    have hmn : am_mn (am_lv i1 i2, am_q i1 i2) := ⟨_, _, rfl⟩
    repeat' (first | (with_reducible exact f1) | (with_reducible exact f2) | (with_reducible exact f3) | (with_reducible exact f4) | (with_reducible exact f5) | (with_reducible exact f6) | (with_reducible exact f7) | (with_reducible exact hmn) | (with_reducible exact h) | (with_reducible exact k1) | (with_reducible exact k2) | (with_reducible exact k3) | (with_reducible exact k4) | apply And.intro | exact rfl | ((with_reducible change r_I _); (with_reducible assumption)) | (intro hx; exact absurd hx (by decide)) | (intro hx; exact absurd (by decide) hx) | decide | intro hx | (refine Exists.intro _ (And.intro rfl ?_)) | (refine Exists.intro _ (Exists.intro _ (And.intro rfl (And.intro rfl ?_)))) | ((with_reducible change LI _ _ _); (with_reducible assumption)) | ((with_reducible change _ = true); simp only [k1, k2, k3, k4, Bool.true_and]; rfl))
    all_goals try first | (with_reducible change am_tI _ _) | (change Ret _ _) | (change Ret _ _ _) | (change Exists _)
    all_goals try dsimp only at *
    all_goals try (with_reducible exact absurd ‹(1000 : Int64) = 0› am_z1000)
    all_goals first
      | exact ⟨_, _, rfl⟩
      | exact lawE.mk hi (by with_reducible assumption) (by omega) (by omega)
      | skip
def rwL_c21 : List dz_r := [(1107, .aload_n 1, 1), (1108, .aload_n 0, 1), (1109, .iload_n 3, 1), (1110, .iconst 1, 1), (1111, .iadd, 1), (1112, .iaload, 1), (1113, .aload_n 0, 1), (1114, .iload_n 3, 1), (1115, .iconst 2, 1), (1116, .iadd, 1), (1117, .iaload, 1), (1118, .aload_n 0, 1), (1119, .iload_n 3, 1), (1120, .iconst 3, 1), (1121, .iadd, 1), (1122, .iaload, 1), (1123, .invokevirtual 105, 3), (1126, .pop, 1), (1127, .aload_n 2, 1), (1128, .aload_n 0, 1), (1129, .iload_n 3, 1), (1130, .iconst 1, 1), (1131, .iadd, 1), (1132, .iaload, 1), (1133, .aload_n 0, 1), (1134, .iload_n 3, 1), (1135, .iconst 2, 1), (1136, .iadd, 1), (1137, .iaload, 1), (1138, .aload_n 0, 1), (1139, .iload_n 3, 1), (1140, .iconst 3, 1), (1141, .iadd, 1), (1142, .iaload, 1), (1143, .invokevirtual 108, 3), (1146, .pop, 1), (1147, .goto 694, 3)]
theorem dzL_c21 : dz cL_law rwL_c21 := dz_all 1107 (by decide +kernel)
theorem hy_X7_sell : yX7_sell.cls ≠ "java/lang/invoke/MethodHandle" ∧ yX7_sell.cls ≠ "java/lang/invoke/VarHandle" ∧ (parseMethodDescriptor yX7_sell.desc).map (fun d => d.parameters.length) = some 3 := ⟨by decide +kernel, by decide +kernel, by decide +kernel⟩
set_option maxRecDepth 100000 in
theorem wd_730 : Cond.methodLink "LearnLoansLaw" 105 yX7_sell ∈ am_ws := am_wt3 (List.mem_of_getElem? (i := 193) (by rfl)) (by decide +kernel)
set_option maxRecDepth 100000 in
theorem wd_731 : Cond.instanceMethod yX7_sell ∈ am_ws := am_wt3 (List.mem_of_getElem? (i := 194) (by rfl)) (by decide +kernel)
set_option maxRecDepth 100000 in
theorem wd_732 : Cond.selects "LearnLoans" yX7_sell yX7_sell ∈ am_ws := am_wt3 (List.mem_of_getElem? (i := 195) (by rfl)) (by decide +kernel)
set_option maxRecDepth 100000 in
theorem wd_733 : Cond.code yX7_sell cX7_sell 4 (some .int) ∈ am_ws := am_wt3 (List.mem_of_getElem? (i := 196) (by rfl)) (by decide +kernel)
theorem hy_X8_sell : yX8_sell.cls ≠ "java/lang/invoke/MethodHandle" ∧ yX8_sell.cls ≠ "java/lang/invoke/VarHandle" ∧ (parseMethodDescriptor yX8_sell.desc).map (fun d => d.parameters.length) = some 3 := ⟨by decide +kernel, by decide +kernel, by decide +kernel⟩
set_option maxRecDepth 100000 in
theorem wd_1208 : Cond.methodLink "LearnLoansLaw" 108 yX8_sell ∈ am_ws := am_wt5 (List.mem_of_getElem? (i := 191) (by rfl)) (by decide +kernel)
set_option maxRecDepth 100000 in
theorem wd_1209 : Cond.instanceMethod yX8_sell ∈ am_ws := am_wt5 (List.mem_of_getElem? (i := 192) (by rfl)) (by decide +kernel)
set_option maxRecDepth 100000 in
theorem wd_1210 : Cond.selects "LearnLoansModel" yX8_sell yX8_sell ∈ am_ws := am_wt5 (List.mem_of_getElem? (i := 193) (by rfl)) (by decide +kernel)
set_option maxRecDepth 100000 in
theorem wd_1211 : Cond.code yX8_sell cX8_sell 4 (some .int) ∈ am_ws := am_wt5 (List.mem_of_getElem? (i := 194) (by rfl)) (by decide +kernel)
def kL_c21 (Ln : Nat) (xs : Nat → Int32) : an_code := [(1107, an_lf (fun live => am_aload 1 1108)), (1108, an_lf (fun live => am_aload 0 1109)), (1109, an_lf (fun live => am_iload 3 1110)), (1110, an_lf (fun live => am_const (.int 1) 1111)), (1111, an_lf (fun live => am_i2 (fun x y => x + y) 1112)), (1112, an_sld Ln xs 1113), (1113, an_lf (fun live => am_aload 0 1114)), (1114, an_lf (fun live => am_iload 3 1115)), (1115, an_lf (fun live => am_const (.int 2) 1116)), (1116, an_lf (fun live => am_i2 (fun x y => x + y) 1117)), (1117, an_sld Ln xs 1118), (1118, an_lf (fun live => am_aload 0 1119)), (1119, an_lf (fun live => am_iload 3 1120)), (1120, an_lf (fun live => am_const (.int 3) 1121)), (1121, an_lf (fun live => am_i2 (fun x y => x + y) 1122)), (1122, an_sld Ln xs 1123), (1123, an_lf (fun live => am_callV live 7 3 TW_sell 1126)), (1126, an_lf (fun live => am_pop 1127)), (1127, an_lf (fun live => am_aload 2 1128)), (1128, an_lf (fun live => am_aload 0 1129)), (1129, an_lf (fun live => am_iload 3 1130)), (1130, an_lf (fun live => am_const (.int 1) 1131)), (1131, an_lf (fun live => am_i2 (fun x y => x + y) 1132)), (1132, an_sld Ln xs 1133), (1133, an_lf (fun live => am_aload 0 1134)), (1134, an_lf (fun live => am_iload 3 1135)), (1135, an_lf (fun live => am_const (.int 2) 1136)), (1136, an_lf (fun live => am_i2 (fun x y => x + y) 1137)), (1137, an_sld Ln xs 1138), (1138, an_lf (fun live => am_aload 0 1139)), (1139, an_lf (fun live => am_iload 3 1140)), (1140, an_lf (fun live => am_const (.int 3) 1141)), (1141, an_lf (fun live => am_i2 (fun x y => x + y) 1142)), (1142, an_sld Ln xs 1143), (1143, an_lf (fun live => am_callV live 8 3 TX8_sell 1146)), (1146, an_lf (fun live => am_pop 1147)), (1147, an_lf (fun live => am_goto 1841))]
theorem koL_c21 (Ln : Nat) (xs : Nat → Int32) : ∀ q ∈ kL_c21 Ln xs, an_ok RL cL_law 4 (some .boolean) 2000 80000 600000 7302250 false (lawP Ln xs) an_noR q.1 q.2 :=
  am_kz dzL_c21 <|
  an_kd (fun d => an_lift (fun live => ak_aload_n d rfl rfl)) <|
  an_kd (fun d => an_lift (fun live => ak_aload_n d rfl rfl)) <|
  an_kd (fun d => an_lift (fun live => ak_iload_n d rfl rfl)) <|
  an_kd (fun d => an_lift (fun live => ak_iconst d (by decide +kernel) rfl)) <|
  an_kd (fun d => an_lift (fun live => ak_iadd d rfl)) <|
  an_kd (fun d => nk_sld d rfl) <|
  an_kd (fun d => an_lift (fun live => ak_aload_n d rfl rfl)) <|
  an_kd (fun d => an_lift (fun live => ak_iload_n d rfl rfl)) <|
  an_kd (fun d => an_lift (fun live => ak_iconst d (by decide +kernel) rfl)) <|
  an_kd (fun d => an_lift (fun live => ak_iadd d rfl)) <|
  an_kd (fun d => nk_sld d rfl) <|
  an_kd (fun d => an_lift (fun live => ak_aload_n d rfl rfl)) <|
  an_kd (fun d => an_lift (fun live => ak_iload_n d rfl rfl)) <|
  an_kd (fun d => an_lift (fun live => ak_iconst d (by decide +kernel) rfl)) <|
  an_kd (fun d => an_lift (fun live => ak_iadd d rfl)) <|
  an_kd (fun d => nk_sld d rfl) <|
  an_kd (fun d => an_lift (fun live => ak_callV (C := RX7) (F := TX7) (N := 4) metW_sell rfl ⟨rfl, hy_X7_sell⟩ (am_w5 wd_730 wd_731 wd_732 wd_58 wd_733) (by decide) d rfl)) <|
  an_kd (fun d => an_lift (fun live => ak_pop d rfl)) <|
  an_kd (fun d => an_lift (fun live => ak_aload_n d rfl rfl)) <|
  an_kd (fun d => an_lift (fun live => ak_aload_n d rfl rfl)) <|
  an_kd (fun d => an_lift (fun live => ak_iload_n d rfl rfl)) <|
  an_kd (fun d => an_lift (fun live => ak_iconst d (by decide +kernel) rfl)) <|
  an_kd (fun d => an_lift (fun live => ak_iadd d rfl)) <|
  an_kd (fun d => nk_sld d rfl) <|
  an_kd (fun d => an_lift (fun live => ak_aload_n d rfl rfl)) <|
  an_kd (fun d => an_lift (fun live => ak_iload_n d rfl rfl)) <|
  an_kd (fun d => an_lift (fun live => ak_iconst d (by decide +kernel) rfl)) <|
  an_kd (fun d => an_lift (fun live => ak_iadd d rfl)) <|
  an_kd (fun d => nk_sld d rfl) <|
  an_kd (fun d => an_lift (fun live => ak_aload_n d rfl rfl)) <|
  an_kd (fun d => an_lift (fun live => ak_iload_n d rfl rfl)) <|
  an_kd (fun d => an_lift (fun live => ak_iconst d (by decide +kernel) rfl)) <|
  an_kd (fun d => an_lift (fun live => ak_iadd d rfl)) <|
  an_kd (fun d => nk_sld d rfl) <|
  an_kd (fun d => an_lift (fun live => ak_callV (C := RX8) (F := TX8) (N := 27) metX8_sell rfl ⟨rfl, hy_X8_sell⟩ (am_w5 wd_1208 wd_1209 wd_1210 wd_67 wd_1211) (by decide) d rfl)) <|
  an_kd (fun d => an_lift (fun live => ak_pop d rfl)) <|
  an_kd (fun d => an_lift (fun live => ak_goto d (by decide +kernel))) <| an_kdn
set_option maxRecDepth 100000 in
set_option maxHeartbeats 4000000 in
theorem caseL_c21 {Ln : Nat} (xs : Nat → Int32) {i : Int32} {i1 i2 : Bool} {kc kn : Nat} {M : am_M} (h : LI i1 i2 M) (hi : lawI Ln i kc kn) : an_wp (kL_c21 Ln xs) (lawC Ln i) 200 (an_go (kL_c21 Ln xs) 1107) (lawL i) [] ((am_lv i1 i2, am_q i1 i2), kc, kn, M) := by
    obtain ⟨⟨f1, f2, f3, f4, f5, f6, f7⟩, k1, k2, k3, k4⟩ := hi.f
    have hmn : am_mn (am_lv i1 i2, am_q i1 i2) := ⟨_, _, rfl⟩
    repeat' (first | (with_reducible exact f1) | (with_reducible exact f2) | (with_reducible exact f3) | (with_reducible exact f4) | (with_reducible exact f5) | (with_reducible exact f6) | (with_reducible exact f7) | (with_reducible exact hmn) | (with_reducible exact h) | (with_reducible exact k1) | (with_reducible exact k2) | (with_reducible exact k3) | (with_reducible exact k4) | apply And.intro | exact rfl | ((with_reducible change r_I _); (with_reducible assumption)) | (intro hx; exact absurd hx (by decide)) | (intro hx; exact absurd (by decide) hx) | decide | intro hx | (refine Exists.intro _ (And.intro rfl ?_)) | (refine Exists.intro _ (Exists.intro _ (And.intro rfl (And.intro rfl ?_)))) | ((with_reducible change LI _ _ _); (with_reducible assumption)) | ((with_reducible change _ = true); simp only [k1, k2, k3, k4, Bool.true_and]; rfl))
    all_goals try first | (with_reducible change am_tI _ _) | (change Ret _ _) | (change Ret _ _ _) | (change Exists _)
    all_goals try dsimp only at *
    all_goals try (with_reducible exact absurd ‹(1000 : Int64) = 0› am_z1000)
    all_goals first
      | exact ⟨_, _, rfl⟩
      | exact lawE.mk hi (by with_reducible assumption) (by omega) (by omega)
      | skip
def rwL_c22 : List dz_r := [(1150, .aload_n 1, 1), (1151, .aload_n 0, 1), (1152, .iload_n 3, 1), (1153, .iconst 1, 1), (1154, .iadd, 1), (1155, .iaload, 1), (1156, .aload_n 0, 1), (1157, .iload_n 3, 1), (1158, .iconst 2, 1), (1159, .iadd, 1), (1160, .iaload, 1), (1161, .aload_n 0, 1), (1162, .iload_n 3, 1), (1163, .iconst 3, 1), (1164, .iadd, 1), (1165, .iaload, 1), (1166, .invokevirtual 109, 3), (1169, .pop, 1), (1170, .aload_n 2, 1), (1171, .aload_n 0, 1), (1172, .iload_n 3, 1), (1173, .iconst 1, 1), (1174, .iadd, 1), (1175, .iaload, 1), (1176, .aload_n 0, 1), (1177, .iload_n 3, 1), (1178, .iconst 2, 1), (1179, .iadd, 1), (1180, .iaload, 1), (1181, .aload_n 0, 1), (1182, .iload_n 3, 1), (1183, .iconst 3, 1), (1184, .iadd, 1), (1185, .iaload, 1), (1186, .invokevirtual 112, 3), (1189, .pop, 1), (1190, .goto 651, 3)]
theorem dzL_c22 : dz cL_law rwL_c22 := dz_all 1150 (by decide +kernel)
theorem hy_X7_promise : yX7_promise.cls ≠ "java/lang/invoke/MethodHandle" ∧ yX7_promise.cls ≠ "java/lang/invoke/VarHandle" ∧ (parseMethodDescriptor yX7_promise.desc).map (fun d => d.parameters.length) = some 3 := ⟨by decide +kernel, by decide +kernel, by decide +kernel⟩
set_option maxRecDepth 100000 in
theorem wd_734 : Cond.methodLink "LearnLoansLaw" 109 yX7_promise ∈ am_ws := am_wt3 (List.mem_of_getElem? (i := 197) (by rfl)) (by decide +kernel)
set_option maxRecDepth 100000 in
theorem wd_735 : Cond.instanceMethod yX7_promise ∈ am_ws := am_wt3 (List.mem_of_getElem? (i := 198) (by rfl)) (by decide +kernel)
set_option maxRecDepth 100000 in
theorem wd_736 : Cond.selects "LearnLoans" yX7_promise yX7_promise ∈ am_ws := am_wt3 (List.mem_of_getElem? (i := 199) (by rfl)) (by decide +kernel)
set_option maxRecDepth 100000 in
theorem wd_737 : Cond.code yX7_promise cX7_promise 4 (some .int) ∈ am_ws := am_wt3 (List.mem_of_getElem? (i := 200) (by rfl)) (by decide +kernel)
theorem hy_X8_promise : yX8_promise.cls ≠ "java/lang/invoke/MethodHandle" ∧ yX8_promise.cls ≠ "java/lang/invoke/VarHandle" ∧ (parseMethodDescriptor yX8_promise.desc).map (fun d => d.parameters.length) = some 3 := ⟨by decide +kernel, by decide +kernel, by decide +kernel⟩
set_option maxRecDepth 100000 in
theorem wd_1212 : Cond.methodLink "LearnLoansLaw" 112 yX8_promise ∈ am_ws := am_wt5 (List.mem_of_getElem? (i := 195) (by rfl)) (by decide +kernel)
set_option maxRecDepth 100000 in
theorem wd_1213 : Cond.instanceMethod yX8_promise ∈ am_ws := am_wt5 (List.mem_of_getElem? (i := 196) (by rfl)) (by decide +kernel)
set_option maxRecDepth 100000 in
theorem wd_1214 : Cond.selects "LearnLoansModel" yX8_promise yX8_promise ∈ am_ws := am_wt5 (List.mem_of_getElem? (i := 197) (by rfl)) (by decide +kernel)
set_option maxRecDepth 100000 in
theorem wd_1215 : Cond.code yX8_promise cX8_promise 5 (some .int) ∈ am_ws := am_wt5 (List.mem_of_getElem? (i := 198) (by rfl)) (by decide +kernel)
def kL_c22 (Ln : Nat) (xs : Nat → Int32) : an_code := [(1150, an_lf (fun live => am_aload 1 1151)), (1151, an_lf (fun live => am_aload 0 1152)), (1152, an_lf (fun live => am_iload 3 1153)), (1153, an_lf (fun live => am_const (.int 1) 1154)), (1154, an_lf (fun live => am_i2 (fun x y => x + y) 1155)), (1155, an_sld Ln xs 1156), (1156, an_lf (fun live => am_aload 0 1157)), (1157, an_lf (fun live => am_iload 3 1158)), (1158, an_lf (fun live => am_const (.int 2) 1159)), (1159, an_lf (fun live => am_i2 (fun x y => x + y) 1160)), (1160, an_sld Ln xs 1161), (1161, an_lf (fun live => am_aload 0 1162)), (1162, an_lf (fun live => am_iload 3 1163)), (1163, an_lf (fun live => am_const (.int 3) 1164)), (1164, an_lf (fun live => am_i2 (fun x y => x + y) 1165)), (1165, an_sld Ln xs 1166), (1166, an_lf (fun live => am_callV live 7 3 TW_promise 1169)), (1169, an_lf (fun live => am_pop 1170)), (1170, an_lf (fun live => am_aload 2 1171)), (1171, an_lf (fun live => am_aload 0 1172)), (1172, an_lf (fun live => am_iload 3 1173)), (1173, an_lf (fun live => am_const (.int 1) 1174)), (1174, an_lf (fun live => am_i2 (fun x y => x + y) 1175)), (1175, an_sld Ln xs 1176), (1176, an_lf (fun live => am_aload 0 1177)), (1177, an_lf (fun live => am_iload 3 1178)), (1178, an_lf (fun live => am_const (.int 2) 1179)), (1179, an_lf (fun live => am_i2 (fun x y => x + y) 1180)), (1180, an_sld Ln xs 1181), (1181, an_lf (fun live => am_aload 0 1182)), (1182, an_lf (fun live => am_iload 3 1183)), (1183, an_lf (fun live => am_const (.int 3) 1184)), (1184, an_lf (fun live => am_i2 (fun x y => x + y) 1185)), (1185, an_sld Ln xs 1186), (1186, an_lf (fun live => am_callV live 8 3 TX8_promise 1189)), (1189, an_lf (fun live => am_pop 1190)), (1190, an_lf (fun live => am_goto 1841))]
theorem koL_c22 (Ln : Nat) (xs : Nat → Int32) : ∀ q ∈ kL_c22 Ln xs, an_ok RL cL_law 4 (some .boolean) 2000 80000 600000 7302250 false (lawP Ln xs) an_noR q.1 q.2 :=
  am_kz dzL_c22 <|
  an_kd (fun d => an_lift (fun live => ak_aload_n d rfl rfl)) <|
  an_kd (fun d => an_lift (fun live => ak_aload_n d rfl rfl)) <|
  an_kd (fun d => an_lift (fun live => ak_iload_n d rfl rfl)) <|
  an_kd (fun d => an_lift (fun live => ak_iconst d (by decide +kernel) rfl)) <|
  an_kd (fun d => an_lift (fun live => ak_iadd d rfl)) <|
  an_kd (fun d => nk_sld d rfl) <|
  an_kd (fun d => an_lift (fun live => ak_aload_n d rfl rfl)) <|
  an_kd (fun d => an_lift (fun live => ak_iload_n d rfl rfl)) <|
  an_kd (fun d => an_lift (fun live => ak_iconst d (by decide +kernel) rfl)) <|
  an_kd (fun d => an_lift (fun live => ak_iadd d rfl)) <|
  an_kd (fun d => nk_sld d rfl) <|
  an_kd (fun d => an_lift (fun live => ak_aload_n d rfl rfl)) <|
  an_kd (fun d => an_lift (fun live => ak_iload_n d rfl rfl)) <|
  an_kd (fun d => an_lift (fun live => ak_iconst d (by decide +kernel) rfl)) <|
  an_kd (fun d => an_lift (fun live => ak_iadd d rfl)) <|
  an_kd (fun d => nk_sld d rfl) <|
  an_kd (fun d => an_lift (fun live => ak_callV (C := RX7) (F := TX7) (N := 4) metW_promise rfl ⟨rfl, hy_X7_promise⟩ (am_w5 wd_734 wd_735 wd_736 wd_58 wd_737) (by decide) d rfl)) <|
  an_kd (fun d => an_lift (fun live => ak_pop d rfl)) <|
  an_kd (fun d => an_lift (fun live => ak_aload_n d rfl rfl)) <|
  an_kd (fun d => an_lift (fun live => ak_aload_n d rfl rfl)) <|
  an_kd (fun d => an_lift (fun live => ak_iload_n d rfl rfl)) <|
  an_kd (fun d => an_lift (fun live => ak_iconst d (by decide +kernel) rfl)) <|
  an_kd (fun d => an_lift (fun live => ak_iadd d rfl)) <|
  an_kd (fun d => nk_sld d rfl) <|
  an_kd (fun d => an_lift (fun live => ak_aload_n d rfl rfl)) <|
  an_kd (fun d => an_lift (fun live => ak_iload_n d rfl rfl)) <|
  an_kd (fun d => an_lift (fun live => ak_iconst d (by decide +kernel) rfl)) <|
  an_kd (fun d => an_lift (fun live => ak_iadd d rfl)) <|
  an_kd (fun d => nk_sld d rfl) <|
  an_kd (fun d => an_lift (fun live => ak_aload_n d rfl rfl)) <|
  an_kd (fun d => an_lift (fun live => ak_iload_n d rfl rfl)) <|
  an_kd (fun d => an_lift (fun live => ak_iconst d (by decide +kernel) rfl)) <|
  an_kd (fun d => an_lift (fun live => ak_iadd d rfl)) <|
  an_kd (fun d => nk_sld d rfl) <|
  an_kd (fun d => an_lift (fun live => ak_callV (C := RX8) (F := TX8) (N := 27) metX8_promise rfl ⟨rfl, hy_X8_promise⟩ (am_w5 wd_1212 wd_1213 wd_1214 wd_67 wd_1215) (by decide) d rfl)) <|
  an_kd (fun d => an_lift (fun live => ak_pop d rfl)) <|
  an_kd (fun d => an_lift (fun live => ak_goto d (by decide +kernel))) <| an_kdn
set_option maxRecDepth 100000 in
set_option maxHeartbeats 4000000 in
theorem caseL_c22 {Ln : Nat} (xs : Nat → Int32) {i : Int32} {i1 i2 : Bool} {kc kn : Nat} {M : am_M} (h : LI i1 i2 M) (hi : lawI Ln i kc kn) : an_wp (kL_c22 Ln xs) (lawC Ln i) 200 (an_go (kL_c22 Ln xs) 1150) (lawL i) [] ((am_lv i1 i2, am_q i1 i2), kc, kn, M) := by
    obtain ⟨⟨f1, f2, f3, f4, f5, f6, f7⟩, k1, k2, k3, k4⟩ := hi.f
    have hmn : am_mn (am_lv i1 i2, am_q i1 i2) := ⟨_, _, rfl⟩
    repeat' (first | (with_reducible exact f1) | (with_reducible exact f2) | (with_reducible exact f3) | (with_reducible exact f4) | (with_reducible exact f5) | (with_reducible exact f6) | (with_reducible exact f7) | (with_reducible exact hmn) | (with_reducible exact h) | (with_reducible exact k1) | (with_reducible exact k2) | (with_reducible exact k3) | (with_reducible exact k4) | apply And.intro | exact rfl | ((with_reducible change r_I _); (with_reducible assumption)) | (intro hx; exact absurd hx (by decide)) | (intro hx; exact absurd (by decide) hx) | decide | intro hx | (refine Exists.intro _ (And.intro rfl ?_)) | (refine Exists.intro _ (Exists.intro _ (And.intro rfl (And.intro rfl ?_)))) | ((with_reducible change LI _ _ _); (with_reducible assumption)) | ((with_reducible change _ = true); simp only [k1, k2, k3, k4, Bool.true_and]; rfl))
    all_goals try first | (with_reducible change am_tI _ _) | (change Ret _ _) | (change Ret _ _ _) | (change Exists _)
    all_goals try dsimp only at *
    all_goals try (with_reducible exact absurd ‹(1000 : Int64) = 0› am_z1000)
    all_goals first
      | exact ⟨_, _, rfl⟩
      | exact lawE.mk hi (by with_reducible assumption) (by omega) (by omega)
      | skip
def rwL_c23 : List dz_r := [(1193, .aload_n 1, 1), (1194, .aload_n 0, 1), (1195, .iload_n 3, 1), (1196, .iconst 1, 1), (1197, .iadd, 1), (1198, .iaload, 1), (1199, .aload_n 0, 1), (1200, .iload_n 3, 1), (1201, .iconst 2, 1), (1202, .iadd, 1), (1203, .iaload, 1), (1204, .aload_n 0, 1), (1205, .iload_n 3, 1), (1206, .iconst 3, 1), (1207, .iadd, 1), (1208, .iaload, 1), (1209, .aload_n 0, 1), (1210, .iload_n 3, 1), (1211, .iconst 4, 1), (1212, .iadd, 1), (1213, .iaload, 1), (1214, .invokevirtual 113, 3), (1217, .pop2, 1), (1218, .aload_n 2, 1), (1219, .aload_n 0, 1), (1220, .iload_n 3, 1), (1221, .iconst 1, 1), (1222, .iadd, 1), (1223, .iaload, 1), (1224, .aload_n 0, 1), (1225, .iload_n 3, 1), (1226, .iconst 2, 1), (1227, .iadd, 1), (1228, .iaload, 1), (1229, .aload_n 0, 1), (1230, .iload_n 3, 1), (1231, .iconst 3, 1), (1232, .iadd, 1), (1233, .iaload, 1), (1234, .aload_n 0, 1), (1235, .iload_n 3, 1), (1236, .iconst 4, 1), (1237, .iadd, 1), (1238, .iaload, 1), (1239, .invokevirtual 116, 3), (1242, .pop2, 1), (1243, .goto 598, 3)]
theorem dzL_c23 : dz cL_law rwL_c23 := dz_all 1193 (by decide +kernel)
theorem hy_X7_book : yX7_book.cls ≠ "java/lang/invoke/MethodHandle" ∧ yX7_book.cls ≠ "java/lang/invoke/VarHandle" ∧ (parseMethodDescriptor yX7_book.desc).map (fun d => d.parameters.length) = some 4 := ⟨by decide +kernel, by decide +kernel, by decide +kernel⟩
set_option maxRecDepth 100000 in
theorem wd_739 : Cond.methodLink "LearnLoansLaw" 113 yX7_book ∈ am_ws := am_wt3 (List.mem_of_getElem? (i := 202) (by rfl)) (by decide +kernel)
set_option maxRecDepth 100000 in
theorem wd_740 : Cond.instanceMethod yX7_book ∈ am_ws := am_wt3 (List.mem_of_getElem? (i := 203) (by rfl)) (by decide +kernel)
set_option maxRecDepth 100000 in
theorem wd_741 : Cond.selects "LearnLoans" yX7_book yX7_book ∈ am_ws := am_wt3 (List.mem_of_getElem? (i := 204) (by rfl)) (by decide +kernel)
set_option maxRecDepth 100000 in
theorem wd_742 : Cond.code yX7_book cX7_book 8 (some .long) ∈ am_ws := am_wt3 (List.mem_of_getElem? (i := 205) (by rfl)) (by decide +kernel)
theorem hy_X8_book : yX8_book.cls ≠ "java/lang/invoke/MethodHandle" ∧ yX8_book.cls ≠ "java/lang/invoke/VarHandle" ∧ (parseMethodDescriptor yX8_book.desc).map (fun d => d.parameters.length) = some 4 := ⟨by decide +kernel, by decide +kernel, by decide +kernel⟩
set_option maxRecDepth 100000 in
theorem wd_1217 : Cond.methodLink "LearnLoansLaw" 116 yX8_book ∈ am_ws := am_wt5 (List.mem_of_getElem? (i := 200) (by rfl)) (by decide +kernel)
set_option maxRecDepth 100000 in
theorem wd_1218 : Cond.instanceMethod yX8_book ∈ am_ws := am_wt5 (List.mem_of_getElem? (i := 201) (by rfl)) (by decide +kernel)
set_option maxRecDepth 100000 in
theorem wd_1219 : Cond.selects "LearnLoansModel" yX8_book yX8_book ∈ am_ws := am_wt5 (List.mem_of_getElem? (i := 202) (by rfl)) (by decide +kernel)
set_option maxRecDepth 100000 in
theorem wd_1220 : Cond.code yX8_book cX8_book 10 (some .long) ∈ am_ws := am_wt5 (List.mem_of_getElem? (i := 203) (by rfl)) (by decide +kernel)
def kL_c23 (Ln : Nat) (xs : Nat → Int32) : an_code := [(1193, an_lf (fun live => am_aload 1 1194)), (1194, an_lf (fun live => am_aload 0 1195)), (1195, an_lf (fun live => am_iload 3 1196)), (1196, an_lf (fun live => am_const (.int 1) 1197)), (1197, an_lf (fun live => am_i2 (fun x y => x + y) 1198)), (1198, an_sld Ln xs 1199), (1199, an_lf (fun live => am_aload 0 1200)), (1200, an_lf (fun live => am_iload 3 1201)), (1201, an_lf (fun live => am_const (.int 2) 1202)), (1202, an_lf (fun live => am_i2 (fun x y => x + y) 1203)), (1203, an_sld Ln xs 1204), (1204, an_lf (fun live => am_aload 0 1205)), (1205, an_lf (fun live => am_iload 3 1206)), (1206, an_lf (fun live => am_const (.int 3) 1207)), (1207, an_lf (fun live => am_i2 (fun x y => x + y) 1208)), (1208, an_sld Ln xs 1209), (1209, an_lf (fun live => am_aload 0 1210)), (1210, an_lf (fun live => am_iload 3 1211)), (1211, an_lf (fun live => am_const (.int 4) 1212)), (1212, an_lf (fun live => am_i2 (fun x y => x + y) 1213)), (1213, an_sld Ln xs 1214), (1214, an_lf (fun live => am_callV live 7 4 TW_book 1217)), (1217, an_lf (fun live => am_pop2 1218)), (1218, an_lf (fun live => am_aload 2 1219)), (1219, an_lf (fun live => am_aload 0 1220)), (1220, an_lf (fun live => am_iload 3 1221)), (1221, an_lf (fun live => am_const (.int 1) 1222)), (1222, an_lf (fun live => am_i2 (fun x y => x + y) 1223)), (1223, an_sld Ln xs 1224), (1224, an_lf (fun live => am_aload 0 1225)), (1225, an_lf (fun live => am_iload 3 1226)), (1226, an_lf (fun live => am_const (.int 2) 1227)), (1227, an_lf (fun live => am_i2 (fun x y => x + y) 1228)), (1228, an_sld Ln xs 1229), (1229, an_lf (fun live => am_aload 0 1230)), (1230, an_lf (fun live => am_iload 3 1231)), (1231, an_lf (fun live => am_const (.int 3) 1232)), (1232, an_lf (fun live => am_i2 (fun x y => x + y) 1233)), (1233, an_sld Ln xs 1234), (1234, an_lf (fun live => am_aload 0 1235)), (1235, an_lf (fun live => am_iload 3 1236)), (1236, an_lf (fun live => am_const (.int 4) 1237)), (1237, an_lf (fun live => am_i2 (fun x y => x + y) 1238)), (1238, an_sld Ln xs 1239), (1239, an_lf (fun live => am_callV live 8 4 TV_book 1242)), (1242, an_lf (fun live => am_pop2 1243)), (1243, an_lf (fun live => am_goto 1841))]
theorem koL_c23 (Ln : Nat) (xs : Nat → Int32) : ∀ q ∈ kL_c23 Ln xs, an_ok RL cL_law 4 (some .boolean) 2000 80000 600000 7302250 false (lawP Ln xs) an_noR q.1 q.2 :=
  am_kz dzL_c23 <|
  an_kd (fun d => an_lift (fun live => ak_aload_n d rfl rfl)) <|
  an_kd (fun d => an_lift (fun live => ak_aload_n d rfl rfl)) <|
  an_kd (fun d => an_lift (fun live => ak_iload_n d rfl rfl)) <|
  an_kd (fun d => an_lift (fun live => ak_iconst d (by decide +kernel) rfl)) <|
  an_kd (fun d => an_lift (fun live => ak_iadd d rfl)) <|
  an_kd (fun d => nk_sld d rfl) <|
  an_kd (fun d => an_lift (fun live => ak_aload_n d rfl rfl)) <|
  an_kd (fun d => an_lift (fun live => ak_iload_n d rfl rfl)) <|
  an_kd (fun d => an_lift (fun live => ak_iconst d (by decide +kernel) rfl)) <|
  an_kd (fun d => an_lift (fun live => ak_iadd d rfl)) <|
  an_kd (fun d => nk_sld d rfl) <|
  an_kd (fun d => an_lift (fun live => ak_aload_n d rfl rfl)) <|
  an_kd (fun d => an_lift (fun live => ak_iload_n d rfl rfl)) <|
  an_kd (fun d => an_lift (fun live => ak_iconst d (by decide +kernel) rfl)) <|
  an_kd (fun d => an_lift (fun live => ak_iadd d rfl)) <|
  an_kd (fun d => nk_sld d rfl) <|
  an_kd (fun d => an_lift (fun live => ak_aload_n d rfl rfl)) <|
  an_kd (fun d => an_lift (fun live => ak_iload_n d rfl rfl)) <|
  an_kd (fun d => an_lift (fun live => ak_iconst d (by decide +kernel) rfl)) <|
  an_kd (fun d => an_lift (fun live => ak_iadd d rfl)) <|
  an_kd (fun d => nk_sld d rfl) <|
  an_kd (fun d => an_lift (fun live => ak_callV (C := RX7) (F := TX7) (N := 4) metW_book rfl ⟨rfl, hy_X7_book⟩ (am_w5 wd_739 wd_740 wd_741 wd_58 wd_742) (by decide) d rfl)) <|
  an_kd (fun d => an_lift (fun live => ak_pop2 d rfl)) <|
  an_kd (fun d => an_lift (fun live => ak_aload_n d rfl rfl)) <|
  an_kd (fun d => an_lift (fun live => ak_aload_n d rfl rfl)) <|
  an_kd (fun d => an_lift (fun live => ak_iload_n d rfl rfl)) <|
  an_kd (fun d => an_lift (fun live => ak_iconst d (by decide +kernel) rfl)) <|
  an_kd (fun d => an_lift (fun live => ak_iadd d rfl)) <|
  an_kd (fun d => nk_sld d rfl) <|
  an_kd (fun d => an_lift (fun live => ak_aload_n d rfl rfl)) <|
  an_kd (fun d => an_lift (fun live => ak_iload_n d rfl rfl)) <|
  an_kd (fun d => an_lift (fun live => ak_iconst d (by decide +kernel) rfl)) <|
  an_kd (fun d => an_lift (fun live => ak_iadd d rfl)) <|
  an_kd (fun d => nk_sld d rfl) <|
  an_kd (fun d => an_lift (fun live => ak_aload_n d rfl rfl)) <|
  an_kd (fun d => an_lift (fun live => ak_iload_n d rfl rfl)) <|
  an_kd (fun d => an_lift (fun live => ak_iconst d (by decide +kernel) rfl)) <|
  an_kd (fun d => an_lift (fun live => ak_iadd d rfl)) <|
  an_kd (fun d => nk_sld d rfl) <|
  an_kd (fun d => an_lift (fun live => ak_aload_n d rfl rfl)) <|
  an_kd (fun d => an_lift (fun live => ak_iload_n d rfl rfl)) <|
  an_kd (fun d => an_lift (fun live => ak_iconst d (by decide +kernel) rfl)) <|
  an_kd (fun d => an_lift (fun live => ak_iadd d rfl)) <|
  an_kd (fun d => nk_sld d rfl) <|
  an_kd (fun d => an_lift (fun live => ak_callV (C := RX8) (F := TX8) (N := 27) metV_book rfl ⟨rfl, hy_X8_book⟩ (am_w5 wd_1217 wd_1218 wd_1219 wd_67 wd_1220) (by decide) d rfl)) <|
  an_kd (fun d => an_lift (fun live => ak_pop2 d rfl)) <|
  an_kd (fun d => an_lift (fun live => ak_goto d (by decide +kernel))) <| an_kdn
set_option maxRecDepth 100000 in
set_option maxHeartbeats 4000000 in
theorem caseL_c23 {Ln : Nat} (xs : Nat → Int32) {i : Int32} {i1 i2 : Bool} {kc kn : Nat} {M : am_M} (h : LI i1 i2 M) (hi : lawI Ln i kc kn) : an_wp (kL_c23 Ln xs) (lawC Ln i) 200 (an_go (kL_c23 Ln xs) 1193) (lawL i) [] ((am_lv i1 i2, am_q i1 i2), kc, kn, M) := by
    obtain ⟨⟨f1, f2, f3, f4, f5, f6, f7⟩, k1, k2, k3, k4⟩ := hi.f
    have hmn : am_mn (am_lv i1 i2, am_q i1 i2) := ⟨_, _, rfl⟩
    repeat' (first | (with_reducible exact f1) | (with_reducible exact f2) | (with_reducible exact f3) | (with_reducible exact f4) | (with_reducible exact f5) | (with_reducible exact f6) | (with_reducible exact f7) | (with_reducible exact hmn) | (with_reducible exact h) | (with_reducible exact k1) | (with_reducible exact k2) | (with_reducible exact k3) | (with_reducible exact k4) | apply And.intro | exact rfl | ((with_reducible change r_I _); (with_reducible assumption)) | (intro hx; exact absurd hx (by decide)) | (intro hx; exact absurd (by decide) hx) | decide | intro hx | (refine Exists.intro _ (And.intro rfl ?_)) | (refine Exists.intro _ (Exists.intro _ (And.intro rfl (And.intro rfl ?_)))) | ((with_reducible change LI _ _ _); (with_reducible assumption)) | ((with_reducible change _ = true); simp only [k1, k2, k3, k4, Bool.true_and]; rfl))
    all_goals try first | (with_reducible change am_tI _ _) | (change Ret _ _) | (change Ret _ _ _) | (change Exists _)
    all_goals try dsimp only at *
    all_goals try (with_reducible exact absurd ‹(1000 : Int64) = 0› am_z1000)
    all_goals first
      | exact ⟨_, _, rfl⟩
      | exact lawE.mk hi (by with_reducible assumption) (by omega) (by omega)
      | skip
