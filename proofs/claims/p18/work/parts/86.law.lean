/-! the law: cases 18 to 23 -/
theorem dL_law_1028 : decode cL_law 1028 = .ok (.aload_n 1, 1) := by decide +kernel
theorem dL_law_1029 : decode cL_law 1029 = .ok (.aload_n 0, 1) := by decide +kernel
theorem dL_law_1030 : decode cL_law 1030 = .ok (.iload_n 3, 1) := by decide +kernel
theorem dL_law_1031 : decode cL_law 1031 = .ok (.iconst 1, 1) := by decide +kernel
theorem dL_law_1032 : decode cL_law 1032 = .ok (.iadd, 1) := by decide +kernel
theorem dL_law_1033 : decode cL_law 1033 = .ok (.iaload, 1) := by decide +kernel
theorem dL_law_1034 : decode cL_law 1034 = .ok (.aload_n 0, 1) := by decide +kernel
theorem dL_law_1035 : decode cL_law 1035 = .ok (.iload_n 3, 1) := by decide +kernel
theorem dL_law_1036 : decode cL_law 1036 = .ok (.iconst 2, 1) := by decide +kernel
theorem dL_law_1037 : decode cL_law 1037 = .ok (.iadd, 1) := by decide +kernel
theorem dL_law_1038 : decode cL_law 1038 = .ok (.iaload, 1) := by decide +kernel
set_option maxRecDepth 100000 in
theorem wd_664 : Cond.methodLink "LearnLoansLaw" 93 yX7_write ∈ am_ws := am_wsi (List.mem_of_getElem? (i := 664) (by rfl)) (by decide +kernel)
set_option maxRecDepth 100000 in
theorem wd_665 : Cond.instanceMethod yX7_write ∈ am_ws := am_wsi (List.mem_of_getElem? (i := 665) (by rfl)) (by decide +kernel)
set_option maxRecDepth 100000 in
theorem wd_666 : Cond.selects "LearnLoans" yX7_write yX7_write ∈ am_ws := am_wsi (List.mem_of_getElem? (i := 666) (by rfl)) (by decide +kernel)
set_option maxRecDepth 100000 in
theorem wd_667 : Cond.code yX7_write cX7_write 4 (some .int) ∈ am_ws := am_wsi (List.mem_of_getElem? (i := 667) (by rfl)) (by decide +kernel)
theorem dL_law_1039 : decode cL_law 1039 = .ok (.invokevirtual 93, 3) := by decide +kernel
theorem dL_law_1042 : decode cL_law 1042 = .ok (.pop, 1) := by decide +kernel
theorem dL_law_1043 : decode cL_law 1043 = .ok (.aload_n 2, 1) := by decide +kernel
theorem dL_law_1044 : decode cL_law 1044 = .ok (.aload_n 0, 1) := by decide +kernel
theorem dL_law_1045 : decode cL_law 1045 = .ok (.iload_n 3, 1) := by decide +kernel
theorem dL_law_1046 : decode cL_law 1046 = .ok (.iconst 1, 1) := by decide +kernel
theorem dL_law_1047 : decode cL_law 1047 = .ok (.iadd, 1) := by decide +kernel
theorem dL_law_1048 : decode cL_law 1048 = .ok (.iaload, 1) := by decide +kernel
theorem dL_law_1049 : decode cL_law 1049 = .ok (.aload_n 0, 1) := by decide +kernel
theorem dL_law_1050 : decode cL_law 1050 = .ok (.iload_n 3, 1) := by decide +kernel
theorem dL_law_1051 : decode cL_law 1051 = .ok (.iconst 2, 1) := by decide +kernel
theorem dL_law_1052 : decode cL_law 1052 = .ok (.iadd, 1) := by decide +kernel
theorem dL_law_1053 : decode cL_law 1053 = .ok (.iaload, 1) := by decide +kernel
set_option maxRecDepth 100000 in
theorem wd_1089 : Cond.methodLink "LearnLoansLaw" 96 yX8_write ∈ am_ws := am_wsi (List.mem_of_getElem? (i := 1089) (by rfl)) (by decide +kernel)
set_option maxRecDepth 100000 in
theorem wd_1090 : Cond.instanceMethod yX8_write ∈ am_ws := am_wsi (List.mem_of_getElem? (i := 1090) (by rfl)) (by decide +kernel)
set_option maxRecDepth 100000 in
theorem wd_1091 : Cond.selects "LearnLoansModel" yX8_write yX8_write ∈ am_ws := am_wsi (List.mem_of_getElem? (i := 1091) (by rfl)) (by decide +kernel)
set_option maxRecDepth 100000 in
theorem wd_1092 : Cond.code yX8_write cX8_write 4 (some .int) ∈ am_ws := am_wsi (List.mem_of_getElem? (i := 1092) (by rfl)) (by decide +kernel)
theorem dL_law_1054 : decode cL_law 1054 = .ok (.invokevirtual 96, 3) := by decide +kernel
theorem dL_law_1057 : decode cL_law 1057 = .ok (.pop, 1) := by decide +kernel
theorem dL_law_1058 : decode cL_law 1058 = .ok (.goto 783, 3) := by decide +kernel
def kL_c18 (Ln : Nat) (xs : Nat → Int32) : an_code := [(1028, an_lf (fun live => am_aload 1 1029)), (1029, an_lf (fun live => am_aload 0 1030)), (1030, an_lf (fun live => am_iload 3 1031)), (1031, an_lf (fun live => am_const (.int 1) 1032)), (1032, an_lf (fun live => am_i2 (fun x y => x + y) 1033)), (1033, an_sld Ln xs 1034), (1034, an_lf (fun live => am_aload 0 1035)), (1035, an_lf (fun live => am_iload 3 1036)), (1036, an_lf (fun live => am_const (.int 2) 1037)), (1037, an_lf (fun live => am_i2 (fun x y => x + y) 1038)), (1038, an_sld Ln xs 1039), (1039, an_lf (fun live => am_callV live 7 2 TW_write 1042)), (1042, an_lf (fun live => am_pop 1043)), (1043, an_lf (fun live => am_aload 2 1044)), (1044, an_lf (fun live => am_aload 0 1045)), (1045, an_lf (fun live => am_iload 3 1046)), (1046, an_lf (fun live => am_const (.int 1) 1047)), (1047, an_lf (fun live => am_i2 (fun x y => x + y) 1048)), (1048, an_sld Ln xs 1049), (1049, an_lf (fun live => am_aload 0 1050)), (1050, an_lf (fun live => am_iload 3 1051)), (1051, an_lf (fun live => am_const (.int 2) 1052)), (1052, an_lf (fun live => am_i2 (fun x y => x + y) 1053)), (1053, an_sld Ln xs 1054), (1054, an_lf (fun live => am_callV live 8 2 TX8_write 1057)), (1057, an_lf (fun live => am_pop 1058)), (1058, an_lf (fun live => am_goto 1841))]
theorem koL_c18 (Ln : Nat) (xs : Nat → Int32) : ∀ q ∈ kL_c18 Ln xs, an_ok RL cL_law 4 (some .boolean) 2000 80000 600000 7302250 false (lawP Ln xs) an_noR q.1 q.2 :=
  an_kc (an_lift (fun live => ak_aload_n dL_law_1028 rfl rfl)) <|
  an_kc (an_lift (fun live => ak_aload_n dL_law_1029 rfl rfl)) <|
  an_kc (an_lift (fun live => ak_iload_n dL_law_1030 rfl rfl)) <|
  an_kc (an_lift (fun live => ak_iconst dL_law_1031 (by decide +kernel) rfl)) <|
  an_kc (an_lift (fun live => ak_iadd dL_law_1032 rfl)) <|
  an_kc (nk_sld dL_law_1033 rfl) <|
  an_kc (an_lift (fun live => ak_aload_n dL_law_1034 rfl rfl)) <|
  an_kc (an_lift (fun live => ak_iload_n dL_law_1035 rfl rfl)) <|
  an_kc (an_lift (fun live => ak_iconst dL_law_1036 (by decide +kernel) rfl)) <|
  an_kc (an_lift (fun live => ak_iadd dL_law_1037 rfl)) <|
  an_kc (nk_sld dL_law_1038 rfl) <|
  an_kc (an_lift (fun live => ak_callV (C := RX7) (F := TX7) (N := 4) metW_write rfl ⟨rfl, by decide +kernel, by decide +kernel, by decide +kernel⟩ (am_w5 wd_664 wd_665 wd_666 wd_58 wd_667) (by decide) dL_law_1039 rfl)) <|
  an_kc (an_lift (fun live => ak_pop dL_law_1042 rfl)) <|
  an_kc (an_lift (fun live => ak_aload_n dL_law_1043 rfl rfl)) <|
  an_kc (an_lift (fun live => ak_aload_n dL_law_1044 rfl rfl)) <|
  an_kc (an_lift (fun live => ak_iload_n dL_law_1045 rfl rfl)) <|
  an_kc (an_lift (fun live => ak_iconst dL_law_1046 (by decide +kernel) rfl)) <|
  an_kc (an_lift (fun live => ak_iadd dL_law_1047 rfl)) <|
  an_kc (nk_sld dL_law_1048 rfl) <|
  an_kc (an_lift (fun live => ak_aload_n dL_law_1049 rfl rfl)) <|
  an_kc (an_lift (fun live => ak_iload_n dL_law_1050 rfl rfl)) <|
  an_kc (an_lift (fun live => ak_iconst dL_law_1051 (by decide +kernel) rfl)) <|
  an_kc (an_lift (fun live => ak_iadd dL_law_1052 rfl)) <|
  an_kc (nk_sld dL_law_1053 rfl) <|
  an_kc (an_lift (fun live => ak_callV (C := RX8) (F := TX8) (N := 27) metX8_write rfl ⟨rfl, by decide +kernel, by decide +kernel, by decide +kernel⟩ (am_w5 wd_1089 wd_1090 wd_1091 wd_67 wd_1092) (by decide) dL_law_1054 rfl)) <|
  an_kc (an_lift (fun live => ak_pop dL_law_1057 rfl)) <|
  an_kc (an_lift (fun live => ak_goto dL_law_1058 (by decide +kernel))) <| an_kn
set_option maxRecDepth 100000 in
set_option maxHeartbeats 4000000 in
theorem caseL_c18 {Ln : Nat} (xs : Nat → Int32) {i : Int32} {i1 i2 : Bool} {kc kn : Nat} {M : am_M} (h : LX i1 i2 M) (hi : lawI Ln i kc kn) : an_wp (kL_c18 Ln xs) (lawC Ln i) 200 (an_go (kL_c18 Ln xs) 1028) (lawL i) [] ((am_lv i1 i2, am_q i1 i2), kc, kn, M) := by
    obtain ⟨⟨f1, f2, f3, f4, f5, f6, f7⟩, k1, k2, k3, k4⟩ := hi.f
    have hmn : am_mn (am_lv i1 i2, am_q i1 i2) := ⟨_, _, rfl⟩
    repeat' (first | (with_reducible exact f1) | (with_reducible exact f2) | (with_reducible exact f3) | (with_reducible exact f4) | (with_reducible exact f5) | (with_reducible exact f6) | (with_reducible exact f7) | (with_reducible exact hmn) | (with_reducible exact h) | (with_reducible exact k1) | (with_reducible exact k2) | (with_reducible exact k3) | (with_reducible exact k4) | apply And.intro | exact rfl | ((with_reducible change r_I _); (with_reducible assumption)) | (intro hx; exact absurd hx (by decide)) | (intro hx; exact absurd (by decide) hx) | decide | intro hx | (refine Exists.intro _ (And.intro rfl ?_)) | (refine Exists.intro _ (Exists.intro _ (And.intro rfl (And.intro rfl ?_)))) | ((with_reducible change LX _ _ _); (with_reducible assumption)) | ((with_reducible change _ = true); simp only [k1, k2, k3, k4, Bool.true_and]; rfl))
    all_goals try first | (with_reducible change am_tI _ _) | (change Ret _ _) | (change Ret _ _ _) | (change Exists _)
    all_goals try dsimp only at *
    all_goals try exact absurd ‹(1000 : Int64) = 0› (by decide)
    all_goals first
      | exact ⟨_, _, rfl⟩
      | exact lawE.mk hi (by with_reducible assumption) (by omega) (by omega)
      | skip
theorem dL_law_1061 : decode cL_law 1061 = .ok (.aload_n 1, 1) := by decide +kernel
theorem dL_law_1062 : decode cL_law 1062 = .ok (.aload_n 0, 1) := by decide +kernel
theorem dL_law_1063 : decode cL_law 1063 = .ok (.iload_n 3, 1) := by decide +kernel
theorem dL_law_1064 : decode cL_law 1064 = .ok (.iconst 1, 1) := by decide +kernel
theorem dL_law_1065 : decode cL_law 1065 = .ok (.iadd, 1) := by decide +kernel
theorem dL_law_1066 : decode cL_law 1066 = .ok (.iaload, 1) := by decide +kernel
set_option maxRecDepth 100000 in
theorem wd_718 : Cond.methodLink "LearnLoansLaw" 97 yX7_erase ∈ am_ws := am_wsi (List.mem_of_getElem? (i := 718) (by rfl)) (by decide +kernel)
set_option maxRecDepth 100000 in
theorem wd_719 : Cond.instanceMethod yX7_erase ∈ am_ws := am_wsi (List.mem_of_getElem? (i := 719) (by rfl)) (by decide +kernel)
set_option maxRecDepth 100000 in
theorem wd_720 : Cond.selects "LearnLoans" yX7_erase yX7_erase ∈ am_ws := am_wsi (List.mem_of_getElem? (i := 720) (by rfl)) (by decide +kernel)
set_option maxRecDepth 100000 in
theorem wd_721 : Cond.code yX7_erase cX7_erase 4 (some .int) ∈ am_ws := am_wsi (List.mem_of_getElem? (i := 721) (by rfl)) (by decide +kernel)
theorem dL_law_1067 : decode cL_law 1067 = .ok (.invokevirtual 97, 3) := by decide +kernel
theorem dL_law_1070 : decode cL_law 1070 = .ok (.pop, 1) := by decide +kernel
theorem dL_law_1071 : decode cL_law 1071 = .ok (.aload_n 2, 1) := by decide +kernel
theorem dL_law_1072 : decode cL_law 1072 = .ok (.aload_n 0, 1) := by decide +kernel
theorem dL_law_1073 : decode cL_law 1073 = .ok (.iload_n 3, 1) := by decide +kernel
theorem dL_law_1074 : decode cL_law 1074 = .ok (.iconst 1, 1) := by decide +kernel
theorem dL_law_1075 : decode cL_law 1075 = .ok (.iadd, 1) := by decide +kernel
theorem dL_law_1076 : decode cL_law 1076 = .ok (.iaload, 1) := by decide +kernel
set_option maxRecDepth 100000 in
theorem wd_1094 : Cond.methodLink "LearnLoansLaw" 100 yX8_erase ∈ am_ws := am_wsi (List.mem_of_getElem? (i := 1094) (by rfl)) (by decide +kernel)
set_option maxRecDepth 100000 in
theorem wd_1095 : Cond.instanceMethod yX8_erase ∈ am_ws := am_wsi (List.mem_of_getElem? (i := 1095) (by rfl)) (by decide +kernel)
set_option maxRecDepth 100000 in
theorem wd_1096 : Cond.selects "LearnLoansModel" yX8_erase yX8_erase ∈ am_ws := am_wsi (List.mem_of_getElem? (i := 1096) (by rfl)) (by decide +kernel)
set_option maxRecDepth 100000 in
theorem wd_1097 : Cond.code yX8_erase cX8_erase 3 (some .int) ∈ am_ws := am_wsi (List.mem_of_getElem? (i := 1097) (by rfl)) (by decide +kernel)
theorem dL_law_1077 : decode cL_law 1077 = .ok (.invokevirtual 100, 3) := by decide +kernel
theorem dL_law_1080 : decode cL_law 1080 = .ok (.pop, 1) := by decide +kernel
theorem dL_law_1081 : decode cL_law 1081 = .ok (.goto 760, 3) := by decide +kernel
def kL_c19 (Ln : Nat) (xs : Nat → Int32) : an_code := [(1061, an_lf (fun live => am_aload 1 1062)), (1062, an_lf (fun live => am_aload 0 1063)), (1063, an_lf (fun live => am_iload 3 1064)), (1064, an_lf (fun live => am_const (.int 1) 1065)), (1065, an_lf (fun live => am_i2 (fun x y => x + y) 1066)), (1066, an_sld Ln xs 1067), (1067, an_lf (fun live => am_callV live 7 1 TW_erase 1070)), (1070, an_lf (fun live => am_pop 1071)), (1071, an_lf (fun live => am_aload 2 1072)), (1072, an_lf (fun live => am_aload 0 1073)), (1073, an_lf (fun live => am_iload 3 1074)), (1074, an_lf (fun live => am_const (.int 1) 1075)), (1075, an_lf (fun live => am_i2 (fun x y => x + y) 1076)), (1076, an_sld Ln xs 1077), (1077, an_lf (fun live => am_callV live 8 1 TX8_erase 1080)), (1080, an_lf (fun live => am_pop 1081)), (1081, an_lf (fun live => am_goto 1841))]
theorem koL_c19 (Ln : Nat) (xs : Nat → Int32) : ∀ q ∈ kL_c19 Ln xs, an_ok RL cL_law 4 (some .boolean) 2000 80000 600000 7302250 false (lawP Ln xs) an_noR q.1 q.2 :=
  an_kc (an_lift (fun live => ak_aload_n dL_law_1061 rfl rfl)) <|
  an_kc (an_lift (fun live => ak_aload_n dL_law_1062 rfl rfl)) <|
  an_kc (an_lift (fun live => ak_iload_n dL_law_1063 rfl rfl)) <|
  an_kc (an_lift (fun live => ak_iconst dL_law_1064 (by decide +kernel) rfl)) <|
  an_kc (an_lift (fun live => ak_iadd dL_law_1065 rfl)) <|
  an_kc (nk_sld dL_law_1066 rfl) <|
  an_kc (an_lift (fun live => ak_callV (C := RX7) (F := TX7) (N := 4) metW_erase rfl ⟨rfl, by decide +kernel, by decide +kernel, by decide +kernel⟩ (am_w5 wd_718 wd_719 wd_720 wd_58 wd_721) (by decide) dL_law_1067 rfl)) <|
  an_kc (an_lift (fun live => ak_pop dL_law_1070 rfl)) <|
  an_kc (an_lift (fun live => ak_aload_n dL_law_1071 rfl rfl)) <|
  an_kc (an_lift (fun live => ak_aload_n dL_law_1072 rfl rfl)) <|
  an_kc (an_lift (fun live => ak_iload_n dL_law_1073 rfl rfl)) <|
  an_kc (an_lift (fun live => ak_iconst dL_law_1074 (by decide +kernel) rfl)) <|
  an_kc (an_lift (fun live => ak_iadd dL_law_1075 rfl)) <|
  an_kc (nk_sld dL_law_1076 rfl) <|
  an_kc (an_lift (fun live => ak_callV (C := RX8) (F := TX8) (N := 27) metX8_erase rfl ⟨rfl, by decide +kernel, by decide +kernel, by decide +kernel⟩ (am_w5 wd_1094 wd_1095 wd_1096 wd_67 wd_1097) (by decide) dL_law_1077 rfl)) <|
  an_kc (an_lift (fun live => ak_pop dL_law_1080 rfl)) <|
  an_kc (an_lift (fun live => ak_goto dL_law_1081 (by decide +kernel))) <| an_kn
set_option maxRecDepth 100000 in
set_option maxHeartbeats 4000000 in
theorem caseL_c19 {Ln : Nat} (xs : Nat → Int32) {i : Int32} {i1 i2 : Bool} {kc kn : Nat} {M : am_M} (h : LX i1 i2 M) (hi : lawI Ln i kc kn) : an_wp (kL_c19 Ln xs) (lawC Ln i) 200 (an_go (kL_c19 Ln xs) 1061) (lawL i) [] ((am_lv i1 i2, am_q i1 i2), kc, kn, M) := by
    obtain ⟨⟨f1, f2, f3, f4, f5, f6, f7⟩, k1, k2, k3, k4⟩ := hi.f
    have hmn : am_mn (am_lv i1 i2, am_q i1 i2) := ⟨_, _, rfl⟩
    repeat' (first | (with_reducible exact f1) | (with_reducible exact f2) | (with_reducible exact f3) | (with_reducible exact f4) | (with_reducible exact f5) | (with_reducible exact f6) | (with_reducible exact f7) | (with_reducible exact hmn) | (with_reducible exact h) | (with_reducible exact k1) | (with_reducible exact k2) | (with_reducible exact k3) | (with_reducible exact k4) | apply And.intro | exact rfl | ((with_reducible change r_I _); (with_reducible assumption)) | (intro hx; exact absurd hx (by decide)) | (intro hx; exact absurd (by decide) hx) | decide | intro hx | (refine Exists.intro _ (And.intro rfl ?_)) | (refine Exists.intro _ (Exists.intro _ (And.intro rfl (And.intro rfl ?_)))) | ((with_reducible change LX _ _ _); (with_reducible assumption)) | ((with_reducible change _ = true); simp only [k1, k2, k3, k4, Bool.true_and]; rfl))
    all_goals try first | (with_reducible change am_tI _ _) | (change Ret _ _) | (change Ret _ _ _) | (change Exists _)
    all_goals try dsimp only at *
    all_goals try exact absurd ‹(1000 : Int64) = 0› (by decide)
    all_goals first
      | exact ⟨_, _, rfl⟩
      | exact lawE.mk hi (by with_reducible assumption) (by omega) (by omega)
      | skip
theorem dL_law_1084 : decode cL_law 1084 = .ok (.aload_n 1, 1) := by decide +kernel
theorem dL_law_1085 : decode cL_law 1085 = .ok (.aload_n 0, 1) := by decide +kernel
theorem dL_law_1086 : decode cL_law 1086 = .ok (.iload_n 3, 1) := by decide +kernel
theorem dL_law_1087 : decode cL_law 1087 = .ok (.iconst 1, 1) := by decide +kernel
theorem dL_law_1088 : decode cL_law 1088 = .ok (.iadd, 1) := by decide +kernel
theorem dL_law_1089 : decode cL_law 1089 = .ok (.iaload, 1) := by decide +kernel
set_option maxRecDepth 100000 in
theorem wd_726 : Cond.methodLink "LearnLoansLaw" 101 yX7_fault ∈ am_ws := am_wsi (List.mem_of_getElem? (i := 726) (by rfl)) (by decide +kernel)
set_option maxRecDepth 100000 in
theorem wd_727 : Cond.instanceMethod yX7_fault ∈ am_ws := am_wsi (List.mem_of_getElem? (i := 727) (by rfl)) (by decide +kernel)
set_option maxRecDepth 100000 in
theorem wd_728 : Cond.selects "LearnLoans" yX7_fault yX7_fault ∈ am_ws := am_wsi (List.mem_of_getElem? (i := 728) (by rfl)) (by decide +kernel)
set_option maxRecDepth 100000 in
theorem wd_729 : Cond.code yX7_fault cX7_fault 2 (some .int) ∈ am_ws := am_wsi (List.mem_of_getElem? (i := 729) (by rfl)) (by decide +kernel)
theorem dL_law_1090 : decode cL_law 1090 = .ok (.invokevirtual 101, 3) := by decide +kernel
theorem dL_law_1093 : decode cL_law 1093 = .ok (.pop, 1) := by decide +kernel
theorem dL_law_1094 : decode cL_law 1094 = .ok (.aload_n 2, 1) := by decide +kernel
theorem dL_law_1095 : decode cL_law 1095 = .ok (.aload_n 0, 1) := by decide +kernel
theorem dL_law_1096 : decode cL_law 1096 = .ok (.iload_n 3, 1) := by decide +kernel
theorem dL_law_1097 : decode cL_law 1097 = .ok (.iconst 1, 1) := by decide +kernel
theorem dL_law_1098 : decode cL_law 1098 = .ok (.iadd, 1) := by decide +kernel
theorem dL_law_1099 : decode cL_law 1099 = .ok (.iaload, 1) := by decide +kernel
set_option maxRecDepth 100000 in
theorem wd_1098 : Cond.methodLink "LearnLoansLaw" 104 yX8_fault ∈ am_ws := am_wsi (List.mem_of_getElem? (i := 1098) (by rfl)) (by decide +kernel)
set_option maxRecDepth 100000 in
theorem wd_1099 : Cond.instanceMethod yX8_fault ∈ am_ws := am_wsi (List.mem_of_getElem? (i := 1099) (by rfl)) (by decide +kernel)
set_option maxRecDepth 100000 in
theorem wd_1100 : Cond.selects "LearnLoansModel" yX8_fault yX8_fault ∈ am_ws := am_wsi (List.mem_of_getElem? (i := 1100) (by rfl)) (by decide +kernel)
set_option maxRecDepth 100000 in
theorem wd_1101 : Cond.code yX8_fault cX8_fault 2 (some .int) ∈ am_ws := am_wsi (List.mem_of_getElem? (i := 1101) (by rfl)) (by decide +kernel)
theorem dL_law_1100 : decode cL_law 1100 = .ok (.invokevirtual 104, 3) := by decide +kernel
theorem dL_law_1103 : decode cL_law 1103 = .ok (.pop, 1) := by decide +kernel
theorem dL_law_1104 : decode cL_law 1104 = .ok (.goto 737, 3) := by decide +kernel
def kL_c20 (Ln : Nat) (xs : Nat → Int32) : an_code := [(1084, an_lf (fun live => am_aload 1 1085)), (1085, an_lf (fun live => am_aload 0 1086)), (1086, an_lf (fun live => am_iload 3 1087)), (1087, an_lf (fun live => am_const (.int 1) 1088)), (1088, an_lf (fun live => am_i2 (fun x y => x + y) 1089)), (1089, an_sld Ln xs 1090), (1090, an_lf (fun live => am_callV live 7 1 TW_fault 1093)), (1093, an_lf (fun live => am_pop 1094)), (1094, an_lf (fun live => am_aload 2 1095)), (1095, an_lf (fun live => am_aload 0 1096)), (1096, an_lf (fun live => am_iload 3 1097)), (1097, an_lf (fun live => am_const (.int 1) 1098)), (1098, an_lf (fun live => am_i2 (fun x y => x + y) 1099)), (1099, an_sld Ln xs 1100), (1100, an_lf (fun live => am_callV live 8 1 TV_fault 1103)), (1103, an_lf (fun live => am_pop 1104)), (1104, an_lf (fun live => am_goto 1841))]
theorem koL_c20 (Ln : Nat) (xs : Nat → Int32) : ∀ q ∈ kL_c20 Ln xs, an_ok RL cL_law 4 (some .boolean) 2000 80000 600000 7302250 false (lawP Ln xs) an_noR q.1 q.2 :=
  an_kc (an_lift (fun live => ak_aload_n dL_law_1084 rfl rfl)) <|
  an_kc (an_lift (fun live => ak_aload_n dL_law_1085 rfl rfl)) <|
  an_kc (an_lift (fun live => ak_iload_n dL_law_1086 rfl rfl)) <|
  an_kc (an_lift (fun live => ak_iconst dL_law_1087 (by decide +kernel) rfl)) <|
  an_kc (an_lift (fun live => ak_iadd dL_law_1088 rfl)) <|
  an_kc (nk_sld dL_law_1089 rfl) <|
  an_kc (an_lift (fun live => ak_callV (C := RX7) (F := TX7) (N := 4) metW_fault rfl ⟨rfl, by decide +kernel, by decide +kernel, by decide +kernel⟩ (am_w5 wd_726 wd_727 wd_728 wd_58 wd_729) (by decide) dL_law_1090 rfl)) <|
  an_kc (an_lift (fun live => ak_pop dL_law_1093 rfl)) <|
  an_kc (an_lift (fun live => ak_aload_n dL_law_1094 rfl rfl)) <|
  an_kc (an_lift (fun live => ak_aload_n dL_law_1095 rfl rfl)) <|
  an_kc (an_lift (fun live => ak_iload_n dL_law_1096 rfl rfl)) <|
  an_kc (an_lift (fun live => ak_iconst dL_law_1097 (by decide +kernel) rfl)) <|
  an_kc (an_lift (fun live => ak_iadd dL_law_1098 rfl)) <|
  an_kc (nk_sld dL_law_1099 rfl) <|
  an_kc (an_lift (fun live => ak_callV (C := RX8) (F := TX8) (N := 27) metV_fault rfl ⟨rfl, by decide +kernel, by decide +kernel, by decide +kernel⟩ (am_w5 wd_1098 wd_1099 wd_1100 wd_67 wd_1101) (by decide) dL_law_1100 rfl)) <|
  an_kc (an_lift (fun live => ak_pop dL_law_1103 rfl)) <|
  an_kc (an_lift (fun live => ak_goto dL_law_1104 (by decide +kernel))) <| an_kn
set_option maxRecDepth 100000 in
set_option maxHeartbeats 4000000 in
theorem caseL_c20 {Ln : Nat} (xs : Nat → Int32) {i : Int32} {i1 i2 : Bool} {kc kn : Nat} {M : am_M} (h : LX i1 i2 M) (hi : lawI Ln i kc kn) : an_wp (kL_c20 Ln xs) (lawC Ln i) 200 (an_go (kL_c20 Ln xs) 1084) (lawL i) [] ((am_lv i1 i2, am_q i1 i2), kc, kn, M) := by
    obtain ⟨⟨f1, f2, f3, f4, f5, f6, f7⟩, k1, k2, k3, k4⟩ := hi.f
    have hmn : am_mn (am_lv i1 i2, am_q i1 i2) := ⟨_, _, rfl⟩
    repeat' (first | (with_reducible exact f1) | (with_reducible exact f2) | (with_reducible exact f3) | (with_reducible exact f4) | (with_reducible exact f5) | (with_reducible exact f6) | (with_reducible exact f7) | (with_reducible exact hmn) | (with_reducible exact h) | (with_reducible exact k1) | (with_reducible exact k2) | (with_reducible exact k3) | (with_reducible exact k4) | apply And.intro | exact rfl | ((with_reducible change r_I _); (with_reducible assumption)) | (intro hx; exact absurd hx (by decide)) | (intro hx; exact absurd (by decide) hx) | decide | intro hx | (refine Exists.intro _ (And.intro rfl ?_)) | (refine Exists.intro _ (Exists.intro _ (And.intro rfl (And.intro rfl ?_)))) | ((with_reducible change LX _ _ _); (with_reducible assumption)) | ((with_reducible change _ = true); simp only [k1, k2, k3, k4, Bool.true_and]; rfl))
    all_goals try first | (with_reducible change am_tI _ _) | (change Ret _ _) | (change Ret _ _ _) | (change Exists _)
    all_goals try dsimp only at *
    all_goals try exact absurd ‹(1000 : Int64) = 0› (by decide)
    all_goals first
      | exact ⟨_, _, rfl⟩
      | exact lawE.mk hi (by with_reducible assumption) (by omega) (by omega)
      | skip
theorem dL_law_1107 : decode cL_law 1107 = .ok (.aload_n 1, 1) := by decide +kernel
theorem dL_law_1108 : decode cL_law 1108 = .ok (.aload_n 0, 1) := by decide +kernel
theorem dL_law_1109 : decode cL_law 1109 = .ok (.iload_n 3, 1) := by decide +kernel
theorem dL_law_1110 : decode cL_law 1110 = .ok (.iconst 1, 1) := by decide +kernel
theorem dL_law_1111 : decode cL_law 1111 = .ok (.iadd, 1) := by decide +kernel
theorem dL_law_1112 : decode cL_law 1112 = .ok (.iaload, 1) := by decide +kernel
theorem dL_law_1113 : decode cL_law 1113 = .ok (.aload_n 0, 1) := by decide +kernel
theorem dL_law_1114 : decode cL_law 1114 = .ok (.iload_n 3, 1) := by decide +kernel
theorem dL_law_1115 : decode cL_law 1115 = .ok (.iconst 2, 1) := by decide +kernel
theorem dL_law_1116 : decode cL_law 1116 = .ok (.iadd, 1) := by decide +kernel
theorem dL_law_1117 : decode cL_law 1117 = .ok (.iaload, 1) := by decide +kernel
theorem dL_law_1118 : decode cL_law 1118 = .ok (.aload_n 0, 1) := by decide +kernel
theorem dL_law_1119 : decode cL_law 1119 = .ok (.iload_n 3, 1) := by decide +kernel
theorem dL_law_1120 : decode cL_law 1120 = .ok (.iconst 3, 1) := by decide +kernel
theorem dL_law_1121 : decode cL_law 1121 = .ok (.iadd, 1) := by decide +kernel
theorem dL_law_1122 : decode cL_law 1122 = .ok (.iaload, 1) := by decide +kernel
set_option maxRecDepth 100000 in
theorem wd_730 : Cond.methodLink "LearnLoansLaw" 105 yX7_sell ∈ am_ws := am_wsi (List.mem_of_getElem? (i := 730) (by rfl)) (by decide +kernel)
set_option maxRecDepth 100000 in
theorem wd_731 : Cond.instanceMethod yX7_sell ∈ am_ws := am_wsi (List.mem_of_getElem? (i := 731) (by rfl)) (by decide +kernel)
set_option maxRecDepth 100000 in
theorem wd_732 : Cond.selects "LearnLoans" yX7_sell yX7_sell ∈ am_ws := am_wsi (List.mem_of_getElem? (i := 732) (by rfl)) (by decide +kernel)
set_option maxRecDepth 100000 in
theorem wd_733 : Cond.code yX7_sell cX7_sell 4 (some .int) ∈ am_ws := am_wsi (List.mem_of_getElem? (i := 733) (by rfl)) (by decide +kernel)
theorem dL_law_1123 : decode cL_law 1123 = .ok (.invokevirtual 105, 3) := by decide +kernel
theorem dL_law_1126 : decode cL_law 1126 = .ok (.pop, 1) := by decide +kernel
theorem dL_law_1127 : decode cL_law 1127 = .ok (.aload_n 2, 1) := by decide +kernel
theorem dL_law_1128 : decode cL_law 1128 = .ok (.aload_n 0, 1) := by decide +kernel
theorem dL_law_1129 : decode cL_law 1129 = .ok (.iload_n 3, 1) := by decide +kernel
theorem dL_law_1130 : decode cL_law 1130 = .ok (.iconst 1, 1) := by decide +kernel
theorem dL_law_1131 : decode cL_law 1131 = .ok (.iadd, 1) := by decide +kernel
theorem dL_law_1132 : decode cL_law 1132 = .ok (.iaload, 1) := by decide +kernel
theorem dL_law_1133 : decode cL_law 1133 = .ok (.aload_n 0, 1) := by decide +kernel
theorem dL_law_1134 : decode cL_law 1134 = .ok (.iload_n 3, 1) := by decide +kernel
theorem dL_law_1135 : decode cL_law 1135 = .ok (.iconst 2, 1) := by decide +kernel
theorem dL_law_1136 : decode cL_law 1136 = .ok (.iadd, 1) := by decide +kernel
theorem dL_law_1137 : decode cL_law 1137 = .ok (.iaload, 1) := by decide +kernel
theorem dL_law_1138 : decode cL_law 1138 = .ok (.aload_n 0, 1) := by decide +kernel
theorem dL_law_1139 : decode cL_law 1139 = .ok (.iload_n 3, 1) := by decide +kernel
theorem dL_law_1140 : decode cL_law 1140 = .ok (.iconst 3, 1) := by decide +kernel
theorem dL_law_1141 : decode cL_law 1141 = .ok (.iadd, 1) := by decide +kernel
theorem dL_law_1142 : decode cL_law 1142 = .ok (.iaload, 1) := by decide +kernel
set_option maxRecDepth 100000 in
theorem wd_1208 : Cond.methodLink "LearnLoansLaw" 108 yX8_sell ∈ am_ws := am_wsi (List.mem_of_getElem? (i := 1208) (by rfl)) (by decide +kernel)
set_option maxRecDepth 100000 in
theorem wd_1209 : Cond.instanceMethod yX8_sell ∈ am_ws := am_wsi (List.mem_of_getElem? (i := 1209) (by rfl)) (by decide +kernel)
set_option maxRecDepth 100000 in
theorem wd_1210 : Cond.selects "LearnLoansModel" yX8_sell yX8_sell ∈ am_ws := am_wsi (List.mem_of_getElem? (i := 1210) (by rfl)) (by decide +kernel)
set_option maxRecDepth 100000 in
theorem wd_1211 : Cond.code yX8_sell cX8_sell 4 (some .int) ∈ am_ws := am_wsi (List.mem_of_getElem? (i := 1211) (by rfl)) (by decide +kernel)
theorem dL_law_1143 : decode cL_law 1143 = .ok (.invokevirtual 108, 3) := by decide +kernel
theorem dL_law_1146 : decode cL_law 1146 = .ok (.pop, 1) := by decide +kernel
theorem dL_law_1147 : decode cL_law 1147 = .ok (.goto 694, 3) := by decide +kernel
def kL_c21 (Ln : Nat) (xs : Nat → Int32) : an_code := [(1107, an_lf (fun live => am_aload 1 1108)), (1108, an_lf (fun live => am_aload 0 1109)), (1109, an_lf (fun live => am_iload 3 1110)), (1110, an_lf (fun live => am_const (.int 1) 1111)), (1111, an_lf (fun live => am_i2 (fun x y => x + y) 1112)), (1112, an_sld Ln xs 1113), (1113, an_lf (fun live => am_aload 0 1114)), (1114, an_lf (fun live => am_iload 3 1115)), (1115, an_lf (fun live => am_const (.int 2) 1116)), (1116, an_lf (fun live => am_i2 (fun x y => x + y) 1117)), (1117, an_sld Ln xs 1118), (1118, an_lf (fun live => am_aload 0 1119)), (1119, an_lf (fun live => am_iload 3 1120)), (1120, an_lf (fun live => am_const (.int 3) 1121)), (1121, an_lf (fun live => am_i2 (fun x y => x + y) 1122)), (1122, an_sld Ln xs 1123), (1123, an_lf (fun live => am_callV live 7 3 TW_sell 1126)), (1126, an_lf (fun live => am_pop 1127)), (1127, an_lf (fun live => am_aload 2 1128)), (1128, an_lf (fun live => am_aload 0 1129)), (1129, an_lf (fun live => am_iload 3 1130)), (1130, an_lf (fun live => am_const (.int 1) 1131)), (1131, an_lf (fun live => am_i2 (fun x y => x + y) 1132)), (1132, an_sld Ln xs 1133), (1133, an_lf (fun live => am_aload 0 1134)), (1134, an_lf (fun live => am_iload 3 1135)), (1135, an_lf (fun live => am_const (.int 2) 1136)), (1136, an_lf (fun live => am_i2 (fun x y => x + y) 1137)), (1137, an_sld Ln xs 1138), (1138, an_lf (fun live => am_aload 0 1139)), (1139, an_lf (fun live => am_iload 3 1140)), (1140, an_lf (fun live => am_const (.int 3) 1141)), (1141, an_lf (fun live => am_i2 (fun x y => x + y) 1142)), (1142, an_sld Ln xs 1143), (1143, an_lf (fun live => am_callV live 8 3 TX8_sell 1146)), (1146, an_lf (fun live => am_pop 1147)), (1147, an_lf (fun live => am_goto 1841))]
theorem koL_c21 (Ln : Nat) (xs : Nat → Int32) : ∀ q ∈ kL_c21 Ln xs, an_ok RL cL_law 4 (some .boolean) 2000 80000 600000 7302250 false (lawP Ln xs) an_noR q.1 q.2 :=
  an_kc (an_lift (fun live => ak_aload_n dL_law_1107 rfl rfl)) <|
  an_kc (an_lift (fun live => ak_aload_n dL_law_1108 rfl rfl)) <|
  an_kc (an_lift (fun live => ak_iload_n dL_law_1109 rfl rfl)) <|
  an_kc (an_lift (fun live => ak_iconst dL_law_1110 (by decide +kernel) rfl)) <|
  an_kc (an_lift (fun live => ak_iadd dL_law_1111 rfl)) <|
  an_kc (nk_sld dL_law_1112 rfl) <|
  an_kc (an_lift (fun live => ak_aload_n dL_law_1113 rfl rfl)) <|
  an_kc (an_lift (fun live => ak_iload_n dL_law_1114 rfl rfl)) <|
  an_kc (an_lift (fun live => ak_iconst dL_law_1115 (by decide +kernel) rfl)) <|
  an_kc (an_lift (fun live => ak_iadd dL_law_1116 rfl)) <|
  an_kc (nk_sld dL_law_1117 rfl) <|
  an_kc (an_lift (fun live => ak_aload_n dL_law_1118 rfl rfl)) <|
  an_kc (an_lift (fun live => ak_iload_n dL_law_1119 rfl rfl)) <|
  an_kc (an_lift (fun live => ak_iconst dL_law_1120 (by decide +kernel) rfl)) <|
  an_kc (an_lift (fun live => ak_iadd dL_law_1121 rfl)) <|
  an_kc (nk_sld dL_law_1122 rfl) <|
  an_kc (an_lift (fun live => ak_callV (C := RX7) (F := TX7) (N := 4) metW_sell rfl ⟨rfl, by decide +kernel, by decide +kernel, by decide +kernel⟩ (am_w5 wd_730 wd_731 wd_732 wd_58 wd_733) (by decide) dL_law_1123 rfl)) <|
  an_kc (an_lift (fun live => ak_pop dL_law_1126 rfl)) <|
  an_kc (an_lift (fun live => ak_aload_n dL_law_1127 rfl rfl)) <|
  an_kc (an_lift (fun live => ak_aload_n dL_law_1128 rfl rfl)) <|
  an_kc (an_lift (fun live => ak_iload_n dL_law_1129 rfl rfl)) <|
  an_kc (an_lift (fun live => ak_iconst dL_law_1130 (by decide +kernel) rfl)) <|
  an_kc (an_lift (fun live => ak_iadd dL_law_1131 rfl)) <|
  an_kc (nk_sld dL_law_1132 rfl) <|
  an_kc (an_lift (fun live => ak_aload_n dL_law_1133 rfl rfl)) <|
  an_kc (an_lift (fun live => ak_iload_n dL_law_1134 rfl rfl)) <|
  an_kc (an_lift (fun live => ak_iconst dL_law_1135 (by decide +kernel) rfl)) <|
  an_kc (an_lift (fun live => ak_iadd dL_law_1136 rfl)) <|
  an_kc (nk_sld dL_law_1137 rfl) <|
  an_kc (an_lift (fun live => ak_aload_n dL_law_1138 rfl rfl)) <|
  an_kc (an_lift (fun live => ak_iload_n dL_law_1139 rfl rfl)) <|
  an_kc (an_lift (fun live => ak_iconst dL_law_1140 (by decide +kernel) rfl)) <|
  an_kc (an_lift (fun live => ak_iadd dL_law_1141 rfl)) <|
  an_kc (nk_sld dL_law_1142 rfl) <|
  an_kc (an_lift (fun live => ak_callV (C := RX8) (F := TX8) (N := 27) metX8_sell rfl ⟨rfl, by decide +kernel, by decide +kernel, by decide +kernel⟩ (am_w5 wd_1208 wd_1209 wd_1210 wd_67 wd_1211) (by decide) dL_law_1143 rfl)) <|
  an_kc (an_lift (fun live => ak_pop dL_law_1146 rfl)) <|
  an_kc (an_lift (fun live => ak_goto dL_law_1147 (by decide +kernel))) <| an_kn
set_option maxRecDepth 100000 in
set_option maxHeartbeats 4000000 in
theorem caseL_c21 {Ln : Nat} (xs : Nat → Int32) {i : Int32} {i1 i2 : Bool} {kc kn : Nat} {M : am_M} (h : LX i1 i2 M) (hi : lawI Ln i kc kn) : an_wp (kL_c21 Ln xs) (lawC Ln i) 200 (an_go (kL_c21 Ln xs) 1107) (lawL i) [] ((am_lv i1 i2, am_q i1 i2), kc, kn, M) := by
    obtain ⟨⟨f1, f2, f3, f4, f5, f6, f7⟩, k1, k2, k3, k4⟩ := hi.f
    have hmn : am_mn (am_lv i1 i2, am_q i1 i2) := ⟨_, _, rfl⟩
    repeat' (first | (with_reducible exact f1) | (with_reducible exact f2) | (with_reducible exact f3) | (with_reducible exact f4) | (with_reducible exact f5) | (with_reducible exact f6) | (with_reducible exact f7) | (with_reducible exact hmn) | (with_reducible exact h) | (with_reducible exact k1) | (with_reducible exact k2) | (with_reducible exact k3) | (with_reducible exact k4) | apply And.intro | exact rfl | ((with_reducible change r_I _); (with_reducible assumption)) | (intro hx; exact absurd hx (by decide)) | (intro hx; exact absurd (by decide) hx) | decide | intro hx | (refine Exists.intro _ (And.intro rfl ?_)) | (refine Exists.intro _ (Exists.intro _ (And.intro rfl (And.intro rfl ?_)))) | ((with_reducible change LX _ _ _); (with_reducible assumption)) | ((with_reducible change _ = true); simp only [k1, k2, k3, k4, Bool.true_and]; rfl))
    all_goals try first | (with_reducible change am_tI _ _) | (change Ret _ _) | (change Ret _ _ _) | (change Exists _)
    all_goals try dsimp only at *
    all_goals try exact absurd ‹(1000 : Int64) = 0› (by decide)
    all_goals first
      | exact ⟨_, _, rfl⟩
      | exact lawE.mk hi (by with_reducible assumption) (by omega) (by omega)
      | skip
theorem dL_law_1150 : decode cL_law 1150 = .ok (.aload_n 1, 1) := by decide +kernel
theorem dL_law_1151 : decode cL_law 1151 = .ok (.aload_n 0, 1) := by decide +kernel
theorem dL_law_1152 : decode cL_law 1152 = .ok (.iload_n 3, 1) := by decide +kernel
theorem dL_law_1153 : decode cL_law 1153 = .ok (.iconst 1, 1) := by decide +kernel
theorem dL_law_1154 : decode cL_law 1154 = .ok (.iadd, 1) := by decide +kernel
theorem dL_law_1155 : decode cL_law 1155 = .ok (.iaload, 1) := by decide +kernel
theorem dL_law_1156 : decode cL_law 1156 = .ok (.aload_n 0, 1) := by decide +kernel
theorem dL_law_1157 : decode cL_law 1157 = .ok (.iload_n 3, 1) := by decide +kernel
theorem dL_law_1158 : decode cL_law 1158 = .ok (.iconst 2, 1) := by decide +kernel
theorem dL_law_1159 : decode cL_law 1159 = .ok (.iadd, 1) := by decide +kernel
theorem dL_law_1160 : decode cL_law 1160 = .ok (.iaload, 1) := by decide +kernel
theorem dL_law_1161 : decode cL_law 1161 = .ok (.aload_n 0, 1) := by decide +kernel
theorem dL_law_1162 : decode cL_law 1162 = .ok (.iload_n 3, 1) := by decide +kernel
theorem dL_law_1163 : decode cL_law 1163 = .ok (.iconst 3, 1) := by decide +kernel
theorem dL_law_1164 : decode cL_law 1164 = .ok (.iadd, 1) := by decide +kernel
theorem dL_law_1165 : decode cL_law 1165 = .ok (.iaload, 1) := by decide +kernel
set_option maxRecDepth 100000 in
theorem wd_734 : Cond.methodLink "LearnLoansLaw" 109 yX7_promise ∈ am_ws := am_wsi (List.mem_of_getElem? (i := 734) (by rfl)) (by decide +kernel)
set_option maxRecDepth 100000 in
theorem wd_735 : Cond.instanceMethod yX7_promise ∈ am_ws := am_wsi (List.mem_of_getElem? (i := 735) (by rfl)) (by decide +kernel)
set_option maxRecDepth 100000 in
theorem wd_736 : Cond.selects "LearnLoans" yX7_promise yX7_promise ∈ am_ws := am_wsi (List.mem_of_getElem? (i := 736) (by rfl)) (by decide +kernel)
set_option maxRecDepth 100000 in
theorem wd_737 : Cond.code yX7_promise cX7_promise 4 (some .int) ∈ am_ws := am_wsi (List.mem_of_getElem? (i := 737) (by rfl)) (by decide +kernel)
theorem dL_law_1166 : decode cL_law 1166 = .ok (.invokevirtual 109, 3) := by decide +kernel
theorem dL_law_1169 : decode cL_law 1169 = .ok (.pop, 1) := by decide +kernel
theorem dL_law_1170 : decode cL_law 1170 = .ok (.aload_n 2, 1) := by decide +kernel
theorem dL_law_1171 : decode cL_law 1171 = .ok (.aload_n 0, 1) := by decide +kernel
theorem dL_law_1172 : decode cL_law 1172 = .ok (.iload_n 3, 1) := by decide +kernel
theorem dL_law_1173 : decode cL_law 1173 = .ok (.iconst 1, 1) := by decide +kernel
theorem dL_law_1174 : decode cL_law 1174 = .ok (.iadd, 1) := by decide +kernel
theorem dL_law_1175 : decode cL_law 1175 = .ok (.iaload, 1) := by decide +kernel
theorem dL_law_1176 : decode cL_law 1176 = .ok (.aload_n 0, 1) := by decide +kernel
theorem dL_law_1177 : decode cL_law 1177 = .ok (.iload_n 3, 1) := by decide +kernel
theorem dL_law_1178 : decode cL_law 1178 = .ok (.iconst 2, 1) := by decide +kernel
theorem dL_law_1179 : decode cL_law 1179 = .ok (.iadd, 1) := by decide +kernel
theorem dL_law_1180 : decode cL_law 1180 = .ok (.iaload, 1) := by decide +kernel
theorem dL_law_1181 : decode cL_law 1181 = .ok (.aload_n 0, 1) := by decide +kernel
theorem dL_law_1182 : decode cL_law 1182 = .ok (.iload_n 3, 1) := by decide +kernel
theorem dL_law_1183 : decode cL_law 1183 = .ok (.iconst 3, 1) := by decide +kernel
theorem dL_law_1184 : decode cL_law 1184 = .ok (.iadd, 1) := by decide +kernel
theorem dL_law_1185 : decode cL_law 1185 = .ok (.iaload, 1) := by decide +kernel
set_option maxRecDepth 100000 in
theorem wd_1212 : Cond.methodLink "LearnLoansLaw" 112 yX8_promise ∈ am_ws := am_wsi (List.mem_of_getElem? (i := 1212) (by rfl)) (by decide +kernel)
set_option maxRecDepth 100000 in
theorem wd_1213 : Cond.instanceMethod yX8_promise ∈ am_ws := am_wsi (List.mem_of_getElem? (i := 1213) (by rfl)) (by decide +kernel)
set_option maxRecDepth 100000 in
theorem wd_1214 : Cond.selects "LearnLoansModel" yX8_promise yX8_promise ∈ am_ws := am_wsi (List.mem_of_getElem? (i := 1214) (by rfl)) (by decide +kernel)
set_option maxRecDepth 100000 in
theorem wd_1215 : Cond.code yX8_promise cX8_promise 5 (some .int) ∈ am_ws := am_wsi (List.mem_of_getElem? (i := 1215) (by rfl)) (by decide +kernel)
theorem dL_law_1186 : decode cL_law 1186 = .ok (.invokevirtual 112, 3) := by decide +kernel
theorem dL_law_1189 : decode cL_law 1189 = .ok (.pop, 1) := by decide +kernel
theorem dL_law_1190 : decode cL_law 1190 = .ok (.goto 651, 3) := by decide +kernel
def kL_c22 (Ln : Nat) (xs : Nat → Int32) : an_code := [(1150, an_lf (fun live => am_aload 1 1151)), (1151, an_lf (fun live => am_aload 0 1152)), (1152, an_lf (fun live => am_iload 3 1153)), (1153, an_lf (fun live => am_const (.int 1) 1154)), (1154, an_lf (fun live => am_i2 (fun x y => x + y) 1155)), (1155, an_sld Ln xs 1156), (1156, an_lf (fun live => am_aload 0 1157)), (1157, an_lf (fun live => am_iload 3 1158)), (1158, an_lf (fun live => am_const (.int 2) 1159)), (1159, an_lf (fun live => am_i2 (fun x y => x + y) 1160)), (1160, an_sld Ln xs 1161), (1161, an_lf (fun live => am_aload 0 1162)), (1162, an_lf (fun live => am_iload 3 1163)), (1163, an_lf (fun live => am_const (.int 3) 1164)), (1164, an_lf (fun live => am_i2 (fun x y => x + y) 1165)), (1165, an_sld Ln xs 1166), (1166, an_lf (fun live => am_callV live 7 3 TW_promise 1169)), (1169, an_lf (fun live => am_pop 1170)), (1170, an_lf (fun live => am_aload 2 1171)), (1171, an_lf (fun live => am_aload 0 1172)), (1172, an_lf (fun live => am_iload 3 1173)), (1173, an_lf (fun live => am_const (.int 1) 1174)), (1174, an_lf (fun live => am_i2 (fun x y => x + y) 1175)), (1175, an_sld Ln xs 1176), (1176, an_lf (fun live => am_aload 0 1177)), (1177, an_lf (fun live => am_iload 3 1178)), (1178, an_lf (fun live => am_const (.int 2) 1179)), (1179, an_lf (fun live => am_i2 (fun x y => x + y) 1180)), (1180, an_sld Ln xs 1181), (1181, an_lf (fun live => am_aload 0 1182)), (1182, an_lf (fun live => am_iload 3 1183)), (1183, an_lf (fun live => am_const (.int 3) 1184)), (1184, an_lf (fun live => am_i2 (fun x y => x + y) 1185)), (1185, an_sld Ln xs 1186), (1186, an_lf (fun live => am_callV live 8 3 TX8_promise 1189)), (1189, an_lf (fun live => am_pop 1190)), (1190, an_lf (fun live => am_goto 1841))]
theorem koL_c22 (Ln : Nat) (xs : Nat → Int32) : ∀ q ∈ kL_c22 Ln xs, an_ok RL cL_law 4 (some .boolean) 2000 80000 600000 7302250 false (lawP Ln xs) an_noR q.1 q.2 :=
  an_kc (an_lift (fun live => ak_aload_n dL_law_1150 rfl rfl)) <|
  an_kc (an_lift (fun live => ak_aload_n dL_law_1151 rfl rfl)) <|
  an_kc (an_lift (fun live => ak_iload_n dL_law_1152 rfl rfl)) <|
  an_kc (an_lift (fun live => ak_iconst dL_law_1153 (by decide +kernel) rfl)) <|
  an_kc (an_lift (fun live => ak_iadd dL_law_1154 rfl)) <|
  an_kc (nk_sld dL_law_1155 rfl) <|
  an_kc (an_lift (fun live => ak_aload_n dL_law_1156 rfl rfl)) <|
  an_kc (an_lift (fun live => ak_iload_n dL_law_1157 rfl rfl)) <|
  an_kc (an_lift (fun live => ak_iconst dL_law_1158 (by decide +kernel) rfl)) <|
  an_kc (an_lift (fun live => ak_iadd dL_law_1159 rfl)) <|
  an_kc (nk_sld dL_law_1160 rfl) <|
  an_kc (an_lift (fun live => ak_aload_n dL_law_1161 rfl rfl)) <|
  an_kc (an_lift (fun live => ak_iload_n dL_law_1162 rfl rfl)) <|
  an_kc (an_lift (fun live => ak_iconst dL_law_1163 (by decide +kernel) rfl)) <|
  an_kc (an_lift (fun live => ak_iadd dL_law_1164 rfl)) <|
  an_kc (nk_sld dL_law_1165 rfl) <|
  an_kc (an_lift (fun live => ak_callV (C := RX7) (F := TX7) (N := 4) metW_promise rfl ⟨rfl, by decide +kernel, by decide +kernel, by decide +kernel⟩ (am_w5 wd_734 wd_735 wd_736 wd_58 wd_737) (by decide) dL_law_1166 rfl)) <|
  an_kc (an_lift (fun live => ak_pop dL_law_1169 rfl)) <|
  an_kc (an_lift (fun live => ak_aload_n dL_law_1170 rfl rfl)) <|
  an_kc (an_lift (fun live => ak_aload_n dL_law_1171 rfl rfl)) <|
  an_kc (an_lift (fun live => ak_iload_n dL_law_1172 rfl rfl)) <|
  an_kc (an_lift (fun live => ak_iconst dL_law_1173 (by decide +kernel) rfl)) <|
  an_kc (an_lift (fun live => ak_iadd dL_law_1174 rfl)) <|
  an_kc (nk_sld dL_law_1175 rfl) <|
  an_kc (an_lift (fun live => ak_aload_n dL_law_1176 rfl rfl)) <|
  an_kc (an_lift (fun live => ak_iload_n dL_law_1177 rfl rfl)) <|
  an_kc (an_lift (fun live => ak_iconst dL_law_1178 (by decide +kernel) rfl)) <|
  an_kc (an_lift (fun live => ak_iadd dL_law_1179 rfl)) <|
  an_kc (nk_sld dL_law_1180 rfl) <|
  an_kc (an_lift (fun live => ak_aload_n dL_law_1181 rfl rfl)) <|
  an_kc (an_lift (fun live => ak_iload_n dL_law_1182 rfl rfl)) <|
  an_kc (an_lift (fun live => ak_iconst dL_law_1183 (by decide +kernel) rfl)) <|
  an_kc (an_lift (fun live => ak_iadd dL_law_1184 rfl)) <|
  an_kc (nk_sld dL_law_1185 rfl) <|
  an_kc (an_lift (fun live => ak_callV (C := RX8) (F := TX8) (N := 27) metX8_promise rfl ⟨rfl, by decide +kernel, by decide +kernel, by decide +kernel⟩ (am_w5 wd_1212 wd_1213 wd_1214 wd_67 wd_1215) (by decide) dL_law_1186 rfl)) <|
  an_kc (an_lift (fun live => ak_pop dL_law_1189 rfl)) <|
  an_kc (an_lift (fun live => ak_goto dL_law_1190 (by decide +kernel))) <| an_kn
set_option maxRecDepth 100000 in
set_option maxHeartbeats 4000000 in
theorem caseL_c22 {Ln : Nat} (xs : Nat → Int32) {i : Int32} {i1 i2 : Bool} {kc kn : Nat} {M : am_M} (h : LX i1 i2 M) (hi : lawI Ln i kc kn) : an_wp (kL_c22 Ln xs) (lawC Ln i) 200 (an_go (kL_c22 Ln xs) 1150) (lawL i) [] ((am_lv i1 i2, am_q i1 i2), kc, kn, M) := by
    obtain ⟨⟨f1, f2, f3, f4, f5, f6, f7⟩, k1, k2, k3, k4⟩ := hi.f
    have hmn : am_mn (am_lv i1 i2, am_q i1 i2) := ⟨_, _, rfl⟩
    repeat' (first | (with_reducible exact f1) | (with_reducible exact f2) | (with_reducible exact f3) | (with_reducible exact f4) | (with_reducible exact f5) | (with_reducible exact f6) | (with_reducible exact f7) | (with_reducible exact hmn) | (with_reducible exact h) | (with_reducible exact k1) | (with_reducible exact k2) | (with_reducible exact k3) | (with_reducible exact k4) | apply And.intro | exact rfl | ((with_reducible change r_I _); (with_reducible assumption)) | (intro hx; exact absurd hx (by decide)) | (intro hx; exact absurd (by decide) hx) | decide | intro hx | (refine Exists.intro _ (And.intro rfl ?_)) | (refine Exists.intro _ (Exists.intro _ (And.intro rfl (And.intro rfl ?_)))) | ((with_reducible change LX _ _ _); (with_reducible assumption)) | ((with_reducible change _ = true); simp only [k1, k2, k3, k4, Bool.true_and]; rfl))
    all_goals try first | (with_reducible change am_tI _ _) | (change Ret _ _) | (change Ret _ _ _) | (change Exists _)
    all_goals try dsimp only at *
    all_goals try exact absurd ‹(1000 : Int64) = 0› (by decide)
    all_goals first
      | exact ⟨_, _, rfl⟩
      | exact lawE.mk hi (by with_reducible assumption) (by omega) (by omega)
      | skip
theorem dL_law_1193 : decode cL_law 1193 = .ok (.aload_n 1, 1) := by decide +kernel
theorem dL_law_1194 : decode cL_law 1194 = .ok (.aload_n 0, 1) := by decide +kernel
theorem dL_law_1195 : decode cL_law 1195 = .ok (.iload_n 3, 1) := by decide +kernel
theorem dL_law_1196 : decode cL_law 1196 = .ok (.iconst 1, 1) := by decide +kernel
theorem dL_law_1197 : decode cL_law 1197 = .ok (.iadd, 1) := by decide +kernel
theorem dL_law_1198 : decode cL_law 1198 = .ok (.iaload, 1) := by decide +kernel
theorem dL_law_1199 : decode cL_law 1199 = .ok (.aload_n 0, 1) := by decide +kernel
theorem dL_law_1200 : decode cL_law 1200 = .ok (.iload_n 3, 1) := by decide +kernel
theorem dL_law_1201 : decode cL_law 1201 = .ok (.iconst 2, 1) := by decide +kernel
theorem dL_law_1202 : decode cL_law 1202 = .ok (.iadd, 1) := by decide +kernel
theorem dL_law_1203 : decode cL_law 1203 = .ok (.iaload, 1) := by decide +kernel
theorem dL_law_1204 : decode cL_law 1204 = .ok (.aload_n 0, 1) := by decide +kernel
theorem dL_law_1205 : decode cL_law 1205 = .ok (.iload_n 3, 1) := by decide +kernel
theorem dL_law_1206 : decode cL_law 1206 = .ok (.iconst 3, 1) := by decide +kernel
theorem dL_law_1207 : decode cL_law 1207 = .ok (.iadd, 1) := by decide +kernel
theorem dL_law_1208 : decode cL_law 1208 = .ok (.iaload, 1) := by decide +kernel
theorem dL_law_1209 : decode cL_law 1209 = .ok (.aload_n 0, 1) := by decide +kernel
theorem dL_law_1210 : decode cL_law 1210 = .ok (.iload_n 3, 1) := by decide +kernel
theorem dL_law_1211 : decode cL_law 1211 = .ok (.iconst 4, 1) := by decide +kernel
theorem dL_law_1212 : decode cL_law 1212 = .ok (.iadd, 1) := by decide +kernel
theorem dL_law_1213 : decode cL_law 1213 = .ok (.iaload, 1) := by decide +kernel
set_option maxRecDepth 100000 in
theorem wd_739 : Cond.methodLink "LearnLoansLaw" 113 yX7_book ∈ am_ws := am_wsi (List.mem_of_getElem? (i := 739) (by rfl)) (by decide +kernel)
set_option maxRecDepth 100000 in
theorem wd_740 : Cond.instanceMethod yX7_book ∈ am_ws := am_wsi (List.mem_of_getElem? (i := 740) (by rfl)) (by decide +kernel)
set_option maxRecDepth 100000 in
theorem wd_741 : Cond.selects "LearnLoans" yX7_book yX7_book ∈ am_ws := am_wsi (List.mem_of_getElem? (i := 741) (by rfl)) (by decide +kernel)
set_option maxRecDepth 100000 in
theorem wd_742 : Cond.code yX7_book cX7_book 8 (some .long) ∈ am_ws := am_wsi (List.mem_of_getElem? (i := 742) (by rfl)) (by decide +kernel)
theorem dL_law_1214 : decode cL_law 1214 = .ok (.invokevirtual 113, 3) := by decide +kernel
theorem dL_law_1217 : decode cL_law 1217 = .ok (.pop2, 1) := by decide +kernel
theorem dL_law_1218 : decode cL_law 1218 = .ok (.aload_n 2, 1) := by decide +kernel
theorem dL_law_1219 : decode cL_law 1219 = .ok (.aload_n 0, 1) := by decide +kernel
theorem dL_law_1220 : decode cL_law 1220 = .ok (.iload_n 3, 1) := by decide +kernel
theorem dL_law_1221 : decode cL_law 1221 = .ok (.iconst 1, 1) := by decide +kernel
theorem dL_law_1222 : decode cL_law 1222 = .ok (.iadd, 1) := by decide +kernel
theorem dL_law_1223 : decode cL_law 1223 = .ok (.iaload, 1) := by decide +kernel
theorem dL_law_1224 : decode cL_law 1224 = .ok (.aload_n 0, 1) := by decide +kernel
theorem dL_law_1225 : decode cL_law 1225 = .ok (.iload_n 3, 1) := by decide +kernel
theorem dL_law_1226 : decode cL_law 1226 = .ok (.iconst 2, 1) := by decide +kernel
theorem dL_law_1227 : decode cL_law 1227 = .ok (.iadd, 1) := by decide +kernel
theorem dL_law_1228 : decode cL_law 1228 = .ok (.iaload, 1) := by decide +kernel
theorem dL_law_1229 : decode cL_law 1229 = .ok (.aload_n 0, 1) := by decide +kernel
theorem dL_law_1230 : decode cL_law 1230 = .ok (.iload_n 3, 1) := by decide +kernel
theorem dL_law_1231 : decode cL_law 1231 = .ok (.iconst 3, 1) := by decide +kernel
theorem dL_law_1232 : decode cL_law 1232 = .ok (.iadd, 1) := by decide +kernel
theorem dL_law_1233 : decode cL_law 1233 = .ok (.iaload, 1) := by decide +kernel
theorem dL_law_1234 : decode cL_law 1234 = .ok (.aload_n 0, 1) := by decide +kernel
theorem dL_law_1235 : decode cL_law 1235 = .ok (.iload_n 3, 1) := by decide +kernel
theorem dL_law_1236 : decode cL_law 1236 = .ok (.iconst 4, 1) := by decide +kernel
theorem dL_law_1237 : decode cL_law 1237 = .ok (.iadd, 1) := by decide +kernel
theorem dL_law_1238 : decode cL_law 1238 = .ok (.iaload, 1) := by decide +kernel
set_option maxRecDepth 100000 in
theorem wd_1217 : Cond.methodLink "LearnLoansLaw" 116 yX8_book ∈ am_ws := am_wsi (List.mem_of_getElem? (i := 1217) (by rfl)) (by decide +kernel)
set_option maxRecDepth 100000 in
theorem wd_1218 : Cond.instanceMethod yX8_book ∈ am_ws := am_wsi (List.mem_of_getElem? (i := 1218) (by rfl)) (by decide +kernel)
set_option maxRecDepth 100000 in
theorem wd_1219 : Cond.selects "LearnLoansModel" yX8_book yX8_book ∈ am_ws := am_wsi (List.mem_of_getElem? (i := 1219) (by rfl)) (by decide +kernel)
set_option maxRecDepth 100000 in
theorem wd_1220 : Cond.code yX8_book cX8_book 10 (some .long) ∈ am_ws := am_wsi (List.mem_of_getElem? (i := 1220) (by rfl)) (by decide +kernel)
theorem dL_law_1239 : decode cL_law 1239 = .ok (.invokevirtual 116, 3) := by decide +kernel
theorem dL_law_1242 : decode cL_law 1242 = .ok (.pop2, 1) := by decide +kernel
theorem dL_law_1243 : decode cL_law 1243 = .ok (.goto 598, 3) := by decide +kernel
def kL_c23 (Ln : Nat) (xs : Nat → Int32) : an_code := [(1193, an_lf (fun live => am_aload 1 1194)), (1194, an_lf (fun live => am_aload 0 1195)), (1195, an_lf (fun live => am_iload 3 1196)), (1196, an_lf (fun live => am_const (.int 1) 1197)), (1197, an_lf (fun live => am_i2 (fun x y => x + y) 1198)), (1198, an_sld Ln xs 1199), (1199, an_lf (fun live => am_aload 0 1200)), (1200, an_lf (fun live => am_iload 3 1201)), (1201, an_lf (fun live => am_const (.int 2) 1202)), (1202, an_lf (fun live => am_i2 (fun x y => x + y) 1203)), (1203, an_sld Ln xs 1204), (1204, an_lf (fun live => am_aload 0 1205)), (1205, an_lf (fun live => am_iload 3 1206)), (1206, an_lf (fun live => am_const (.int 3) 1207)), (1207, an_lf (fun live => am_i2 (fun x y => x + y) 1208)), (1208, an_sld Ln xs 1209), (1209, an_lf (fun live => am_aload 0 1210)), (1210, an_lf (fun live => am_iload 3 1211)), (1211, an_lf (fun live => am_const (.int 4) 1212)), (1212, an_lf (fun live => am_i2 (fun x y => x + y) 1213)), (1213, an_sld Ln xs 1214), (1214, an_lf (fun live => am_callV live 7 4 TW_book 1217)), (1217, an_lf (fun live => am_pop2 1218)), (1218, an_lf (fun live => am_aload 2 1219)), (1219, an_lf (fun live => am_aload 0 1220)), (1220, an_lf (fun live => am_iload 3 1221)), (1221, an_lf (fun live => am_const (.int 1) 1222)), (1222, an_lf (fun live => am_i2 (fun x y => x + y) 1223)), (1223, an_sld Ln xs 1224), (1224, an_lf (fun live => am_aload 0 1225)), (1225, an_lf (fun live => am_iload 3 1226)), (1226, an_lf (fun live => am_const (.int 2) 1227)), (1227, an_lf (fun live => am_i2 (fun x y => x + y) 1228)), (1228, an_sld Ln xs 1229), (1229, an_lf (fun live => am_aload 0 1230)), (1230, an_lf (fun live => am_iload 3 1231)), (1231, an_lf (fun live => am_const (.int 3) 1232)), (1232, an_lf (fun live => am_i2 (fun x y => x + y) 1233)), (1233, an_sld Ln xs 1234), (1234, an_lf (fun live => am_aload 0 1235)), (1235, an_lf (fun live => am_iload 3 1236)), (1236, an_lf (fun live => am_const (.int 4) 1237)), (1237, an_lf (fun live => am_i2 (fun x y => x + y) 1238)), (1238, an_sld Ln xs 1239), (1239, an_lf (fun live => am_callV live 8 4 TV_book 1242)), (1242, an_lf (fun live => am_pop2 1243)), (1243, an_lf (fun live => am_goto 1841))]
theorem koL_c23 (Ln : Nat) (xs : Nat → Int32) : ∀ q ∈ kL_c23 Ln xs, an_ok RL cL_law 4 (some .boolean) 2000 80000 600000 7302250 false (lawP Ln xs) an_noR q.1 q.2 :=
  an_kc (an_lift (fun live => ak_aload_n dL_law_1193 rfl rfl)) <|
  an_kc (an_lift (fun live => ak_aload_n dL_law_1194 rfl rfl)) <|
  an_kc (an_lift (fun live => ak_iload_n dL_law_1195 rfl rfl)) <|
  an_kc (an_lift (fun live => ak_iconst dL_law_1196 (by decide +kernel) rfl)) <|
  an_kc (an_lift (fun live => ak_iadd dL_law_1197 rfl)) <|
  an_kc (nk_sld dL_law_1198 rfl) <|
  an_kc (an_lift (fun live => ak_aload_n dL_law_1199 rfl rfl)) <|
  an_kc (an_lift (fun live => ak_iload_n dL_law_1200 rfl rfl)) <|
  an_kc (an_lift (fun live => ak_iconst dL_law_1201 (by decide +kernel) rfl)) <|
  an_kc (an_lift (fun live => ak_iadd dL_law_1202 rfl)) <|
  an_kc (nk_sld dL_law_1203 rfl) <|
  an_kc (an_lift (fun live => ak_aload_n dL_law_1204 rfl rfl)) <|
  an_kc (an_lift (fun live => ak_iload_n dL_law_1205 rfl rfl)) <|
  an_kc (an_lift (fun live => ak_iconst dL_law_1206 (by decide +kernel) rfl)) <|
  an_kc (an_lift (fun live => ak_iadd dL_law_1207 rfl)) <|
  an_kc (nk_sld dL_law_1208 rfl) <|
  an_kc (an_lift (fun live => ak_aload_n dL_law_1209 rfl rfl)) <|
  an_kc (an_lift (fun live => ak_iload_n dL_law_1210 rfl rfl)) <|
  an_kc (an_lift (fun live => ak_iconst dL_law_1211 (by decide +kernel) rfl)) <|
  an_kc (an_lift (fun live => ak_iadd dL_law_1212 rfl)) <|
  an_kc (nk_sld dL_law_1213 rfl) <|
  an_kc (an_lift (fun live => ak_callV (C := RX7) (F := TX7) (N := 4) metW_book rfl ⟨rfl, by decide +kernel, by decide +kernel, by decide +kernel⟩ (am_w5 wd_739 wd_740 wd_741 wd_58 wd_742) (by decide) dL_law_1214 rfl)) <|
  an_kc (an_lift (fun live => ak_pop2 dL_law_1217 rfl)) <|
  an_kc (an_lift (fun live => ak_aload_n dL_law_1218 rfl rfl)) <|
  an_kc (an_lift (fun live => ak_aload_n dL_law_1219 rfl rfl)) <|
  an_kc (an_lift (fun live => ak_iload_n dL_law_1220 rfl rfl)) <|
  an_kc (an_lift (fun live => ak_iconst dL_law_1221 (by decide +kernel) rfl)) <|
  an_kc (an_lift (fun live => ak_iadd dL_law_1222 rfl)) <|
  an_kc (nk_sld dL_law_1223 rfl) <|
  an_kc (an_lift (fun live => ak_aload_n dL_law_1224 rfl rfl)) <|
  an_kc (an_lift (fun live => ak_iload_n dL_law_1225 rfl rfl)) <|
  an_kc (an_lift (fun live => ak_iconst dL_law_1226 (by decide +kernel) rfl)) <|
  an_kc (an_lift (fun live => ak_iadd dL_law_1227 rfl)) <|
  an_kc (nk_sld dL_law_1228 rfl) <|
  an_kc (an_lift (fun live => ak_aload_n dL_law_1229 rfl rfl)) <|
  an_kc (an_lift (fun live => ak_iload_n dL_law_1230 rfl rfl)) <|
  an_kc (an_lift (fun live => ak_iconst dL_law_1231 (by decide +kernel) rfl)) <|
  an_kc (an_lift (fun live => ak_iadd dL_law_1232 rfl)) <|
  an_kc (nk_sld dL_law_1233 rfl) <|
  an_kc (an_lift (fun live => ak_aload_n dL_law_1234 rfl rfl)) <|
  an_kc (an_lift (fun live => ak_iload_n dL_law_1235 rfl rfl)) <|
  an_kc (an_lift (fun live => ak_iconst dL_law_1236 (by decide +kernel) rfl)) <|
  an_kc (an_lift (fun live => ak_iadd dL_law_1237 rfl)) <|
  an_kc (nk_sld dL_law_1238 rfl) <|
  an_kc (an_lift (fun live => ak_callV (C := RX8) (F := TX8) (N := 27) metV_book rfl ⟨rfl, by decide +kernel, by decide +kernel, by decide +kernel⟩ (am_w5 wd_1217 wd_1218 wd_1219 wd_67 wd_1220) (by decide) dL_law_1239 rfl)) <|
  an_kc (an_lift (fun live => ak_pop2 dL_law_1242 rfl)) <|
  an_kc (an_lift (fun live => ak_goto dL_law_1243 (by decide +kernel))) <| an_kn
set_option maxRecDepth 100000 in
set_option maxHeartbeats 4000000 in
theorem caseL_c23 {Ln : Nat} (xs : Nat → Int32) {i : Int32} {i1 i2 : Bool} {kc kn : Nat} {M : am_M} (h : LX i1 i2 M) (hi : lawI Ln i kc kn) : an_wp (kL_c23 Ln xs) (lawC Ln i) 200 (an_go (kL_c23 Ln xs) 1193) (lawL i) [] ((am_lv i1 i2, am_q i1 i2), kc, kn, M) := by
    obtain ⟨⟨f1, f2, f3, f4, f5, f6, f7⟩, k1, k2, k3, k4⟩ := hi.f
    have hmn : am_mn (am_lv i1 i2, am_q i1 i2) := ⟨_, _, rfl⟩
    repeat' (first | (with_reducible exact f1) | (with_reducible exact f2) | (with_reducible exact f3) | (with_reducible exact f4) | (with_reducible exact f5) | (with_reducible exact f6) | (with_reducible exact f7) | (with_reducible exact hmn) | (with_reducible exact h) | (with_reducible exact k1) | (with_reducible exact k2) | (with_reducible exact k3) | (with_reducible exact k4) | apply And.intro | exact rfl | ((with_reducible change r_I _); (with_reducible assumption)) | (intro hx; exact absurd hx (by decide)) | (intro hx; exact absurd (by decide) hx) | decide | intro hx | (refine Exists.intro _ (And.intro rfl ?_)) | (refine Exists.intro _ (Exists.intro _ (And.intro rfl (And.intro rfl ?_)))) | ((with_reducible change LX _ _ _); (with_reducible assumption)) | ((with_reducible change _ = true); simp only [k1, k2, k3, k4, Bool.true_and]; rfl))
    all_goals try first | (with_reducible change am_tI _ _) | (change Ret _ _) | (change Ret _ _ _) | (change Exists _)
    all_goals try dsimp only at *
    all_goals try exact absurd ‹(1000 : Int64) = 0› (by decide)
    all_goals first
      | exact ⟨_, _, rfl⟩
      | exact lawE.mk hi (by with_reducible assumption) (by omega) (by omega)
      | skip
