/-! the law: cases 18 to 23 -/
theorem dL_law_1029 : decode cL_law 1029 = .ok (.aload_n 1, 1) := by decide +kernel
theorem dL_law_1030 : decode cL_law 1030 = .ok (.aload_n 0, 1) := by decide +kernel
theorem dL_law_1031 : decode cL_law 1031 = .ok (.iload_n 3, 1) := by decide +kernel
theorem dL_law_1032 : decode cL_law 1032 = .ok (.iconst 1, 1) := by decide +kernel
theorem dL_law_1033 : decode cL_law 1033 = .ok (.iadd, 1) := by decide +kernel
theorem dL_law_1034 : decode cL_law 1034 = .ok (.iaload, 1) := by decide +kernel
theorem dL_law_1035 : decode cL_law 1035 = .ok (.aload_n 0, 1) := by decide +kernel
theorem dL_law_1036 : decode cL_law 1036 = .ok (.iload_n 3, 1) := by decide +kernel
theorem dL_law_1037 : decode cL_law 1037 = .ok (.iconst 2, 1) := by decide +kernel
theorem dL_law_1038 : decode cL_law 1038 = .ok (.iadd, 1) := by decide +kernel
theorem dL_law_1039 : decode cL_law 1039 = .ok (.iaload, 1) := by decide +kernel
theorem wd_664 : Cond.methodLink "LearnLoansLaw" 93 yX7_write ∈ am_ws := am_wsi (List.mem_of_getElem? (i := 664) (by decide +kernel)) (by decide +kernel)
theorem wd_665 : Cond.instanceMethod yX7_write ∈ am_ws := am_wsi (List.mem_of_getElem? (i := 665) (by decide +kernel)) (by decide +kernel)
theorem wd_666 : Cond.selects "LearnLoans" yX7_write yX7_write ∈ am_ws := am_wsi (List.mem_of_getElem? (i := 666) (by decide +kernel)) (by decide +kernel)
theorem wd_667 : Cond.code yX7_write cX7_write 4 (some .int) ∈ am_ws := am_wsi (List.mem_of_getElem? (i := 667) (by decide +kernel)) (by decide +kernel)
theorem dL_law_1040 : decode cL_law 1040 = .ok (.invokevirtual 93, 3) := by decide +kernel
theorem dL_law_1043 : decode cL_law 1043 = .ok (.pop, 1) := by decide +kernel
theorem dL_law_1044 : decode cL_law 1044 = .ok (.aload_n 2, 1) := by decide +kernel
theorem dL_law_1045 : decode cL_law 1045 = .ok (.aload_n 0, 1) := by decide +kernel
theorem dL_law_1046 : decode cL_law 1046 = .ok (.iload_n 3, 1) := by decide +kernel
theorem dL_law_1047 : decode cL_law 1047 = .ok (.iconst 1, 1) := by decide +kernel
theorem dL_law_1048 : decode cL_law 1048 = .ok (.iadd, 1) := by decide +kernel
theorem dL_law_1049 : decode cL_law 1049 = .ok (.iaload, 1) := by decide +kernel
theorem dL_law_1050 : decode cL_law 1050 = .ok (.aload_n 0, 1) := by decide +kernel
theorem dL_law_1051 : decode cL_law 1051 = .ok (.iload_n 3, 1) := by decide +kernel
theorem dL_law_1052 : decode cL_law 1052 = .ok (.iconst 2, 1) := by decide +kernel
theorem dL_law_1053 : decode cL_law 1053 = .ok (.iadd, 1) := by decide +kernel
theorem dL_law_1054 : decode cL_law 1054 = .ok (.iaload, 1) := by decide +kernel
theorem wd_1089 : Cond.methodLink "LearnLoansLaw" 96 yX8_write ∈ am_ws := am_wsi (List.mem_of_getElem? (i := 1089) (by decide +kernel)) (by decide +kernel)
theorem wd_1090 : Cond.instanceMethod yX8_write ∈ am_ws := am_wsi (List.mem_of_getElem? (i := 1090) (by decide +kernel)) (by decide +kernel)
theorem wd_1091 : Cond.selects "LearnLoansModel" yX8_write yX8_write ∈ am_ws := am_wsi (List.mem_of_getElem? (i := 1091) (by decide +kernel)) (by decide +kernel)
theorem wd_1092 : Cond.code yX8_write cX8_write 4 (some .int) ∈ am_ws := am_wsi (List.mem_of_getElem? (i := 1092) (by decide +kernel)) (by decide +kernel)
theorem dL_law_1055 : decode cL_law 1055 = .ok (.invokevirtual 96, 3) := by decide +kernel
theorem dL_law_1058 : decode cL_law 1058 = .ok (.pop, 1) := by decide +kernel
theorem dL_law_1059 : decode cL_law 1059 = .ok (.goto 783, 3) := by decide +kernel
def kL_c18 (Ln : Nat) (xs : Nat → Int32) : an_code := [(1029, an_lf (fun live => am_aload 1 1030)), (1030, an_lf (fun live => am_aload 0 1031)), (1031, an_lf (fun live => am_iload 3 1032)), (1032, an_lf (fun live => am_const (.int 1) 1033)), (1033, an_lf (fun live => am_i2 (fun x y => x + y) 1034)), (1034, an_sld Ln xs 1035), (1035, an_lf (fun live => am_aload 0 1036)), (1036, an_lf (fun live => am_iload 3 1037)), (1037, an_lf (fun live => am_const (.int 2) 1038)), (1038, an_lf (fun live => am_i2 (fun x y => x + y) 1039)), (1039, an_sld Ln xs 1040), (1040, an_lf (fun live => am_callV live 7 2 TW_write 1043)), (1043, an_lf (fun live => am_pop 1044)), (1044, an_lf (fun live => am_aload 2 1045)), (1045, an_lf (fun live => am_aload 0 1046)), (1046, an_lf (fun live => am_iload 3 1047)), (1047, an_lf (fun live => am_const (.int 1) 1048)), (1048, an_lf (fun live => am_i2 (fun x y => x + y) 1049)), (1049, an_sld Ln xs 1050), (1050, an_lf (fun live => am_aload 0 1051)), (1051, an_lf (fun live => am_iload 3 1052)), (1052, an_lf (fun live => am_const (.int 2) 1053)), (1053, an_lf (fun live => am_i2 (fun x y => x + y) 1054)), (1054, an_sld Ln xs 1055), (1055, an_lf (fun live => am_callV live 8 2 TX8_write 1058)), (1058, an_lf (fun live => am_pop 1059)), (1059, an_lf (fun live => am_goto 1842))]
theorem koL_c18 (Ln : Nat) (xs : Nat → Int32) : ∀ q ∈ kL_c18 Ln xs, an_ok RL cL_law 4 (some .boolean) 2000 80000 600000 7302250 false (lawP Ln xs) an_noR q.1 q.2 :=
  an_kc (an_lift (fun live => ak_aload_n dL_law_1029 rfl rfl)) <|
  an_kc (an_lift (fun live => ak_aload_n dL_law_1030 rfl rfl)) <|
  an_kc (an_lift (fun live => ak_iload_n dL_law_1031 rfl rfl)) <|
  an_kc (an_lift (fun live => ak_iconst dL_law_1032 (by decide +kernel) rfl)) <|
  an_kc (an_lift (fun live => ak_iadd dL_law_1033 rfl)) <|
  an_kc (nk_sld dL_law_1034 rfl) <|
  an_kc (an_lift (fun live => ak_aload_n dL_law_1035 rfl rfl)) <|
  an_kc (an_lift (fun live => ak_iload_n dL_law_1036 rfl rfl)) <|
  an_kc (an_lift (fun live => ak_iconst dL_law_1037 (by decide +kernel) rfl)) <|
  an_kc (an_lift (fun live => ak_iadd dL_law_1038 rfl)) <|
  an_kc (nk_sld dL_law_1039 rfl) <|
  an_kc (an_lift (fun live => ak_callV (C := RX7) (F := TX7) (N := 4) metW_write rfl ⟨rfl, by decide +kernel, by decide +kernel, by decide +kernel⟩ (am_w5 wd_664 wd_665 wd_666 wd_58 wd_667) (by decide) dL_law_1040 rfl)) <|
  an_kc (an_lift (fun live => ak_pop dL_law_1043 rfl)) <|
  an_kc (an_lift (fun live => ak_aload_n dL_law_1044 rfl rfl)) <|
  an_kc (an_lift (fun live => ak_aload_n dL_law_1045 rfl rfl)) <|
  an_kc (an_lift (fun live => ak_iload_n dL_law_1046 rfl rfl)) <|
  an_kc (an_lift (fun live => ak_iconst dL_law_1047 (by decide +kernel) rfl)) <|
  an_kc (an_lift (fun live => ak_iadd dL_law_1048 rfl)) <|
  an_kc (nk_sld dL_law_1049 rfl) <|
  an_kc (an_lift (fun live => ak_aload_n dL_law_1050 rfl rfl)) <|
  an_kc (an_lift (fun live => ak_iload_n dL_law_1051 rfl rfl)) <|
  an_kc (an_lift (fun live => ak_iconst dL_law_1052 (by decide +kernel) rfl)) <|
  an_kc (an_lift (fun live => ak_iadd dL_law_1053 rfl)) <|
  an_kc (nk_sld dL_law_1054 rfl) <|
  an_kc (an_lift (fun live => ak_callV (C := RX8) (F := TX8) (N := 27) metX8_write rfl ⟨rfl, by decide +kernel, by decide +kernel, by decide +kernel⟩ (am_w5 wd_1089 wd_1090 wd_1091 wd_67 wd_1092) (by decide) dL_law_1055 rfl)) <|
  an_kc (an_lift (fun live => ak_pop dL_law_1058 rfl)) <|
  an_kc (an_lift (fun live => ak_goto dL_law_1059 (by decide +kernel))) <| an_kn
set_option maxRecDepth 100000 in
set_option maxHeartbeats 4000000 in
theorem caseL_c18 {Ln : Nat} (xs : Nat → Int32) {i : Int32} {i1 i2 : Bool} {kc kn : Nat} {M : am_M} (h : LX i1 i2 M) (hi : lawI Ln i kc kn) : an_wp (kL_c18 Ln xs) (lawC Ln i) 200 (an_go (kL_c18 Ln xs) 1029) (lawL i) [] ((am_lv i1 i2, am_q i1 i2), kc, kn, M) := by
    obtain ⟨⟨f1, f2, f3, f4, f5, f6, f7⟩, k1, k2, k3, k4⟩ := hi.f
    have hmn : am_mn (am_lv i1 i2, am_q i1 i2) := ⟨_, _, rfl⟩
    repeat' (first | (with_reducible exact f1) | (with_reducible exact f2) | (with_reducible exact f3) | (with_reducible exact f4) | (with_reducible exact f5) | (with_reducible exact f6) | (with_reducible exact f7) | (with_reducible exact hmn) | (with_reducible exact h) | (with_reducible exact k1) | (with_reducible exact k2) | (with_reducible exact k3) | (with_reducible exact k4) | (refine And.intro ?_ ?_) | (intro hx; first | (exact absurd hx (by decide)) | (exact absurd (by decide) hx) | skip) | exact rfl | ((with_reducible change r_I _); (with_reducible assumption)) | decide | (refine Exists.intro _ (And.intro rfl ?_)) | (refine Exists.intro _ (Exists.intro _ (And.intro rfl (And.intro rfl ?_)))) | ((with_reducible change LX _ _ _); (with_reducible assumption)) | ((with_reducible change _ = true); simp only [k1, k2, k3, k4, Bool.true_and]; rfl))
    all_goals try first | (with_reducible change am_tI _ _) | (change Ret _ _) | (change Ret _ _ _) | (change Exists _)
    all_goals try dsimp only at *
    all_goals try exact absurd ‹(1000 : Int64) = 0› (by decide)
    all_goals first
      | exact ⟨_, _, rfl⟩
      | exact lawE.mk hi (by with_reducible assumption) (by omega) (by omega)
      | skip
theorem dL_law_1062 : decode cL_law 1062 = .ok (.aload_n 1, 1) := by decide +kernel
theorem dL_law_1063 : decode cL_law 1063 = .ok (.aload_n 0, 1) := by decide +kernel
theorem dL_law_1064 : decode cL_law 1064 = .ok (.iload_n 3, 1) := by decide +kernel
theorem dL_law_1065 : decode cL_law 1065 = .ok (.iconst 1, 1) := by decide +kernel
theorem dL_law_1066 : decode cL_law 1066 = .ok (.iadd, 1) := by decide +kernel
theorem dL_law_1067 : decode cL_law 1067 = .ok (.iaload, 1) := by decide +kernel
theorem wd_718 : Cond.methodLink "LearnLoansLaw" 97 yX7_erase ∈ am_ws := am_wsi (List.mem_of_getElem? (i := 718) (by decide +kernel)) (by decide +kernel)
theorem wd_719 : Cond.instanceMethod yX7_erase ∈ am_ws := am_wsi (List.mem_of_getElem? (i := 719) (by decide +kernel)) (by decide +kernel)
theorem wd_720 : Cond.selects "LearnLoans" yX7_erase yX7_erase ∈ am_ws := am_wsi (List.mem_of_getElem? (i := 720) (by decide +kernel)) (by decide +kernel)
theorem wd_721 : Cond.code yX7_erase cX7_erase 4 (some .int) ∈ am_ws := am_wsi (List.mem_of_getElem? (i := 721) (by decide +kernel)) (by decide +kernel)
theorem dL_law_1068 : decode cL_law 1068 = .ok (.invokevirtual 97, 3) := by decide +kernel
theorem dL_law_1071 : decode cL_law 1071 = .ok (.pop, 1) := by decide +kernel
theorem dL_law_1072 : decode cL_law 1072 = .ok (.aload_n 2, 1) := by decide +kernel
theorem dL_law_1073 : decode cL_law 1073 = .ok (.aload_n 0, 1) := by decide +kernel
theorem dL_law_1074 : decode cL_law 1074 = .ok (.iload_n 3, 1) := by decide +kernel
theorem dL_law_1075 : decode cL_law 1075 = .ok (.iconst 1, 1) := by decide +kernel
theorem dL_law_1076 : decode cL_law 1076 = .ok (.iadd, 1) := by decide +kernel
theorem dL_law_1077 : decode cL_law 1077 = .ok (.iaload, 1) := by decide +kernel
theorem wd_1094 : Cond.methodLink "LearnLoansLaw" 100 yX8_erase ∈ am_ws := am_wsi (List.mem_of_getElem? (i := 1094) (by decide +kernel)) (by decide +kernel)
theorem wd_1095 : Cond.instanceMethod yX8_erase ∈ am_ws := am_wsi (List.mem_of_getElem? (i := 1095) (by decide +kernel)) (by decide +kernel)
theorem wd_1096 : Cond.selects "LearnLoansModel" yX8_erase yX8_erase ∈ am_ws := am_wsi (List.mem_of_getElem? (i := 1096) (by decide +kernel)) (by decide +kernel)
theorem wd_1097 : Cond.code yX8_erase cX8_erase 3 (some .int) ∈ am_ws := am_wsi (List.mem_of_getElem? (i := 1097) (by decide +kernel)) (by decide +kernel)
theorem dL_law_1078 : decode cL_law 1078 = .ok (.invokevirtual 100, 3) := by decide +kernel
theorem dL_law_1081 : decode cL_law 1081 = .ok (.pop, 1) := by decide +kernel
theorem dL_law_1082 : decode cL_law 1082 = .ok (.goto 760, 3) := by decide +kernel
def kL_c19 (Ln : Nat) (xs : Nat → Int32) : an_code := [(1062, an_lf (fun live => am_aload 1 1063)), (1063, an_lf (fun live => am_aload 0 1064)), (1064, an_lf (fun live => am_iload 3 1065)), (1065, an_lf (fun live => am_const (.int 1) 1066)), (1066, an_lf (fun live => am_i2 (fun x y => x + y) 1067)), (1067, an_sld Ln xs 1068), (1068, an_lf (fun live => am_callV live 7 1 TW_erase 1071)), (1071, an_lf (fun live => am_pop 1072)), (1072, an_lf (fun live => am_aload 2 1073)), (1073, an_lf (fun live => am_aload 0 1074)), (1074, an_lf (fun live => am_iload 3 1075)), (1075, an_lf (fun live => am_const (.int 1) 1076)), (1076, an_lf (fun live => am_i2 (fun x y => x + y) 1077)), (1077, an_sld Ln xs 1078), (1078, an_lf (fun live => am_callV live 8 1 TX8_erase 1081)), (1081, an_lf (fun live => am_pop 1082)), (1082, an_lf (fun live => am_goto 1842))]
theorem koL_c19 (Ln : Nat) (xs : Nat → Int32) : ∀ q ∈ kL_c19 Ln xs, an_ok RL cL_law 4 (some .boolean) 2000 80000 600000 7302250 false (lawP Ln xs) an_noR q.1 q.2 :=
  an_kc (an_lift (fun live => ak_aload_n dL_law_1062 rfl rfl)) <|
  an_kc (an_lift (fun live => ak_aload_n dL_law_1063 rfl rfl)) <|
  an_kc (an_lift (fun live => ak_iload_n dL_law_1064 rfl rfl)) <|
  an_kc (an_lift (fun live => ak_iconst dL_law_1065 (by decide +kernel) rfl)) <|
  an_kc (an_lift (fun live => ak_iadd dL_law_1066 rfl)) <|
  an_kc (nk_sld dL_law_1067 rfl) <|
  an_kc (an_lift (fun live => ak_callV (C := RX7) (F := TX7) (N := 4) metW_erase rfl ⟨rfl, by decide +kernel, by decide +kernel, by decide +kernel⟩ (am_w5 wd_718 wd_719 wd_720 wd_58 wd_721) (by decide) dL_law_1068 rfl)) <|
  an_kc (an_lift (fun live => ak_pop dL_law_1071 rfl)) <|
  an_kc (an_lift (fun live => ak_aload_n dL_law_1072 rfl rfl)) <|
  an_kc (an_lift (fun live => ak_aload_n dL_law_1073 rfl rfl)) <|
  an_kc (an_lift (fun live => ak_iload_n dL_law_1074 rfl rfl)) <|
  an_kc (an_lift (fun live => ak_iconst dL_law_1075 (by decide +kernel) rfl)) <|
  an_kc (an_lift (fun live => ak_iadd dL_law_1076 rfl)) <|
  an_kc (nk_sld dL_law_1077 rfl) <|
  an_kc (an_lift (fun live => ak_callV (C := RX8) (F := TX8) (N := 27) metX8_erase rfl ⟨rfl, by decide +kernel, by decide +kernel, by decide +kernel⟩ (am_w5 wd_1094 wd_1095 wd_1096 wd_67 wd_1097) (by decide) dL_law_1078 rfl)) <|
  an_kc (an_lift (fun live => ak_pop dL_law_1081 rfl)) <|
  an_kc (an_lift (fun live => ak_goto dL_law_1082 (by decide +kernel))) <| an_kn
set_option maxRecDepth 100000 in
set_option maxHeartbeats 4000000 in
theorem caseL_c19 {Ln : Nat} (xs : Nat → Int32) {i : Int32} {i1 i2 : Bool} {kc kn : Nat} {M : am_M} (h : LX i1 i2 M) (hi : lawI Ln i kc kn) : an_wp (kL_c19 Ln xs) (lawC Ln i) 200 (an_go (kL_c19 Ln xs) 1062) (lawL i) [] ((am_lv i1 i2, am_q i1 i2), kc, kn, M) := by
    obtain ⟨⟨f1, f2, f3, f4, f5, f6, f7⟩, k1, k2, k3, k4⟩ := hi.f
    have hmn : am_mn (am_lv i1 i2, am_q i1 i2) := ⟨_, _, rfl⟩
    repeat' (first | (with_reducible exact f1) | (with_reducible exact f2) | (with_reducible exact f3) | (with_reducible exact f4) | (with_reducible exact f5) | (with_reducible exact f6) | (with_reducible exact f7) | (with_reducible exact hmn) | (with_reducible exact h) | (with_reducible exact k1) | (with_reducible exact k2) | (with_reducible exact k3) | (with_reducible exact k4) | (refine And.intro ?_ ?_) | (intro hx; first | (exact absurd hx (by decide)) | (exact absurd (by decide) hx) | skip) | exact rfl | ((with_reducible change r_I _); (with_reducible assumption)) | decide | (refine Exists.intro _ (And.intro rfl ?_)) | (refine Exists.intro _ (Exists.intro _ (And.intro rfl (And.intro rfl ?_)))) | ((with_reducible change LX _ _ _); (with_reducible assumption)) | ((with_reducible change _ = true); simp only [k1, k2, k3, k4, Bool.true_and]; rfl))
    all_goals try first | (with_reducible change am_tI _ _) | (change Ret _ _) | (change Ret _ _ _) | (change Exists _)
    all_goals try dsimp only at *
    all_goals try exact absurd ‹(1000 : Int64) = 0› (by decide)
    all_goals first
      | exact ⟨_, _, rfl⟩
      | exact lawE.mk hi (by with_reducible assumption) (by omega) (by omega)
      | skip
theorem dL_law_1085 : decode cL_law 1085 = .ok (.aload_n 1, 1) := by decide +kernel
theorem dL_law_1086 : decode cL_law 1086 = .ok (.aload_n 0, 1) := by decide +kernel
theorem dL_law_1087 : decode cL_law 1087 = .ok (.iload_n 3, 1) := by decide +kernel
theorem dL_law_1088 : decode cL_law 1088 = .ok (.iconst 1, 1) := by decide +kernel
theorem dL_law_1089 : decode cL_law 1089 = .ok (.iadd, 1) := by decide +kernel
theorem dL_law_1090 : decode cL_law 1090 = .ok (.iaload, 1) := by decide +kernel
theorem wd_726 : Cond.methodLink "LearnLoansLaw" 101 yX7_fault ∈ am_ws := am_wsi (List.mem_of_getElem? (i := 726) (by decide +kernel)) (by decide +kernel)
theorem wd_727 : Cond.instanceMethod yX7_fault ∈ am_ws := am_wsi (List.mem_of_getElem? (i := 727) (by decide +kernel)) (by decide +kernel)
theorem wd_728 : Cond.selects "LearnLoans" yX7_fault yX7_fault ∈ am_ws := am_wsi (List.mem_of_getElem? (i := 728) (by decide +kernel)) (by decide +kernel)
theorem wd_729 : Cond.code yX7_fault cX7_fault 2 (some .int) ∈ am_ws := am_wsi (List.mem_of_getElem? (i := 729) (by decide +kernel)) (by decide +kernel)
theorem dL_law_1091 : decode cL_law 1091 = .ok (.invokevirtual 101, 3) := by decide +kernel
theorem dL_law_1094 : decode cL_law 1094 = .ok (.pop, 1) := by decide +kernel
theorem dL_law_1095 : decode cL_law 1095 = .ok (.aload_n 2, 1) := by decide +kernel
theorem dL_law_1096 : decode cL_law 1096 = .ok (.aload_n 0, 1) := by decide +kernel
theorem dL_law_1097 : decode cL_law 1097 = .ok (.iload_n 3, 1) := by decide +kernel
theorem dL_law_1098 : decode cL_law 1098 = .ok (.iconst 1, 1) := by decide +kernel
theorem dL_law_1099 : decode cL_law 1099 = .ok (.iadd, 1) := by decide +kernel
theorem dL_law_1100 : decode cL_law 1100 = .ok (.iaload, 1) := by decide +kernel
theorem wd_1098 : Cond.methodLink "LearnLoansLaw" 104 yX8_fault ∈ am_ws := am_wsi (List.mem_of_getElem? (i := 1098) (by decide +kernel)) (by decide +kernel)
theorem wd_1099 : Cond.instanceMethod yX8_fault ∈ am_ws := am_wsi (List.mem_of_getElem? (i := 1099) (by decide +kernel)) (by decide +kernel)
theorem wd_1100 : Cond.selects "LearnLoansModel" yX8_fault yX8_fault ∈ am_ws := am_wsi (List.mem_of_getElem? (i := 1100) (by decide +kernel)) (by decide +kernel)
theorem wd_1101 : Cond.code yX8_fault cX8_fault 2 (some .int) ∈ am_ws := am_wsi (List.mem_of_getElem? (i := 1101) (by decide +kernel)) (by decide +kernel)
theorem dL_law_1101 : decode cL_law 1101 = .ok (.invokevirtual 104, 3) := by decide +kernel
theorem dL_law_1104 : decode cL_law 1104 = .ok (.pop, 1) := by decide +kernel
theorem dL_law_1105 : decode cL_law 1105 = .ok (.goto 737, 3) := by decide +kernel
def kL_c20 (Ln : Nat) (xs : Nat → Int32) : an_code := [(1085, an_lf (fun live => am_aload 1 1086)), (1086, an_lf (fun live => am_aload 0 1087)), (1087, an_lf (fun live => am_iload 3 1088)), (1088, an_lf (fun live => am_const (.int 1) 1089)), (1089, an_lf (fun live => am_i2 (fun x y => x + y) 1090)), (1090, an_sld Ln xs 1091), (1091, an_lf (fun live => am_callV live 7 1 TW_fault 1094)), (1094, an_lf (fun live => am_pop 1095)), (1095, an_lf (fun live => am_aload 2 1096)), (1096, an_lf (fun live => am_aload 0 1097)), (1097, an_lf (fun live => am_iload 3 1098)), (1098, an_lf (fun live => am_const (.int 1) 1099)), (1099, an_lf (fun live => am_i2 (fun x y => x + y) 1100)), (1100, an_sld Ln xs 1101), (1101, an_lf (fun live => am_callV live 8 1 TV_fault 1104)), (1104, an_lf (fun live => am_pop 1105)), (1105, an_lf (fun live => am_goto 1842))]
theorem koL_c20 (Ln : Nat) (xs : Nat → Int32) : ∀ q ∈ kL_c20 Ln xs, an_ok RL cL_law 4 (some .boolean) 2000 80000 600000 7302250 false (lawP Ln xs) an_noR q.1 q.2 :=
  an_kc (an_lift (fun live => ak_aload_n dL_law_1085 rfl rfl)) <|
  an_kc (an_lift (fun live => ak_aload_n dL_law_1086 rfl rfl)) <|
  an_kc (an_lift (fun live => ak_iload_n dL_law_1087 rfl rfl)) <|
  an_kc (an_lift (fun live => ak_iconst dL_law_1088 (by decide +kernel) rfl)) <|
  an_kc (an_lift (fun live => ak_iadd dL_law_1089 rfl)) <|
  an_kc (nk_sld dL_law_1090 rfl) <|
  an_kc (an_lift (fun live => ak_callV (C := RX7) (F := TX7) (N := 4) metW_fault rfl ⟨rfl, by decide +kernel, by decide +kernel, by decide +kernel⟩ (am_w5 wd_726 wd_727 wd_728 wd_58 wd_729) (by decide) dL_law_1091 rfl)) <|
  an_kc (an_lift (fun live => ak_pop dL_law_1094 rfl)) <|
  an_kc (an_lift (fun live => ak_aload_n dL_law_1095 rfl rfl)) <|
  an_kc (an_lift (fun live => ak_aload_n dL_law_1096 rfl rfl)) <|
  an_kc (an_lift (fun live => ak_iload_n dL_law_1097 rfl rfl)) <|
  an_kc (an_lift (fun live => ak_iconst dL_law_1098 (by decide +kernel) rfl)) <|
  an_kc (an_lift (fun live => ak_iadd dL_law_1099 rfl)) <|
  an_kc (nk_sld dL_law_1100 rfl) <|
  an_kc (an_lift (fun live => ak_callV (C := RX8) (F := TX8) (N := 27) metV_fault rfl ⟨rfl, by decide +kernel, by decide +kernel, by decide +kernel⟩ (am_w5 wd_1098 wd_1099 wd_1100 wd_67 wd_1101) (by decide) dL_law_1101 rfl)) <|
  an_kc (an_lift (fun live => ak_pop dL_law_1104 rfl)) <|
  an_kc (an_lift (fun live => ak_goto dL_law_1105 (by decide +kernel))) <| an_kn
set_option maxRecDepth 100000 in
set_option maxHeartbeats 4000000 in
theorem caseL_c20 {Ln : Nat} (xs : Nat → Int32) {i : Int32} {i1 i2 : Bool} {kc kn : Nat} {M : am_M} (h : LX i1 i2 M) (hi : lawI Ln i kc kn) : an_wp (kL_c20 Ln xs) (lawC Ln i) 200 (an_go (kL_c20 Ln xs) 1085) (lawL i) [] ((am_lv i1 i2, am_q i1 i2), kc, kn, M) := by
    obtain ⟨⟨f1, f2, f3, f4, f5, f6, f7⟩, k1, k2, k3, k4⟩ := hi.f
    have hmn : am_mn (am_lv i1 i2, am_q i1 i2) := ⟨_, _, rfl⟩
    repeat' (first | (with_reducible exact f1) | (with_reducible exact f2) | (with_reducible exact f3) | (with_reducible exact f4) | (with_reducible exact f5) | (with_reducible exact f6) | (with_reducible exact f7) | (with_reducible exact hmn) | (with_reducible exact h) | (with_reducible exact k1) | (with_reducible exact k2) | (with_reducible exact k3) | (with_reducible exact k4) | (refine And.intro ?_ ?_) | (intro hx; first | (exact absurd hx (by decide)) | (exact absurd (by decide) hx) | skip) | exact rfl | ((with_reducible change r_I _); (with_reducible assumption)) | decide | (refine Exists.intro _ (And.intro rfl ?_)) | (refine Exists.intro _ (Exists.intro _ (And.intro rfl (And.intro rfl ?_)))) | ((with_reducible change LX _ _ _); (with_reducible assumption)) | ((with_reducible change _ = true); simp only [k1, k2, k3, k4, Bool.true_and]; rfl))
    all_goals try first | (with_reducible change am_tI _ _) | (change Ret _ _) | (change Ret _ _ _) | (change Exists _)
    all_goals try dsimp only at *
    all_goals try exact absurd ‹(1000 : Int64) = 0› (by decide)
    all_goals first
      | exact ⟨_, _, rfl⟩
      | exact lawE.mk hi (by with_reducible assumption) (by omega) (by omega)
      | skip
theorem dL_law_1108 : decode cL_law 1108 = .ok (.aload_n 1, 1) := by decide +kernel
theorem dL_law_1109 : decode cL_law 1109 = .ok (.aload_n 0, 1) := by decide +kernel
theorem dL_law_1110 : decode cL_law 1110 = .ok (.iload_n 3, 1) := by decide +kernel
theorem dL_law_1111 : decode cL_law 1111 = .ok (.iconst 1, 1) := by decide +kernel
theorem dL_law_1112 : decode cL_law 1112 = .ok (.iadd, 1) := by decide +kernel
theorem dL_law_1113 : decode cL_law 1113 = .ok (.iaload, 1) := by decide +kernel
theorem dL_law_1114 : decode cL_law 1114 = .ok (.aload_n 0, 1) := by decide +kernel
theorem dL_law_1115 : decode cL_law 1115 = .ok (.iload_n 3, 1) := by decide +kernel
theorem dL_law_1116 : decode cL_law 1116 = .ok (.iconst 2, 1) := by decide +kernel
theorem dL_law_1117 : decode cL_law 1117 = .ok (.iadd, 1) := by decide +kernel
theorem dL_law_1118 : decode cL_law 1118 = .ok (.iaload, 1) := by decide +kernel
theorem dL_law_1119 : decode cL_law 1119 = .ok (.aload_n 0, 1) := by decide +kernel
theorem dL_law_1120 : decode cL_law 1120 = .ok (.iload_n 3, 1) := by decide +kernel
theorem dL_law_1121 : decode cL_law 1121 = .ok (.iconst 3, 1) := by decide +kernel
theorem dL_law_1122 : decode cL_law 1122 = .ok (.iadd, 1) := by decide +kernel
theorem dL_law_1123 : decode cL_law 1123 = .ok (.iaload, 1) := by decide +kernel
theorem wd_730 : Cond.methodLink "LearnLoansLaw" 105 yX7_sell ∈ am_ws := am_wsi (List.mem_of_getElem? (i := 730) (by decide +kernel)) (by decide +kernel)
theorem wd_731 : Cond.instanceMethod yX7_sell ∈ am_ws := am_wsi (List.mem_of_getElem? (i := 731) (by decide +kernel)) (by decide +kernel)
theorem wd_732 : Cond.selects "LearnLoans" yX7_sell yX7_sell ∈ am_ws := am_wsi (List.mem_of_getElem? (i := 732) (by decide +kernel)) (by decide +kernel)
theorem wd_733 : Cond.code yX7_sell cX7_sell 4 (some .int) ∈ am_ws := am_wsi (List.mem_of_getElem? (i := 733) (by decide +kernel)) (by decide +kernel)
theorem dL_law_1124 : decode cL_law 1124 = .ok (.invokevirtual 105, 3) := by decide +kernel
theorem dL_law_1127 : decode cL_law 1127 = .ok (.pop, 1) := by decide +kernel
theorem dL_law_1128 : decode cL_law 1128 = .ok (.aload_n 2, 1) := by decide +kernel
theorem dL_law_1129 : decode cL_law 1129 = .ok (.aload_n 0, 1) := by decide +kernel
theorem dL_law_1130 : decode cL_law 1130 = .ok (.iload_n 3, 1) := by decide +kernel
theorem dL_law_1131 : decode cL_law 1131 = .ok (.iconst 1, 1) := by decide +kernel
theorem dL_law_1132 : decode cL_law 1132 = .ok (.iadd, 1) := by decide +kernel
theorem dL_law_1133 : decode cL_law 1133 = .ok (.iaload, 1) := by decide +kernel
theorem dL_law_1134 : decode cL_law 1134 = .ok (.aload_n 0, 1) := by decide +kernel
theorem dL_law_1135 : decode cL_law 1135 = .ok (.iload_n 3, 1) := by decide +kernel
theorem dL_law_1136 : decode cL_law 1136 = .ok (.iconst 2, 1) := by decide +kernel
theorem dL_law_1137 : decode cL_law 1137 = .ok (.iadd, 1) := by decide +kernel
theorem dL_law_1138 : decode cL_law 1138 = .ok (.iaload, 1) := by decide +kernel
theorem dL_law_1139 : decode cL_law 1139 = .ok (.aload_n 0, 1) := by decide +kernel
theorem dL_law_1140 : decode cL_law 1140 = .ok (.iload_n 3, 1) := by decide +kernel
theorem dL_law_1141 : decode cL_law 1141 = .ok (.iconst 3, 1) := by decide +kernel
theorem dL_law_1142 : decode cL_law 1142 = .ok (.iadd, 1) := by decide +kernel
theorem dL_law_1143 : decode cL_law 1143 = .ok (.iaload, 1) := by decide +kernel
theorem wd_1208 : Cond.methodLink "LearnLoansLaw" 108 yX8_sell ∈ am_ws := am_wsi (List.mem_of_getElem? (i := 1208) (by decide +kernel)) (by decide +kernel)
theorem wd_1209 : Cond.instanceMethod yX8_sell ∈ am_ws := am_wsi (List.mem_of_getElem? (i := 1209) (by decide +kernel)) (by decide +kernel)
theorem wd_1210 : Cond.selects "LearnLoansModel" yX8_sell yX8_sell ∈ am_ws := am_wsi (List.mem_of_getElem? (i := 1210) (by decide +kernel)) (by decide +kernel)
theorem wd_1211 : Cond.code yX8_sell cX8_sell 4 (some .int) ∈ am_ws := am_wsi (List.mem_of_getElem? (i := 1211) (by decide +kernel)) (by decide +kernel)
theorem dL_law_1144 : decode cL_law 1144 = .ok (.invokevirtual 108, 3) := by decide +kernel
theorem dL_law_1147 : decode cL_law 1147 = .ok (.pop, 1) := by decide +kernel
theorem dL_law_1148 : decode cL_law 1148 = .ok (.goto 694, 3) := by decide +kernel
def kL_c21 (Ln : Nat) (xs : Nat → Int32) : an_code := [(1108, an_lf (fun live => am_aload 1 1109)), (1109, an_lf (fun live => am_aload 0 1110)), (1110, an_lf (fun live => am_iload 3 1111)), (1111, an_lf (fun live => am_const (.int 1) 1112)), (1112, an_lf (fun live => am_i2 (fun x y => x + y) 1113)), (1113, an_sld Ln xs 1114), (1114, an_lf (fun live => am_aload 0 1115)), (1115, an_lf (fun live => am_iload 3 1116)), (1116, an_lf (fun live => am_const (.int 2) 1117)), (1117, an_lf (fun live => am_i2 (fun x y => x + y) 1118)), (1118, an_sld Ln xs 1119), (1119, an_lf (fun live => am_aload 0 1120)), (1120, an_lf (fun live => am_iload 3 1121)), (1121, an_lf (fun live => am_const (.int 3) 1122)), (1122, an_lf (fun live => am_i2 (fun x y => x + y) 1123)), (1123, an_sld Ln xs 1124), (1124, an_lf (fun live => am_callV live 7 3 TW_sell 1127)), (1127, an_lf (fun live => am_pop 1128)), (1128, an_lf (fun live => am_aload 2 1129)), (1129, an_lf (fun live => am_aload 0 1130)), (1130, an_lf (fun live => am_iload 3 1131)), (1131, an_lf (fun live => am_const (.int 1) 1132)), (1132, an_lf (fun live => am_i2 (fun x y => x + y) 1133)), (1133, an_sld Ln xs 1134), (1134, an_lf (fun live => am_aload 0 1135)), (1135, an_lf (fun live => am_iload 3 1136)), (1136, an_lf (fun live => am_const (.int 2) 1137)), (1137, an_lf (fun live => am_i2 (fun x y => x + y) 1138)), (1138, an_sld Ln xs 1139), (1139, an_lf (fun live => am_aload 0 1140)), (1140, an_lf (fun live => am_iload 3 1141)), (1141, an_lf (fun live => am_const (.int 3) 1142)), (1142, an_lf (fun live => am_i2 (fun x y => x + y) 1143)), (1143, an_sld Ln xs 1144), (1144, an_lf (fun live => am_callV live 8 3 TX8_sell 1147)), (1147, an_lf (fun live => am_pop 1148)), (1148, an_lf (fun live => am_goto 1842))]
theorem koL_c21 (Ln : Nat) (xs : Nat → Int32) : ∀ q ∈ kL_c21 Ln xs, an_ok RL cL_law 4 (some .boolean) 2000 80000 600000 7302250 false (lawP Ln xs) an_noR q.1 q.2 :=
  an_kc (an_lift (fun live => ak_aload_n dL_law_1108 rfl rfl)) <|
  an_kc (an_lift (fun live => ak_aload_n dL_law_1109 rfl rfl)) <|
  an_kc (an_lift (fun live => ak_iload_n dL_law_1110 rfl rfl)) <|
  an_kc (an_lift (fun live => ak_iconst dL_law_1111 (by decide +kernel) rfl)) <|
  an_kc (an_lift (fun live => ak_iadd dL_law_1112 rfl)) <|
  an_kc (nk_sld dL_law_1113 rfl) <|
  an_kc (an_lift (fun live => ak_aload_n dL_law_1114 rfl rfl)) <|
  an_kc (an_lift (fun live => ak_iload_n dL_law_1115 rfl rfl)) <|
  an_kc (an_lift (fun live => ak_iconst dL_law_1116 (by decide +kernel) rfl)) <|
  an_kc (an_lift (fun live => ak_iadd dL_law_1117 rfl)) <|
  an_kc (nk_sld dL_law_1118 rfl) <|
  an_kc (an_lift (fun live => ak_aload_n dL_law_1119 rfl rfl)) <|
  an_kc (an_lift (fun live => ak_iload_n dL_law_1120 rfl rfl)) <|
  an_kc (an_lift (fun live => ak_iconst dL_law_1121 (by decide +kernel) rfl)) <|
  an_kc (an_lift (fun live => ak_iadd dL_law_1122 rfl)) <|
  an_kc (nk_sld dL_law_1123 rfl) <|
  an_kc (an_lift (fun live => ak_callV (C := RX7) (F := TX7) (N := 4) metW_sell rfl ⟨rfl, by decide +kernel, by decide +kernel, by decide +kernel⟩ (am_w5 wd_730 wd_731 wd_732 wd_58 wd_733) (by decide) dL_law_1124 rfl)) <|
  an_kc (an_lift (fun live => ak_pop dL_law_1127 rfl)) <|
  an_kc (an_lift (fun live => ak_aload_n dL_law_1128 rfl rfl)) <|
  an_kc (an_lift (fun live => ak_aload_n dL_law_1129 rfl rfl)) <|
  an_kc (an_lift (fun live => ak_iload_n dL_law_1130 rfl rfl)) <|
  an_kc (an_lift (fun live => ak_iconst dL_law_1131 (by decide +kernel) rfl)) <|
  an_kc (an_lift (fun live => ak_iadd dL_law_1132 rfl)) <|
  an_kc (nk_sld dL_law_1133 rfl) <|
  an_kc (an_lift (fun live => ak_aload_n dL_law_1134 rfl rfl)) <|
  an_kc (an_lift (fun live => ak_iload_n dL_law_1135 rfl rfl)) <|
  an_kc (an_lift (fun live => ak_iconst dL_law_1136 (by decide +kernel) rfl)) <|
  an_kc (an_lift (fun live => ak_iadd dL_law_1137 rfl)) <|
  an_kc (nk_sld dL_law_1138 rfl) <|
  an_kc (an_lift (fun live => ak_aload_n dL_law_1139 rfl rfl)) <|
  an_kc (an_lift (fun live => ak_iload_n dL_law_1140 rfl rfl)) <|
  an_kc (an_lift (fun live => ak_iconst dL_law_1141 (by decide +kernel) rfl)) <|
  an_kc (an_lift (fun live => ak_iadd dL_law_1142 rfl)) <|
  an_kc (nk_sld dL_law_1143 rfl) <|
  an_kc (an_lift (fun live => ak_callV (C := RX8) (F := TX8) (N := 27) metX8_sell rfl ⟨rfl, by decide +kernel, by decide +kernel, by decide +kernel⟩ (am_w5 wd_1208 wd_1209 wd_1210 wd_67 wd_1211) (by decide) dL_law_1144 rfl)) <|
  an_kc (an_lift (fun live => ak_pop dL_law_1147 rfl)) <|
  an_kc (an_lift (fun live => ak_goto dL_law_1148 (by decide +kernel))) <| an_kn
set_option maxRecDepth 100000 in
set_option maxHeartbeats 4000000 in
theorem caseL_c21 {Ln : Nat} (xs : Nat → Int32) {i : Int32} {i1 i2 : Bool} {kc kn : Nat} {M : am_M} (h : LX i1 i2 M) (hi : lawI Ln i kc kn) : an_wp (kL_c21 Ln xs) (lawC Ln i) 200 (an_go (kL_c21 Ln xs) 1108) (lawL i) [] ((am_lv i1 i2, am_q i1 i2), kc, kn, M) := by
    obtain ⟨⟨f1, f2, f3, f4, f5, f6, f7⟩, k1, k2, k3, k4⟩ := hi.f
    have hmn : am_mn (am_lv i1 i2, am_q i1 i2) := ⟨_, _, rfl⟩
    repeat' (first | (with_reducible exact f1) | (with_reducible exact f2) | (with_reducible exact f3) | (with_reducible exact f4) | (with_reducible exact f5) | (with_reducible exact f6) | (with_reducible exact f7) | (with_reducible exact hmn) | (with_reducible exact h) | (with_reducible exact k1) | (with_reducible exact k2) | (with_reducible exact k3) | (with_reducible exact k4) | (refine And.intro ?_ ?_) | (intro hx; first | (exact absurd hx (by decide)) | (exact absurd (by decide) hx) | skip) | exact rfl | ((with_reducible change r_I _); (with_reducible assumption)) | decide | (refine Exists.intro _ (And.intro rfl ?_)) | (refine Exists.intro _ (Exists.intro _ (And.intro rfl (And.intro rfl ?_)))) | ((with_reducible change LX _ _ _); (with_reducible assumption)) | ((with_reducible change _ = true); simp only [k1, k2, k3, k4, Bool.true_and]; rfl))
    all_goals try first | (with_reducible change am_tI _ _) | (change Ret _ _) | (change Ret _ _ _) | (change Exists _)
    all_goals try dsimp only at *
    all_goals try exact absurd ‹(1000 : Int64) = 0› (by decide)
    all_goals first
      | exact ⟨_, _, rfl⟩
      | exact lawE.mk hi (by with_reducible assumption) (by omega) (by omega)
      | skip
theorem dL_law_1151 : decode cL_law 1151 = .ok (.aload_n 1, 1) := by decide +kernel
theorem dL_law_1152 : decode cL_law 1152 = .ok (.aload_n 0, 1) := by decide +kernel
theorem dL_law_1153 : decode cL_law 1153 = .ok (.iload_n 3, 1) := by decide +kernel
theorem dL_law_1154 : decode cL_law 1154 = .ok (.iconst 1, 1) := by decide +kernel
theorem dL_law_1155 : decode cL_law 1155 = .ok (.iadd, 1) := by decide +kernel
theorem dL_law_1156 : decode cL_law 1156 = .ok (.iaload, 1) := by decide +kernel
theorem dL_law_1157 : decode cL_law 1157 = .ok (.aload_n 0, 1) := by decide +kernel
theorem dL_law_1158 : decode cL_law 1158 = .ok (.iload_n 3, 1) := by decide +kernel
theorem dL_law_1159 : decode cL_law 1159 = .ok (.iconst 2, 1) := by decide +kernel
theorem dL_law_1160 : decode cL_law 1160 = .ok (.iadd, 1) := by decide +kernel
theorem dL_law_1161 : decode cL_law 1161 = .ok (.iaload, 1) := by decide +kernel
theorem dL_law_1162 : decode cL_law 1162 = .ok (.aload_n 0, 1) := by decide +kernel
theorem dL_law_1163 : decode cL_law 1163 = .ok (.iload_n 3, 1) := by decide +kernel
theorem dL_law_1164 : decode cL_law 1164 = .ok (.iconst 3, 1) := by decide +kernel
theorem dL_law_1165 : decode cL_law 1165 = .ok (.iadd, 1) := by decide +kernel
theorem dL_law_1166 : decode cL_law 1166 = .ok (.iaload, 1) := by decide +kernel
theorem wd_734 : Cond.methodLink "LearnLoansLaw" 109 yX7_promise ∈ am_ws := am_wsi (List.mem_of_getElem? (i := 734) (by decide +kernel)) (by decide +kernel)
theorem wd_735 : Cond.instanceMethod yX7_promise ∈ am_ws := am_wsi (List.mem_of_getElem? (i := 735) (by decide +kernel)) (by decide +kernel)
theorem wd_736 : Cond.selects "LearnLoans" yX7_promise yX7_promise ∈ am_ws := am_wsi (List.mem_of_getElem? (i := 736) (by decide +kernel)) (by decide +kernel)
theorem wd_737 : Cond.code yX7_promise cX7_promise 4 (some .int) ∈ am_ws := am_wsi (List.mem_of_getElem? (i := 737) (by decide +kernel)) (by decide +kernel)
theorem dL_law_1167 : decode cL_law 1167 = .ok (.invokevirtual 109, 3) := by decide +kernel
theorem dL_law_1170 : decode cL_law 1170 = .ok (.pop, 1) := by decide +kernel
theorem dL_law_1171 : decode cL_law 1171 = .ok (.aload_n 2, 1) := by decide +kernel
theorem dL_law_1172 : decode cL_law 1172 = .ok (.aload_n 0, 1) := by decide +kernel
theorem dL_law_1173 : decode cL_law 1173 = .ok (.iload_n 3, 1) := by decide +kernel
theorem dL_law_1174 : decode cL_law 1174 = .ok (.iconst 1, 1) := by decide +kernel
theorem dL_law_1175 : decode cL_law 1175 = .ok (.iadd, 1) := by decide +kernel
theorem dL_law_1176 : decode cL_law 1176 = .ok (.iaload, 1) := by decide +kernel
theorem dL_law_1177 : decode cL_law 1177 = .ok (.aload_n 0, 1) := by decide +kernel
theorem dL_law_1178 : decode cL_law 1178 = .ok (.iload_n 3, 1) := by decide +kernel
theorem dL_law_1179 : decode cL_law 1179 = .ok (.iconst 2, 1) := by decide +kernel
theorem dL_law_1180 : decode cL_law 1180 = .ok (.iadd, 1) := by decide +kernel
theorem dL_law_1181 : decode cL_law 1181 = .ok (.iaload, 1) := by decide +kernel
theorem dL_law_1182 : decode cL_law 1182 = .ok (.aload_n 0, 1) := by decide +kernel
theorem dL_law_1183 : decode cL_law 1183 = .ok (.iload_n 3, 1) := by decide +kernel
theorem dL_law_1184 : decode cL_law 1184 = .ok (.iconst 3, 1) := by decide +kernel
theorem dL_law_1185 : decode cL_law 1185 = .ok (.iadd, 1) := by decide +kernel
theorem dL_law_1186 : decode cL_law 1186 = .ok (.iaload, 1) := by decide +kernel
theorem wd_1212 : Cond.methodLink "LearnLoansLaw" 112 yX8_promise ∈ am_ws := am_wsi (List.mem_of_getElem? (i := 1212) (by decide +kernel)) (by decide +kernel)
theorem wd_1213 : Cond.instanceMethod yX8_promise ∈ am_ws := am_wsi (List.mem_of_getElem? (i := 1213) (by decide +kernel)) (by decide +kernel)
theorem wd_1214 : Cond.selects "LearnLoansModel" yX8_promise yX8_promise ∈ am_ws := am_wsi (List.mem_of_getElem? (i := 1214) (by decide +kernel)) (by decide +kernel)
theorem wd_1215 : Cond.code yX8_promise cX8_promise 5 (some .int) ∈ am_ws := am_wsi (List.mem_of_getElem? (i := 1215) (by decide +kernel)) (by decide +kernel)
theorem dL_law_1187 : decode cL_law 1187 = .ok (.invokevirtual 112, 3) := by decide +kernel
theorem dL_law_1190 : decode cL_law 1190 = .ok (.pop, 1) := by decide +kernel
theorem dL_law_1191 : decode cL_law 1191 = .ok (.goto 651, 3) := by decide +kernel
def kL_c22 (Ln : Nat) (xs : Nat → Int32) : an_code := [(1151, an_lf (fun live => am_aload 1 1152)), (1152, an_lf (fun live => am_aload 0 1153)), (1153, an_lf (fun live => am_iload 3 1154)), (1154, an_lf (fun live => am_const (.int 1) 1155)), (1155, an_lf (fun live => am_i2 (fun x y => x + y) 1156)), (1156, an_sld Ln xs 1157), (1157, an_lf (fun live => am_aload 0 1158)), (1158, an_lf (fun live => am_iload 3 1159)), (1159, an_lf (fun live => am_const (.int 2) 1160)), (1160, an_lf (fun live => am_i2 (fun x y => x + y) 1161)), (1161, an_sld Ln xs 1162), (1162, an_lf (fun live => am_aload 0 1163)), (1163, an_lf (fun live => am_iload 3 1164)), (1164, an_lf (fun live => am_const (.int 3) 1165)), (1165, an_lf (fun live => am_i2 (fun x y => x + y) 1166)), (1166, an_sld Ln xs 1167), (1167, an_lf (fun live => am_callV live 7 3 TW_promise 1170)), (1170, an_lf (fun live => am_pop 1171)), (1171, an_lf (fun live => am_aload 2 1172)), (1172, an_lf (fun live => am_aload 0 1173)), (1173, an_lf (fun live => am_iload 3 1174)), (1174, an_lf (fun live => am_const (.int 1) 1175)), (1175, an_lf (fun live => am_i2 (fun x y => x + y) 1176)), (1176, an_sld Ln xs 1177), (1177, an_lf (fun live => am_aload 0 1178)), (1178, an_lf (fun live => am_iload 3 1179)), (1179, an_lf (fun live => am_const (.int 2) 1180)), (1180, an_lf (fun live => am_i2 (fun x y => x + y) 1181)), (1181, an_sld Ln xs 1182), (1182, an_lf (fun live => am_aload 0 1183)), (1183, an_lf (fun live => am_iload 3 1184)), (1184, an_lf (fun live => am_const (.int 3) 1185)), (1185, an_lf (fun live => am_i2 (fun x y => x + y) 1186)), (1186, an_sld Ln xs 1187), (1187, an_lf (fun live => am_callV live 8 3 TX8_promise 1190)), (1190, an_lf (fun live => am_pop 1191)), (1191, an_lf (fun live => am_goto 1842))]
theorem koL_c22 (Ln : Nat) (xs : Nat → Int32) : ∀ q ∈ kL_c22 Ln xs, an_ok RL cL_law 4 (some .boolean) 2000 80000 600000 7302250 false (lawP Ln xs) an_noR q.1 q.2 :=
  an_kc (an_lift (fun live => ak_aload_n dL_law_1151 rfl rfl)) <|
  an_kc (an_lift (fun live => ak_aload_n dL_law_1152 rfl rfl)) <|
  an_kc (an_lift (fun live => ak_iload_n dL_law_1153 rfl rfl)) <|
  an_kc (an_lift (fun live => ak_iconst dL_law_1154 (by decide +kernel) rfl)) <|
  an_kc (an_lift (fun live => ak_iadd dL_law_1155 rfl)) <|
  an_kc (nk_sld dL_law_1156 rfl) <|
  an_kc (an_lift (fun live => ak_aload_n dL_law_1157 rfl rfl)) <|
  an_kc (an_lift (fun live => ak_iload_n dL_law_1158 rfl rfl)) <|
  an_kc (an_lift (fun live => ak_iconst dL_law_1159 (by decide +kernel) rfl)) <|
  an_kc (an_lift (fun live => ak_iadd dL_law_1160 rfl)) <|
  an_kc (nk_sld dL_law_1161 rfl) <|
  an_kc (an_lift (fun live => ak_aload_n dL_law_1162 rfl rfl)) <|
  an_kc (an_lift (fun live => ak_iload_n dL_law_1163 rfl rfl)) <|
  an_kc (an_lift (fun live => ak_iconst dL_law_1164 (by decide +kernel) rfl)) <|
  an_kc (an_lift (fun live => ak_iadd dL_law_1165 rfl)) <|
  an_kc (nk_sld dL_law_1166 rfl) <|
  an_kc (an_lift (fun live => ak_callV (C := RX7) (F := TX7) (N := 4) metW_promise rfl ⟨rfl, by decide +kernel, by decide +kernel, by decide +kernel⟩ (am_w5 wd_734 wd_735 wd_736 wd_58 wd_737) (by decide) dL_law_1167 rfl)) <|
  an_kc (an_lift (fun live => ak_pop dL_law_1170 rfl)) <|
  an_kc (an_lift (fun live => ak_aload_n dL_law_1171 rfl rfl)) <|
  an_kc (an_lift (fun live => ak_aload_n dL_law_1172 rfl rfl)) <|
  an_kc (an_lift (fun live => ak_iload_n dL_law_1173 rfl rfl)) <|
  an_kc (an_lift (fun live => ak_iconst dL_law_1174 (by decide +kernel) rfl)) <|
  an_kc (an_lift (fun live => ak_iadd dL_law_1175 rfl)) <|
  an_kc (nk_sld dL_law_1176 rfl) <|
  an_kc (an_lift (fun live => ak_aload_n dL_law_1177 rfl rfl)) <|
  an_kc (an_lift (fun live => ak_iload_n dL_law_1178 rfl rfl)) <|
  an_kc (an_lift (fun live => ak_iconst dL_law_1179 (by decide +kernel) rfl)) <|
  an_kc (an_lift (fun live => ak_iadd dL_law_1180 rfl)) <|
  an_kc (nk_sld dL_law_1181 rfl) <|
  an_kc (an_lift (fun live => ak_aload_n dL_law_1182 rfl rfl)) <|
  an_kc (an_lift (fun live => ak_iload_n dL_law_1183 rfl rfl)) <|
  an_kc (an_lift (fun live => ak_iconst dL_law_1184 (by decide +kernel) rfl)) <|
  an_kc (an_lift (fun live => ak_iadd dL_law_1185 rfl)) <|
  an_kc (nk_sld dL_law_1186 rfl) <|
  an_kc (an_lift (fun live => ak_callV (C := RX8) (F := TX8) (N := 27) metX8_promise rfl ⟨rfl, by decide +kernel, by decide +kernel, by decide +kernel⟩ (am_w5 wd_1212 wd_1213 wd_1214 wd_67 wd_1215) (by decide) dL_law_1187 rfl)) <|
  an_kc (an_lift (fun live => ak_pop dL_law_1190 rfl)) <|
  an_kc (an_lift (fun live => ak_goto dL_law_1191 (by decide +kernel))) <| an_kn
set_option maxRecDepth 100000 in
set_option maxHeartbeats 4000000 in
theorem caseL_c22 {Ln : Nat} (xs : Nat → Int32) {i : Int32} {i1 i2 : Bool} {kc kn : Nat} {M : am_M} (h : LX i1 i2 M) (hi : lawI Ln i kc kn) : an_wp (kL_c22 Ln xs) (lawC Ln i) 200 (an_go (kL_c22 Ln xs) 1151) (lawL i) [] ((am_lv i1 i2, am_q i1 i2), kc, kn, M) := by
    obtain ⟨⟨f1, f2, f3, f4, f5, f6, f7⟩, k1, k2, k3, k4⟩ := hi.f
    have hmn : am_mn (am_lv i1 i2, am_q i1 i2) := ⟨_, _, rfl⟩
    repeat' (first | (with_reducible exact f1) | (with_reducible exact f2) | (with_reducible exact f3) | (with_reducible exact f4) | (with_reducible exact f5) | (with_reducible exact f6) | (with_reducible exact f7) | (with_reducible exact hmn) | (with_reducible exact h) | (with_reducible exact k1) | (with_reducible exact k2) | (with_reducible exact k3) | (with_reducible exact k4) | (refine And.intro ?_ ?_) | (intro hx; first | (exact absurd hx (by decide)) | (exact absurd (by decide) hx) | skip) | exact rfl | ((with_reducible change r_I _); (with_reducible assumption)) | decide | (refine Exists.intro _ (And.intro rfl ?_)) | (refine Exists.intro _ (Exists.intro _ (And.intro rfl (And.intro rfl ?_)))) | ((with_reducible change LX _ _ _); (with_reducible assumption)) | ((with_reducible change _ = true); simp only [k1, k2, k3, k4, Bool.true_and]; rfl))
    all_goals try first | (with_reducible change am_tI _ _) | (change Ret _ _) | (change Ret _ _ _) | (change Exists _)
    all_goals try dsimp only at *
    all_goals try exact absurd ‹(1000 : Int64) = 0› (by decide)
    all_goals first
      | exact ⟨_, _, rfl⟩
      | exact lawE.mk hi (by with_reducible assumption) (by omega) (by omega)
      | skip
theorem dL_law_1194 : decode cL_law 1194 = .ok (.aload_n 1, 1) := by decide +kernel
theorem dL_law_1195 : decode cL_law 1195 = .ok (.aload_n 0, 1) := by decide +kernel
theorem dL_law_1196 : decode cL_law 1196 = .ok (.iload_n 3, 1) := by decide +kernel
theorem dL_law_1197 : decode cL_law 1197 = .ok (.iconst 1, 1) := by decide +kernel
theorem dL_law_1198 : decode cL_law 1198 = .ok (.iadd, 1) := by decide +kernel
theorem dL_law_1199 : decode cL_law 1199 = .ok (.iaload, 1) := by decide +kernel
theorem dL_law_1200 : decode cL_law 1200 = .ok (.aload_n 0, 1) := by decide +kernel
theorem dL_law_1201 : decode cL_law 1201 = .ok (.iload_n 3, 1) := by decide +kernel
theorem dL_law_1202 : decode cL_law 1202 = .ok (.iconst 2, 1) := by decide +kernel
theorem dL_law_1203 : decode cL_law 1203 = .ok (.iadd, 1) := by decide +kernel
theorem dL_law_1204 : decode cL_law 1204 = .ok (.iaload, 1) := by decide +kernel
theorem dL_law_1205 : decode cL_law 1205 = .ok (.aload_n 0, 1) := by decide +kernel
theorem dL_law_1206 : decode cL_law 1206 = .ok (.iload_n 3, 1) := by decide +kernel
theorem dL_law_1207 : decode cL_law 1207 = .ok (.iconst 3, 1) := by decide +kernel
theorem dL_law_1208 : decode cL_law 1208 = .ok (.iadd, 1) := by decide +kernel
theorem dL_law_1209 : decode cL_law 1209 = .ok (.iaload, 1) := by decide +kernel
theorem dL_law_1210 : decode cL_law 1210 = .ok (.aload_n 0, 1) := by decide +kernel
theorem dL_law_1211 : decode cL_law 1211 = .ok (.iload_n 3, 1) := by decide +kernel
theorem dL_law_1212 : decode cL_law 1212 = .ok (.iconst 4, 1) := by decide +kernel
theorem dL_law_1213 : decode cL_law 1213 = .ok (.iadd, 1) := by decide +kernel
theorem dL_law_1214 : decode cL_law 1214 = .ok (.iaload, 1) := by decide +kernel
theorem wd_739 : Cond.methodLink "LearnLoansLaw" 113 yX7_book ∈ am_ws := am_wsi (List.mem_of_getElem? (i := 739) (by decide +kernel)) (by decide +kernel)
theorem wd_740 : Cond.instanceMethod yX7_book ∈ am_ws := am_wsi (List.mem_of_getElem? (i := 740) (by decide +kernel)) (by decide +kernel)
theorem wd_741 : Cond.selects "LearnLoans" yX7_book yX7_book ∈ am_ws := am_wsi (List.mem_of_getElem? (i := 741) (by decide +kernel)) (by decide +kernel)
theorem wd_742 : Cond.code yX7_book cX7_book 8 (some .long) ∈ am_ws := am_wsi (List.mem_of_getElem? (i := 742) (by decide +kernel)) (by decide +kernel)
theorem dL_law_1215 : decode cL_law 1215 = .ok (.invokevirtual 113, 3) := by decide +kernel
theorem dL_law_1218 : decode cL_law 1218 = .ok (.pop2, 1) := by decide +kernel
theorem dL_law_1219 : decode cL_law 1219 = .ok (.aload_n 2, 1) := by decide +kernel
theorem dL_law_1220 : decode cL_law 1220 = .ok (.aload_n 0, 1) := by decide +kernel
theorem dL_law_1221 : decode cL_law 1221 = .ok (.iload_n 3, 1) := by decide +kernel
theorem dL_law_1222 : decode cL_law 1222 = .ok (.iconst 1, 1) := by decide +kernel
theorem dL_law_1223 : decode cL_law 1223 = .ok (.iadd, 1) := by decide +kernel
theorem dL_law_1224 : decode cL_law 1224 = .ok (.iaload, 1) := by decide +kernel
theorem dL_law_1225 : decode cL_law 1225 = .ok (.aload_n 0, 1) := by decide +kernel
theorem dL_law_1226 : decode cL_law 1226 = .ok (.iload_n 3, 1) := by decide +kernel
theorem dL_law_1227 : decode cL_law 1227 = .ok (.iconst 2, 1) := by decide +kernel
theorem dL_law_1228 : decode cL_law 1228 = .ok (.iadd, 1) := by decide +kernel
theorem dL_law_1229 : decode cL_law 1229 = .ok (.iaload, 1) := by decide +kernel
theorem dL_law_1230 : decode cL_law 1230 = .ok (.aload_n 0, 1) := by decide +kernel
theorem dL_law_1231 : decode cL_law 1231 = .ok (.iload_n 3, 1) := by decide +kernel
theorem dL_law_1232 : decode cL_law 1232 = .ok (.iconst 3, 1) := by decide +kernel
theorem dL_law_1233 : decode cL_law 1233 = .ok (.iadd, 1) := by decide +kernel
theorem dL_law_1234 : decode cL_law 1234 = .ok (.iaload, 1) := by decide +kernel
theorem dL_law_1235 : decode cL_law 1235 = .ok (.aload_n 0, 1) := by decide +kernel
theorem dL_law_1236 : decode cL_law 1236 = .ok (.iload_n 3, 1) := by decide +kernel
theorem dL_law_1237 : decode cL_law 1237 = .ok (.iconst 4, 1) := by decide +kernel
theorem dL_law_1238 : decode cL_law 1238 = .ok (.iadd, 1) := by decide +kernel
theorem dL_law_1239 : decode cL_law 1239 = .ok (.iaload, 1) := by decide +kernel
theorem wd_1217 : Cond.methodLink "LearnLoansLaw" 116 yX8_book ∈ am_ws := am_wsi (List.mem_of_getElem? (i := 1217) (by decide +kernel)) (by decide +kernel)
theorem wd_1218 : Cond.instanceMethod yX8_book ∈ am_ws := am_wsi (List.mem_of_getElem? (i := 1218) (by decide +kernel)) (by decide +kernel)
theorem wd_1219 : Cond.selects "LearnLoansModel" yX8_book yX8_book ∈ am_ws := am_wsi (List.mem_of_getElem? (i := 1219) (by decide +kernel)) (by decide +kernel)
theorem wd_1220 : Cond.code yX8_book cX8_book 10 (some .long) ∈ am_ws := am_wsi (List.mem_of_getElem? (i := 1220) (by decide +kernel)) (by decide +kernel)
theorem dL_law_1240 : decode cL_law 1240 = .ok (.invokevirtual 116, 3) := by decide +kernel
theorem dL_law_1243 : decode cL_law 1243 = .ok (.pop2, 1) := by decide +kernel
theorem dL_law_1244 : decode cL_law 1244 = .ok (.goto 598, 3) := by decide +kernel
def kL_c23 (Ln : Nat) (xs : Nat → Int32) : an_code := [(1194, an_lf (fun live => am_aload 1 1195)), (1195, an_lf (fun live => am_aload 0 1196)), (1196, an_lf (fun live => am_iload 3 1197)), (1197, an_lf (fun live => am_const (.int 1) 1198)), (1198, an_lf (fun live => am_i2 (fun x y => x + y) 1199)), (1199, an_sld Ln xs 1200), (1200, an_lf (fun live => am_aload 0 1201)), (1201, an_lf (fun live => am_iload 3 1202)), (1202, an_lf (fun live => am_const (.int 2) 1203)), (1203, an_lf (fun live => am_i2 (fun x y => x + y) 1204)), (1204, an_sld Ln xs 1205), (1205, an_lf (fun live => am_aload 0 1206)), (1206, an_lf (fun live => am_iload 3 1207)), (1207, an_lf (fun live => am_const (.int 3) 1208)), (1208, an_lf (fun live => am_i2 (fun x y => x + y) 1209)), (1209, an_sld Ln xs 1210), (1210, an_lf (fun live => am_aload 0 1211)), (1211, an_lf (fun live => am_iload 3 1212)), (1212, an_lf (fun live => am_const (.int 4) 1213)), (1213, an_lf (fun live => am_i2 (fun x y => x + y) 1214)), (1214, an_sld Ln xs 1215), (1215, an_lf (fun live => am_callV live 7 4 TW_book 1218)), (1218, an_lf (fun live => am_pop2 1219)), (1219, an_lf (fun live => am_aload 2 1220)), (1220, an_lf (fun live => am_aload 0 1221)), (1221, an_lf (fun live => am_iload 3 1222)), (1222, an_lf (fun live => am_const (.int 1) 1223)), (1223, an_lf (fun live => am_i2 (fun x y => x + y) 1224)), (1224, an_sld Ln xs 1225), (1225, an_lf (fun live => am_aload 0 1226)), (1226, an_lf (fun live => am_iload 3 1227)), (1227, an_lf (fun live => am_const (.int 2) 1228)), (1228, an_lf (fun live => am_i2 (fun x y => x + y) 1229)), (1229, an_sld Ln xs 1230), (1230, an_lf (fun live => am_aload 0 1231)), (1231, an_lf (fun live => am_iload 3 1232)), (1232, an_lf (fun live => am_const (.int 3) 1233)), (1233, an_lf (fun live => am_i2 (fun x y => x + y) 1234)), (1234, an_sld Ln xs 1235), (1235, an_lf (fun live => am_aload 0 1236)), (1236, an_lf (fun live => am_iload 3 1237)), (1237, an_lf (fun live => am_const (.int 4) 1238)), (1238, an_lf (fun live => am_i2 (fun x y => x + y) 1239)), (1239, an_sld Ln xs 1240), (1240, an_lf (fun live => am_callV live 8 4 TV_book 1243)), (1243, an_lf (fun live => am_pop2 1244)), (1244, an_lf (fun live => am_goto 1842))]
theorem koL_c23 (Ln : Nat) (xs : Nat → Int32) : ∀ q ∈ kL_c23 Ln xs, an_ok RL cL_law 4 (some .boolean) 2000 80000 600000 7302250 false (lawP Ln xs) an_noR q.1 q.2 :=
  an_kc (an_lift (fun live => ak_aload_n dL_law_1194 rfl rfl)) <|
  an_kc (an_lift (fun live => ak_aload_n dL_law_1195 rfl rfl)) <|
  an_kc (an_lift (fun live => ak_iload_n dL_law_1196 rfl rfl)) <|
  an_kc (an_lift (fun live => ak_iconst dL_law_1197 (by decide +kernel) rfl)) <|
  an_kc (an_lift (fun live => ak_iadd dL_law_1198 rfl)) <|
  an_kc (nk_sld dL_law_1199 rfl) <|
  an_kc (an_lift (fun live => ak_aload_n dL_law_1200 rfl rfl)) <|
  an_kc (an_lift (fun live => ak_iload_n dL_law_1201 rfl rfl)) <|
  an_kc (an_lift (fun live => ak_iconst dL_law_1202 (by decide +kernel) rfl)) <|
  an_kc (an_lift (fun live => ak_iadd dL_law_1203 rfl)) <|
  an_kc (nk_sld dL_law_1204 rfl) <|
  an_kc (an_lift (fun live => ak_aload_n dL_law_1205 rfl rfl)) <|
  an_kc (an_lift (fun live => ak_iload_n dL_law_1206 rfl rfl)) <|
  an_kc (an_lift (fun live => ak_iconst dL_law_1207 (by decide +kernel) rfl)) <|
  an_kc (an_lift (fun live => ak_iadd dL_law_1208 rfl)) <|
  an_kc (nk_sld dL_law_1209 rfl) <|
  an_kc (an_lift (fun live => ak_aload_n dL_law_1210 rfl rfl)) <|
  an_kc (an_lift (fun live => ak_iload_n dL_law_1211 rfl rfl)) <|
  an_kc (an_lift (fun live => ak_iconst dL_law_1212 (by decide +kernel) rfl)) <|
  an_kc (an_lift (fun live => ak_iadd dL_law_1213 rfl)) <|
  an_kc (nk_sld dL_law_1214 rfl) <|
  an_kc (an_lift (fun live => ak_callV (C := RX7) (F := TX7) (N := 4) metW_book rfl ⟨rfl, by decide +kernel, by decide +kernel, by decide +kernel⟩ (am_w5 wd_739 wd_740 wd_741 wd_58 wd_742) (by decide) dL_law_1215 rfl)) <|
  an_kc (an_lift (fun live => ak_pop2 dL_law_1218 rfl)) <|
  an_kc (an_lift (fun live => ak_aload_n dL_law_1219 rfl rfl)) <|
  an_kc (an_lift (fun live => ak_aload_n dL_law_1220 rfl rfl)) <|
  an_kc (an_lift (fun live => ak_iload_n dL_law_1221 rfl rfl)) <|
  an_kc (an_lift (fun live => ak_iconst dL_law_1222 (by decide +kernel) rfl)) <|
  an_kc (an_lift (fun live => ak_iadd dL_law_1223 rfl)) <|
  an_kc (nk_sld dL_law_1224 rfl) <|
  an_kc (an_lift (fun live => ak_aload_n dL_law_1225 rfl rfl)) <|
  an_kc (an_lift (fun live => ak_iload_n dL_law_1226 rfl rfl)) <|
  an_kc (an_lift (fun live => ak_iconst dL_law_1227 (by decide +kernel) rfl)) <|
  an_kc (an_lift (fun live => ak_iadd dL_law_1228 rfl)) <|
  an_kc (nk_sld dL_law_1229 rfl) <|
  an_kc (an_lift (fun live => ak_aload_n dL_law_1230 rfl rfl)) <|
  an_kc (an_lift (fun live => ak_iload_n dL_law_1231 rfl rfl)) <|
  an_kc (an_lift (fun live => ak_iconst dL_law_1232 (by decide +kernel) rfl)) <|
  an_kc (an_lift (fun live => ak_iadd dL_law_1233 rfl)) <|
  an_kc (nk_sld dL_law_1234 rfl) <|
  an_kc (an_lift (fun live => ak_aload_n dL_law_1235 rfl rfl)) <|
  an_kc (an_lift (fun live => ak_iload_n dL_law_1236 rfl rfl)) <|
  an_kc (an_lift (fun live => ak_iconst dL_law_1237 (by decide +kernel) rfl)) <|
  an_kc (an_lift (fun live => ak_iadd dL_law_1238 rfl)) <|
  an_kc (nk_sld dL_law_1239 rfl) <|
  an_kc (an_lift (fun live => ak_callV (C := RX8) (F := TX8) (N := 27) metV_book rfl ⟨rfl, by decide +kernel, by decide +kernel, by decide +kernel⟩ (am_w5 wd_1217 wd_1218 wd_1219 wd_67 wd_1220) (by decide) dL_law_1240 rfl)) <|
  an_kc (an_lift (fun live => ak_pop2 dL_law_1243 rfl)) <|
  an_kc (an_lift (fun live => ak_goto dL_law_1244 (by decide +kernel))) <| an_kn
set_option maxRecDepth 100000 in
set_option maxHeartbeats 4000000 in
theorem caseL_c23 {Ln : Nat} (xs : Nat → Int32) {i : Int32} {i1 i2 : Bool} {kc kn : Nat} {M : am_M} (h : LX i1 i2 M) (hi : lawI Ln i kc kn) : an_wp (kL_c23 Ln xs) (lawC Ln i) 200 (an_go (kL_c23 Ln xs) 1194) (lawL i) [] ((am_lv i1 i2, am_q i1 i2), kc, kn, M) := by
    obtain ⟨⟨f1, f2, f3, f4, f5, f6, f7⟩, k1, k2, k3, k4⟩ := hi.f
    have hmn : am_mn (am_lv i1 i2, am_q i1 i2) := ⟨_, _, rfl⟩
    repeat' (first | (with_reducible exact f1) | (with_reducible exact f2) | (with_reducible exact f3) | (with_reducible exact f4) | (with_reducible exact f5) | (with_reducible exact f6) | (with_reducible exact f7) | (with_reducible exact hmn) | (with_reducible exact h) | (with_reducible exact k1) | (with_reducible exact k2) | (with_reducible exact k3) | (with_reducible exact k4) | (refine And.intro ?_ ?_) | (intro hx; first | (exact absurd hx (by decide)) | (exact absurd (by decide) hx) | skip) | exact rfl | ((with_reducible change r_I _); (with_reducible assumption)) | decide | (refine Exists.intro _ (And.intro rfl ?_)) | (refine Exists.intro _ (Exists.intro _ (And.intro rfl (And.intro rfl ?_)))) | ((with_reducible change LX _ _ _); (with_reducible assumption)) | ((with_reducible change _ = true); simp only [k1, k2, k3, k4, Bool.true_and]; rfl))
    all_goals try first | (with_reducible change am_tI _ _) | (change Ret _ _) | (change Ret _ _ _) | (change Exists _)
    all_goals try dsimp only at *
    all_goals try exact absurd ‹(1000 : Int64) = 0› (by decide)
    all_goals first
      | exact ⟨_, _, rfl⟩
      | exact lawE.mk hi (by with_reducible assumption) (by omega) (by omega)
      | skip
