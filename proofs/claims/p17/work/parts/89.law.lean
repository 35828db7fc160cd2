/-! the law: its head, its turn and its end -/
def lawS : List Nat := [196, 219, 272, 305, 338, 371, 424, 477, 520, 595, 648, 727, 760, 803, 836, 889, 943, 986, 1029, 1062, 1085, 1108, 1151, 1194, 1247, 1300, 1353, 1416, 1479, 1554, 1617, 1640, 1653, 1760, 1783, 1806, 1829]
def lawZ : an_cut := fun pc => match Nat.beq pc 1848 with
  | true => some (fun _ st _ => st = [])
  | false => none
def lawT (i : Int32) (X0 : am_X) : an_cut := fun pc => match Nat.beq pc 18 with
  | true => some (fun L st X => am_nm [0, 1, 2, 3] L = lawL i ∧ st = [] ∧ X = X0)
  | false => none
def lawB (i : Int32) (X0 : am_X) : an_cut := fun pc => match lawS.contains pc || Nat.beq pc 1842 with
  | true => some (fun L st X => L = lawL i ∧ st = [] ∧ X = X0)
  | false => none
theorem dL_law_1842 : decode cL_law 1842 = .ok (.iinc 3 8, 3) := by decide +kernel
theorem dL_law_1845 : decode cL_law 1845 = .ok (.goto (-1827), 3) := by decide +kernel
def kL_Z (Ln : Nat) (xs : Nat → Int32) : an_code := [(1842, an_lf (fun live => am_iinc 3 4 8 1845)), (1845, an_lf (fun live => am_goto 18))]
theorem koL_Z (Ln : Nat) (xs : Nat → Int32) : ∀ q ∈ kL_Z Ln xs, an_ok RL cL_law 4 (some .boolean) 2000 80000 600000 7302250 false (lawP Ln xs) an_noR q.1 q.2 :=
  an_kc (an_lift (fun live => ak_iinc dL_law_1842 (by decide +kernel) rfl)) <|
  an_kc (an_lift (fun live => ak_goto dL_law_1845 (by decide +kernel))) <| an_kn
set_option maxRecDepth 100000 in
set_option maxHeartbeats 4000000 in
theorem segL_Z (Ln : Nat) (xs : Nat → Int32) (i : Int32) (X : am_X) : an_wp (kL_Z Ln xs) (lawT (i + 8) X) 60 (an_go (kL_Z Ln xs) 1842) (lawL i) [] X := by
    obtain ⟨E, k, n, M⟩ := X
    repeat' (first | (refine And.intro ?_ ?_) | (intro hx; first | (exact absurd hx (by decide)) | (exact absurd (by decide) hx) | skip) | exact rfl | decide | (refine Exists.intro _ (And.intro rfl ?_)))
    all_goals try first | (with_reducible change am_tI _ _) | (change Ret _ _) | (change Ret _ _ _) | (change Exists _)
    all_goals try dsimp only at *
    all_goals try exact absurd ‹(1000 : Int64) = 0› (by decide)
theorem wd_70 : Cond.classLink "LearnLoansLaw" 7 "LearnLoans" ∈ am_ws := am_wsi (List.mem_of_getElem? (i := 70) (by decide +kernel)) (by decide +kernel)
theorem wd_71 : Cond.instantiable "LearnLoans" 4 ∈ am_ws := am_wsi (List.mem_of_getElem? (i := 71) (by decide +kernel)) (by decide +kernel)
theorem dL_law_0 : decode cL_law 0 = .ok (.new 7, 3) := by decide +kernel
theorem dL_law_3 : decode cL_law 3 = .ok (.dup, 1) := by decide +kernel
theorem wd_72 : Cond.methodLink "LearnLoansLaw" 9 yX7_init ∈ am_ws := am_wsi (List.mem_of_getElem? (i := 72) (by decide +kernel)) (by decide +kernel)
theorem wd_73 : Cond.instanceMethod yX7_init ∈ am_ws := am_wsi (List.mem_of_getElem? (i := 73) (by decide +kernel)) (by decide +kernel)
theorem wd_74 : Cond.code yX7_init cX7_init 1 none ∈ am_ws := am_wsi (List.mem_of_getElem? (i := 74) (by decide +kernel)) (by decide +kernel)
theorem dL_law_4 : decode cL_law 4 = .ok (.invokespecial 9, 3) := by decide +kernel
theorem dL_law_7 : decode cL_law 7 = .ok (.astore_n 1, 1) := by decide +kernel
theorem wd_889 : Cond.classLink "LearnLoansLaw" 10 "LearnLoansModel" ∈ am_ws := am_wsi (List.mem_of_getElem? (i := 889) (by decide +kernel)) (by decide +kernel)
theorem wd_890 : Cond.instantiable "LearnLoansModel" 27 ∈ am_ws := am_wsi (List.mem_of_getElem? (i := 890) (by decide +kernel)) (by decide +kernel)
theorem dL_law_8 : decode cL_law 8 = .ok (.new 10, 3) := by decide +kernel
theorem dL_law_11 : decode cL_law 11 = .ok (.dup, 1) := by decide +kernel
theorem wd_891 : Cond.methodLink "LearnLoansLaw" 12 yX8_init ∈ am_ws := am_wsi (List.mem_of_getElem? (i := 891) (by decide +kernel)) (by decide +kernel)
theorem wd_892 : Cond.instanceMethod yX8_init ∈ am_ws := am_wsi (List.mem_of_getElem? (i := 892) (by decide +kernel)) (by decide +kernel)
theorem wd_893 : Cond.code yX8_init cX8_init 2 none ∈ am_ws := am_wsi (List.mem_of_getElem? (i := 893) (by decide +kernel)) (by decide +kernel)
theorem dL_law_12 : decode cL_law 12 = .ok (.invokespecial 12, 3) := by decide +kernel
theorem dL_law_15 : decode cL_law 15 = .ok (.astore_n 2, 1) := by decide +kernel
theorem dL_law_16 : decode cL_law 16 = .ok (.iconst 0, 1) := by decide +kernel
theorem dL_law_17 : decode cL_law 17 = .ok (.istore_n 3, 1) := by decide +kernel
def kL_A (Ln : Nat) (xs : Nat → Int32) : an_code := [(0, an_new 7 4 (fun L => 0) 600000 7302250 3), (3, an_lf (fun live => am_dup 4)), (4, an_callI 7 0 TX7_init 600000 7302250 49 6949 7), (7, an_lf (fun live => am_astore 1 4 8)), (8, an_new 8 27 (fun L => 200) 600000 7302250 11), (11, an_lf (fun live => am_dup 12)), (12, an_callI 8 0 TX8_init 600000 7302250 15 11799 15), (15, an_lf (fun live => am_astore 2 4 16)), (16, an_lf (fun live => am_const (.int 0) 17)), (17, an_lf (fun live => am_istore 3 4 18))]
theorem koL_A (Ln : Nat) (xs : Nat → Int32) : ∀ q ∈ kL_A Ln xs, an_ok RL cL_law 4 (some .boolean) 2000 80000 600000 7302250 false (lawP Ln xs) an_noR q.1 q.2 :=
  an_kc (nk_new (C := RX7) (T := TX7) (N := 4) (ty := tyX7) rfl inX7w tyX7_ok rfl zX7 (am_w3 wd_70 wd_71 wd_58) dL_law_0 rfl) <|
  an_kc (an_lift (fun live => ak_dup dL_law_3 rfl)) <|
  an_kc (nk_callI metX7_init rfl ⟨by decide +kernel, by decide +kernel, by decide +kernel⟩ (am_w4 wd_58 wd_72 wd_73 wd_74) (by decide) dL_law_4 rfl) <|
  an_kc (an_lift (fun live => ak_astore_n dL_law_7 rfl rfl)) <|
  an_kc (nk_new (C := RX8) (T := TX8) (N := 27) (ty := tyX8) rfl inX8w tyX8_ok rfl zX8 (am_w3 wd_889 wd_890 wd_67) dL_law_8 rfl) <|
  an_kc (an_lift (fun live => ak_dup dL_law_11 rfl)) <|
  an_kc (nk_callI metX8_init rfl ⟨by decide +kernel, by decide +kernel, by decide +kernel⟩ (am_w4 wd_67 wd_891 wd_892 wd_893) (by decide) dL_law_12 rfl) <|
  an_kc (an_lift (fun live => ak_astore_n dL_law_15 rfl rfl)) <|
  an_kc (an_lift (fun live => ak_iconst dL_law_16 (by decide +kernel) rfl)) <|
  an_kc (an_lift (fun live => ak_istore_n dL_law_17 rfl rfl)) <| an_kn
set_option maxRecDepth 100000 in
set_option maxHeartbeats 4000000 in
theorem segL_A (Ln : Nat) (xs : Nat → Int32) : an_wp (kL_A Ln xs) (lawT 0 (an_Ef, 66, 18779, an_Mf)) 120 (an_go (kL_A Ln xs) 0) [(0, .ref 2000)] [] (an_E0, 0, 0, an_M0) := by
    repeat' (first | (refine And.intro ?_ ?_) | (intro hx; first | (exact absurd hx (by decide)) | (exact absurd (by decide) hx) | skip) | exact rfl | decide | (refine Exists.intro _ (And.intro rfl ?_)))
    all_goals try first | (with_reducible change am_tI _ _) | (change Ret _ _) | (change Ret _ _ _) | (change Exists _)
    all_goals try dsimp only at *
    all_goals try exact absurd ‹(1000 : Int64) = 0› (by decide)
theorem dL_law_18 : decode cL_law 18 = .ok (.iload_n 3, 1) := by decide +kernel
theorem dL_law_19 : decode cL_law 19 = .ok (.aload_n 0, 1) := by decide +kernel
theorem dL_law_20 : decode cL_law 20 = .ok (.arraylength, 1) := by decide +kernel
theorem dL_law_21 : decode cL_law 21 = .ok (.bipush 8, 2) := by decide +kernel
theorem dL_law_23 : decode cL_law 23 = .ok (.isub, 1) := by decide +kernel
theorem dL_law_24 : decode cL_law 24 = .ok (.if_icmp .gt 1824, 3) := by decide +kernel
theorem dL_law_27 : decode cL_law 27 = .ok (.aload_n 0, 1) := by decide +kernel
theorem dL_law_28 : decode cL_law 28 = .ok (.iload_n 3, 1) := by decide +kernel
theorem dL_law_29 : decode cL_law 29 = .ok (.iaload, 1) := by decide +kernel
theorem dL_law_30 : decode cL_law 30 = .ok (.bipush 63, 2) := by decide +kernel
theorem dL_law_32 : decode cL_law 32 = .ok (.iand, 1) := by decide +kernel
theorem dL_law_33 : decode cL_law 33 = .ok (.tableswitch 1809 0 36 #[163, 186, 239, 272, 305, 338, 391, 444, 487, 562, 615, 694, 727, 770, 803, 856, 910, 953, 996, 1029, 1052, 1075, 1118, 1161, 1214, 1267, 1320, 1383, 1446, 1521, 1584, 1607, 1620, 1727, 1750, 1773, 1796], 163) := by decide +kernel
def kL_B (Ln : Nat) (xs : Nat → Int32) : an_code := [(18, an_lf (fun live => am_iload 3 19)), (19, an_lf (fun live => am_aload 0 20)), (20, an_slen Ln 21), (21, an_lf (fun live => am_const (.int 8) 23)), (23, an_lf (fun live => am_i2 (fun x y => x - y) 24)), (24, an_lf (fun live => am_if2 (fun x y => y < x) 1848 27)), (27, an_lf (fun live => am_aload 0 28)), (28, an_lf (fun live => am_iload 3 29)), (29, an_sld Ln xs 30), (30, an_lf (fun live => am_const (.int 63) 32)), (32, an_lf (fun live => am_i2 (fun x y => x &&& y) 33)), (33, an_lf (fun live => am_switch [(0, 196), (1, 219), (2, 272), (3, 305), (4, 338), (5, 371), (6, 424), (7, 477), (8, 520), (9, 595), (10, 648), (11, 727), (12, 760), (13, 803), (14, 836), (15, 889), (16, 943), (17, 986), (18, 1029), (19, 1062), (20, 1085), (21, 1108), (22, 1151), (23, 1194), (24, 1247), (25, 1300), (26, 1353), (27, 1416), (28, 1479), (29, 1554), (30, 1617), (31, 1640), (32, 1653), (33, 1760), (34, 1783), (35, 1806), (36, 1829)] 1842))]
theorem koL_B (Ln : Nat) (xs : Nat → Int32) : ∀ q ∈ kL_B Ln xs, an_ok RL cL_law 4 (some .boolean) 2000 80000 600000 7302250 false (lawP Ln xs) an_noR q.1 q.2 :=
  an_kc (an_lift (fun live => ak_iload_n dL_law_18 rfl rfl)) <|
  an_kc (an_lift (fun live => ak_aload_n dL_law_19 rfl rfl)) <|
  an_kc (nk_slen dL_law_20 rfl) <|
  an_kc (an_lift (fun live => ak_bipush dL_law_21 (by decide +kernel) rfl)) <|
  an_kc (an_lift (fun live => ak_isub dL_law_23 rfl)) <|
  an_kc (an_lift (fun live => ak_icmp_gt dL_law_24 (by decide +kernel) rfl)) <|
  an_kc (an_lift (fun live => ak_aload_n dL_law_27 rfl rfl)) <|
  an_kc (an_lift (fun live => ak_iload_n dL_law_28 rfl rfl)) <|
  an_kc (nk_sld dL_law_29 rfl) <|
  an_kc (an_lift (fun live => ak_bipush dL_law_30 (by decide +kernel) rfl)) <|
  an_kc (an_lift (fun live => ak_iand dL_law_32 rfl)) <|
  an_kc (an_lift (fun live => ak_tswitch dL_law_33 (by decide +kernel) (by decide +kernel) (by decide +kernel) (by decide +kernel) (by decide +kernel) (by decide +kernel))) <| an_kn
set_option maxRecDepth 100000 in
set_option maxHeartbeats 4000000 in
theorem segL_B {Ln : Nat} (xs : Nat → Int32) {i : Int32} (X : am_X) (hz : ¬ Int32.ofNat Ln - 8 < i) (hi : am_in i Ln) : an_wp (kL_B Ln xs) (lawB i X) 120 (an_go (kL_B Ln xs) 18) (lawL i) [] X := by
    obtain ⟨E, k, n, M⟩ := X
    repeat' (first | (with_reducible exact hi) | (refine And.intro ?_ ?_) | (intro hx; first | (with_reducible exact absurd hx hz) | skip) | exact rfl | (refine Exists.intro _ (And.intro rfl ?_)))
    all_goals try first | (with_reducible change am_tI _ _) | (change Ret _ _) | (change Ret _ _ _) | (change Exists _)
    all_goals try dsimp only at *
    all_goals try exact absurd ‹(1000 : Int64) = 0› (by decide)
    all_goals first | exact hi.1 | exact hi.2 | skip
set_option maxRecDepth 100000 in
set_option maxHeartbeats 4000000 in
theorem segL_B2 {Ln : Nat} (xs : Nat → Int32) {i : Int32} (X : am_X) (hz : Int32.ofNat Ln - 8 < i) : an_wp (kL_B Ln xs) lawZ 120 (an_go (kL_B Ln xs) 18) (lawL i) [] X := by
    obtain ⟨E, k, n, M⟩ := X
    repeat' (first | (refine And.intro ?_ ?_) | (intro hx; first | (with_reducible exact absurd hz hx) | skip) | exact rfl | (refine Exists.intro _ (And.intro rfl ?_)))
    all_goals try first | (with_reducible change am_tI _ _) | (change Ret _ _) | (change Ret _ _ _) | (change Exists _)
    all_goals try dsimp only at *
    all_goals try exact absurd ‹(1000 : Int64) = 0› (by decide)
