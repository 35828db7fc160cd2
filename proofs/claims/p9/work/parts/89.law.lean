/-! the law: its head, its turn and its end -/
def lawS : List Nat := [196, 219, 272, 305, 338, 371, 424, 477, 520, 595, 648, 727, 760, 803, 836, 889, 942, 985, 1028, 1061, 1084, 1107, 1150, 1193, 1246, 1299, 1352, 1415, 1478, 1553, 1616, 1639, 1652, 1759, 1782, 1805, 1828]
def lawZ : an_cut := fun pc => match Nat.beq pc 1847 with
  | true => some (fun _ st _ => st = [])
  | false => none
def lawT (i : Int32) (X0 : am_X) : an_cut := fun pc => match Nat.beq pc 18 with
  | true => some (fun L st X => am_nm [0, 1, 2, 3] L = lawL i ∧ st = [] ∧ X = X0)
  | false => none
def lawB (i : Int32) (X0 : am_X) : an_cut := fun pc => match lawS.contains pc || Nat.beq pc 1841 with
  | true => some (fun L st X => L = lawL i ∧ st = [] ∧ X = X0)
  | false => none
def rwL_Z : List dz_r := [(1841, .iinc 3 8, 3), (1844, .goto (-1826), 3)]
theorem dzL_Z : dz cL_law rwL_Z := dz_all 1841 (by decide +kernel)
def kL_Z (Ln : Nat) (xs : Nat → Int32) : an_code := [(1841, an_lf (fun live => am_iinc 3 4 8 1844)), (1844, an_lf (fun live => am_goto 18))]
theorem koL_Z (Ln : Nat) (xs : Nat → Int32) : ∀ q ∈ kL_Z Ln xs, an_ok RL cL_law 4 (some .boolean) 2000 80000 600000 7302250 false (lawP Ln xs) an_noR q.1 q.2 :=
  am_kz dzL_Z <|
  an_kd (fun d => an_lift (fun live => ak_iinc d (by decide +kernel) rfl)) <|
  an_kd (fun d => an_lift (fun live => ak_goto d (by decide +kernel))) <| an_kdn
set_option maxRecDepth 100000 in
set_option maxHeartbeats 4000000 in
theorem segL_Z (Ln : Nat) (xs : Nat → Int32) (i : Int32) (X : am_X) : an_wp (kL_Z Ln xs) (lawT (i + 8) X) 60 (an_go (kL_Z Ln xs) 1841) (lawL i) [] X := by
    obtain ⟨E, k, n, M⟩ := X
    repeat' (first | apply And.intro | exact rfl | (intro hx; exact absurd hx (by decide)) | (intro hx; exact absurd (by decide) hx) | decide | intro hx | (refine Exists.intro _ (And.intro rfl ?_)))
    all_goals try first | (with_reducible change am_tI _ _) | (change Ret _ _) | (change Ret _ _ _) | (change Exists _)
    all_goals try dsimp only at *
    all_goals try (with_reducible exact absurd ‹(1000 : Int64) = 0› am_z1000)
def rwL_A : List dz_r := [(0, .new 7, 3), (3, .dup, 1), (4, .invokespecial 9, 3), (7, .astore_n 1, 1), (8, .new 10, 3), (11, .dup, 1), (12, .invokespecial 12, 3), (15, .astore_n 2, 1), (16, .iconst 0, 1), (17, .istore_n 3, 1)]
theorem dzL_A : dz cL_law rwL_A := dz_all 0 (by decide +kernel)
set_option maxRecDepth 100000 in
theorem wd_70 : Cond.classLink "LearnLoansLaw" 7 "LearnLoans" ∈ am_ws := am_wt1 (List.mem_of_getElem? (i := 13) (by rfl)) (by decide +kernel)
set_option maxRecDepth 100000 in
theorem wd_71 : Cond.instantiable "LearnLoans" 4 ∈ am_ws := am_wt1 (List.mem_of_getElem? (i := 14) (by rfl)) (by decide +kernel)
theorem hy_X7_init : yX7_init.cls ≠ "java/lang/invoke/MethodHandle" ∧ yX7_init.cls ≠ "java/lang/invoke/VarHandle" ∧ (parseMethodDescriptor yX7_init.desc).map (fun d => d.parameters.length) = some 0 := ⟨by decide +kernel, by decide +kernel, by decide +kernel⟩
set_option maxRecDepth 100000 in
theorem wd_72 : Cond.methodLink "LearnLoansLaw" 9 yX7_init ∈ am_ws := am_wt1 (List.mem_of_getElem? (i := 15) (by rfl)) (by decide +kernel)
set_option maxRecDepth 100000 in
theorem wd_73 : Cond.instanceMethod yX7_init ∈ am_ws := am_wt1 (List.mem_of_getElem? (i := 16) (by rfl)) (by decide +kernel)
set_option maxRecDepth 100000 in
theorem wd_74 : Cond.code yX7_init cX7_init 1 none ∈ am_ws := am_wt1 (List.mem_of_getElem? (i := 17) (by rfl)) (by decide +kernel)
set_option maxRecDepth 100000 in
theorem wd_889 : Cond.classLink "LearnLoansLaw" 10 "LearnLoansModel" ∈ am_ws := am_wt4 (List.mem_of_getElem? (i := 112) (by rfl)) (by decide +kernel)
set_option maxRecDepth 100000 in
theorem wd_890 : Cond.instantiable "LearnLoansModel" 27 ∈ am_ws := am_wt4 (List.mem_of_getElem? (i := 113) (by rfl)) (by decide +kernel)
theorem hy_X8_init : yX8_init.cls ≠ "java/lang/invoke/MethodHandle" ∧ yX8_init.cls ≠ "java/lang/invoke/VarHandle" ∧ (parseMethodDescriptor yX8_init.desc).map (fun d => d.parameters.length) = some 0 := ⟨by decide +kernel, by decide +kernel, by decide +kernel⟩
set_option maxRecDepth 100000 in
theorem wd_891 : Cond.methodLink "LearnLoansLaw" 12 yX8_init ∈ am_ws := am_wt4 (List.mem_of_getElem? (i := 114) (by rfl)) (by decide +kernel)
set_option maxRecDepth 100000 in
theorem wd_892 : Cond.instanceMethod yX8_init ∈ am_ws := am_wt4 (List.mem_of_getElem? (i := 115) (by rfl)) (by decide +kernel)
set_option maxRecDepth 100000 in
theorem wd_893 : Cond.code yX8_init cX8_init 2 none ∈ am_ws := am_wt4 (List.mem_of_getElem? (i := 116) (by rfl)) (by decide +kernel)
def kL_A (Ln : Nat) (xs : Nat → Int32) : an_code := [(0, an_new 7 4 (fun L => 0) 600000 7302250 3), (3, an_lf (fun live => am_dup 4)), (4, an_callI 7 0 TX7_init 600000 7302250 49 6949 7), (7, an_lf (fun live => am_astore 1 4 8)), (8, an_new 8 27 (fun L => 200) 600000 7302250 11), (11, an_lf (fun live => am_dup 12)), (12, an_callI 8 0 TX8_init 600000 7302250 15 11799 15), (15, an_lf (fun live => am_astore 2 4 16)), (16, an_lf (fun live => am_const (.int 0) 17)), (17, an_lf (fun live => am_istore 3 4 18))]
theorem koL_A (Ln : Nat) (xs : Nat → Int32) : ∀ q ∈ kL_A Ln xs, an_ok RL cL_law 4 (some .boolean) 2000 80000 600000 7302250 false (lawP Ln xs) an_noR q.1 q.2 :=
  am_kz dzL_A <|
  an_kd (fun d => nk_new (C := RX7) (T := TX7) (N := 4) (ty := tyX7) rfl inX7w tyX7_ok rfl zX7 (am_w3 wd_70 wd_71 wd_58) d rfl) <|
  an_kd (fun d => an_lift (fun live => ak_dup d rfl)) <|
  an_kd (fun d => nk_callI metX7_init rfl hy_X7_init (am_w4 wd_58 wd_72 wd_73 wd_74) (by decide) d rfl) <|
  an_kd (fun d => an_lift (fun live => ak_astore_n d rfl rfl)) <|
  an_kd (fun d => nk_new (C := RX8) (T := TX8) (N := 27) (ty := tyX8) rfl inX8w tyX8_ok rfl zX8 (am_w3 wd_889 wd_890 wd_67) d rfl) <|
  an_kd (fun d => an_lift (fun live => ak_dup d rfl)) <|
  an_kd (fun d => nk_callI metX8_init rfl hy_X8_init (am_w4 wd_67 wd_891 wd_892 wd_893) (by decide) d rfl) <|
  an_kd (fun d => an_lift (fun live => ak_astore_n d rfl rfl)) <|
  an_kd (fun d => an_lift (fun live => ak_iconst d (by decide +kernel) rfl)) <|
  an_kd (fun d => an_lift (fun live => ak_istore_n d rfl rfl)) <| an_kdn
set_option maxRecDepth 100000 in
set_option maxHeartbeats 4000000 in
theorem segL_A (Ln : Nat) (xs : Nat → Int32) : an_wp (kL_A Ln xs) (lawT 0 (an_Ef, 66, 18779, an_Mf)) 120 (an_go (kL_A Ln xs) 0) [(0, .ref 2000)] [] (an_E0, 0, 0, an_M0) := by
    repeat' (first | apply And.intro | exact rfl | (intro hx; exact absurd hx (by decide)) | (intro hx; exact absurd (by decide) hx) | decide | intro hx | (refine Exists.intro _ (And.intro rfl ?_)))
    all_goals try first | (with_reducible change am_tI _ _) | (change Ret _ _) | (change Ret _ _ _) | (change Exists _)
    all_goals try dsimp only at *
    all_goals try (with_reducible exact absurd ‹(1000 : Int64) = 0› am_z1000)
theorem dL_law_18 : decode cL_law 18 = .ok (.iload_n 3, 1) := by decide +kernel
theorem dL_law_19 : decode cL_law 19 = .ok (.aload_n 0, 1) := by decide +kernel
theorem dL_law_20 : decode cL_law 20 = .ok (.arraylength, 1) := by decide +kernel
theorem dL_law_21 : decode cL_law 21 = .ok (.bipush 8, 2) := by decide +kernel
theorem dL_law_23 : decode cL_law 23 = .ok (.isub, 1) := by decide +kernel
theorem dL_law_24 : decode cL_law 24 = .ok (.if_icmp .gt 1823, 3) := by decide +kernel
theorem dL_law_27 : decode cL_law 27 = .ok (.aload_n 0, 1) := by decide +kernel
theorem dL_law_28 : decode cL_law 28 = .ok (.iload_n 3, 1) := by decide +kernel
theorem dL_law_29 : decode cL_law 29 = .ok (.iaload, 1) := by decide +kernel
theorem dL_law_30 : decode cL_law 30 = .ok (.bipush 63, 2) := by decide +kernel
theorem dL_law_32 : decode cL_law 32 = .ok (.iand, 1) := by decide +kernel
theorem dL_law_33 : decode cL_law 33 = .ok (.tableswitch 1808 0 36 #[163, 186, 239, 272, 305, 338, 391, 444, 487, 562, 615, 694, 727, 770, 803, 856, 909, 952, 995, 1028, 1051, 1074, 1117, 1160, 1213, 1266, 1319, 1382, 1445, 1520, 1583, 1606, 1619, 1726, 1749, 1772, 1795], 163) := by decide +kernel
def kL_B (Ln : Nat) (xs : Nat → Int32) : an_code := [(18, an_lf (fun live => am_iload 3 19)), (19, an_lf (fun live => am_aload 0 20)), (20, an_slen Ln 21), (21, an_lf (fun live => am_const (.int 8) 23)), (23, an_lf (fun live => am_i2 (fun x y => x - y) 24)), (24, an_lf (fun live => am_if2 (fun x y => y < x) 1847 27)), (27, an_lf (fun live => am_aload 0 28)), (28, an_lf (fun live => am_iload 3 29)), (29, an_sld Ln xs 30), (30, an_lf (fun live => am_const (.int 63) 32)), (32, an_lf (fun live => am_i2 (fun x y => x &&& y) 33)), (33, an_lf (fun live => am_switch [(0, 196), (1, 219), (2, 272), (3, 305), (4, 338), (5, 371), (6, 424), (7, 477), (8, 520), (9, 595), (10, 648), (11, 727), (12, 760), (13, 803), (14, 836), (15, 889), (16, 942), (17, 985), (18, 1028), (19, 1061), (20, 1084), (21, 1107), (22, 1150), (23, 1193), (24, 1246), (25, 1299), (26, 1352), (27, 1415), (28, 1478), (29, 1553), (30, 1616), (31, 1639), (32, 1652), (33, 1759), (34, 1782), (35, 1805), (36, 1828)] 1841))]
theorem koL_B (Ln : Nat) (xs : Nat → Int32) : ∀ q ∈ kL_B Ln xs, an_ok RL cL_law 4 (some .boolean) 2000 80000 600000 7302250 false (lawP Ln xs) an_noR q.1 q.2 :=
  an_kc (an_lift (fun live => ak_iload_n dL_law_18 rfl rfl)) <|
  an_kc (an_lift (fun live => ak_aload_n dL_law_19 rfl rfl)) <|
  an_kc (nk_slen dL_law_20 rfl) <|
  an_kc (an_lift (fun live => ak_bipush dL_law_21 (by decide +kernel) rfl)) <|
  an_kc (an_lift (fun live => ak_isub dL_law_23 rfl)) <|
  an_kc (an_lift (fun live => ak_icmp_gt dL_law_24 (by decide +kernel) rfl)) <|
  an_kc (an_lift (fun live => ak_aload_n dL_law_27 rfl rfl)) <|
  an_kc (an_lift (fun live => ak_iload_n dL_law_28 rfl rfl)) <|
  an_kc (nk_sld dL_law_29 rfl) <|
  an_kc (an_lift (fun live => ak_bipush dL_law_30 (by decide +kernel) rfl)) <|
  an_kc (an_lift (fun live => ak_iand dL_law_32 rfl)) <|
  an_kc (an_lift (fun live => ak_tswitch dL_law_33 (by decide +kernel) (by decide +kernel) (by decide +kernel) (by decide +kernel) (by decide +kernel) (by decide +kernel))) <| an_kn
set_option maxRecDepth 100000 in
set_option maxHeartbeats 4000000 in
theorem segL_B {Ln : Nat} (xs : Nat → Int32) {i : Int32} (X : am_X) (hz : ¬ Int32.ofNat Ln - 8 < i) (hi : am_in i Ln) : an_wp (kL_B Ln xs) (lawB i X) 120 (an_go (kL_B Ln xs) 18) (lawL i) [] X := by
    obtain ⟨E, k, n, M⟩ := X
    repeat' (first | (with_reducible exact hi) | apply And.intro | exact rfl | (intro hx; with_reducible exact absurd hx hz) | intro hx | (refine Exists.intro _ (And.intro rfl ?_)))
    all_goals try first | (with_reducible change am_tI _ _) | (change Ret _ _) | (change Ret _ _ _) | (change Exists _)
    all_goals try dsimp only at *
    all_goals try (with_reducible exact absurd ‹(1000 : Int64) = 0› am_z1000)
    all_goals first | (with_reducible exact hi.1) | (with_reducible exact hi.2) | exact hi.1 | exact hi.2 | skip
set_option maxRecDepth 100000 in
set_option maxHeartbeats 4000000 in
theorem segL_B2 {Ln : Nat} (xs : Nat → Int32) {i : Int32} (X : am_X) (hz : Int32.ofNat Ln - 8 < i) : an_wp (kL_B Ln xs) lawZ 120 (an_go (kL_B Ln xs) 18) (lawL i) [] X := by
    obtain ⟨E, k, n, M⟩ := X
    repeat' (first | apply And.intro | exact rfl | (intro hx; with_reducible exact absurd hz hx) | intro hx | (refine Exists.intro _ (And.intro rfl ?_)))
    all_goals try first | (with_reducible change am_tI _ _) | (change Ret _ _) | (change Ret _ _ _) | (change Exists _)
    all_goals try dsimp only at *
    all_goals try (with_reducible exact absurd ‹(1000 : Int64) = 0› am_z1000)
