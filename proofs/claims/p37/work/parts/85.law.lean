/-! the law: cases 12 to 17 -/
def rwL_c12 : List dz_r := [(760, .aload_n 1, 1), (761, .aload_n 0, 1), (762, .iload_n 3, 1), (763, .iconst 1, 1), (764, .iadd, 1), (765, .iaload, 1), (766, .aload_n 0, 1), (767, .iload_n 3, 1), (768, .iconst 2, 1), (769, .iadd, 1), (770, .iaload, 1), (771, .aload_n 0, 1), (772, .iload_n 3, 1), (773, .iconst 3, 1), (774, .iadd, 1), (775, .iaload, 1), (776, .invokevirtual 67, 3), (779, .pop, 1), (780, .aload_n 2, 1), (781, .aload_n 0, 1), (782, .iload_n 3, 1), (783, .iconst 1, 1), (784, .iadd, 1), (785, .iaload, 1), (786, .aload_n 0, 1), (787, .iload_n 3, 1), (788, .iconst 2, 1), (789, .iadd, 1), (790, .iaload, 1), (791, .aload_n 0, 1), (792, .iload_n 3, 1), (793, .iconst 3, 1), (794, .iadd, 1), (795, .iaload, 1), (796, .invokevirtual 70, 3), (799, .pop, 1), (800, .goto 1041, 3)]
theorem dzL_c12 : dz cL_law rwL_c12 := dz_all 760 (by decide +kernel)
theorem hy_X7_move : yX7_move.cls ≠ "java/lang/invoke/MethodHandle" ∧ yX7_move.cls ≠ "java/lang/invoke/VarHandle" ∧ (parseMethodDescriptor yX7_move.desc).map (fun d => d.parameters.length) = some 3 := ⟨by decide +kernel, by decide +kernel, by decide +kernel⟩
set_option maxRecDepth 100000 in
theorem wd_533 : Cond.methodLink "LearnLoansLaw" 67 yX7_move ∈ am_ws := am_wt2 (List.mem_of_getElem? (i := 236) (by rfl)) (by decide +kernel)
set_option maxRecDepth 100000 in
theorem wd_534 : Cond.instanceMethod yX7_move ∈ am_ws := am_wt2 (List.mem_of_getElem? (i := 237) (by rfl)) (by decide +kernel)
set_option maxRecDepth 100000 in
theorem wd_535 : Cond.selects "LearnLoans" yX7_move yX7_move ∈ am_ws := am_wt2 (List.mem_of_getElem? (i := 238) (by rfl)) (by decide +kernel)
set_option maxRecDepth 100000 in
theorem wd_536 : Cond.code yX7_move cX7_move 4 (some .int) ∈ am_ws := am_wt2 (List.mem_of_getElem? (i := 239) (by rfl)) (by decide +kernel)
theorem hy_X8_move : yX8_move.cls ≠ "java/lang/invoke/MethodHandle" ∧ yX8_move.cls ≠ "java/lang/invoke/VarHandle" ∧ (parseMethodDescriptor yX8_move.desc).map (fun d => d.parameters.length) = some 3 := ⟨by decide +kernel, by decide +kernel, by decide +kernel⟩
set_option maxRecDepth 100000 in
theorem wd_1077 : Cond.methodLink "LearnLoansLaw" 70 yX8_move ∈ am_ws := am_wt5 (List.mem_of_getElem? (i := 60) (by rfl)) (by decide +kernel)
set_option maxRecDepth 100000 in
theorem wd_1078 : Cond.instanceMethod yX8_move ∈ am_ws := am_wt5 (List.mem_of_getElem? (i := 61) (by rfl)) (by decide +kernel)
set_option maxRecDepth 100000 in
theorem wd_1079 : Cond.selects "LearnLoansModel" yX8_move yX8_move ∈ am_ws := am_wt5 (List.mem_of_getElem? (i := 62) (by rfl)) (by decide +kernel)
set_option maxRecDepth 100000 in
theorem wd_1080 : Cond.code yX8_move cX8_move 5 (some .int) ∈ am_ws := am_wt5 (List.mem_of_getElem? (i := 63) (by rfl)) (by decide +kernel)
def kL_c12 (Ln : Nat) (xs : Nat → Int32) : an_code := [(760, an_lf (fun live => am_aload 1 761)), (761, an_lf (fun live => am_aload 0 762)), (762, an_lf (fun live => am_iload 3 763)), (763, an_lf (fun live => am_const (.int 1) 764)), (764, an_lf (fun live => am_i2 (fun x y => x + y) 765)), (765, an_sld Ln xs 766), (766, an_lf (fun live => am_aload 0 767)), (767, an_lf (fun live => am_iload 3 768)), (768, an_lf (fun live => am_const (.int 2) 769)), (769, an_lf (fun live => am_i2 (fun x y => x + y) 770)), (770, an_sld Ln xs 771), (771, an_lf (fun live => am_aload 0 772)), (772, an_lf (fun live => am_iload 3 773)), (773, an_lf (fun live => am_const (.int 3) 774)), (774, an_lf (fun live => am_i2 (fun x y => x + y) 775)), (775, an_sld Ln xs 776), (776, an_lf (fun live => am_callV live 7 3 TW_move 779)), (779, an_lf (fun live => am_pop 780)), (780, an_lf (fun live => am_aload 2 781)), (781, an_lf (fun live => am_aload 0 782)), (782, an_lf (fun live => am_iload 3 783)), (783, an_lf (fun live => am_const (.int 1) 784)), (784, an_lf (fun live => am_i2 (fun x y => x + y) 785)), (785, an_sld Ln xs 786), (786, an_lf (fun live => am_aload 0 787)), (787, an_lf (fun live => am_iload 3 788)), (788, an_lf (fun live => am_const (.int 2) 789)), (789, an_lf (fun live => am_i2 (fun x y => x + y) 790)), (790, an_sld Ln xs 791), (791, an_lf (fun live => am_aload 0 792)), (792, an_lf (fun live => am_iload 3 793)), (793, an_lf (fun live => am_const (.int 3) 794)), (794, an_lf (fun live => am_i2 (fun x y => x + y) 795)), (795, an_sld Ln xs 796), (796, an_lf (fun live => am_callV live 8 3 TX8_move 799)), (799, an_lf (fun live => am_pop 800)), (800, an_lf (fun live => am_goto 1841))]
theorem koL_c12 (Ln : Nat) (xs : Nat → Int32) : ∀ q ∈ kL_c12 Ln xs, an_ok RL cL_law 4 (some .boolean) 2000 80000 600000 7302250 false (lawP Ln xs) an_noR q.1 q.2 :=
  am_kz dzL_c12 <|
  an_kd (fun d => an_lift (fun live => ak_aload_n d rfl rfl)) <|
  an_kd (fun d => an_lift (fun live => ak_aload_n d rfl rfl)) <|
  an_kd (fun d => an_lift (fun live => ak_iload_n d rfl rfl)) <|
  an_kd (fun d => an_lift (fun live => ak_iconst d (by decide +kernel) rfl)) <|
  an_kd (fun d => an_lift (fun live => ak_iadd d rfl)) <|
  an_kd (fun d => nk_sld d rfl) <|
  an_kd (fun d => an_lift (fun live => ak_aload_n d rfl rfl)) <|
  an_kd (fun d => an_lift (fun live => ak_iload_n d rfl rfl)) <|
  an_kd (fun d => an_lift (fun live => ak_iconst d (by decide +kernel) rfl)) <|
  an_kd (fun d => an_lift (fun live => ak_iadd d rfl)) <|
  an_kd (fun d => nk_sld d rfl) <|
  an_kd (fun d => an_lift (fun live => ak_aload_n d rfl rfl)) <|
  an_kd (fun d => an_lift (fun live => ak_iload_n d rfl rfl)) <|
  an_kd (fun d => an_lift (fun live => ak_iconst d (by decide +kernel) rfl)) <|
  an_kd (fun d => an_lift (fun live => ak_iadd d rfl)) <|
  an_kd (fun d => nk_sld d rfl) <|
  an_kd (fun d => an_lift (fun live => ak_callV (C := RX7) (F := TX7) (N := 4) metW_move rfl ⟨rfl, hy_X7_move⟩ (am_w5 wd_533 wd_534 wd_535 wd_58 wd_536) (by decide) d rfl)) <|
  an_kd (fun d => an_lift (fun live => ak_pop d rfl)) <|
  an_kd (fun d => an_lift (fun live => ak_aload_n d rfl rfl)) <|
  an_kd (fun d => an_lift (fun live => ak_aload_n d rfl rfl)) <|
  an_kd (fun d => an_lift (fun live => ak_iload_n d rfl rfl)) <|
  an_kd (fun d => an_lift (fun live => ak_iconst d (by decide +kernel) rfl)) <|
  an_kd (fun d => an_lift (fun live => ak_iadd d rfl)) <|
  an_kd (fun d => nk_sld d rfl) <|
  an_kd (fun d => an_lift (fun live => ak_aload_n d rfl rfl)) <|
  an_kd (fun d => an_lift (fun live => ak_iload_n d rfl rfl)) <|
  an_kd (fun d => an_lift (fun live => ak_iconst d (by decide +kernel) rfl)) <|
  an_kd (fun d => an_lift (fun live => ak_iadd d rfl)) <|
  an_kd (fun d => nk_sld d rfl) <|
  an_kd (fun d => an_lift (fun live => ak_aload_n d rfl rfl)) <|
  an_kd (fun d => an_lift (fun live => ak_iload_n d rfl rfl)) <|
  an_kd (fun d => an_lift (fun live => ak_iconst d (by decide +kernel) rfl)) <|
  an_kd (fun d => an_lift (fun live => ak_iadd d rfl)) <|
  an_kd (fun d => nk_sld d rfl) <|
  an_kd (fun d => an_lift (fun live => ak_callV (C := RX8) (F := TX8) (N := 27) metX8_move rfl ⟨rfl, hy_X8_move⟩ (am_w5 wd_1077 wd_1078 wd_1079 wd_67 wd_1080) (by decide) d rfl)) <|
  an_kd (fun d => an_lift (fun live => ak_pop d rfl)) <|
  an_kd (fun d => an_lift (fun live => ak_goto d (by decide +kernel))) <| an_kdn
set_option maxRecDepth 100000 in
set_option maxHeartbeats 4000000 in
theorem caseL_c12 {Ln : Nat} (xs : Nat → Int32) {i : Int32} {i1 i2 : Bool} {kc kn : Nat} {M : am_M} (h : LI i1 i2 M) (hi : lawI Ln i kc kn) : an_wp (kL_c12 Ln xs) (lawC Ln i) 200 (an_go (kL_c12 Ln xs) 760) (lawL i) [] ((am_lv i1 i2, am_q i1 i2), kc, kn, M) := by
    obtain ⟨⟨f1, f2, f3, f4, f5, f6, f7⟩, k1, k2, k3, k4⟩ := hi.f
    have hmn : am_mn (am_lv i1 i2, am_q i1 i2) := ⟨_, _, rfl⟩
    repeat' (first | (with_reducible exact f1) | (with_reducible exact f2) | (with_reducible exact f3) | (with_reducible exact f4) | (with_reducible exact f5) | (with_reducible exact f6) | (with_reducible exact f7) | (with_reducible exact hmn) | (with_reducible exact h) | (with_reducible exact k1) | (with_reducible exact k2) | (with_reducible exact k3) | (with_reducible exact k4) | apply And.intro | exact rfl | ((with_reducible change r_I _); (with_reducible assumption)) | (intro hx; exact absurd hx (by decide)) | (intro hx; exact absurd (by decide) hx) | decide | intro hx | (refine Exists.intro _ (And.intro rfl ?_)) | (refine Exists.intro _ (Exists.intro _ (And.intro rfl (And.intro rfl ?_)))) | ((with_reducible change LI _ _ _); (with_reducible assumption)) | ((with_reducible change _ = true); simp only [k1, k2, k3, k4, Bool.true_and]; rfl))
    all_goals try first | (with_reducible change am_tI _ _) | (change Ret _ _) | (change Ret _ _ _) | (change Exists _)
    all_goals try dsimp only at *
    all_goals try (with_reducible exact absurd ‹(1000 : Int64) = 0› am_z1000)
    all_goals first
      | exact ⟨_, _, rfl⟩
      | exact lawE.mk hi (by with_reducible assumption) (by omega) (by omega)
      | skip
def rwL_c13 : List dz_r := [(803, .aload_n 1, 1), (804, .aload_n 0, 1), (805, .iload_n 3, 1), (806, .iconst 1, 1), (807, .iadd, 1), (808, .iaload, 1), (809, .aload_n 0, 1), (810, .iload_n 3, 1), (811, .iconst 2, 1), (812, .iadd, 1), (813, .iaload, 1), (814, .invokevirtual 71, 3), (817, .pop, 1), (818, .aload_n 2, 1), (819, .aload_n 0, 1), (820, .iload_n 3, 1), (821, .iconst 1, 1), (822, .iadd, 1), (823, .iaload, 1), (824, .aload_n 0, 1), (825, .iload_n 3, 1), (826, .iconst 2, 1), (827, .iadd, 1), (828, .iaload, 1), (829, .invokevirtual 74, 3), (832, .pop, 1), (833, .goto 1008, 3)]
theorem dzL_c13 : dz cL_law rwL_c13 := dz_all 803 (by decide +kernel)
theorem hy_X7_planOf : yX7_planOf.cls ≠ "java/lang/invoke/MethodHandle" ∧ yX7_planOf.cls ≠ "java/lang/invoke/VarHandle" ∧ (parseMethodDescriptor yX7_planOf.desc).map (fun d => d.parameters.length) = some 2 := ⟨by decide +kernel, by decide +kernel, by decide +kernel⟩
set_option maxRecDepth 100000 in
theorem wd_537 : Cond.methodLink "LearnLoansLaw" 71 yX7_planOf ∈ am_ws := am_wt3 (List.mem_of_getElem? (i := 0) (by rfl)) (by decide +kernel)
set_option maxRecDepth 100000 in
theorem wd_538 : Cond.instanceMethod yX7_planOf ∈ am_ws := am_wt3 (List.mem_of_getElem? (i := 1) (by rfl)) (by decide +kernel)
set_option maxRecDepth 100000 in
theorem wd_539 : Cond.selects "LearnLoans" yX7_planOf yX7_planOf ∈ am_ws := am_wt3 (List.mem_of_getElem? (i := 2) (by rfl)) (by decide +kernel)
set_option maxRecDepth 100000 in
theorem wd_540 : Cond.code yX7_planOf cX7_planOf 3 (some .int) ∈ am_ws := am_wt3 (List.mem_of_getElem? (i := 3) (by rfl)) (by decide +kernel)
theorem hy_X8_planOf : yX8_planOf.cls ≠ "java/lang/invoke/MethodHandle" ∧ yX8_planOf.cls ≠ "java/lang/invoke/VarHandle" ∧ (parseMethodDescriptor yX8_planOf.desc).map (fun d => d.parameters.length) = some 2 := ⟨by decide +kernel, by decide +kernel, by decide +kernel⟩
set_option maxRecDepth 100000 in
theorem wd_1081 : Cond.methodLink "LearnLoansLaw" 74 yX8_planOf ∈ am_ws := am_wt5 (List.mem_of_getElem? (i := 64) (by rfl)) (by decide +kernel)
set_option maxRecDepth 100000 in
theorem wd_1082 : Cond.instanceMethod yX8_planOf ∈ am_ws := am_wt5 (List.mem_of_getElem? (i := 65) (by rfl)) (by decide +kernel)
set_option maxRecDepth 100000 in
theorem wd_1083 : Cond.selects "LearnLoansModel" yX8_planOf yX8_planOf ∈ am_ws := am_wt5 (List.mem_of_getElem? (i := 66) (by rfl)) (by decide +kernel)
set_option maxRecDepth 100000 in
theorem wd_1084 : Cond.code yX8_planOf cX8_planOf 3 (some .int) ∈ am_ws := am_wt5 (List.mem_of_getElem? (i := 67) (by rfl)) (by decide +kernel)
def kL_c13 (Ln : Nat) (xs : Nat → Int32) : an_code := [(803, an_lf (fun live => am_aload 1 804)), (804, an_lf (fun live => am_aload 0 805)), (805, an_lf (fun live => am_iload 3 806)), (806, an_lf (fun live => am_const (.int 1) 807)), (807, an_lf (fun live => am_i2 (fun x y => x + y) 808)), (808, an_sld Ln xs 809), (809, an_lf (fun live => am_aload 0 810)), (810, an_lf (fun live => am_iload 3 811)), (811, an_lf (fun live => am_const (.int 2) 812)), (812, an_lf (fun live => am_i2 (fun x y => x + y) 813)), (813, an_sld Ln xs 814), (814, an_lf (fun live => am_callV live 7 2 TW_planOf 817)), (817, an_lf (fun live => am_pop 818)), (818, an_lf (fun live => am_aload 2 819)), (819, an_lf (fun live => am_aload 0 820)), (820, an_lf (fun live => am_iload 3 821)), (821, an_lf (fun live => am_const (.int 1) 822)), (822, an_lf (fun live => am_i2 (fun x y => x + y) 823)), (823, an_sld Ln xs 824), (824, an_lf (fun live => am_aload 0 825)), (825, an_lf (fun live => am_iload 3 826)), (826, an_lf (fun live => am_const (.int 2) 827)), (827, an_lf (fun live => am_i2 (fun x y => x + y) 828)), (828, an_sld Ln xs 829), (829, an_lf (fun live => am_callV live 8 2 TV_planOf 832)), (832, an_lf (fun live => am_pop 833)), (833, an_lf (fun live => am_goto 1841))]
theorem koL_c13 (Ln : Nat) (xs : Nat → Int32) : ∀ q ∈ kL_c13 Ln xs, an_ok RL cL_law 4 (some .boolean) 2000 80000 600000 7302250 false (lawP Ln xs) an_noR q.1 q.2 :=
  am_kz dzL_c13 <|
  an_kd (fun d => an_lift (fun live => ak_aload_n d rfl rfl)) <|
  an_kd (fun d => an_lift (fun live => ak_aload_n d rfl rfl)) <|
  an_kd (fun d => an_lift (fun live => ak_iload_n d rfl rfl)) <|
  an_kd (fun d => an_lift (fun live => ak_iconst d (by decide +kernel) rfl)) <|
  an_kd (fun d => an_lift (fun live => ak_iadd d rfl)) <|
  an_kd (fun d => nk_sld d rfl) <|
  an_kd (fun d => an_lift (fun live => ak_aload_n d rfl rfl)) <|
  an_kd (fun d => an_lift (fun live => ak_iload_n d rfl rfl)) <|
  an_kd (fun d => an_lift (fun live => ak_iconst d (by decide +kernel) rfl)) <|
  an_kd (fun d => an_lift (fun live => ak_iadd d rfl)) <|
  an_kd (fun d => nk_sld d rfl) <|
  an_kd (fun d => an_lift (fun live => ak_callV (C := RX7) (F := TX7) (N := 4) metW_planOf rfl ⟨rfl, hy_X7_planOf⟩ (am_w5 wd_537 wd_538 wd_539 wd_58 wd_540) (by decide) d rfl)) <|
  an_kd (fun d => an_lift (fun live => ak_pop d rfl)) <|
  an_kd (fun d => an_lift (fun live => ak_aload_n d rfl rfl)) <|
  an_kd (fun d => an_lift (fun live => ak_aload_n d rfl rfl)) <|
  an_kd (fun d => an_lift (fun live => ak_iload_n d rfl rfl)) <|
  an_kd (fun d => an_lift (fun live => ak_iconst d (by decide +kernel) rfl)) <|
  an_kd (fun d => an_lift (fun live => ak_iadd d rfl)) <|
  an_kd (fun d => nk_sld d rfl) <|
  an_kd (fun d => an_lift (fun live => ak_aload_n d rfl rfl)) <|
  an_kd (fun d => an_lift (fun live => ak_iload_n d rfl rfl)) <|
  an_kd (fun d => an_lift (fun live => ak_iconst d (by decide +kernel) rfl)) <|
  an_kd (fun d => an_lift (fun live => ak_iadd d rfl)) <|
  an_kd (fun d => nk_sld d rfl) <|
  an_kd (fun d => an_lift (fun live => ak_callV (C := RX8) (F := TX8) (N := 27) metV_planOf rfl ⟨rfl, hy_X8_planOf⟩ (am_w5 wd_1081 wd_1082 wd_1083 wd_67 wd_1084) (by decide) d rfl)) <|
  an_kd (fun d => an_lift (fun live => ak_pop d rfl)) <|
  an_kd (fun d => an_lift (fun live => ak_goto d (by decide +kernel))) <| an_kdn
set_option maxRecDepth 100000 in
set_option maxHeartbeats 4000000 in
theorem caseL_c13 {Ln : Nat} (xs : Nat → Int32) {i : Int32} {i1 i2 : Bool} {kc kn : Nat} {M : am_M} (h : LI i1 i2 M) (hi : lawI Ln i kc kn) : an_wp (kL_c13 Ln xs) (lawC Ln i) 200 (an_go (kL_c13 Ln xs) 803) (lawL i) [] ((am_lv i1 i2, am_q i1 i2), kc, kn, M) := by
    obtain ⟨⟨f1, f2, f3, f4, f5, f6, f7⟩, k1, k2, k3, k4⟩ := hi.f
    have hmn : am_mn (am_lv i1 i2, am_q i1 i2) := ⟨_, _, rfl⟩
    repeat' (first | (with_reducible exact f1) | (with_reducible exact f2) | (with_reducible exact f3) | (with_reducible exact f4) | (with_reducible exact f5) | (with_reducible exact f6) | (with_reducible exact f7) | (with_reducible exact hmn) | (with_reducible exact h) | (with_reducible exact k1) | (with_reducible exact k2) | (with_reducible exact k3) | (with_reducible exact k4) | apply And.intro | exact rfl | ((with_reducible change r_I _); (with_reducible assumption)) | (intro hx; exact absurd hx (by decide)) | (intro hx; exact absurd (by decide) hx) | decide | intro hx | (refine Exists.intro _ (And.intro rfl ?_)) | (refine Exists.intro _ (Exists.intro _ (And.intro rfl (And.intro rfl ?_)))) | ((with_reducible change LI _ _ _); (with_reducible assumption)) | ((with_reducible change _ = true); simp only [k1, k2, k3, k4, Bool.true_and]; rfl))
    all_goals try first | (with_reducible change am_tI _ _) | (change Ret _ _) | (change Ret _ _ _) | (change Exists _)
    all_goals try dsimp only at *
    all_goals try (with_reducible exact absurd ‹(1000 : Int64) = 0› am_z1000)
    all_goals first
      | exact ⟨_, _, rfl⟩
      | exact lawE.mk hi (by with_reducible assumption) (by omega) (by omega)
      | skip
def rwL_c14 : List dz_r := [(836, .aload_n 1, 1), (837, .aload_n 0, 1), (838, .iload_n 3, 1), (839, .iconst 1, 1), (840, .iadd, 1), (841, .iaload, 1), (842, .aload_n 0, 1), (843, .iload_n 3, 1), (844, .iconst 2, 1), (845, .iadd, 1), (846, .iaload, 1), (847, .aload_n 0, 1), (848, .iload_n 3, 1), (849, .iconst 3, 1), (850, .iadd, 1), (851, .iaload, 1), (852, .aload_n 0, 1), (853, .iload_n 3, 1), (854, .iconst 4, 1), (855, .iadd, 1), (856, .iaload, 1), (857, .invokevirtual 75, 3), (860, .pop2, 1), (861, .aload_n 2, 1), (862, .aload_n 0, 1), (863, .iload_n 3, 1), (864, .iconst 1, 1), (865, .iadd, 1), (866, .iaload, 1), (867, .aload_n 0, 1), (868, .iload_n 3, 1), (869, .iconst 2, 1), (870, .iadd, 1), (871, .iaload, 1), (872, .aload_n 0, 1), (873, .iload_n 3, 1), (874, .iconst 3, 1), (875, .iadd, 1), (876, .iaload, 1), (877, .aload_n 0, 1), (878, .iload_n 3, 1), (879, .iconst 4, 1), (880, .iadd, 1), (881, .iaload, 1), (882, .invokevirtual 79, 3), (885, .pop2, 1), (886, .goto 955, 3)]
theorem dzL_c14 : dz cL_law rwL_c14 := dz_all 836 (by decide +kernel)
theorem hy_X7_owes : yX7_owes.cls ≠ "java/lang/invoke/MethodHandle" ∧ yX7_owes.cls ≠ "java/lang/invoke/VarHandle" ∧ (parseMethodDescriptor yX7_owes.desc).map (fun d => d.parameters.length) = some 4 := ⟨by decide +kernel, by decide +kernel, by decide +kernel⟩
set_option maxRecDepth 100000 in
theorem wd_541 : Cond.methodLink "LearnLoansLaw" 75 yX7_owes ∈ am_ws := am_wt3 (List.mem_of_getElem? (i := 4) (by rfl)) (by decide +kernel)
set_option maxRecDepth 100000 in
theorem wd_542 : Cond.instanceMethod yX7_owes ∈ am_ws := am_wt3 (List.mem_of_getElem? (i := 5) (by rfl)) (by decide +kernel)
set_option maxRecDepth 100000 in
theorem wd_543 : Cond.selects "LearnLoans" yX7_owes yX7_owes ∈ am_ws := am_wt3 (List.mem_of_getElem? (i := 6) (by rfl)) (by decide +kernel)
set_option maxRecDepth 100000 in
theorem wd_544 : Cond.code yX7_owes cX7_owes 5 (some .long) ∈ am_ws := am_wt3 (List.mem_of_getElem? (i := 7) (by rfl)) (by decide +kernel)
theorem hy_X8_owes : yX8_owes.cls ≠ "java/lang/invoke/MethodHandle" ∧ yX8_owes.cls ≠ "java/lang/invoke/VarHandle" ∧ (parseMethodDescriptor yX8_owes.desc).map (fun d => d.parameters.length) = some 4 := ⟨by decide +kernel, by decide +kernel, by decide +kernel⟩
set_option maxRecDepth 100000 in
theorem wd_1149 : Cond.methodLink "LearnLoansLaw" 79 yX8_owes ∈ am_ws := am_wt5 (List.mem_of_getElem? (i := 132) (by rfl)) (by decide +kernel)
set_option maxRecDepth 100000 in
theorem wd_1150 : Cond.instanceMethod yX8_owes ∈ am_ws := am_wt5 (List.mem_of_getElem? (i := 133) (by rfl)) (by decide +kernel)
set_option maxRecDepth 100000 in
theorem wd_1151 : Cond.selects "LearnLoansModel" yX8_owes yX8_owes ∈ am_ws := am_wt5 (List.mem_of_getElem? (i := 134) (by rfl)) (by decide +kernel)
set_option maxRecDepth 100000 in
theorem wd_1152 : Cond.code yX8_owes cX8_owes 5 (some .long) ∈ am_ws := am_wt5 (List.mem_of_getElem? (i := 135) (by rfl)) (by decide +kernel)
def kL_c14 (Ln : Nat) (xs : Nat → Int32) : an_code := [(836, an_lf (fun live => am_aload 1 837)), (837, an_lf (fun live => am_aload 0 838)), (838, an_lf (fun live => am_iload 3 839)), (839, an_lf (fun live => am_const (.int 1) 840)), (840, an_lf (fun live => am_i2 (fun x y => x + y) 841)), (841, an_sld Ln xs 842), (842, an_lf (fun live => am_aload 0 843)), (843, an_lf (fun live => am_iload 3 844)), (844, an_lf (fun live => am_const (.int 2) 845)), (845, an_lf (fun live => am_i2 (fun x y => x + y) 846)), (846, an_sld Ln xs 847), (847, an_lf (fun live => am_aload 0 848)), (848, an_lf (fun live => am_iload 3 849)), (849, an_lf (fun live => am_const (.int 3) 850)), (850, an_lf (fun live => am_i2 (fun x y => x + y) 851)), (851, an_sld Ln xs 852), (852, an_lf (fun live => am_aload 0 853)), (853, an_lf (fun live => am_iload 3 854)), (854, an_lf (fun live => am_const (.int 4) 855)), (855, an_lf (fun live => am_i2 (fun x y => x + y) 856)), (856, an_sld Ln xs 857), (857, an_lf (fun live => am_callV live 7 4 TW_owes 860)), (860, an_lf (fun live => am_pop2 861)), (861, an_lf (fun live => am_aload 2 862)), (862, an_lf (fun live => am_aload 0 863)), (863, an_lf (fun live => am_iload 3 864)), (864, an_lf (fun live => am_const (.int 1) 865)), (865, an_lf (fun live => am_i2 (fun x y => x + y) 866)), (866, an_sld Ln xs 867), (867, an_lf (fun live => am_aload 0 868)), (868, an_lf (fun live => am_iload 3 869)), (869, an_lf (fun live => am_const (.int 2) 870)), (870, an_lf (fun live => am_i2 (fun x y => x + y) 871)), (871, an_sld Ln xs 872), (872, an_lf (fun live => am_aload 0 873)), (873, an_lf (fun live => am_iload 3 874)), (874, an_lf (fun live => am_const (.int 3) 875)), (875, an_lf (fun live => am_i2 (fun x y => x + y) 876)), (876, an_sld Ln xs 877), (877, an_lf (fun live => am_aload 0 878)), (878, an_lf (fun live => am_iload 3 879)), (879, an_lf (fun live => am_const (.int 4) 880)), (880, an_lf (fun live => am_i2 (fun x y => x + y) 881)), (881, an_sld Ln xs 882), (882, an_lf (fun live => am_callV live 8 4 TV_owes 885)), (885, an_lf (fun live => am_pop2 886)), (886, an_lf (fun live => am_goto 1841))]
theorem koL_c14 (Ln : Nat) (xs : Nat → Int32) : ∀ q ∈ kL_c14 Ln xs, an_ok RL cL_law 4 (some .boolean) 2000 80000 600000 7302250 false (lawP Ln xs) an_noR q.1 q.2 :=
  am_kz dzL_c14 <|
  an_kd (fun d => an_lift (fun live => ak_aload_n d rfl rfl)) <|
  an_kd (fun d => an_lift (fun live => ak_aload_n d rfl rfl)) <|
  an_kd (fun d => an_lift (fun live => ak_iload_n d rfl rfl)) <|
  an_kd (fun d => an_lift (fun live => ak_iconst d (by decide +kernel) rfl)) <|
  an_kd (fun d => an_lift (fun live => ak_iadd d rfl)) <|
  an_kd (fun d => nk_sld d rfl) <|
  an_kd (fun d => an_lift (fun live => ak_aload_n d rfl rfl)) <|
  an_kd (fun d => an_lift (fun live => ak_iload_n d rfl rfl)) <|
  an_kd (fun d => an_lift (fun live => ak_iconst d (by decide +kernel) rfl)) <|
  an_kd (fun d => an_lift (fun live => ak_iadd d rfl)) <|
  an_kd (fun d => nk_sld d rfl) <|
  an_kd (fun d => an_lift (fun live => ak_aload_n d rfl rfl)) <|
  an_kd (fun d => an_lift (fun live => ak_iload_n d rfl rfl)) <|
  an_kd (fun d => an_lift (fun live => ak_iconst d (by decide +kernel) rfl)) <|
  an_kd (fun d => an_lift (fun live => ak_iadd d rfl)) <|
  an_kd (fun d => nk_sld d rfl) <|
  an_kd (fun d => an_lift (fun live => ak_aload_n d rfl rfl)) <|
  an_kd (fun d => an_lift (fun live => ak_iload_n d rfl rfl)) <|
  an_kd (fun d => an_lift (fun live => ak_iconst d (by decide +kernel) rfl)) <|
  an_kd (fun d => an_lift (fun live => ak_iadd d rfl)) <|
  an_kd (fun d => nk_sld d rfl) <|
  an_kd (fun d => an_lift (fun live => ak_callV (C := RX7) (F := TX7) (N := 4) metW_owes rfl ⟨rfl, hy_X7_owes⟩ (am_w5 wd_541 wd_542 wd_543 wd_58 wd_544) (by decide) d rfl)) <|
  an_kd (fun d => an_lift (fun live => ak_pop2 d rfl)) <|
  an_kd (fun d => an_lift (fun live => ak_aload_n d rfl rfl)) <|
  an_kd (fun d => an_lift (fun live => ak_aload_n d rfl rfl)) <|
  an_kd (fun d => an_lift (fun live => ak_iload_n d rfl rfl)) <|
  an_kd (fun d => an_lift (fun live => ak_iconst d (by decide +kernel) rfl)) <|
  an_kd (fun d => an_lift (fun live => ak_iadd d rfl)) <|
  an_kd (fun d => nk_sld d rfl) <|
  an_kd (fun d => an_lift (fun live => ak_aload_n d rfl rfl)) <|
  an_kd (fun d => an_lift (fun live => ak_iload_n d rfl rfl)) <|
  an_kd (fun d => an_lift (fun live => ak_iconst d (by decide +kernel) rfl)) <|
  an_kd (fun d => an_lift (fun live => ak_iadd d rfl)) <|
  an_kd (fun d => nk_sld d rfl) <|
  an_kd (fun d => an_lift (fun live => ak_aload_n d rfl rfl)) <|
  an_kd (fun d => an_lift (fun live => ak_iload_n d rfl rfl)) <|
  an_kd (fun d => an_lift (fun live => ak_iconst d (by decide +kernel) rfl)) <|
  an_kd (fun d => an_lift (fun live => ak_iadd d rfl)) <|
  an_kd (fun d => nk_sld d rfl) <|
  an_kd (fun d => an_lift (fun live => ak_aload_n d rfl rfl)) <|
  an_kd (fun d => an_lift (fun live => ak_iload_n d rfl rfl)) <|
  an_kd (fun d => an_lift (fun live => ak_iconst d (by decide +kernel) rfl)) <|
  an_kd (fun d => an_lift (fun live => ak_iadd d rfl)) <|
  an_kd (fun d => nk_sld d rfl) <|
  an_kd (fun d => an_lift (fun live => ak_callV (C := RX8) (F := TX8) (N := 27) metV_owes rfl ⟨rfl, hy_X8_owes⟩ (am_w5 wd_1149 wd_1150 wd_1151 wd_67 wd_1152) (by decide) d rfl)) <|
  an_kd (fun d => an_lift (fun live => ak_pop2 d rfl)) <|
  an_kd (fun d => an_lift (fun live => ak_goto d (by decide +kernel))) <| an_kdn
set_option maxRecDepth 100000 in
set_option maxHeartbeats 4000000 in
theorem caseL_c14 {Ln : Nat} (xs : Nat → Int32) {i : Int32} {i1 i2 : Bool} {kc kn : Nat} {M : am_M} (h : LI i1 i2 M) (hi : lawI Ln i kc kn) : an_wp (kL_c14 Ln xs) (lawC Ln i) 200 (an_go (kL_c14 Ln xs) 836) (lawL i) [] ((am_lv i1 i2, am_q i1 i2), kc, kn, M) := by
    obtain ⟨⟨f1, f2, f3, f4, f5, f6, f7⟩, k1, k2, k3, k4⟩ := hi.f
    have hmn : am_mn (am_lv i1 i2, am_q i1 i2) := ⟨_, _, rfl⟩
    repeat' (first | (with_reducible exact f1) | (with_reducible exact f2) | (with_reducible exact f3) | (with_reducible exact f4) | (with_reducible exact f5) | (with_reducible exact f6) | (with_reducible exact f7) | (with_reducible exact hmn) | (with_reducible exact h) | (with_reducible exact k1) | (with_reducible exact k2) | (with_reducible exact k3) | (with_reducible exact k4) | apply And.intro | exact rfl | ((with_reducible change r_I _); (with_reducible assumption)) | (intro hx; exact absurd hx (by decide)) | (intro hx; exact absurd (by decide) hx) | decide | intro hx | (refine Exists.intro _ (And.intro rfl ?_)) | (refine Exists.intro _ (Exists.intro _ (And.intro rfl (And.intro rfl ?_)))) | ((with_reducible change LI _ _ _); (with_reducible assumption)) | ((with_reducible change _ = true); simp only [k1, k2, k3, k4, Bool.true_and]; rfl))
    all_goals try first | (with_reducible change am_tI _ _) | (change Ret _ _) | (change Ret _ _ _) | (change Exists _)
    all_goals try dsimp only at *
    all_goals try (with_reducible exact absurd ‹(1000 : Int64) = 0› am_z1000)
    all_goals first
      | exact ⟨_, _, rfl⟩
      | exact lawE.mk hi (by with_reducible assumption) (by omega) (by omega)
      | skip
def rwL_c15 : List dz_r := [(889, .aload_n 1, 1), (890, .aload_n 0, 1), (891, .iload_n 3, 1), (892, .iconst 1, 1), (893, .iadd, 1), (894, .iaload, 1), (895, .aload_n 0, 1), (896, .iload_n 3, 1), (897, .iconst 2, 1), (898, .iadd, 1), (899, .iaload, 1), (900, .aload_n 0, 1), (901, .iload_n 3, 1), (902, .iconst 3, 1), (903, .iadd, 1), (904, .iaload, 1), (905, .aload_n 0, 1), (906, .iload_n 3, 1), (907, .iconst 4, 1), (908, .iadd, 1), (909, .iaload, 1), (910, .invokevirtual 80, 3), (913, .pop2, 1), (914, .aload_n 2, 1), (915, .aload_n 0, 1), (916, .iload_n 3, 1), (917, .iconst 1, 1), (918, .iadd, 1), (919, .iaload, 1), (920, .aload_n 0, 1), (921, .iload_n 3, 1), (922, .iconst 2, 1), (923, .iadd, 1), (924, .iaload, 1), (925, .aload_n 0, 1), (926, .iload_n 3, 1), (927, .iconst 3, 1), (928, .iadd, 1), (929, .iaload, 1), (930, .aload_n 0, 1), (931, .iload_n 3, 1), (932, .iconst 4, 1), (933, .iadd, 1), (934, .iaload, 1), (935, .invokevirtual 83, 3), (938, .pop2, 1), (939, .goto 902, 3)]
theorem dzL_c15 : dz cL_law rwL_c15 := dz_all 889 (by decide +kernel)
theorem hy_X7_all : yX7_all.cls ≠ "java/lang/invoke/MethodHandle" ∧ yX7_all.cls ≠ "java/lang/invoke/VarHandle" ∧ (parseMethodDescriptor yX7_all.desc).map (fun d => d.parameters.length) = some 4 := ⟨by decide +kernel, by decide +kernel, by decide +kernel⟩
set_option maxRecDepth 100000 in
theorem wd_641 : Cond.methodLink "LearnLoansLaw" 80 yX7_all ∈ am_ws := am_wt3 (List.mem_of_getElem? (i := 104) (by rfl)) (by decide +kernel)
set_option maxRecDepth 100000 in
theorem wd_642 : Cond.instanceMethod yX7_all ∈ am_ws := am_wt3 (List.mem_of_getElem? (i := 105) (by rfl)) (by decide +kernel)
set_option maxRecDepth 100000 in
theorem wd_643 : Cond.selects "LearnLoans" yX7_all yX7_all ∈ am_ws := am_wt3 (List.mem_of_getElem? (i := 106) (by rfl)) (by decide +kernel)
set_option maxRecDepth 100000 in
theorem wd_644 : Cond.code yX7_all cX7_all 5 (some .long) ∈ am_ws := am_wt3 (List.mem_of_getElem? (i := 107) (by rfl)) (by decide +kernel)
theorem hy_X8_all : yX8_all.cls ≠ "java/lang/invoke/MethodHandle" ∧ yX8_all.cls ≠ "java/lang/invoke/VarHandle" ∧ (parseMethodDescriptor yX8_all.desc).map (fun d => d.parameters.length) = some 4 := ⟨by decide +kernel, by decide +kernel, by decide +kernel⟩
set_option maxRecDepth 100000 in
theorem wd_1191 : Cond.methodLink "LearnLoansLaw" 83 yX8_all ∈ am_ws := am_wt5 (List.mem_of_getElem? (i := 174) (by rfl)) (by decide +kernel)
set_option maxRecDepth 100000 in
theorem wd_1192 : Cond.instanceMethod yX8_all ∈ am_ws := am_wt5 (List.mem_of_getElem? (i := 175) (by rfl)) (by decide +kernel)
set_option maxRecDepth 100000 in
theorem wd_1193 : Cond.selects "LearnLoansModel" yX8_all yX8_all ∈ am_ws := am_wt5 (List.mem_of_getElem? (i := 176) (by rfl)) (by decide +kernel)
set_option maxRecDepth 100000 in
theorem wd_1194 : Cond.code yX8_all cX8_all 5 (some .long) ∈ am_ws := am_wt5 (List.mem_of_getElem? (i := 177) (by rfl)) (by decide +kernel)
def kL_c15 (Ln : Nat) (xs : Nat → Int32) : an_code := [(889, an_lf (fun live => am_aload 1 890)), (890, an_lf (fun live => am_aload 0 891)), (891, an_lf (fun live => am_iload 3 892)), (892, an_lf (fun live => am_const (.int 1) 893)), (893, an_lf (fun live => am_i2 (fun x y => x + y) 894)), (894, an_sld Ln xs 895), (895, an_lf (fun live => am_aload 0 896)), (896, an_lf (fun live => am_iload 3 897)), (897, an_lf (fun live => am_const (.int 2) 898)), (898, an_lf (fun live => am_i2 (fun x y => x + y) 899)), (899, an_sld Ln xs 900), (900, an_lf (fun live => am_aload 0 901)), (901, an_lf (fun live => am_iload 3 902)), (902, an_lf (fun live => am_const (.int 3) 903)), (903, an_lf (fun live => am_i2 (fun x y => x + y) 904)), (904, an_sld Ln xs 905), (905, an_lf (fun live => am_aload 0 906)), (906, an_lf (fun live => am_iload 3 907)), (907, an_lf (fun live => am_const (.int 4) 908)), (908, an_lf (fun live => am_i2 (fun x y => x + y) 909)), (909, an_sld Ln xs 910), (910, an_lf (fun live => am_callV live 7 4 TW_all 913)), (913, an_lf (fun live => am_pop2 914)), (914, an_lf (fun live => am_aload 2 915)), (915, an_lf (fun live => am_aload 0 916)), (916, an_lf (fun live => am_iload 3 917)), (917, an_lf (fun live => am_const (.int 1) 918)), (918, an_lf (fun live => am_i2 (fun x y => x + y) 919)), (919, an_sld Ln xs 920), (920, an_lf (fun live => am_aload 0 921)), (921, an_lf (fun live => am_iload 3 922)), (922, an_lf (fun live => am_const (.int 2) 923)), (923, an_lf (fun live => am_i2 (fun x y => x + y) 924)), (924, an_sld Ln xs 925), (925, an_lf (fun live => am_aload 0 926)), (926, an_lf (fun live => am_iload 3 927)), (927, an_lf (fun live => am_const (.int 3) 928)), (928, an_lf (fun live => am_i2 (fun x y => x + y) 929)), (929, an_sld Ln xs 930), (930, an_lf (fun live => am_aload 0 931)), (931, an_lf (fun live => am_iload 3 932)), (932, an_lf (fun live => am_const (.int 4) 933)), (933, an_lf (fun live => am_i2 (fun x y => x + y) 934)), (934, an_sld Ln xs 935), (935, an_lf (fun live => am_callV live 8 4 TV_all 938)), (938, an_lf (fun live => am_pop2 939)), (939, an_lf (fun live => am_goto 1841))]
theorem koL_c15 (Ln : Nat) (xs : Nat → Int32) : ∀ q ∈ kL_c15 Ln xs, an_ok RL cL_law 4 (some .boolean) 2000 80000 600000 7302250 false (lawP Ln xs) an_noR q.1 q.2 :=
  am_kz dzL_c15 <|
  an_kd (fun d => an_lift (fun live => ak_aload_n d rfl rfl)) <|
  an_kd (fun d => an_lift (fun live => ak_aload_n d rfl rfl)) <|
  an_kd (fun d => an_lift (fun live => ak_iload_n d rfl rfl)) <|
  an_kd (fun d => an_lift (fun live => ak_iconst d (by decide +kernel) rfl)) <|
  an_kd (fun d => an_lift (fun live => ak_iadd d rfl)) <|
  an_kd (fun d => nk_sld d rfl) <|
  an_kd (fun d => an_lift (fun live => ak_aload_n d rfl rfl)) <|
  an_kd (fun d => an_lift (fun live => ak_iload_n d rfl rfl)) <|
  an_kd (fun d => an_lift (fun live => ak_iconst d (by decide +kernel) rfl)) <|
  an_kd (fun d => an_lift (fun live => ak_iadd d rfl)) <|
  an_kd (fun d => nk_sld d rfl) <|
  an_kd (fun d => an_lift (fun live => ak_aload_n d rfl rfl)) <|
  an_kd (fun d => an_lift (fun live => ak_iload_n d rfl rfl)) <|
  an_kd (fun d => an_lift (fun live => ak_iconst d (by decide +kernel) rfl)) <|
  an_kd (fun d => an_lift (fun live => ak_iadd d rfl)) <|
  an_kd (fun d => nk_sld d rfl) <|
  an_kd (fun d => an_lift (fun live => ak_aload_n d rfl rfl)) <|
  an_kd (fun d => an_lift (fun live => ak_iload_n d rfl rfl)) <|
  an_kd (fun d => an_lift (fun live => ak_iconst d (by decide +kernel) rfl)) <|
  an_kd (fun d => an_lift (fun live => ak_iadd d rfl)) <|
  an_kd (fun d => nk_sld d rfl) <|
  an_kd (fun d => an_lift (fun live => ak_callV (C := RX7) (F := TX7) (N := 4) metW_all rfl ⟨rfl, hy_X7_all⟩ (am_w5 wd_641 wd_642 wd_643 wd_58 wd_644) (by decide) d rfl)) <|
  an_kd (fun d => an_lift (fun live => ak_pop2 d rfl)) <|
  an_kd (fun d => an_lift (fun live => ak_aload_n d rfl rfl)) <|
  an_kd (fun d => an_lift (fun live => ak_aload_n d rfl rfl)) <|
  an_kd (fun d => an_lift (fun live => ak_iload_n d rfl rfl)) <|
  an_kd (fun d => an_lift (fun live => ak_iconst d (by decide +kernel) rfl)) <|
  an_kd (fun d => an_lift (fun live => ak_iadd d rfl)) <|
  an_kd (fun d => nk_sld d rfl) <|
  an_kd (fun d => an_lift (fun live => ak_aload_n d rfl rfl)) <|
  an_kd (fun d => an_lift (fun live => ak_iload_n d rfl rfl)) <|
  an_kd (fun d => an_lift (fun live => ak_iconst d (by decide +kernel) rfl)) <|
  an_kd (fun d => an_lift (fun live => ak_iadd d rfl)) <|
  an_kd (fun d => nk_sld d rfl) <|
  an_kd (fun d => an_lift (fun live => ak_aload_n d rfl rfl)) <|
  an_kd (fun d => an_lift (fun live => ak_iload_n d rfl rfl)) <|
  an_kd (fun d => an_lift (fun live => ak_iconst d (by decide +kernel) rfl)) <|
  an_kd (fun d => an_lift (fun live => ak_iadd d rfl)) <|
  an_kd (fun d => nk_sld d rfl) <|
  an_kd (fun d => an_lift (fun live => ak_aload_n d rfl rfl)) <|
  an_kd (fun d => an_lift (fun live => ak_iload_n d rfl rfl)) <|
  an_kd (fun d => an_lift (fun live => ak_iconst d (by decide +kernel) rfl)) <|
  an_kd (fun d => an_lift (fun live => ak_iadd d rfl)) <|
  an_kd (fun d => nk_sld d rfl) <|
  an_kd (fun d => an_lift (fun live => ak_callV (C := RX8) (F := TX8) (N := 27) metV_all rfl ⟨rfl, hy_X8_all⟩ (am_w5 wd_1191 wd_1192 wd_1193 wd_67 wd_1194) (by decide) d rfl)) <|
  an_kd (fun d => an_lift (fun live => ak_pop2 d rfl)) <|
  an_kd (fun d => an_lift (fun live => ak_goto d (by decide +kernel))) <| an_kdn
set_option maxRecDepth 100000 in
set_option maxHeartbeats 4000000 in
theorem caseL_c15 {Ln : Nat} (xs : Nat → Int32) {i : Int32} {i1 i2 : Bool} {kc kn : Nat} {M : am_M} (h : LI i1 i2 M) (hi : lawI Ln i kc kn) : an_wp (kL_c15 Ln xs) (lawC Ln i) 200 (an_go (kL_c15 Ln xs) 889) (lawL i) [] ((am_lv i1 i2, am_q i1 i2), kc, kn, M) := by
    obtain ⟨⟨f1, f2, f3, f4, f5, f6, f7⟩, k1, k2, k3, k4⟩ := hi.f
    have hmn : am_mn (am_lv i1 i2, am_q i1 i2) := ⟨_, _, rfl⟩
    repeat' (first | (with_reducible exact f1) | (with_reducible exact f2) | (with_reducible exact f3) | (with_reducible exact f4) | (with_reducible exact f5) | (with_reducible exact f6) | (with_reducible exact f7) | (with_reducible exact hmn) | (with_reducible exact h) | (with_reducible exact k1) | (with_reducible exact k2) | (with_reducible exact k3) | (with_reducible exact k4) | apply And.intro | exact rfl | ((with_reducible change r_I _); (with_reducible assumption)) | (intro hx; exact absurd hx (by decide)) | (intro hx; exact absurd (by decide) hx) | decide | intro hx | (refine Exists.intro _ (And.intro rfl ?_)) | (refine Exists.intro _ (Exists.intro _ (And.intro rfl (And.intro rfl ?_)))) | ((with_reducible change LI _ _ _); (with_reducible assumption)) | ((with_reducible change _ = true); simp only [k1, k2, k3, k4, Bool.true_and]; rfl))
    all_goals try first | (with_reducible change am_tI _ _) | (change Ret _ _) | (change Ret _ _ _) | (change Exists _)
    all_goals try dsimp only at *
    all_goals try (with_reducible exact absurd ‹(1000 : Int64) = 0› am_z1000)
    all_goals first
      | exact ⟨_, _, rfl⟩
      | exact lawE.mk hi (by with_reducible assumption) (by omega) (by omega)
      | skip
def rwL_c16 : List dz_r := [(942, .aload_n 1, 1), (943, .aload_n 0, 1), (944, .iload_n 3, 1), (945, .iconst 1, 1), (946, .iadd, 1), (947, .iaload, 1), (948, .aload_n 0, 1), (949, .iload_n 3, 1), (950, .iconst 2, 1), (951, .iadd, 1), (952, .iaload, 1), (953, .aload_n 0, 1), (954, .iload_n 3, 1), (955, .iconst 3, 1), (956, .iadd, 1), (957, .iaload, 1), (958, .invokevirtual 84, 3), (961, .pop, 1), (962, .aload_n 2, 1), (963, .aload_n 0, 1), (964, .iload_n 3, 1), (965, .iconst 1, 1), (966, .iadd, 1), (967, .iaload, 1), (968, .aload_n 0, 1), (969, .iload_n 3, 1), (970, .iconst 2, 1), (971, .iadd, 1), (972, .iaload, 1), (973, .aload_n 0, 1), (974, .iload_n 3, 1), (975, .iconst 3, 1), (976, .iadd, 1), (977, .iaload, 1), (978, .invokevirtual 87, 3), (981, .pop, 1), (982, .goto 859, 3)]
theorem dzL_c16 : dz cL_law rwL_c16 := dz_all 942 (by decide +kernel)
theorem hy_X7_rate : yX7_rate.cls ≠ "java/lang/invoke/MethodHandle" ∧ yX7_rate.cls ≠ "java/lang/invoke/VarHandle" ∧ (parseMethodDescriptor yX7_rate.desc).map (fun d => d.parameters.length) = some 3 := ⟨by decide +kernel, by decide +kernel, by decide +kernel⟩
set_option maxRecDepth 100000 in
theorem wd_653 : Cond.methodLink "LearnLoansLaw" 84 yX7_rate ∈ am_ws := am_wt3 (List.mem_of_getElem? (i := 116) (by rfl)) (by decide +kernel)
set_option maxRecDepth 100000 in
theorem wd_654 : Cond.instanceMethod yX7_rate ∈ am_ws := am_wt3 (List.mem_of_getElem? (i := 117) (by rfl)) (by decide +kernel)
set_option maxRecDepth 100000 in
theorem wd_655 : Cond.selects "LearnLoans" yX7_rate yX7_rate ∈ am_ws := am_wt3 (List.mem_of_getElem? (i := 118) (by rfl)) (by decide +kernel)
set_option maxRecDepth 100000 in
theorem wd_656 : Cond.code yX7_rate cX7_rate 4 (some .int) ∈ am_ws := am_wt3 (List.mem_of_getElem? (i := 119) (by rfl)) (by decide +kernel)
theorem hy_X8_rate : yX8_rate.cls ≠ "java/lang/invoke/MethodHandle" ∧ yX8_rate.cls ≠ "java/lang/invoke/VarHandle" ∧ (parseMethodDescriptor yX8_rate.desc).map (fun d => d.parameters.length) = some 3 := ⟨by decide +kernel, by decide +kernel, by decide +kernel⟩
set_option maxRecDepth 100000 in
theorem wd_1199 : Cond.methodLink "LearnLoansLaw" 87 yX8_rate ∈ am_ws := am_wt5 (List.mem_of_getElem? (i := 182) (by rfl)) (by decide +kernel)
set_option maxRecDepth 100000 in
theorem wd_1200 : Cond.instanceMethod yX8_rate ∈ am_ws := am_wt5 (List.mem_of_getElem? (i := 183) (by rfl)) (by decide +kernel)
set_option maxRecDepth 100000 in
theorem wd_1201 : Cond.selects "LearnLoansModel" yX8_rate yX8_rate ∈ am_ws := am_wt5 (List.mem_of_getElem? (i := 184) (by rfl)) (by decide +kernel)
set_option maxRecDepth 100000 in
theorem wd_1202 : Cond.code yX8_rate cX8_rate 5 (some .int) ∈ am_ws := am_wt5 (List.mem_of_getElem? (i := 185) (by rfl)) (by decide +kernel)
def kL_c16 (Ln : Nat) (xs : Nat → Int32) : an_code := [(942, an_lf (fun live => am_aload 1 943)), (943, an_lf (fun live => am_aload 0 944)), (944, an_lf (fun live => am_iload 3 945)), (945, an_lf (fun live => am_const (.int 1) 946)), (946, an_lf (fun live => am_i2 (fun x y => x + y) 947)), (947, an_sld Ln xs 948), (948, an_lf (fun live => am_aload 0 949)), (949, an_lf (fun live => am_iload 3 950)), (950, an_lf (fun live => am_const (.int 2) 951)), (951, an_lf (fun live => am_i2 (fun x y => x + y) 952)), (952, an_sld Ln xs 953), (953, an_lf (fun live => am_aload 0 954)), (954, an_lf (fun live => am_iload 3 955)), (955, an_lf (fun live => am_const (.int 3) 956)), (956, an_lf (fun live => am_i2 (fun x y => x + y) 957)), (957, an_sld Ln xs 958), (958, an_lf (fun live => am_callV live 7 3 TW_rate 961)), (961, an_lf (fun live => am_pop 962)), (962, an_lf (fun live => am_aload 2 963)), (963, an_lf (fun live => am_aload 0 964)), (964, an_lf (fun live => am_iload 3 965)), (965, an_lf (fun live => am_const (.int 1) 966)), (966, an_lf (fun live => am_i2 (fun x y => x + y) 967)), (967, an_sld Ln xs 968), (968, an_lf (fun live => am_aload 0 969)), (969, an_lf (fun live => am_iload 3 970)), (970, an_lf (fun live => am_const (.int 2) 971)), (971, an_lf (fun live => am_i2 (fun x y => x + y) 972)), (972, an_sld Ln xs 973), (973, an_lf (fun live => am_aload 0 974)), (974, an_lf (fun live => am_iload 3 975)), (975, an_lf (fun live => am_const (.int 3) 976)), (976, an_lf (fun live => am_i2 (fun x y => x + y) 977)), (977, an_sld Ln xs 978), (978, an_lf (fun live => am_callV live 8 3 TV_rate 981)), (981, an_lf (fun live => am_pop 982)), (982, an_lf (fun live => am_goto 1841))]
theorem koL_c16 (Ln : Nat) (xs : Nat → Int32) : ∀ q ∈ kL_c16 Ln xs, an_ok RL cL_law 4 (some .boolean) 2000 80000 600000 7302250 false (lawP Ln xs) an_noR q.1 q.2 :=
  am_kz dzL_c16 <|
  an_kd (fun d => an_lift (fun live => ak_aload_n d rfl rfl)) <|
  an_kd (fun d => an_lift (fun live => ak_aload_n d rfl rfl)) <|
  an_kd (fun d => an_lift (fun live => ak_iload_n d rfl rfl)) <|
  an_kd (fun d => an_lift (fun live => ak_iconst d (by decide +kernel) rfl)) <|
  an_kd (fun d => an_lift (fun live => ak_iadd d rfl)) <|
  an_kd (fun d => nk_sld d rfl) <|
  an_kd (fun d => an_lift (fun live => ak_aload_n d rfl rfl)) <|
  an_kd (fun d => an_lift (fun live => ak_iload_n d rfl rfl)) <|
  an_kd (fun d => an_lift (fun live => ak_iconst d (by decide +kernel) rfl)) <|
  an_kd (fun d => an_lift (fun live => ak_iadd d rfl)) <|
  an_kd (fun d => nk_sld d rfl) <|
  an_kd (fun d => an_lift (fun live => ak_aload_n d rfl rfl)) <|
  an_kd (fun d => an_lift (fun live => ak_iload_n d rfl rfl)) <|
  an_kd (fun d => an_lift (fun live => ak_iconst d (by decide +kernel) rfl)) <|
  an_kd (fun d => an_lift (fun live => ak_iadd d rfl)) <|
  an_kd (fun d => nk_sld d rfl) <|
  an_kd (fun d => an_lift (fun live => ak_callV (C := RX7) (F := TX7) (N := 4) metW_rate rfl ⟨rfl, hy_X7_rate⟩ (am_w5 wd_653 wd_654 wd_655 wd_58 wd_656) (by decide) d rfl)) <|
  an_kd (fun d => an_lift (fun live => ak_pop d rfl)) <|
  an_kd (fun d => an_lift (fun live => ak_aload_n d rfl rfl)) <|
  an_kd (fun d => an_lift (fun live => ak_aload_n d rfl rfl)) <|
  an_kd (fun d => an_lift (fun live => ak_iload_n d rfl rfl)) <|
  an_kd (fun d => an_lift (fun live => ak_iconst d (by decide +kernel) rfl)) <|
  an_kd (fun d => an_lift (fun live => ak_iadd d rfl)) <|
  an_kd (fun d => nk_sld d rfl) <|
  an_kd (fun d => an_lift (fun live => ak_aload_n d rfl rfl)) <|
  an_kd (fun d => an_lift (fun live => ak_iload_n d rfl rfl)) <|
  an_kd (fun d => an_lift (fun live => ak_iconst d (by decide +kernel) rfl)) <|
  an_kd (fun d => an_lift (fun live => ak_iadd d rfl)) <|
  an_kd (fun d => nk_sld d rfl) <|
  an_kd (fun d => an_lift (fun live => ak_aload_n d rfl rfl)) <|
  an_kd (fun d => an_lift (fun live => ak_iload_n d rfl rfl)) <|
  an_kd (fun d => an_lift (fun live => ak_iconst d (by decide +kernel) rfl)) <|
  an_kd (fun d => an_lift (fun live => ak_iadd d rfl)) <|
  an_kd (fun d => nk_sld d rfl) <|
  an_kd (fun d => an_lift (fun live => ak_callV (C := RX8) (F := TX8) (N := 27) metV_rate rfl ⟨rfl, hy_X8_rate⟩ (am_w5 wd_1199 wd_1200 wd_1201 wd_67 wd_1202) (by decide) d rfl)) <|
  an_kd (fun d => an_lift (fun live => ak_pop d rfl)) <|
  an_kd (fun d => an_lift (fun live => ak_goto d (by decide +kernel))) <| an_kdn
set_option maxRecDepth 100000 in
set_option maxHeartbeats 4000000 in
theorem caseL_c16 {Ln : Nat} (xs : Nat → Int32) {i : Int32} {i1 i2 : Bool} {kc kn : Nat} {M : am_M} (h : LI i1 i2 M) (hi : lawI Ln i kc kn) : an_wp (kL_c16 Ln xs) (lawC Ln i) 200 (an_go (kL_c16 Ln xs) 942) (lawL i) [] ((am_lv i1 i2, am_q i1 i2), kc, kn, M) := by
    obtain ⟨⟨f1, f2, f3, f4, f5, f6, f7⟩, k1, k2, k3, k4⟩ := hi.f
    have hmn : am_mn (am_lv i1 i2, am_q i1 i2) := ⟨_, _, rfl⟩
    repeat' (first | (with_reducible exact f1) | (with_reducible exact f2) | (with_reducible exact f3) | (with_reducible exact f4) | (with_reducible exact f5) | (with_reducible exact f6) | (with_reducible exact f7) | (with_reducible exact hmn) | (with_reducible exact h) | (with_reducible exact k1) | (with_reducible exact k2) | (with_reducible exact k3) | (with_reducible exact k4) | apply And.intro | exact rfl | ((with_reducible change r_I _); (with_reducible assumption)) | (intro hx; exact absurd hx (by decide)) | (intro hx; exact absurd (by decide) hx) | decide | intro hx | (refine Exists.intro _ (And.intro rfl ?_)) | (refine Exists.intro _ (Exists.intro _ (And.intro rfl (And.intro rfl ?_)))) | ((with_reducible change LI _ _ _); (with_reducible assumption)) | ((with_reducible change _ = true); simp only [k1, k2, k3, k4, Bool.true_and]; rfl))
    all_goals try first | (with_reducible change am_tI _ _) | (change Ret _ _) | (change Ret _ _ _) | (change Exists _)
    all_goals try dsimp only at *
    all_goals try (with_reducible exact absurd ‹(1000 : Int64) = 0› am_z1000)
    all_goals first
      | exact ⟨_, _, rfl⟩
      | exact lawE.mk hi (by with_reducible assumption) (by omega) (by omega)
      | skip
def rwL_c17 : List dz_r := [(985, .aload_n 1, 1), (986, .aload_n 0, 1), (987, .iload_n 3, 1), (988, .iconst 1, 1), (989, .iadd, 1), (990, .iaload, 1), (991, .aload_n 0, 1), (992, .iload_n 3, 1), (993, .iconst 2, 1), (994, .iadd, 1), (995, .iaload, 1), (996, .aload_n 0, 1), (997, .iload_n 3, 1), (998, .iconst 3, 1), (999, .iadd, 1), (1000, .iaload, 1), (1001, .invokevirtual 88, 3), (1004, .pop2, 1), (1005, .aload_n 2, 1), (1006, .aload_n 0, 1), (1007, .iload_n 3, 1), (1008, .iconst 1, 1), (1009, .iadd, 1), (1010, .iaload, 1), (1011, .aload_n 0, 1), (1012, .iload_n 3, 1), (1013, .iconst 2, 1), (1014, .iadd, 1), (1015, .iaload, 1), (1016, .aload_n 0, 1), (1017, .iload_n 3, 1), (1018, .iconst 3, 1), (1019, .iadd, 1), (1020, .iaload, 1), (1021, .invokevirtual 92, 3), (1024, .pop2, 1), (1025, .goto 816, 3)]
theorem dzL_c17 : dz cL_law rwL_c17 := dz_all 985 (by decide +kernel)
theorem hy_X7_over : yX7_over.cls ≠ "java/lang/invoke/MethodHandle" ∧ yX7_over.cls ≠ "java/lang/invoke/VarHandle" ∧ (parseMethodDescriptor yX7_over.desc).map (fun d => d.parameters.length) = some 3 := ⟨by decide +kernel, by decide +kernel, by decide +kernel⟩
set_option maxRecDepth 100000 in
theorem wd_659 : Cond.methodLink "LearnLoansLaw" 88 yX7_over ∈ am_ws := am_wt3 (List.mem_of_getElem? (i := 122) (by rfl)) (by decide +kernel)
set_option maxRecDepth 100000 in
theorem wd_660 : Cond.instanceMethod yX7_over ∈ am_ws := am_wt3 (List.mem_of_getElem? (i := 123) (by rfl)) (by decide +kernel)
set_option maxRecDepth 100000 in
theorem wd_661 : Cond.selects "LearnLoans" yX7_over yX7_over ∈ am_ws := am_wt3 (List.mem_of_getElem? (i := 124) (by rfl)) (by decide +kernel)
set_option maxRecDepth 100000 in
theorem wd_662 : Cond.code yX7_over cX7_over 4 (some .long) ∈ am_ws := am_wt3 (List.mem_of_getElem? (i := 125) (by rfl)) (by decide +kernel)
theorem hy_X8_over : yX8_over.cls ≠ "java/lang/invoke/MethodHandle" ∧ yX8_over.cls ≠ "java/lang/invoke/VarHandle" ∧ (parseMethodDescriptor yX8_over.desc).map (fun d => d.parameters.length) = some 3 := ⟨by decide +kernel, by decide +kernel, by decide +kernel⟩
set_option maxRecDepth 100000 in
theorem wd_1203 : Cond.methodLink "LearnLoansLaw" 92 yX8_over ∈ am_ws := am_wt5 (List.mem_of_getElem? (i := 186) (by rfl)) (by decide +kernel)
set_option maxRecDepth 100000 in
theorem wd_1204 : Cond.instanceMethod yX8_over ∈ am_ws := am_wt5 (List.mem_of_getElem? (i := 187) (by rfl)) (by decide +kernel)
set_option maxRecDepth 100000 in
theorem wd_1205 : Cond.selects "LearnLoansModel" yX8_over yX8_over ∈ am_ws := am_wt5 (List.mem_of_getElem? (i := 188) (by rfl)) (by decide +kernel)
set_option maxRecDepth 100000 in
theorem wd_1206 : Cond.code yX8_over cX8_over 6 (some .long) ∈ am_ws := am_wt5 (List.mem_of_getElem? (i := 189) (by rfl)) (by decide +kernel)
def kL_c17 (Ln : Nat) (xs : Nat → Int32) : an_code := [(985, an_lf (fun live => am_aload 1 986)), (986, an_lf (fun live => am_aload 0 987)), (987, an_lf (fun live => am_iload 3 988)), (988, an_lf (fun live => am_const (.int 1) 989)), (989, an_lf (fun live => am_i2 (fun x y => x + y) 990)), (990, an_sld Ln xs 991), (991, an_lf (fun live => am_aload 0 992)), (992, an_lf (fun live => am_iload 3 993)), (993, an_lf (fun live => am_const (.int 2) 994)), (994, an_lf (fun live => am_i2 (fun x y => x + y) 995)), (995, an_sld Ln xs 996), (996, an_lf (fun live => am_aload 0 997)), (997, an_lf (fun live => am_iload 3 998)), (998, an_lf (fun live => am_const (.int 3) 999)), (999, an_lf (fun live => am_i2 (fun x y => x + y) 1000)), (1000, an_sld Ln xs 1001), (1001, an_lf (fun live => am_callV live 7 3 TW_over 1004)), (1004, an_lf (fun live => am_pop2 1005)), (1005, an_lf (fun live => am_aload 2 1006)), (1006, an_lf (fun live => am_aload 0 1007)), (1007, an_lf (fun live => am_iload 3 1008)), (1008, an_lf (fun live => am_const (.int 1) 1009)), (1009, an_lf (fun live => am_i2 (fun x y => x + y) 1010)), (1010, an_sld Ln xs 1011), (1011, an_lf (fun live => am_aload 0 1012)), (1012, an_lf (fun live => am_iload 3 1013)), (1013, an_lf (fun live => am_const (.int 2) 1014)), (1014, an_lf (fun live => am_i2 (fun x y => x + y) 1015)), (1015, an_sld Ln xs 1016), (1016, an_lf (fun live => am_aload 0 1017)), (1017, an_lf (fun live => am_iload 3 1018)), (1018, an_lf (fun live => am_const (.int 3) 1019)), (1019, an_lf (fun live => am_i2 (fun x y => x + y) 1020)), (1020, an_sld Ln xs 1021), (1021, an_lf (fun live => am_callV live 8 3 TV_over 1024)), (1024, an_lf (fun live => am_pop2 1025)), (1025, an_lf (fun live => am_goto 1841))]
theorem koL_c17 (Ln : Nat) (xs : Nat → Int32) : ∀ q ∈ kL_c17 Ln xs, an_ok RL cL_law 4 (some .boolean) 2000 80000 600000 7302250 false (lawP Ln xs) an_noR q.1 q.2 :=
  am_kz dzL_c17 <|
  an_kd (fun d => an_lift (fun live => ak_aload_n d rfl rfl)) <|
  an_kd (fun d => an_lift (fun live => ak_aload_n d rfl rfl)) <|
  an_kd (fun d => an_lift (fun live => ak_iload_n d rfl rfl)) <|
  an_kd (fun d => an_lift (fun live => ak_iconst d (by decide +kernel) rfl)) <|
  an_kd (fun d => an_lift (fun live => ak_iadd d rfl)) <|
  an_kd (fun d => nk_sld d rfl) <|
  an_kd (fun d => an_lift (fun live => ak_aload_n d rfl rfl)) <|
  an_kd (fun d => an_lift (fun live => ak_iload_n d rfl rfl)) <|
  an_kd (fun d => an_lift (fun live => ak_iconst d (by decide +kernel) rfl)) <|
  an_kd (fun d => an_lift (fun live => ak_iadd d rfl)) <|
  an_kd (fun d => nk_sld d rfl) <|
  an_kd (fun d => an_lift (fun live => ak_aload_n d rfl rfl)) <|
  an_kd (fun d => an_lift (fun live => ak_iload_n d rfl rfl)) <|
  an_kd (fun d => an_lift (fun live => ak_iconst d (by decide +kernel) rfl)) <|
  an_kd (fun d => an_lift (fun live => ak_iadd d rfl)) <|
  an_kd (fun d => nk_sld d rfl) <|
  an_kd (fun d => an_lift (fun live => ak_callV (C := RX7) (F := TX7) (N := 4) metW_over rfl ⟨rfl, hy_X7_over⟩ (am_w5 wd_659 wd_660 wd_661 wd_58 wd_662) (by decide) d rfl)) <|
  an_kd (fun d => an_lift (fun live => ak_pop2 d rfl)) <|
  an_kd (fun d => an_lift (fun live => ak_aload_n d rfl rfl)) <|
  an_kd (fun d => an_lift (fun live => ak_aload_n d rfl rfl)) <|
  an_kd (fun d => an_lift (fun live => ak_iload_n d rfl rfl)) <|
  an_kd (fun d => an_lift (fun live => ak_iconst d (by decide +kernel) rfl)) <|
  an_kd (fun d => an_lift (fun live => ak_iadd d rfl)) <|
  an_kd (fun d => nk_sld d rfl) <|
  an_kd (fun d => an_lift (fun live => ak_aload_n d rfl rfl)) <|
  an_kd (fun d => an_lift (fun live => ak_iload_n d rfl rfl)) <|
  an_kd (fun d => an_lift (fun live => ak_iconst d (by decide +kernel) rfl)) <|
  an_kd (fun d => an_lift (fun live => ak_iadd d rfl)) <|
  an_kd (fun d => nk_sld d rfl) <|
  an_kd (fun d => an_lift (fun live => ak_aload_n d rfl rfl)) <|
  an_kd (fun d => an_lift (fun live => ak_iload_n d rfl rfl)) <|
  an_kd (fun d => an_lift (fun live => ak_iconst d (by decide +kernel) rfl)) <|
  an_kd (fun d => an_lift (fun live => ak_iadd d rfl)) <|
  an_kd (fun d => nk_sld d rfl) <|
  an_kd (fun d => an_lift (fun live => ak_callV (C := RX8) (F := TX8) (N := 27) metV_over rfl ⟨rfl, hy_X8_over⟩ (am_w5 wd_1203 wd_1204 wd_1205 wd_67 wd_1206) (by decide) d rfl)) <|
  an_kd (fun d => an_lift (fun live => ak_pop2 d rfl)) <|
  an_kd (fun d => an_lift (fun live => ak_goto d (by decide +kernel))) <| an_kdn
set_option maxRecDepth 100000 in
set_option maxHeartbeats 4000000 in
theorem caseL_c17 {Ln : Nat} (xs : Nat → Int32) {i : Int32} {i1 i2 : Bool} {kc kn : Nat} {M : am_M} (h : LI i1 i2 M) (hi : lawI Ln i kc kn) : an_wp (kL_c17 Ln xs) (lawC Ln i) 200 (an_go (kL_c17 Ln xs) 985) (lawL i) [] ((am_lv i1 i2, am_q i1 i2), kc, kn, M) := by
    obtain ⟨⟨f1, f2, f3, f4, f5, f6, f7⟩, k1, k2, k3, k4⟩ := hi.f
    have hmn : am_mn (am_lv i1 i2, am_q i1 i2) := ⟨_, _, rfl⟩
    repeat' (first | (with_reducible exact f1) | (with_reducible exact f2) | (with_reducible exact f3) | (with_reducible exact f4) | (with_reducible exact f5) | (with_reducible exact f6) | (with_reducible exact f7) | (with_reducible exact hmn) | (with_reducible exact h) | (with_reducible exact k1) | (with_reducible exact k2) | (with_reducible exact k3) | (with_reducible exact k4) | apply And.intro | exact rfl | ((with_reducible change r_I _); (with_reducible assumption)) | (intro hx; exact absurd hx (by decide)) | (intro hx; exact absurd (by decide) hx) | decide | intro hx | (refine Exists.intro _ (And.intro rfl ?_)) | (refine Exists.intro _ (Exists.intro _ (And.intro rfl (And.intro rfl ?_)))) | ((with_reducible change LI _ _ _); (with_reducible assumption)) | ((with_reducible change _ = true); simp only [k1, k2, k3, k4, Bool.true_and]; rfl))
    all_goals try first | (with_reducible change am_tI _ _) | (change Ret _ _) | (change Ret _ _ _) | (change Exists _)
    all_goals try dsimp only at *
    all_goals try (with_reducible exact absurd ‹(1000 : Int64) = 0› am_z1000)
    all_goals first
      | exact ⟨_, _, rfl⟩
      | exact lawE.mk hi (by with_reducible assumption) (by omega) (by omega)
      | skip
