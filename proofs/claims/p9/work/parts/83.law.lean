/-! the law: cases 4 to 7 -/
def rwL_c4 : List dz_r := [(338, .aload_n 1, 1), (339, .aload_n 0, 1), (340, .iload_n 3, 1), (341, .iconst 1, 1), (342, .iadd, 1), (343, .iaload, 1), (344, .aload_n 0, 1), (345, .iload_n 3, 1), (346, .iconst 2, 1), (347, .iadd, 1), (348, .iaload, 1), (349, .invokevirtual 32, 3), (352, .pop, 1), (353, .aload_n 2, 1), (354, .aload_n 0, 1), (355, .iload_n 3, 1), (356, .iconst 1, 1), (357, .iadd, 1), (358, .iaload, 1), (359, .aload_n 0, 1), (360, .iload_n 3, 1), (361, .iconst 2, 1), (362, .iadd, 1), (363, .iaload, 1), (364, .invokevirtual 35, 3), (367, .pop, 1), (368, .goto 1473, 3)]
theorem dzL_c4 : dz cL_law rwL_c4 := dz_all 338 (by decide +kernel)
theorem hy_X7_dies : yX7_dies.cls ≠ "java/lang/invoke/MethodHandle" ∧ yX7_dies.cls ≠ "java/lang/invoke/VarHandle" ∧ (parseMethodDescriptor yX7_dies.desc).map (fun d => d.parameters.length) = some 2 := ⟨by decide +kernel, by decide +kernel, by decide +kernel⟩
set_option maxRecDepth 100000 in
theorem wd_438 : Cond.methodLink "LearnLoansLaw" 32 yX7_dies ∈ am_ws := am_wt2 (List.mem_of_getElem? (i := 141) (by rfl)) (by decide +kernel)
set_option maxRecDepth 100000 in
theorem wd_439 : Cond.instanceMethod yX7_dies ∈ am_ws := am_wt2 (List.mem_of_getElem? (i := 142) (by rfl)) (by decide +kernel)
set_option maxRecDepth 100000 in
theorem wd_440 : Cond.selects "LearnLoans" yX7_dies yX7_dies ∈ am_ws := am_wt2 (List.mem_of_getElem? (i := 143) (by rfl)) (by decide +kernel)
set_option maxRecDepth 100000 in
theorem wd_441 : Cond.code yX7_dies cX7_dies 3 (some .int) ∈ am_ws := am_wt2 (List.mem_of_getElem? (i := 144) (by rfl)) (by decide +kernel)
theorem hy_X8_dies : yX8_dies.cls ≠ "java/lang/invoke/MethodHandle" ∧ yX8_dies.cls ≠ "java/lang/invoke/VarHandle" ∧ (parseMethodDescriptor yX8_dies.desc).map (fun d => d.parameters.length) = some 2 := ⟨by decide +kernel, by decide +kernel, by decide +kernel⟩
set_option maxRecDepth 100000 in
theorem wd_1009 : Cond.methodLink "LearnLoansLaw" 35 yX8_dies ∈ am_ws := am_wt4 (List.mem_of_getElem? (i := 232) (by rfl)) (by decide +kernel)
set_option maxRecDepth 100000 in
theorem wd_1010 : Cond.instanceMethod yX8_dies ∈ am_ws := am_wt4 (List.mem_of_getElem? (i := 233) (by rfl)) (by decide +kernel)
set_option maxRecDepth 100000 in
theorem wd_1011 : Cond.selects "LearnLoansModel" yX8_dies yX8_dies ∈ am_ws := am_wt4 (List.mem_of_getElem? (i := 234) (by rfl)) (by decide +kernel)
set_option maxRecDepth 100000 in
theorem wd_1012 : Cond.code yX8_dies cX8_dies 3 (some .int) ∈ am_ws := am_wt4 (List.mem_of_getElem? (i := 235) (by rfl)) (by decide +kernel)
def kL_c4 (Ln : Nat) (xs : Nat → Int32) : an_code := [(338, an_lf (fun live => am_aload 1 339)), (339, an_lf (fun live => am_aload 0 340)), (340, an_lf (fun live => am_iload 3 341)), (341, an_lf (fun live => am_const (.int 1) 342)), (342, an_lf (fun live => am_i2 (fun x y => x + y) 343)), (343, an_sld Ln xs 344), (344, an_lf (fun live => am_aload 0 345)), (345, an_lf (fun live => am_iload 3 346)), (346, an_lf (fun live => am_const (.int 2) 347)), (347, an_lf (fun live => am_i2 (fun x y => x + y) 348)), (348, an_sld Ln xs 349), (349, an_lf (fun live => am_callV live 7 2 TW_dies 352)), (352, an_lf (fun live => am_pop 353)), (353, an_lf (fun live => am_aload 2 354)), (354, an_lf (fun live => am_aload 0 355)), (355, an_lf (fun live => am_iload 3 356)), (356, an_lf (fun live => am_const (.int 1) 357)), (357, an_lf (fun live => am_i2 (fun x y => x + y) 358)), (358, an_sld Ln xs 359), (359, an_lf (fun live => am_aload 0 360)), (360, an_lf (fun live => am_iload 3 361)), (361, an_lf (fun live => am_const (.int 2) 362)), (362, an_lf (fun live => am_i2 (fun x y => x + y) 363)), (363, an_sld Ln xs 364), (364, an_lf (fun live => am_callV live 8 2 TX8_dies 367)), (367, an_lf (fun live => am_pop 368)), (368, an_lf (fun live => am_goto 1841))]
theorem koL_c4 (Ln : Nat) (xs : Nat → Int32) : ∀ q ∈ kL_c4 Ln xs, an_ok RL cL_law 4 (some .boolean) 2000 80000 600000 7302250 false (lawP Ln xs) an_noR q.1 q.2 :=
  am_kz dzL_c4 <|
  an_kd (fun d => an_lift (fun live => ak_aload_n d rfl rfl)) <|
  an_kd (fun d => an_lift (fun live => ak_aload_n d rfl rfl)) <|
  an_kd (fun d => an_lift (fun live => ak_iload_n d rfl rfl)) <|
  an_kd (fun d => an_lift (fun live => ak_iconst d (by decide +kernel) rfl)) <|
  an_kd (fun d => an_lift (fun live => ak_iadd d rfl)) <|
  an_kd (fun d => nk_sld d rfl) <|
  an_kd (fun d => an_lift (fun live => ak_aload_n d rfl rfl)) <|
  an_kd (fun d => an_lift (fun live => ak_iload_n d rfl rfl)) <|
  an_kd (fun d => an_lift (fun live => ak_iconst d (by decide +kernel) rfl)) <|
  an_kd (fun d => an_lift (fun live => ak_iadd d rfl)) <|
  an_kd (fun d => nk_sld d rfl) <|
  an_kd (fun d => an_lift (fun live => ak_callV (C := RX7) (F := TX7) (N := 4) metW_dies rfl ⟨rfl, hy_X7_dies⟩ (am_w5 wd_438 wd_439 wd_440 wd_58 wd_441) (by decide) d rfl)) <|
  an_kd (fun d => an_lift (fun live => ak_pop d rfl)) <|
  an_kd (fun d => an_lift (fun live => ak_aload_n d rfl rfl)) <|
  an_kd (fun d => an_lift (fun live => ak_aload_n d rfl rfl)) <|
  an_kd (fun d => an_lift (fun live => ak_iload_n d rfl rfl)) <|
  an_kd (fun d => an_lift (fun live => ak_iconst d (by decide +kernel) rfl)) <|
  an_kd (fun d => an_lift (fun live => ak_iadd d rfl)) <|
  an_kd (fun d => nk_sld d rfl) <|
  an_kd (fun d => an_lift (fun live => ak_aload_n d rfl rfl)) <|
  an_kd (fun d => an_lift (fun live => ak_iload_n d rfl rfl)) <|
  an_kd (fun d => an_lift (fun live => ak_iconst d (by decide +kernel) rfl)) <|
  an_kd (fun d => an_lift (fun live => ak_iadd d rfl)) <|
  an_kd (fun d => nk_sld d rfl) <|
  an_kd (fun d => an_lift (fun live => ak_callV (C := RX8) (F := TX8) (N := 27) metX8_dies rfl ⟨rfl, hy_X8_dies⟩ (am_w5 wd_1009 wd_1010 wd_1011 wd_67 wd_1012) (by decide) d rfl)) <|
  an_kd (fun d => an_lift (fun live => ak_pop d rfl)) <|
  an_kd (fun d => an_lift (fun live => ak_goto d (by decide +kernel))) <| an_kdn
set_option maxRecDepth 100000 in
set_option maxHeartbeats 4000000 in
theorem caseL_c4 {Ln : Nat} (xs : Nat → Int32) {i : Int32} {i1 i2 : Bool} {kc kn : Nat} {M : am_M} (h : LI i1 i2 M) (hi : lawI Ln i kc kn) : an_wp (kL_c4 Ln xs) (lawC Ln i) 200 (an_go (kL_c4 Ln xs) 338) (lawL i) [] ((am_lv i1 i2, am_q i1 i2), kc, kn, M) := by
    obtain ⟨⟨f1, f2, f3, f4, f5, f6, f7⟩, k1, k2, k3, k4⟩ := hi.f
    have hmn : am_mn (am_lv i1 i2, am_q i1 i2) := ⟨_, _, rfl⟩
    repeat' (first | (with_reducible exact f1) | (with_reducible exact f2) | (with_reducible exact f3) | (with_reducible exact f4) | (with_reducible exact f5) | (with_reducible exact f6) | (with_reducible exact f7) | (with_reducible exact hmn) | (with_reducible exact h) | (with_reducible exact k1) | (with_reducible exact k2) | (with_reducible exact k3) | (with_reducible exact k4) | apply And.intro | exact rfl | ((with_reducible change r_I _); (with_reducible assumption)) | (intro hx; exact absurd hx (by decide)) | (intro hx; exact absurd (by decide) hx) | decide | intro hx | (refine Exists.intro _ (And.intro rfl ?_)) | (refine Exists.intro _ (Exists.intro _ (And.intro rfl (And.intro rfl ?_)))) | ((with_reducible change LI _ _ _); (with_reducible assumption)) | ((with_reducible change _ = true); simp only [k1, k2, k3, k4, Bool.true_and]; rfl))
    all_goals try first | (with_reducible change am_tI _ _) | (change Ret _ _) | (change Ret _ _ _) | (change Exists _)
    all_goals try dsimp only at *
    all_goals try (with_reducible exact absurd ‹(1000 : Int64) = 0› am_z1000)
    all_goals first
      | exact ⟨_, _, rfl⟩
      | exact lawE.mk hi (by with_reducible assumption) (by omega) (by omega)
      | skip
def rwL_c5 : List dz_r := [(371, .aload_n 1, 1), (372, .aload_n 0, 1), (373, .iload_n 3, 1), (374, .iconst 1, 1), (375, .iadd, 1), (376, .iaload, 1), (377, .aload_n 0, 1), (378, .iload_n 3, 1), (379, .iconst 2, 1), (380, .iadd, 1), (381, .iaload, 1), (382, .aload_n 0, 1), (383, .iload_n 3, 1), (384, .iconst 3, 1), (385, .iadd, 1), (386, .iaload, 1), (387, .aload_n 0, 1), (388, .iload_n 3, 1), (389, .iconst 4, 1), (390, .iadd, 1), (391, .iaload, 1), (392, .invokevirtual 36, 3), (395, .pop, 1), (396, .aload_n 2, 1), (397, .aload_n 0, 1), (398, .iload_n 3, 1), (399, .iconst 1, 1), (400, .iadd, 1), (401, .iaload, 1), (402, .aload_n 0, 1), (403, .iload_n 3, 1), (404, .iconst 2, 1), (405, .iadd, 1), (406, .iaload, 1), (407, .aload_n 0, 1), (408, .iload_n 3, 1), (409, .iconst 3, 1), (410, .iadd, 1), (411, .iaload, 1), (412, .aload_n 0, 1), (413, .iload_n 3, 1), (414, .iconst 4, 1), (415, .iadd, 1), (416, .iaload, 1), (417, .invokevirtual 39, 3), (420, .pop, 1), (421, .goto 1420, 3)]
theorem dzL_c5 : dz cL_law rwL_c5 := dz_all 371 (by decide +kernel)
theorem hy_X7_earn : yX7_earn.cls ≠ "java/lang/invoke/MethodHandle" ∧ yX7_earn.cls ≠ "java/lang/invoke/VarHandle" ∧ (parseMethodDescriptor yX7_earn.desc).map (fun d => d.parameters.length) = some 4 := ⟨by decide +kernel, by decide +kernel, by decide +kernel⟩
set_option maxRecDepth 100000 in
theorem wd_442 : Cond.methodLink "LearnLoansLaw" 36 yX7_earn ∈ am_ws := am_wt2 (List.mem_of_getElem? (i := 145) (by rfl)) (by decide +kernel)
set_option maxRecDepth 100000 in
theorem wd_443 : Cond.instanceMethod yX7_earn ∈ am_ws := am_wt2 (List.mem_of_getElem? (i := 146) (by rfl)) (by decide +kernel)
set_option maxRecDepth 100000 in
theorem wd_444 : Cond.selects "LearnLoans" yX7_earn yX7_earn ∈ am_ws := am_wt2 (List.mem_of_getElem? (i := 147) (by rfl)) (by decide +kernel)
set_option maxRecDepth 100000 in
theorem wd_445 : Cond.code yX7_earn cX7_earn 7 (some .int) ∈ am_ws := am_wt2 (List.mem_of_getElem? (i := 148) (by rfl)) (by decide +kernel)
theorem hy_X8_earn : yX8_earn.cls ≠ "java/lang/invoke/MethodHandle" ∧ yX8_earn.cls ≠ "java/lang/invoke/VarHandle" ∧ (parseMethodDescriptor yX8_earn.desc).map (fun d => d.parameters.length) = some 4 := ⟨by decide +kernel, by decide +kernel, by decide +kernel⟩
set_option maxRecDepth 100000 in
theorem wd_1013 : Cond.methodLink "LearnLoansLaw" 39 yX8_earn ∈ am_ws := am_wt4 (List.mem_of_getElem? (i := 236) (by rfl)) (by decide +kernel)
set_option maxRecDepth 100000 in
theorem wd_1014 : Cond.instanceMethod yX8_earn ∈ am_ws := am_wt4 (List.mem_of_getElem? (i := 237) (by rfl)) (by decide +kernel)
set_option maxRecDepth 100000 in
theorem wd_1015 : Cond.selects "LearnLoansModel" yX8_earn yX8_earn ∈ am_ws := am_wt4 (List.mem_of_getElem? (i := 238) (by rfl)) (by decide +kernel)
set_option maxRecDepth 100000 in
theorem wd_1016 : Cond.code yX8_earn cX8_earn 6 (some .int) ∈ am_ws := am_wt4 (List.mem_of_getElem? (i := 239) (by rfl)) (by decide +kernel)
def kL_c5 (Ln : Nat) (xs : Nat → Int32) : an_code := [(371, an_lf (fun live => am_aload 1 372)), (372, an_lf (fun live => am_aload 0 373)), (373, an_lf (fun live => am_iload 3 374)), (374, an_lf (fun live => am_const (.int 1) 375)), (375, an_lf (fun live => am_i2 (fun x y => x + y) 376)), (376, an_sld Ln xs 377), (377, an_lf (fun live => am_aload 0 378)), (378, an_lf (fun live => am_iload 3 379)), (379, an_lf (fun live => am_const (.int 2) 380)), (380, an_lf (fun live => am_i2 (fun x y => x + y) 381)), (381, an_sld Ln xs 382), (382, an_lf (fun live => am_aload 0 383)), (383, an_lf (fun live => am_iload 3 384)), (384, an_lf (fun live => am_const (.int 3) 385)), (385, an_lf (fun live => am_i2 (fun x y => x + y) 386)), (386, an_sld Ln xs 387), (387, an_lf (fun live => am_aload 0 388)), (388, an_lf (fun live => am_iload 3 389)), (389, an_lf (fun live => am_const (.int 4) 390)), (390, an_lf (fun live => am_i2 (fun x y => x + y) 391)), (391, an_sld Ln xs 392), (392, an_lf (fun live => am_callV live 7 4 TW_earn 395)), (395, an_lf (fun live => am_pop 396)), (396, an_lf (fun live => am_aload 2 397)), (397, an_lf (fun live => am_aload 0 398)), (398, an_lf (fun live => am_iload 3 399)), (399, an_lf (fun live => am_const (.int 1) 400)), (400, an_lf (fun live => am_i2 (fun x y => x + y) 401)), (401, an_sld Ln xs 402), (402, an_lf (fun live => am_aload 0 403)), (403, an_lf (fun live => am_iload 3 404)), (404, an_lf (fun live => am_const (.int 2) 405)), (405, an_lf (fun live => am_i2 (fun x y => x + y) 406)), (406, an_sld Ln xs 407), (407, an_lf (fun live => am_aload 0 408)), (408, an_lf (fun live => am_iload 3 409)), (409, an_lf (fun live => am_const (.int 3) 410)), (410, an_lf (fun live => am_i2 (fun x y => x + y) 411)), (411, an_sld Ln xs 412), (412, an_lf (fun live => am_aload 0 413)), (413, an_lf (fun live => am_iload 3 414)), (414, an_lf (fun live => am_const (.int 4) 415)), (415, an_lf (fun live => am_i2 (fun x y => x + y) 416)), (416, an_sld Ln xs 417), (417, an_lf (fun live => am_callV live 8 4 TX8_earn 420)), (420, an_lf (fun live => am_pop 421)), (421, an_lf (fun live => am_goto 1841))]
theorem koL_c5 (Ln : Nat) (xs : Nat → Int32) : ∀ q ∈ kL_c5 Ln xs, an_ok RL cL_law 4 (some .boolean) 2000 80000 600000 7302250 false (lawP Ln xs) an_noR q.1 q.2 :=
  am_kz dzL_c5 <|
  an_kd (fun d => an_lift (fun live => ak_aload_n d rfl rfl)) <|
  an_kd (fun d => an_lift (fun live => ak_aload_n d rfl rfl)) <|
  an_kd (fun d => an_lift (fun live => ak_iload_n d rfl rfl)) <|
  an_kd (fun d => an_lift (fun live => ak_iconst d (by decide +kernel) rfl)) <|
  an_kd (fun d => an_lift (fun live => ak_iadd d rfl)) <|
  an_kd (fun d => nk_sld d rfl) <|
  an_kd (fun d => an_lift (fun live => ak_aload_n d rfl rfl)) <|
  an_kd (fun d => an_lift (fun live => ak_iload_n d rfl rfl)) <|
  an_kd (fun d => an_lift (fun live => ak_iconst d (by decide +kernel) rfl)) <|
  an_kd (fun d => an_lift (fun live => ak_iadd d rfl)) <|
  an_kd (fun d => nk_sld d rfl) <|
  an_kd (fun d => an_lift (fun live => ak_aload_n d rfl rfl)) <|
  an_kd (fun d => an_lift (fun live => ak_iload_n d rfl rfl)) <|
  an_kd (fun d => an_lift (fun live => ak_iconst d (by decide +kernel) rfl)) <|
  an_kd (fun d => an_lift (fun live => ak_iadd d rfl)) <|
  an_kd (fun d => nk_sld d rfl) <|
  an_kd (fun d => an_lift (fun live => ak_aload_n d rfl rfl)) <|
  an_kd (fun d => an_lift (fun live => ak_iload_n d rfl rfl)) <|
  an_kd (fun d => an_lift (fun live => ak_iconst d (by decide +kernel) rfl)) <|
  an_kd (fun d => an_lift (fun live => ak_iadd d rfl)) <|
  an_kd (fun d => nk_sld d rfl) <|
  an_kd (fun d => an_lift (fun live => ak_callV (C := RX7) (F := TX7) (N := 4) metW_earn rfl ⟨rfl, hy_X7_earn⟩ (am_w5 wd_442 wd_443 wd_444 wd_58 wd_445) (by decide) d rfl)) <|
  an_kd (fun d => an_lift (fun live => ak_pop d rfl)) <|
  an_kd (fun d => an_lift (fun live => ak_aload_n d rfl rfl)) <|
  an_kd (fun d => an_lift (fun live => ak_aload_n d rfl rfl)) <|
  an_kd (fun d => an_lift (fun live => ak_iload_n d rfl rfl)) <|
  an_kd (fun d => an_lift (fun live => ak_iconst d (by decide +kernel) rfl)) <|
  an_kd (fun d => an_lift (fun live => ak_iadd d rfl)) <|
  an_kd (fun d => nk_sld d rfl) <|
  an_kd (fun d => an_lift (fun live => ak_aload_n d rfl rfl)) <|
  an_kd (fun d => an_lift (fun live => ak_iload_n d rfl rfl)) <|
  an_kd (fun d => an_lift (fun live => ak_iconst d (by decide +kernel) rfl)) <|
  an_kd (fun d => an_lift (fun live => ak_iadd d rfl)) <|
  an_kd (fun d => nk_sld d rfl) <|
  an_kd (fun d => an_lift (fun live => ak_aload_n d rfl rfl)) <|
  an_kd (fun d => an_lift (fun live => ak_iload_n d rfl rfl)) <|
  an_kd (fun d => an_lift (fun live => ak_iconst d (by decide +kernel) rfl)) <|
  an_kd (fun d => an_lift (fun live => ak_iadd d rfl)) <|
  an_kd (fun d => nk_sld d rfl) <|
  an_kd (fun d => an_lift (fun live => ak_aload_n d rfl rfl)) <|
  an_kd (fun d => an_lift (fun live => ak_iload_n d rfl rfl)) <|
  an_kd (fun d => an_lift (fun live => ak_iconst d (by decide +kernel) rfl)) <|
  an_kd (fun d => an_lift (fun live => ak_iadd d rfl)) <|
  an_kd (fun d => nk_sld d rfl) <|
  an_kd (fun d => an_lift (fun live => ak_callV (C := RX8) (F := TX8) (N := 27) metX8_earn rfl ⟨rfl, hy_X8_earn⟩ (am_w5 wd_1013 wd_1014 wd_1015 wd_67 wd_1016) (by decide) d rfl)) <|
  an_kd (fun d => an_lift (fun live => ak_pop d rfl)) <|
  an_kd (fun d => an_lift (fun live => ak_goto d (by decide +kernel))) <| an_kdn
set_option maxRecDepth 100000 in
set_option maxHeartbeats 4000000 in
theorem caseL_c5 {Ln : Nat} (xs : Nat → Int32) {i : Int32} {i1 i2 : Bool} {kc kn : Nat} {M : am_M} (h : LI i1 i2 M) (hi : lawI Ln i kc kn) : an_wp (kL_c5 Ln xs) (lawC Ln i) 200 (an_go (kL_c5 Ln xs) 371) (lawL i) [] ((am_lv i1 i2, am_q i1 i2), kc, kn, M) := by
    obtain ⟨⟨f1, f2, f3, f4, f5, f6, f7⟩, k1, k2, k3, k4⟩ := hi.f
    have hmn : am_mn (am_lv i1 i2, am_q i1 i2) := ⟨_, _, rfl⟩
    repeat' (first | (with_reducible exact f1) | (with_reducible exact f2) | (with_reducible exact f3) | (with_reducible exact f4) | (with_reducible exact f5) | (with_reducible exact f6) | (with_reducible exact f7) | (with_reducible exact hmn) | (with_reducible exact h) | (with_reducible exact k1) | (with_reducible exact k2) | (with_reducible exact k3) | (with_reducible exact k4) | apply And.intro | exact rfl | ((with_reducible change r_I _); (with_reducible assumption)) | (intro hx; exact absurd hx (by decide)) | (intro hx; exact absurd (by decide) hx) | decide | intro hx | (refine Exists.intro _ (And.intro rfl ?_)) | (refine Exists.intro _ (Exists.intro _ (And.intro rfl (And.intro rfl ?_)))) | ((with_reducible change LI _ _ _); (with_reducible assumption)) | ((with_reducible change _ = true); simp only [k1, k2, k3, k4, Bool.true_and]; rfl))
    all_goals try first | (with_reducible change am_tI _ _) | (change Ret _ _) | (change Ret _ _ _) | (change Exists _)
    all_goals try dsimp only at *
    all_goals try (with_reducible exact absurd ‹(1000 : Int64) = 0› am_z1000)
    all_goals first
      | exact ⟨_, _, rfl⟩
      | exact lawE.mk hi (by with_reducible assumption) (by omega) (by omega)
      | skip
def rwL_c6 : List dz_r := [(424, .aload_n 1, 1), (425, .aload_n 0, 1), (426, .iload_n 3, 1), (427, .iconst 1, 1), (428, .iadd, 1), (429, .iaload, 1), (430, .aload_n 0, 1), (431, .iload_n 3, 1), (432, .iconst 2, 1), (433, .iadd, 1), (434, .iaload, 1), (435, .aload_n 0, 1), (436, .iload_n 3, 1), (437, .iconst 3, 1), (438, .iadd, 1), (439, .iaload, 1), (440, .aload_n 0, 1), (441, .iload_n 3, 1), (442, .iconst 4, 1), (443, .iadd, 1), (444, .iaload, 1), (445, .invokevirtual 40, 3), (448, .pop, 1), (449, .aload_n 2, 1), (450, .aload_n 0, 1), (451, .iload_n 3, 1), (452, .iconst 1, 1), (453, .iadd, 1), (454, .iaload, 1), (455, .aload_n 0, 1), (456, .iload_n 3, 1), (457, .iconst 2, 1), (458, .iadd, 1), (459, .iaload, 1), (460, .aload_n 0, 1), (461, .iload_n 3, 1), (462, .iconst 3, 1), (463, .iadd, 1), (464, .iaload, 1), (465, .aload_n 0, 1), (466, .iload_n 3, 1), (467, .iconst 4, 1), (468, .iadd, 1), (469, .iaload, 1), (470, .invokevirtual 43, 3), (473, .pop, 1), (474, .goto 1367, 3)]
theorem dzL_c6 : dz cL_law rwL_c6 := dz_all 424 (by decide +kernel)
theorem hy_X7_right : yX7_right.cls ≠ "java/lang/invoke/MethodHandle" ∧ yX7_right.cls ≠ "java/lang/invoke/VarHandle" ∧ (parseMethodDescriptor yX7_right.desc).map (fun d => d.parameters.length) = some 4 := ⟨by decide +kernel, by decide +kernel, by decide +kernel⟩
set_option maxRecDepth 100000 in
theorem wd_450 : Cond.methodLink "LearnLoansLaw" 40 yX7_right ∈ am_ws := am_wt2 (List.mem_of_getElem? (i := 153) (by rfl)) (by decide +kernel)
set_option maxRecDepth 100000 in
theorem wd_451 : Cond.instanceMethod yX7_right ∈ am_ws := am_wt2 (List.mem_of_getElem? (i := 154) (by rfl)) (by decide +kernel)
set_option maxRecDepth 100000 in
theorem wd_452 : Cond.selects "LearnLoans" yX7_right yX7_right ∈ am_ws := am_wt2 (List.mem_of_getElem? (i := 155) (by rfl)) (by decide +kernel)
set_option maxRecDepth 100000 in
theorem wd_453 : Cond.code yX7_right cX7_right 7 (some .int) ∈ am_ws := am_wt2 (List.mem_of_getElem? (i := 156) (by rfl)) (by decide +kernel)
theorem hy_X8_right : yX8_right.cls ≠ "java/lang/invoke/MethodHandle" ∧ yX8_right.cls ≠ "java/lang/invoke/VarHandle" ∧ (parseMethodDescriptor yX8_right.desc).map (fun d => d.parameters.length) = some 4 := ⟨by decide +kernel, by decide +kernel, by decide +kernel⟩
set_option maxRecDepth 100000 in
theorem wd_1018 : Cond.methodLink "LearnLoansLaw" 43 yX8_right ∈ am_ws := am_wt5 (List.mem_of_getElem? (i := 1) (by rfl)) (by decide +kernel)
set_option maxRecDepth 100000 in
theorem wd_1019 : Cond.instanceMethod yX8_right ∈ am_ws := am_wt5 (List.mem_of_getElem? (i := 2) (by rfl)) (by decide +kernel)
set_option maxRecDepth 100000 in
theorem wd_1020 : Cond.selects "LearnLoansModel" yX8_right yX8_right ∈ am_ws := am_wt5 (List.mem_of_getElem? (i := 3) (by rfl)) (by decide +kernel)
set_option maxRecDepth 100000 in
theorem wd_1021 : Cond.code yX8_right cX8_right 7 (some .int) ∈ am_ws := am_wt5 (List.mem_of_getElem? (i := 4) (by rfl)) (by decide +kernel)
def kL_c6 (Ln : Nat) (xs : Nat → Int32) : an_code := [(424, an_lf (fun live => am_aload 1 425)), (425, an_lf (fun live => am_aload 0 426)), (426, an_lf (fun live => am_iload 3 427)), (427, an_lf (fun live => am_const (.int 1) 428)), (428, an_lf (fun live => am_i2 (fun x y => x + y) 429)), (429, an_sld Ln xs 430), (430, an_lf (fun live => am_aload 0 431)), (431, an_lf (fun live => am_iload 3 432)), (432, an_lf (fun live => am_const (.int 2) 433)), (433, an_lf (fun live => am_i2 (fun x y => x + y) 434)), (434, an_sld Ln xs 435), (435, an_lf (fun live => am_aload 0 436)), (436, an_lf (fun live => am_iload 3 437)), (437, an_lf (fun live => am_const (.int 3) 438)), (438, an_lf (fun live => am_i2 (fun x y => x + y) 439)), (439, an_sld Ln xs 440), (440, an_lf (fun live => am_aload 0 441)), (441, an_lf (fun live => am_iload 3 442)), (442, an_lf (fun live => am_const (.int 4) 443)), (443, an_lf (fun live => am_i2 (fun x y => x + y) 444)), (444, an_sld Ln xs 445), (445, an_lf (fun live => am_callV live 7 4 TW_right 448)), (448, an_lf (fun live => am_pop 449)), (449, an_lf (fun live => am_aload 2 450)), (450, an_lf (fun live => am_aload 0 451)), (451, an_lf (fun live => am_iload 3 452)), (452, an_lf (fun live => am_const (.int 1) 453)), (453, an_lf (fun live => am_i2 (fun x y => x + y) 454)), (454, an_sld Ln xs 455), (455, an_lf (fun live => am_aload 0 456)), (456, an_lf (fun live => am_iload 3 457)), (457, an_lf (fun live => am_const (.int 2) 458)), (458, an_lf (fun live => am_i2 (fun x y => x + y) 459)), (459, an_sld Ln xs 460), (460, an_lf (fun live => am_aload 0 461)), (461, an_lf (fun live => am_iload 3 462)), (462, an_lf (fun live => am_const (.int 3) 463)), (463, an_lf (fun live => am_i2 (fun x y => x + y) 464)), (464, an_sld Ln xs 465), (465, an_lf (fun live => am_aload 0 466)), (466, an_lf (fun live => am_iload 3 467)), (467, an_lf (fun live => am_const (.int 4) 468)), (468, an_lf (fun live => am_i2 (fun x y => x + y) 469)), (469, an_sld Ln xs 470), (470, an_lf (fun live => am_callV live 8 4 TX8_right 473)), (473, an_lf (fun live => am_pop 474)), (474, an_lf (fun live => am_goto 1841))]
theorem koL_c6 (Ln : Nat) (xs : Nat → Int32) : ∀ q ∈ kL_c6 Ln xs, an_ok RL cL_law 4 (some .boolean) 2000 80000 600000 7302250 false (lawP Ln xs) an_noR q.1 q.2 :=
  am_kz dzL_c6 <|
  an_kd (fun d => an_lift (fun live => ak_aload_n d rfl rfl)) <|
  an_kd (fun d => an_lift (fun live => ak_aload_n d rfl rfl)) <|
  an_kd (fun d => an_lift (fun live => ak_iload_n d rfl rfl)) <|
  an_kd (fun d => an_lift (fun live => ak_iconst d (by decide +kernel) rfl)) <|
  an_kd (fun d => an_lift (fun live => ak_iadd d rfl)) <|
  an_kd (fun d => nk_sld d rfl) <|
  an_kd (fun d => an_lift (fun live => ak_aload_n d rfl rfl)) <|
  an_kd (fun d => an_lift (fun live => ak_iload_n d rfl rfl)) <|
  an_kd (fun d => an_lift (fun live => ak_iconst d (by decide +kernel) rfl)) <|
  an_kd (fun d => an_lift (fun live => ak_iadd d rfl)) <|
  an_kd (fun d => nk_sld d rfl) <|
  an_kd (fun d => an_lift (fun live => ak_aload_n d rfl rfl)) <|
  an_kd (fun d => an_lift (fun live => ak_iload_n d rfl rfl)) <|
  an_kd (fun d => an_lift (fun live => ak_iconst d (by decide +kernel) rfl)) <|
  an_kd (fun d => an_lift (fun live => ak_iadd d rfl)) <|
  an_kd (fun d => nk_sld d rfl) <|
  an_kd (fun d => an_lift (fun live => ak_aload_n d rfl rfl)) <|
  an_kd (fun d => an_lift (fun live => ak_iload_n d rfl rfl)) <|
  an_kd (fun d => an_lift (fun live => ak_iconst d (by decide +kernel) rfl)) <|
  an_kd (fun d => an_lift (fun live => ak_iadd d rfl)) <|
  an_kd (fun d => nk_sld d rfl) <|
  an_kd (fun d => an_lift (fun live => ak_callV (C := RX7) (F := TX7) (N := 4) metW_right rfl ⟨rfl, hy_X7_right⟩ (am_w5 wd_450 wd_451 wd_452 wd_58 wd_453) (by decide) d rfl)) <|
  an_kd (fun d => an_lift (fun live => ak_pop d rfl)) <|
  an_kd (fun d => an_lift (fun live => ak_aload_n d rfl rfl)) <|
  an_kd (fun d => an_lift (fun live => ak_aload_n d rfl rfl)) <|
  an_kd (fun d => an_lift (fun live => ak_iload_n d rfl rfl)) <|
  an_kd (fun d => an_lift (fun live => ak_iconst d (by decide +kernel) rfl)) <|
  an_kd (fun d => an_lift (fun live => ak_iadd d rfl)) <|
  an_kd (fun d => nk_sld d rfl) <|
  an_kd (fun d => an_lift (fun live => ak_aload_n d rfl rfl)) <|
  an_kd (fun d => an_lift (fun live => ak_iload_n d rfl rfl)) <|
  an_kd (fun d => an_lift (fun live => ak_iconst d (by decide +kernel) rfl)) <|
  an_kd (fun d => an_lift (fun live => ak_iadd d rfl)) <|
  an_kd (fun d => nk_sld d rfl) <|
  an_kd (fun d => an_lift (fun live => ak_aload_n d rfl rfl)) <|
  an_kd (fun d => an_lift (fun live => ak_iload_n d rfl rfl)) <|
  an_kd (fun d => an_lift (fun live => ak_iconst d (by decide +kernel) rfl)) <|
  an_kd (fun d => an_lift (fun live => ak_iadd d rfl)) <|
  an_kd (fun d => nk_sld d rfl) <|
  an_kd (fun d => an_lift (fun live => ak_aload_n d rfl rfl)) <|
  an_kd (fun d => an_lift (fun live => ak_iload_n d rfl rfl)) <|
  an_kd (fun d => an_lift (fun live => ak_iconst d (by decide +kernel) rfl)) <|
  an_kd (fun d => an_lift (fun live => ak_iadd d rfl)) <|
  an_kd (fun d => nk_sld d rfl) <|
  an_kd (fun d => an_lift (fun live => ak_callV (C := RX8) (F := TX8) (N := 27) metX8_right rfl ⟨rfl, hy_X8_right⟩ (am_w5 wd_1018 wd_1019 wd_1020 wd_67 wd_1021) (by decide) d rfl)) <|
  an_kd (fun d => an_lift (fun live => ak_pop d rfl)) <|
  an_kd (fun d => an_lift (fun live => ak_goto d (by decide +kernel))) <| an_kdn
set_option maxRecDepth 100000 in
set_option maxHeartbeats 4000000 in
theorem caseL_c6 {Ln : Nat} (xs : Nat → Int32) {i : Int32} {i1 i2 : Bool} {kc kn : Nat} {M : am_M} (h : LI i1 i2 M) (hi : lawI Ln i kc kn) : an_wp (kL_c6 Ln xs) (lawC Ln i) 200 (an_go (kL_c6 Ln xs) 424) (lawL i) [] ((am_lv i1 i2, am_q i1 i2), kc, kn, M) := by
    obtain ⟨⟨f1, f2, f3, f4, f5, f6, f7⟩, k1, k2, k3, k4⟩ := hi.f
    have hmn : am_mn (am_lv i1 i2, am_q i1 i2) := ⟨_, _, rfl⟩
    repeat' (first | (with_reducible exact f1) | (with_reducible exact f2) | (with_reducible exact f3) | (with_reducible exact f4) | (with_reducible exact f5) | (with_reducible exact f6) | (with_reducible exact f7) | (with_reducible exact hmn) | (with_reducible exact h) | (with_reducible exact k1) | (with_reducible exact k2) | (with_reducible exact k3) | (with_reducible exact k4) | apply And.intro | exact rfl | ((with_reducible change r_I _); (with_reducible assumption)) | (intro hx; exact absurd hx (by decide)) | (intro hx; exact absurd (by decide) hx) | decide | intro hx | (refine Exists.intro _ (And.intro rfl ?_)) | (refine Exists.intro _ (Exists.intro _ (And.intro rfl (And.intro rfl ?_)))) | ((with_reducible change LI _ _ _); (with_reducible assumption)) | ((with_reducible change _ = true); simp only [k1, k2, k3, k4, Bool.true_and]; rfl))
    all_goals try first | (with_reducible change am_tI _ _) | (change Ret _ _) | (change Ret _ _ _) | (change Exists _)
    all_goals try dsimp only at *
    all_goals try (with_reducible exact absurd ‹(1000 : Int64) = 0› am_z1000)
    all_goals first
      | exact ⟨_, _, rfl⟩
      | exact lawE.mk hi (by with_reducible assumption) (by omega) (by omega)
      | skip
def rwL_c7 : List dz_r := [(477, .aload_n 1, 1), (478, .aload_n 0, 1), (479, .iload_n 3, 1), (480, .iconst 1, 1), (481, .iadd, 1), (482, .iaload, 1), (483, .aload_n 0, 1), (484, .iload_n 3, 1), (485, .iconst 2, 1), (486, .iadd, 1), (487, .iaload, 1), (488, .aload_n 0, 1), (489, .iload_n 3, 1), (490, .iconst 3, 1), (491, .iadd, 1), (492, .iaload, 1), (493, .invokevirtual 44, 3), (496, .aload_n 2, 1), (497, .aload_n 0, 1), (498, .iload_n 3, 1), (499, .iconst 1, 1), (500, .iadd, 1), (501, .iaload, 1), (502, .aload_n 0, 1), (503, .iload_n 3, 1), (504, .iconst 2, 1), (505, .iadd, 1), (506, .iaload, 1), (507, .aload_n 0, 1), (508, .iload_n 3, 1), (509, .iconst 3, 1), (510, .iadd, 1), (511, .iaload, 1), (512, .invokevirtual 48, 3), (515, .if_icmp .eq 1326, 3), (518, .iconst 0, 1), (519, .ireturn, 1)]
theorem dzL_c7 : dz cL_law rwL_c7 := dz_all 477 (by decide +kernel)
theorem hy_X7_earnings : yX7_earnings.cls ≠ "java/lang/invoke/MethodHandle" ∧ yX7_earnings.cls ≠ "java/lang/invoke/VarHandle" ∧ (parseMethodDescriptor yX7_earnings.desc).map (fun d => d.parameters.length) = some 3 := ⟨by decide +kernel, by decide +kernel, by decide +kernel⟩
set_option maxRecDepth 100000 in
theorem wd_454 : Cond.methodLink "LearnLoansLaw" 44 yX7_earnings ∈ am_ws := am_wt2 (List.mem_of_getElem? (i := 157) (by rfl)) (by decide +kernel)
set_option maxRecDepth 100000 in
theorem wd_455 : Cond.instanceMethod yX7_earnings ∈ am_ws := am_wt2 (List.mem_of_getElem? (i := 158) (by rfl)) (by decide +kernel)
set_option maxRecDepth 100000 in
theorem wd_456 : Cond.selects "LearnLoans" yX7_earnings yX7_earnings ∈ am_ws := am_wt2 (List.mem_of_getElem? (i := 159) (by rfl)) (by decide +kernel)
set_option maxRecDepth 100000 in
theorem wd_457 : Cond.code yX7_earnings cX7_earnings 4 (some .int) ∈ am_ws := am_wt2 (List.mem_of_getElem? (i := 160) (by rfl)) (by decide +kernel)
theorem hy_X8_earnings : yX8_earnings.cls ≠ "java/lang/invoke/MethodHandle" ∧ yX8_earnings.cls ≠ "java/lang/invoke/VarHandle" ∧ (parseMethodDescriptor yX8_earnings.desc).map (fun d => d.parameters.length) = some 3 := ⟨by decide +kernel, by decide +kernel, by decide +kernel⟩
set_option maxRecDepth 100000 in
theorem wd_1022 : Cond.methodLink "LearnLoansLaw" 48 yX8_earnings ∈ am_ws := am_wt5 (List.mem_of_getElem? (i := 5) (by rfl)) (by decide +kernel)
set_option maxRecDepth 100000 in
theorem wd_1023 : Cond.instanceMethod yX8_earnings ∈ am_ws := am_wt5 (List.mem_of_getElem? (i := 6) (by rfl)) (by decide +kernel)
set_option maxRecDepth 100000 in
theorem wd_1024 : Cond.selects "LearnLoansModel" yX8_earnings yX8_earnings ∈ am_ws := am_wt5 (List.mem_of_getElem? (i := 7) (by rfl)) (by decide +kernel)
set_option maxRecDepth 100000 in
theorem wd_1025 : Cond.code yX8_earnings cX8_earnings 4 (some .int) ∈ am_ws := am_wt5 (List.mem_of_getElem? (i := 8) (by rfl)) (by decide +kernel)
def kL_c7 (Ln : Nat) (xs : Nat → Int32) : an_code := [(477, an_lf (fun live => am_aload 1 478)), (478, an_lf (fun live => am_aload 0 479)), (479, an_lf (fun live => am_iload 3 480)), (480, an_lf (fun live => am_const (.int 1) 481)), (481, an_lf (fun live => am_i2 (fun x y => x + y) 482)), (482, an_sld Ln xs 483), (483, an_lf (fun live => am_aload 0 484)), (484, an_lf (fun live => am_iload 3 485)), (485, an_lf (fun live => am_const (.int 2) 486)), (486, an_lf (fun live => am_i2 (fun x y => x + y) 487)), (487, an_sld Ln xs 488), (488, an_lf (fun live => am_aload 0 489)), (489, an_lf (fun live => am_iload 3 490)), (490, an_lf (fun live => am_const (.int 3) 491)), (491, an_lf (fun live => am_i2 (fun x y => x + y) 492)), (492, an_sld Ln xs 493), (493, an_lf (fun live => am_callV live 7 3 TW_earnings 496)), (496, an_lf (fun live => am_aload 2 497)), (497, an_lf (fun live => am_aload 0 498)), (498, an_lf (fun live => am_iload 3 499)), (499, an_lf (fun live => am_const (.int 1) 500)), (500, an_lf (fun live => am_i2 (fun x y => x + y) 501)), (501, an_sld Ln xs 502), (502, an_lf (fun live => am_aload 0 503)), (503, an_lf (fun live => am_iload 3 504)), (504, an_lf (fun live => am_const (.int 2) 505)), (505, an_lf (fun live => am_i2 (fun x y => x + y) 506)), (506, an_sld Ln xs 507), (507, an_lf (fun live => am_aload 0 508)), (508, an_lf (fun live => am_iload 3 509)), (509, an_lf (fun live => am_const (.int 3) 510)), (510, an_lf (fun live => am_i2 (fun x y => x + y) 511)), (511, an_sld Ln xs 512), (512, an_lf (fun live => am_callV live 8 3 TX8_earnings 515)), (515, an_lf (fun live => am_if2 (fun x y => x = y) 1841 518))]
theorem koL_c7 (Ln : Nat) (xs : Nat → Int32) : ∀ q ∈ kL_c7 Ln xs, an_ok RL cL_law 4 (some .boolean) 2000 80000 600000 7302250 false (lawP Ln xs) an_noR q.1 q.2 :=
  am_kz dzL_c7 <|
  an_kd (fun d => an_lift (fun live => ak_aload_n d rfl rfl)) <|
  an_kd (fun d => an_lift (fun live => ak_aload_n d rfl rfl)) <|
  an_kd (fun d => an_lift (fun live => ak_iload_n d rfl rfl)) <|
  an_kd (fun d => an_lift (fun live => ak_iconst d (by decide +kernel) rfl)) <|
  an_kd (fun d => an_lift (fun live => ak_iadd d rfl)) <|
  an_kd (fun d => nk_sld d rfl) <|
  an_kd (fun d => an_lift (fun live => ak_aload_n d rfl rfl)) <|
  an_kd (fun d => an_lift (fun live => ak_iload_n d rfl rfl)) <|
  an_kd (fun d => an_lift (fun live => ak_iconst d (by decide +kernel) rfl)) <|
  an_kd (fun d => an_lift (fun live => ak_iadd d rfl)) <|
  an_kd (fun d => nk_sld d rfl) <|
  an_kd (fun d => an_lift (fun live => ak_aload_n d rfl rfl)) <|
  an_kd (fun d => an_lift (fun live => ak_iload_n d rfl rfl)) <|
  an_kd (fun d => an_lift (fun live => ak_iconst d (by decide +kernel) rfl)) <|
  an_kd (fun d => an_lift (fun live => ak_iadd d rfl)) <|
  an_kd (fun d => nk_sld d rfl) <|
  an_kd (fun d => an_lift (fun live => ak_callV (C := RX7) (F := TX7) (N := 4) metW_earnings rfl ⟨rfl, hy_X7_earnings⟩ (am_w5 wd_454 wd_455 wd_456 wd_58 wd_457) (by decide) d rfl)) <|
  an_kd (fun d => an_lift (fun live => ak_aload_n d rfl rfl)) <|
  an_kd (fun d => an_lift (fun live => ak_aload_n d rfl rfl)) <|
  an_kd (fun d => an_lift (fun live => ak_iload_n d rfl rfl)) <|
  an_kd (fun d => an_lift (fun live => ak_iconst d (by decide +kernel) rfl)) <|
  an_kd (fun d => an_lift (fun live => ak_iadd d rfl)) <|
  an_kd (fun d => nk_sld d rfl) <|
  an_kd (fun d => an_lift (fun live => ak_aload_n d rfl rfl)) <|
  an_kd (fun d => an_lift (fun live => ak_iload_n d rfl rfl)) <|
  an_kd (fun d => an_lift (fun live => ak_iconst d (by decide +kernel) rfl)) <|
  an_kd (fun d => an_lift (fun live => ak_iadd d rfl)) <|
  an_kd (fun d => nk_sld d rfl) <|
  an_kd (fun d => an_lift (fun live => ak_aload_n d rfl rfl)) <|
  an_kd (fun d => an_lift (fun live => ak_iload_n d rfl rfl)) <|
  an_kd (fun d => an_lift (fun live => ak_iconst d (by decide +kernel) rfl)) <|
  an_kd (fun d => an_lift (fun live => ak_iadd d rfl)) <|
  an_kd (fun d => nk_sld d rfl) <|
  an_kd (fun d => an_lift (fun live => ak_callV (C := RX8) (F := TX8) (N := 27) metX8_earnings rfl ⟨rfl, hy_X8_earnings⟩ (am_w5 wd_1022 wd_1023 wd_1024 wd_67 wd_1025) (by decide) d rfl)) <|
  an_kd (fun d => an_lift (fun live => ak_icmp_eq d (by decide +kernel) rfl)) <|
  an_ks <|
  an_ks <| an_kdn
set_option maxRecDepth 100000 in
set_option maxHeartbeats 4000000 in
theorem caseL_c7 {Ln : Nat} (xs : Nat → Int32) {i : Int32} {i1 i2 : Bool} {kc kn : Nat} {M : am_M} (h : LI i1 i2 M) (hi : lawI Ln i kc kn) : an_wp (kL_c7 Ln xs) (lawC Ln i) 200 (an_go (kL_c7 Ln xs) 477) (lawL i) [] ((am_lv i1 i2, am_q i1 i2), kc, kn, M) := by
    obtain ⟨⟨f1, f2, f3, f4, f5, f6, f7⟩, k1, k2, k3, k4⟩ := hi.f
    have hmn : am_mn (am_lv i1 i2, am_q i1 i2) := ⟨_, _, rfl⟩
    repeat' (first | (with_reducible exact f1) | (with_reducible exact f2) | (with_reducible exact f3) | (with_reducible exact f4) | (with_reducible exact f5) | (with_reducible exact f6) | (with_reducible exact f7) | (with_reducible exact hmn) | (with_reducible exact h) | (with_reducible exact k1) | (with_reducible exact k2) | (with_reducible exact k3) | (with_reducible exact k4) | apply And.intro | exact rfl | ((with_reducible change r_I _); (with_reducible assumption)) | (intro hx; exact absurd hx (by decide)) | (intro hx; exact absurd (by decide) hx) | decide | (intro hx; refine absurd ?_ hx; with_reducible assumption) | intro hx | (refine Exists.intro _ (And.intro rfl ?_)) | (refine Exists.intro _ (Exists.intro _ (And.intro rfl (And.intro rfl ?_)))) | ((with_reducible change LI _ _ _); (with_reducible assumption)) | ((with_reducible change _ = true); simp only [k1, k2, k3, k4, Bool.true_and]; rfl))
    all_goals try first | (with_reducible change am_tI _ _) | (change Ret _ _) | (change Ret _ _ _) | (change Exists _)
    all_goals try dsimp only at *
    all_goals try (with_reducible exact absurd ‹(1000 : Int64) = 0› am_z1000)
    all_goals first
      | exact ⟨_, _, rfl⟩
      | exact lawE.mk hi (by with_reducible assumption) (by omega) (by omega)
      | skip
