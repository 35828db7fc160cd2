-- part 83.law.lean.txt
section
/-! the law: cases 4 to 7 -/
def rwL_c4 : List dz_r := [(338, .aload_n 1, 1), (339, .aload_n 0, 1), (340, .iload_n 3, 1), (341, .iconst 1, 1), (342, .iadd, 1), (343, .iaload, 1), (344, .aload_n 0, 1), (345, .iload_n 3, 1), (346, .iconst 2, 1), (347, .iadd, 1), (348, .iaload, 1), (349, .invokevirtual 32, 3), (352, .pop, 1), (353, .aload_n 2, 1), (354, .aload_n 0, 1), (355, .iload_n 3, 1), (356, .iconst 1, 1), (357, .iadd, 1), (358, .iaload, 1), (359, .aload_n 0, 1), (360, .iload_n 3, 1), (361, .iconst 2, 1), (362, .iadd, 1), (363, .iaload, 1), (364, .invokevirtual 35, 3), (367, .pop, 1), (368, .goto 1473, 3)]
theorem dzL_c4 : dz cL_law rwL_c4 := dz_all 338 (by decide +kernel)
theorem hy_X7_dies : yX7_dies.cls ≠ "java/lang/invoke/MethodHandle" ∧ yX7_dies.cls ≠ "java/lang/invoke/VarHandle" ∧ (parseMethodDescriptor yX7_dies.desc).map (fun d => d.parameters.length) = some 2 := ⟨by decide +kernel, by decide +kernel, by decide +kernel⟩
set_option maxRecDepth 100000 in
theorem wd_438 : Cond.methodLink "LearnLoansLaw" 32 yX7_dies ∈ am_ws := am_wt2 (List.mem_of_getElem? (i := 141) (by rfl)) (by decide +kernel)
set_option maxRecDepth 100000 in
theorem wd_439 : Cond.instanceMethod yX7_dies ∈ am_ws := am_wt2 (List.mem_of_getElem? (i := 142) (by rfl)) (by decide +kernel)
set_option maxRecDepth 100000 in
theorem wd_440 : Cond.selects "LearnLoans" yX7_dies yX7_dies ∈ am_ws := am_wt2 (List.mem_of_getElem? (i := 143) (by rfl)) (by decide +kernel)
set_option maxRecDepth 100000 in
theorem wd_441 : Cond.code yX7_dies cX7_dies 3 (some .int) ∈ am_ws := am_wt2 (List.mem_of_getElem? (i := 144) (by rfl)) (by decide +kernel)
theorem hy_X8_dies : yX8_dies.cls ≠ "java/lang/invoke/MethodHandle" ∧ yX8_dies.cls ≠ "java/lang/invoke/VarHandle" ∧ (parseMethodDescriptor yX8_dies.desc).map (fun d => d.parameters.length) = some 2 := ⟨by decide +kernel, by decide +kernel, by decide +kernel⟩
set_option maxRecDepth 100000 in
theorem wd_1009 : Cond.methodLink "LearnLoansLaw" 35 yX8_dies ∈ am_ws := am_wt4 (List.mem_of_getElem? (i := 232) (by rfl)) (by decide +kernel)
set_option maxRecDepth 100000 in
theorem wd_1010 : Cond.instanceMethod yX8_dies ∈ am_ws := am_wt4 (List.mem_of_getElem? (i := 233) (by rfl)) (by decide +kernel)
set_option maxRecDepth 100000 in
theorem wd_1011 : Cond.selects "LearnLoansModel" yX8_dies yX8_dies ∈ am_ws := am_wt4 (List.mem_of_getElem? (i := 234) (by rfl)) (by decide +kernel)
set_option maxRecDepth 100000 in
theorem wd_1012 : Cond.code yX8_dies cX8_dies 3 (some .int) ∈ am_ws := am_wt4 (List.mem_of_getElem? (i := 235) (by rfl)) (by decide +kernel)
def kL_c4 (Ln : Nat) (xs : Nat → Int32) : an_code := [(338, an_lf (fun live => am_aload 1 339)), (339, an_lf (fun live => am_aload 0 340)), (340, an_lf (fun live => am_iload 3 341)), (341, an_lf (fun live => am_const (.int 1) 342)), (342, an_lf (fun live => am_i2 (fun x y => x + y) 343)), (343, an_sld Ln xs 344), (344, an_lf (fun live => am_aload 0 345)), (345, an_lf (fun live => am_iload 3 346)), (346, an_lf (fun live => am_const (.int 2) 347)), (347, an_lf (fun live => am_i2 (fun x y => x + y) 348)), (348, an_sld Ln xs 349), (349, an_lf (fun live => am_callV live 7 2 TW_dies 352)), (352, an_lf (fun live => am_pop 353)), (353, an_lf (fun live => am_aload 2 354)), (354, an_lf (fun live => am_aload 0 355)), (355, an_lf (fun live => am_iload 3 356)), (356, an_lf (fun live => am_const (.int 1) 357)), (357, an_lf (fun live => am_i2 (fun x y => x + y) 358)), (358, an_sld Ln xs 359), (359, an_lf (fun live => am_aload 0 360)), (360, an_lf (fun live => am_iload 3 361)), (361, an_lf (fun live => am_const (.int 2) 362)), (362, an_lf (fun live => am_i2 (fun x y => x + y) 363)), (363, an_sld Ln xs 364), (364, an_lf (fun live => am_callV live 8 2 TX8_dies 367)), (367, an_lf (fun live => am_pop 368)), (368, an_lf (fun live => am_goto 1841))]
theorem koL_c4 (Ln : Nat) (xs : Nat → Int32) : ∀ q ∈ kL_c4 Ln xs, an_ok RL cL_law 4 (some .boolean) 2000 80000 600000 7302250 false (lawP Ln xs) an_noR q.1 q.2 :=
  am_kz dzL_c4 <|
  an_kd (fun d => an_lift (fun live => ak_aload_n d rfl rfl)) <|
  an_kd (fun d => an_lift (fun live => ak_aload_n d rfl rfl)) <|
  an_kd (fun d => an_lift (fun live => ak_iload_n d rfl rfl)) <|
  an_kd (fun d => an_lift (fun live => ak_iconst d (by decide +kernel) rfl)) <|
  an_kd (fun d => an_lift (fun live => ak_iadd d rfl)) <|
  an_kd (fun d => nk_sld d rfl) <|
  an_kd (fun d => an_lift (fun live => ak_aload_n d rfl rfl)) <|
  an_kd (fun d => an_lift (fun live => ak_iload_n d rfl rfl)) <|
  an_kd (fun d => an_lift (fun live => ak_iconst d (by decide +kernel) rfl)) <|
  an_kd (fun d => an_lift (fun live => ak_iadd d rfl)) <|
  an_kd (fun d => nk_sld d rfl) <|
  an_kd (fun d => an_lift (fun live => ak_callV (C := RX7) (F := TX7) (N := 4) metW_dies rfl ⟨rfl, hy_X7_dies⟩ (am_w5 wd_438 wd_439 wd_440 wd_58 wd_441) (by decide) d rfl)) <|
  an_kd (fun d => an_lift (fun live => ak_pop d rfl)) <|
  an_kd (fun d => an_lift (fun live => ak_aload_n d rfl rfl)) <|
  an_kd (fun d => an_lift (fun live => ak_aload_n d rfl rfl)) <|
  an_kd (fun d => an_lift (fun live => ak_iload_n d rfl rfl)) <|
  an_kd (fun d => an_lift (fun live => ak_iconst d (by decide +kernel) rfl)) <|
  an_kd (fun d => an_lift (fun live => ak_iadd d rfl)) <|
  an_kd (fun d => nk_sld d rfl) <|
  an_kd (fun d => an_lift (fun live => ak_aload_n d rfl rfl)) <|
  an_kd (fun d => an_lift (fun live => ak_iload_n d rfl rfl)) <|
  an_kd (fun d => an_lift (fun live => ak_iconst d (by decide +kernel) rfl)) <|
  an_kd (fun d => an_lift (fun live => ak_iadd d rfl)) <|
  an_kd (fun d => nk_sld d rfl) <|
  an_kd (fun d => an_lift (fun live => ak_callV (C := RX8) (F := TX8) (N := 27) metX8_dies rfl ⟨rfl, hy_X8_dies⟩ (am_w5 wd_1009 wd_1010 wd_1011 wd_67 wd_1012) (by decide) d rfl)) <|
  an_kd (fun d => an_lift (fun live => ak_pop d rfl)) <|
  an_kd (fun d => an_lift (fun live => ak_goto d (by decide +kernel))) <| an_kdn
set_option maxRecDepth 100000 in
set_option maxHeartbeats 4000000 in
theorem caseL_c4 {Ln : Nat} (xs : Nat → Int32) {i : Int32} {i1 i2 : Bool} {kc kn : Nat} {M : am_M} (h : LI i1 i2 M) (hi : lawI Ln i kc kn) : an_wp (kL_c4 Ln xs) (lawC Ln i) 200 (an_go (kL_c4 Ln xs) 338) (lawL i) [] ((am_lv i1 i2, am_q i1 i2), kc, kn, M) := by
    obtain ⟨⟨f1, f2, f3, f4, f5, f6, f7⟩, k1, k2, k3, k4⟩ := hi.f
    have hmn : am_mn (am_lv i1 i2, am_q i1 i2) := ⟨_, _, rfl⟩
    repeat' (first | (with_reducible exact f1) | (with_reducible exact f2) | (with_reducible exact f3) | (with_reducible exact f4) | (with_reducible exact f5) | (with_reducible exact f6) | (with_reducible exact f7) | (with_reducible exact hmn) | (with_reducible exact h) | (with_reducible exact k1) | (with_reducible exact k2) | (with_reducible exact k3) | (with_reducible exact k4) | apply And.intro | exact rfl | ((with_reducible change r_I _); (with_reducible assumption)) | (intro hx; exact absurd hx (by decide)) | (intro hx; exact absurd (by decide) hx) | decide | intro hx | (refine Exists.intro _ (And.intro rfl ?_)) | (refine Exists.intro _ (Exists.intro _ (And.intro rfl (And.intro rfl ?_)))) | ((with_reducible change LI _ _ _); (with_reducible assumption)) | ((with_reducible change _ = true); simp only [k1, k2, k3, k4, Bool.true_and]; rfl))
    all_goals try first | (with_reducible change am_tI _ _) | (change Ret _ _) | (change Ret _ _ _) | (change Exists _)
    all_goals try dsimp only at *
    all_goals try (with_reducible exact absurd ‹(1000 : Int64) = 0› am_z1000)
    all_goals first
      | exact ⟨_, _, rfl⟩
      | exact lawE.mk hi (by with_reducible assumption) (by omega) (by omega)
      | skip
def rwL_c5 : List dz_r := [(371, .aload_n 1, 1), (372, .aload_n 0, 1), (373, .iload_n 3, 1), (374, .iconst 1, 1), (375, .iadd, 1), (376, .iaload, 1), (377, .aload_n 0, 1), (378, .iload_n 3, 1), (379, .iconst 2, 1), (380, .iadd, 1), (381, .iaload, 1), (382, .aload_n 0, 1), (383, .iload_n 3, 1), (384, .iconst 3, 1), (385, .iadd, 1), (386, .iaload, 1), (387, .aload_n 0, 1), (388, .iload_n 3, 1), (389, .iconst 4, 1), (390, .iadd, 1), (391, .iaload, 1), (392, .invokevirtual 36, 3), (395, .pop, 1), (396, .aload_n 2, 1), (397, .aload_n 0, 1), (398, .iload_n 3, 1), (399, .iconst 1, 1), (400, .iadd, 1), (401, .iaload, 1), (402, .aload_n 0, 1), (403, .iload_n 3, 1), (404, .iconst 2, 1), (405, .iadd, 1), (406, .iaload, 1), (407, .aload_n 0, 1), (408, .iload_n 3, 1), (409, .iconst 3, 1), (410, .iadd, 1), (411, .iaload, 1), (412, .aload_n 0, 1), (413, .iload_n 3, 1), (414, .iconst 4, 1), (415, .iadd, 1), (416, .iaload, 1), (417, .invokevirtual 39, 3), (420, .pop, 1), (421, .goto 1420, 3)]
theorem dzL_c5 : dz cL_law rwL_c5 := dz_all 371 (by decide +kernel)
theorem hy_X7_earn : yX7_earn.cls ≠ "java/lang/invoke/MethodHandle" ∧ yX7_earn.cls ≠ "java/lang/invoke/VarHandle" ∧ (parseMethodDescriptor yX7_earn.desc).map (fun d => d.parameters.length) = some 4 := ⟨by decide +kernel, by decide +kernel, by decide +kernel⟩
set_option maxRecDepth 100000 in
theorem wd_442 : Cond.methodLink "LearnLoansLaw" 36 yX7_earn ∈ am_ws := am_wt2 (List.mem_of_getElem? (i := 145) (by rfl)) (by decide +kernel)
set_option maxRecDepth 100000 in
theorem wd_443 : Cond.instanceMethod yX7_earn ∈ am_ws := am_wt2 (List.mem_of_getElem? (i := 146) (by rfl)) (by decide +kernel)
set_option maxRecDepth 100000 in
theorem wd_444 : Cond.selects "LearnLoans" yX7_earn yX7_earn ∈ am_ws := am_wt2 (List.mem_of_getElem? (i := 147) (by rfl)) (by decide +kernel)
set_option maxRecDepth 100000 in
theorem wd_445 : Cond.code yX7_earn cX7_earn 7 (some .int) ∈ am_ws := am_wt2 (List.mem_of_getElem? (i := 148) (by rfl)) (by decide +kernel)
theorem hy_X8_earn : yX8_earn.cls ≠ "java/lang/invoke/MethodHandle" ∧ yX8_earn.cls ≠ "java/lang/invoke/VarHandle" ∧ (parseMethodDescriptor yX8_earn.desc).map (fun d => d.parameters.length) = some 4 := ⟨by decide +kernel, by decide +kernel, by decide +kernel⟩
set_option maxRecDepth 100000 in
theorem wd_1013 : Cond.methodLink "LearnLoansLaw" 39 yX8_earn ∈ am_ws := am_wt4 (List.mem_of_getElem? (i := 236) (by rfl)) (by decide +kernel)
set_option maxRecDepth 100000 in
theorem wd_1014 : Cond.instanceMethod yX8_earn ∈ am_ws := am_wt4 (List.mem_of_getElem? (i := 237) (by rfl)) (by decide +kernel)
set_option maxRecDepth 100000 in
theorem wd_1015 : Cond.selects "LearnLoansModel" yX8_earn yX8_earn ∈ am_ws := am_wt4 (List.mem_of_getElem? (i := 238) (by rfl)) (by decide +kernel)
set_option maxRecDepth 100000 in
theorem wd_1016 : Cond.code yX8_earn cX8_earn 6 (some .int) ∈ am_ws := am_wt4 (List.mem_of_getElem? (i := 239) (by rfl)) (by decide +kernel)
def kL_c5 (Ln : Nat) (xs : Nat → Int32) : an_code := [(371, an_lf (fun live => am_aload 1 372)), (372, an_lf (fun live => am_aload 0 373)), (373, an_lf (fun live => am_iload 3 374)), (374, an_lf (fun live => am_const (.int 1) 375)), (375, an_lf (fun live => am_i2 (fun x y => x + y) 376)), (376, an_sld Ln xs 377), (377, an_lf (fun live => am_aload 0 378)), (378, an_lf (fun live => am_iload 3 379)), (379, an_lf (fun live => am_const (.int 2) 380)), (380, an_lf (fun live => am_i2 (fun x y => x + y) 381)), (381, an_sld Ln xs 382), (382, an_lf (fun live => am_aload 0 383)), (383, an_lf (fun live => am_iload 3 384)), (384, an_lf (fun live => am_const (.int 3) 385)), (385, an_lf (fun live => am_i2 (fun x y => x + y) 386)), (386, an_sld Ln xs 387), (387, an_lf (fun live => am_aload 0 388)), (388, an_lf (fun live => am_iload 3 389)), (389, an_lf (fun live => am_const (.int 4) 390)), (390, an_lf (fun live => am_i2 (fun x y => x + y) 391)), (391, an_sld Ln xs 392), (392, an_lf (fun live => am_callV live 7 4 TW_earn 395)), (395, an_lf (fun live => am_pop 396)), (396, an_lf (fun live => am_aload 2 397)), (397, an_lf (fun live => am_aload 0 398)), (398, an_lf (fun live => am_iload 3 399)), (399, an_lf (fun live => am_const (.int 1) 400)), (400, an_lf (fun live => am_i2 (fun x y => x + y) 401)), (401, an_sld Ln xs 402), (402, an_lf (fun live => am_aload 0 403)), (403, an_lf (fun live => am_iload 3 404)), (404, an_lf (fun live => am_const (.int 2) 405)), (405, an_lf (fun live => am_i2 (fun x y => x + y) 406)), (406, an_sld Ln xs 407), (407, an_lf (fun live => am_aload 0 408)), (408, an_lf (fun live => am_iload 3 409)), (409, an_lf (fun live => am_const (.int 3) 410)), (410, an_lf (fun live => am_i2 (fun x y => x + y) 411)), (411, an_sld Ln xs 412), (412, an_lf (fun live => am_aload 0 413)), (413, an_lf (fun live => am_iload 3 414)), (414, an_lf (fun live => am_const (.int 4) 415)), (415, an_lf (fun live => am_i2 (fun x y => x + y) 416)), (416, an_sld Ln xs 417), (417, an_lf (fun live => am_callV live 8 4 TX8_earn 420)), (420, an_lf (fun live => am_pop 421)), (421, an_lf (fun live => am_goto 1841))]
theorem koL_c5 (Ln : Nat) (xs : Nat → Int32) : ∀ q ∈ kL_c5 Ln xs, an_ok RL cL_law 4 (some .boolean) 2000 80000 600000 7302250 false (lawP Ln xs) an_noR q.1 q.2 :=
  am_kz dzL_c5 <|
  an_kd (fun d => an_lift (fun live => ak_aload_n d rfl rfl)) <|
  an_kd (fun d => an_lift (fun live => ak_aload_n d rfl rfl)) <|
  an_kd (fun d => an_lift (fun live => ak_iload_n d rfl rfl)) <|
  an_kd (fun d => an_lift (fun live => ak_iconst d (by decide +kernel) rfl)) <|
  an_kd (fun d => an_lift (fun live => ak_iadd d rfl)) <|
  an_kd (fun d => nk_sld d rfl) <|
  an_kd (fun d => an_lift (fun live => ak_aload_n d rfl rfl)) <|
  an_kd (fun d => an_lift (fun live => ak_iload_n d rfl rfl)) <|
  an_kd (fun d => an_lift (fun live => ak_iconst d (by decide +kernel) rfl)) <|
  an_kd (fun d => an_lift (fun live => ak_iadd d rfl)) <|
  an_kd (fun d => nk_sld d rfl) <|
  an_kd (fun d => an_lift (fun live => ak_aload_n d rfl rfl)) <|
  an_kd (fun d => an_lift (fun live => ak_iload_n d rfl rfl)) <|
  an_kd (fun d => an_lift (fun live => ak_iconst d (by decide +kernel) rfl)) <|
  an_kd (fun d => an_lift (fun live => ak_iadd d rfl)) <|
  an_kd (fun d => nk_sld d rfl) <|
  an_kd (fun d => an_lift (fun live => ak_aload_n d rfl rfl)) <|
  an_kd (fun d => an_lift (fun live => ak_iload_n d rfl rfl)) <|
  an_kd (fun d => an_lift (fun live => ak_iconst d (by decide +kernel) rfl)) <|
  an_kd (fun d => an_lift (fun live => ak_iadd d rfl)) <|
  an_kd (fun d => nk_sld d rfl) <|
  an_kd (fun d => an_lift (fun live => ak_callV (C := RX7) (F := TX7) (N := 4) metW_earn rfl ⟨rfl, hy_X7_earn⟩ (am_w5 wd_442 wd_443 wd_444 wd_58 wd_445) (by decide) d rfl)) <|
  an_kd (fun d => an_lift (fun live => ak_pop d rfl)) <|
  an_kd (fun d => an_lift (fun live => ak_aload_n d rfl rfl)) <|
  an_kd (fun d => an_lift (fun live => ak_aload_n d rfl rfl)) <|
  an_kd (fun d => an_lift (fun live => ak_iload_n d rfl rfl)) <|
  an_kd (fun d => an_lift (fun live => ak_iconst d (by decide +kernel) rfl)) <|
  an_kd (fun d => an_lift (fun live => ak_iadd d rfl)) <|
  an_kd (fun d => nk_sld d rfl) <|
  an_kd (fun d => an_lift (fun live => ak_aload_n d rfl rfl)) <|
  an_kd (fun d => an_lift (fun live => ak_iload_n d rfl rfl)) <|
  an_kd (fun d => an_lift (fun live => ak_iconst d (by decide +kernel) rfl)) <|
  an_kd (fun d => an_lift (fun live => ak_iadd d rfl)) <|
  an_kd (fun d => nk_sld d rfl) <|
  an_kd (fun d => an_lift (fun live => ak_aload_n d rfl rfl)) <|
  an_kd (fun d => an_lift (fun live => ak_iload_n d rfl rfl)) <|
  an_kd (fun d => an_lift (fun live => ak_iconst d (by decide +kernel) rfl)) <|
  an_kd (fun d => an_lift (fun live => ak_iadd d rfl)) <|
  an_kd (fun d => nk_sld d rfl) <|
  an_kd (fun d => an_lift (fun live => ak_aload_n d rfl rfl)) <|
  an_kd (fun d => an_lift (fun live => ak_iload_n d rfl rfl)) <|
  an_kd (fun d => an_lift (fun live => ak_iconst d (by decide +kernel) rfl)) <|
  an_kd (fun d => an_lift (fun live => ak_iadd d rfl)) <|
  an_kd (fun d => nk_sld d rfl) <|
  an_kd (fun d => an_lift (fun live => ak_callV (C := RX8) (F := TX8) (N := 27) metX8_earn rfl ⟨rfl, hy_X8_earn⟩ (am_w5 wd_1013 wd_1014 wd_1015 wd_67 wd_1016) (by decide) d rfl)) <|
  an_kd (fun d => an_lift (fun live => ak_pop d rfl)) <|
  an_kd (fun d => an_lift (fun live => ak_goto d (by decide +kernel))) <| an_kdn
set_option maxRecDepth 100000 in
set_option maxHeartbeats 4000000 in
theorem caseL_c5 {Ln : Nat} (xs : Nat → Int32) {i : Int32} {i1 i2 : Bool} {kc kn : Nat} {M : am_M} (h : LI i1 i2 M) (hi : lawI Ln i kc kn) : an_wp (kL_c5 Ln xs) (lawC Ln i) 200 (an_go (kL_c5 Ln xs) 371) (lawL i) [] ((am_lv i1 i2, am_q i1 i2), kc, kn, M) := by
    obtain ⟨⟨f1, f2, f3, f4, f5, f6, f7⟩, k1, k2, k3, k4⟩ := hi.f
    have hmn : am_mn (am_lv i1 i2, am_q i1 i2) := ⟨_, _, rfl⟩
    repeat' (first | (with_reducible exact f1) | (with_reducible exact f2) | (with_reducible exact f3) | (with_reducible exact f4) | (with_reducible exact f5) | (with_reducible exact f6) | (with_reducible exact f7) | (with_reducible exact hmn) | (with_reducible exact h) | (with_reducible exact k1) | (with_reducible exact k2) | (with_reducible exact k3) | (with_reducible exact k4) | apply And.intro | exact rfl | ((with_reducible change r_I _); (with_reducible assumption)) | (intro hx; exact absurd hx (by decide)) | (intro hx; exact absurd (by decide) hx) | decide | intro hx | (refine Exists.intro _ (And.intro rfl ?_)) | (refine Exists.intro _ (Exists.intro _ (And.intro rfl (And.intro rfl ?_)))) | ((with_reducible change LI _ _ _); (with_reducible assumption)) | ((with_reducible change _ = true); simp only [k1, k2, k3, k4, Bool.true_and]; rfl))
    all_goals try first | (with_reducible change am_tI _ _) | (change Ret _ _) | (change Ret _ _ _) | (change Exists _)
    all_goals try dsimp only at *
    all_goals try (with_reducible exact absurd ‹(1000 : Int64) = 0› am_z1000)
    all_goals first
      | exact ⟨_, _, rfl⟩
      | exact lawE.mk hi (by with_reducible assumption) (by omega) (by omega)
      | skip
def rwL_c6 : List dz_r := [(424, .aload_n 1, 1), (425, .aload_n 0, 1), (426, .iload_n 3, 1), (427, .iconst 1, 1), (428, .iadd, 1), (429, .iaload, 1), (430, .aload_n 0, 1), (431, .iload_n 3, 1), (432, .iconst 2, 1), (433, .iadd, 1), (434, .iaload, 1), (435, .aload_n 0, 1), (436, .iload_n 3, 1), (437, .iconst 3, 1), (438, .iadd, 1), (439, .iaload, 1), (440, .aload_n 0, 1), (441, .iload_n 3, 1), (442, .iconst 4, 1), (443, .iadd, 1), (444, .iaload, 1), (445, .invokevirtual 40, 3), (448, .pop, 1), (449, .aload_n 2, 1), (450, .aload_n 0, 1), (451, .iload_n 3, 1), (452, .iconst 1, 1), (453, .iadd, 1), (454, .iaload, 1), (455, .aload_n 0, 1), (456, .iload_n 3, 1), (457, .iconst 2, 1), (458, .iadd, 1), (459, .iaload, 1), (460, .aload_n 0, 1), (461, .iload_n 3, 1), (462, .iconst 3, 1), (463, .iadd, 1), (464, .iaload, 1), (465, .aload_n 0, 1), (466, .iload_n 3, 1), (467, .iconst 4, 1), (468, .iadd, 1), (469, .iaload, 1), (470, .invokevirtual 43, 3), (473, .pop, 1), (474, .goto 1367, 3)]
theorem dzL_c6 : dz cL_law rwL_c6 := dz_all 424 (by decide +kernel)
theorem hy_X7_right : yX7_right.cls ≠ "java/lang/invoke/MethodHandle" ∧ yX7_right.cls ≠ "java/lang/invoke/VarHandle" ∧ (parseMethodDescriptor yX7_right.desc).map (fun d => d.parameters.length) = some 4 := ⟨by decide +kernel, by decide +kernel, by decide +kernel⟩
set_option maxRecDepth 100000 in
theorem wd_450 : Cond.methodLink "LearnLoansLaw" 40 yX7_right ∈ am_ws := am_wt2 (List.mem_of_getElem? (i := 153) (by rfl)) (by decide +kernel)
set_option maxRecDepth 100000 in
theorem wd_451 : Cond.instanceMethod yX7_right ∈ am_ws := am_wt2 (List.mem_of_getElem? (i := 154) (by rfl)) (by decide +kernel)
set_option maxRecDepth 100000 in
theorem wd_452 : Cond.selects "LearnLoans" yX7_right yX7_right ∈ am_ws := am_wt2 (List.mem_of_getElem? (i := 155) (by rfl)) (by decide +kernel)
set_option maxRecDepth 100000 in
theorem wd_453 : Cond.code yX7_right cX7_right 7 (some .int) ∈ am_ws := am_wt2 (List.mem_of_getElem? (i := 156) (by rfl)) (by decide +kernel)
theorem hy_X8_right : yX8_right.cls ≠ "java/lang/invoke/MethodHandle" ∧ yX8_right.cls ≠ "java/lang/invoke/VarHandle" ∧ (parseMethodDescriptor yX8_right.desc).map (fun d => d.parameters.length) = some 4 := ⟨by decide +kernel, by decide +kernel, by decide +kernel⟩
set_option maxRecDepth 100000 in
theorem wd_1018 : Cond.methodLink "LearnLoansLaw" 43 yX8_right ∈ am_ws := am_wt5 (List.mem_of_getElem? (i := 1) (by rfl)) (by decide +kernel)
set_option maxRecDepth 100000 in
theorem wd_1019 : Cond.instanceMethod yX8_right ∈ am_ws := am_wt5 (List.mem_of_getElem? (i := 2) (by rfl)) (by decide +kernel)
set_option maxRecDepth 100000 in
theorem wd_1020 : Cond.selects "LearnLoansModel" yX8_right yX8_right ∈ am_ws := am_wt5 (List.mem_of_getElem? (i := 3) (by rfl)) (by decide +kernel)
set_option maxRecDepth 100000 in
theorem wd_1021 : Cond.code yX8_right cX8_right 7 (some .int) ∈ am_ws := am_wt5 (List.mem_of_getElem? (i := 4) (by rfl)) (by decide +kernel)
def kL_c6 (Ln : Nat) (xs : Nat → Int32) : an_code := [(424, an_lf (fun live => am_aload 1 425)), (425, an_lf (fun live => am_aload 0 426)), (426, an_lf (fun live => am_iload 3 427)), (427, an_lf (fun live => am_const (.int 1) 428)), (428, an_lf (fun live => am_i2 (fun x y => x + y) 429)), (429, an_sld Ln xs 430), (430, an_lf (fun live => am_aload 0 431)), (431, an_lf (fun live => am_iload 3 432)), (432, an_lf (fun live => am_const (.int 2) 433)), (433, an_lf (fun live => am_i2 (fun x y => x + y) 434)), (434, an_sld Ln xs 435), (435, an_lf (fun live => am_aload 0 436)), (436, an_lf (fun live => am_iload 3 437)), (437, an_lf (fun live => am_const (.int 3) 438)), (438, an_lf (fun live => am_i2 (fun x y => x + y) 439)), (439, an_sld Ln xs 440), (440, an_lf (fun live => am_aload 0 441)), (441, an_lf (fun live => am_iload 3 442)), (442, an_lf (fun live => am_const (.int 4) 443)), (443, an_lf (fun live => am_i2 (fun x y => x + y) 444)), (444, an_sld Ln xs 445), (445, an_lf (fun live => am_callV live 7 4 TW_right 448)), (448, an_lf (fun live => am_pop 449)), (449, an_lf (fun live => am_aload 2 450)), (450, an_lf (fun live => am_aload 0 451)), (451, an_lf (fun live => am_iload 3 452)), (452, an_lf (fun live => am_const (.int 1) 453)), (453, an_lf (fun live => am_i2 (fun x y => x + y) 454)), (454, an_sld Ln xs 455), (455, an_lf (fun live => am_aload 0 456)), (456, an_lf (fun live => am_iload 3 457)), (457, an_lf (fun live => am_const (.int 2) 458)), (458, an_lf (fun live => am_i2 (fun x y => x + y) 459)), (459, an_sld Ln xs 460), (460, an_lf (fun live => am_aload 0 461)), (461, an_lf (fun live => am_iload 3 462)), (462, an_lf (fun live => am_const (.int 3) 463)), (463, an_lf (fun live => am_i2 (fun x y => x + y) 464)), (464, an_sld Ln xs 465), (465, an_lf (fun live => am_aload 0 466)), (466, an_lf (fun live => am_iload 3 467)), (467, an_lf (fun live => am_const (.int 4) 468)), (468, an_lf (fun live => am_i2 (fun x y => x + y) 469)), (469, an_sld Ln xs 470), (470, an_lf (fun live => am_callV live 8 4 TX8_right 473)), (473, an_lf (fun live => am_pop 474)), (474, an_lf (fun live => am_goto 1841))]
theorem koL_c6 (Ln : Nat) (xs : Nat → Int32) : ∀ q ∈ kL_c6 Ln xs, an_ok RL cL_law 4 (some .boolean) 2000 80000 600000 7302250 false (lawP Ln xs) an_noR q.1 q.2 :=
  am_kz dzL_c6 <|
  an_kd (fun d => an_lift (fun live => ak_aload_n d rfl rfl)) <|
  an_kd (fun d => an_lift (fun live => ak_aload_n d rfl rfl)) <|
  an_kd (fun d => an_lift (fun live => ak_iload_n d rfl rfl)) <|
  an_kd (fun d => an_lift (fun live => ak_iconst d (by decide +kernel) rfl)) <|
  an_kd (fun d => an_lift (fun live => ak_iadd d rfl)) <|
  an_kd (fun d => nk_sld d rfl) <|
  an_kd (fun d => an_lift (fun live => ak_aload_n d rfl rfl)) <|
  an_kd (fun d => an_lift (fun live => ak_iload_n d rfl rfl)) <|
  an_kd (fun d => an_lift (fun live => ak_iconst d (by decide +kernel) rfl)) <|
  an_kd (fun d => an_lift (fun live => ak_iadd d rfl)) <|
  an_kd (fun d => nk_sld d rfl) <|
  an_kd (fun d => an_lift (fun live => ak_aload_n d rfl rfl)) <|
  an_kd (fun d => an_lift (fun live => ak_iload_n d rfl rfl)) <|
  an_kd (fun d => an_lift (fun live => ak_iconst d (by decide +kernel) rfl)) <|
  an_kd (fun d => an_lift (fun live => ak_iadd d rfl)) <|
  an_kd (fun d => nk_sld d rfl) <|
  an_kd (fun d => an_lift (fun live => ak_aload_n d rfl rfl)) <|
  an_kd (fun d => an_lift (fun live => ak_iload_n d rfl rfl)) <|
  an_kd (fun d => an_lift (fun live => ak_iconst d (by decide +kernel) rfl)) <|
  an_kd (fun d => an_lift (fun live => ak_iadd d rfl)) <|
  an_kd (fun d => nk_sld d rfl) <|
  an_kd (fun d => an_lift (fun live => ak_callV (C := RX7) (F := TX7) (N := 4) metW_right rfl ⟨rfl, hy_X7_right⟩ (am_w5 wd_450 wd_451 wd_452 wd_58 wd_453) (by decide) d rfl)) <|
  an_kd (fun d => an_lift (fun live => ak_pop d rfl)) <|
  an_kd (fun d => an_lift (fun live => ak_aload_n d rfl rfl)) <|
  an_kd (fun d => an_lift (fun live => ak_aload_n d rfl rfl)) <|
  an_kd (fun d => an_lift (fun live => ak_iload_n d rfl rfl)) <|
  an_kd (fun d => an_lift (fun live => ak_iconst d (by decide +kernel) rfl)) <|
  an_kd (fun d => an_lift (fun live => ak_iadd d rfl)) <|
  an_kd (fun d => nk_sld d rfl) <|
  an_kd (fun d => an_lift (fun live => ak_aload_n d rfl rfl)) <|
  an_kd (fun d => an_lift (fun live => ak_iload_n d rfl rfl)) <|
  an_kd (fun d => an_lift (fun live => ak_iconst d (by decide +kernel) rfl)) <|
  an_kd (fun d => an_lift (fun live => ak_iadd d rfl)) <|
  an_kd (fun d => nk_sld d rfl) <|
  an_kd (fun d => an_lift (fun live => ak_aload_n d rfl rfl)) <|
  an_kd (fun d => an_lift (fun live => ak_iload_n d rfl rfl)) <|
  an_kd (fun d => an_lift (fun live => ak_iconst d (by decide +kernel) rfl)) <|
  an_kd (fun d => an_lift (fun live => ak_iadd d rfl)) <|
  an_kd (fun d => nk_sld d rfl) <|
  an_kd (fun d => an_lift (fun live => ak_aload_n d rfl rfl)) <|
  an_kd (fun d => an_lift (fun live => ak_iload_n d rfl rfl)) <|
  an_kd (fun d => an_lift (fun live => ak_iconst d (by decide +kernel) rfl)) <|
  an_kd (fun d => an_lift (fun live => ak_iadd d rfl)) <|
  an_kd (fun d => nk_sld d rfl) <|
  an_kd (fun d => an_lift (fun live => ak_callV (C := RX8) (F := TX8) (N := 27) metX8_right rfl ⟨rfl, hy_X8_right⟩ (am_w5 wd_1018 wd_1019 wd_1020 wd_67 wd_1021) (by decide) d rfl)) <|
  an_kd (fun d => an_lift (fun live => ak_pop d rfl)) <|
  an_kd (fun d => an_lift (fun live => ak_goto d (by decide +kernel))) <| an_kdn
set_option maxRecDepth 100000 in
set_option maxHeartbeats 4000000 in
theorem caseL_c6 {Ln : Nat} (xs : Nat → Int32) {i : Int32} {i1 i2 : Bool} {kc kn : Nat} {M : am_M} (h : LI i1 i2 M) (hi : lawI Ln i kc kn) : an_wp (kL_c6 Ln xs) (lawC Ln i) 200 (an_go (kL_c6 Ln xs) 424) (lawL i) [] ((am_lv i1 i2, am_q i1 i2), kc, kn, M) := by
    obtain ⟨⟨f1, f2, f3, f4, f5, f6, f7⟩, k1, k2, k3, k4⟩ := hi.f
    have hmn : am_mn (am_lv i1 i2, am_q i1 i2) := ⟨_, _, rfl⟩
    repeat' (first | (with_reducible exact f1) | (with_reducible exact f2) | (with_reducible exact f3) | (with_reducible exact f4) | (with_reducible exact f5) | (with_reducible exact f6) | (with_reducible exact f7) | (with_reducible exact hmn) | (with_reducible exact h) | (with_reducible exact k1) | (with_reducible exact k2) | (with_reducible exact k3) | (with_reducible exact k4) | apply And.intro | exact rfl | ((with_reducible change r_I _); (with_reducible assumption)) | (intro hx; exact absurd hx (by decide)) | (intro hx; exact absurd (by decide) hx) | decide | intro hx | (refine Exists.intro _ (And.intro rfl ?_)) | (refine Exists.intro _ (Exists.intro _ (And.intro rfl (And.intro rfl ?_)))) | ((with_reducible change LI _ _ _); (with_reducible assumption)) | ((with_reducible change _ = true); simp only [k1, k2, k3, k4, Bool.true_and]; rfl))
    all_goals try first | (with_reducible change am_tI _ _) | (change Ret _ _) | (change Ret _ _ _) | (change Exists _)
    all_goals try dsimp only at *
    all_goals try (with_reducible exact absurd ‹(1000 : Int64) = 0› am_z1000)
    all_goals first
      | exact ⟨_, _, rfl⟩
      | exact lawE.mk hi (by with_reducible assumption) (by omega) (by omega)
      | skip
def rwL_c7 : List dz_r := [(477, .aload_n 1, 1), (478, .aload_n 0, 1), (479, .iload_n 3, 1), (480, .iconst 1, 1), (481, .iadd, 1), (482, .iaload, 1), (483, .aload_n 0, 1), (484, .iload_n 3, 1), (485, .iconst 2, 1), (486, .iadd, 1), (487, .iaload, 1), (488, .aload_n 0, 1), (489, .iload_n 3, 1), (490, .iconst 3, 1), (491, .iadd, 1), (492, .iaload, 1), (493, .invokevirtual 44, 3), (496, .pop, 1), (497, .aload_n 2, 1), (498, .aload_n 0, 1), (499, .iload_n 3, 1), (500, .iconst 1, 1), (501, .iadd, 1), (502, .iaload, 1), (503, .aload_n 0, 1), (504, .iload_n 3, 1), (505, .iconst 2, 1), (506, .iadd, 1), (507, .iaload, 1), (508, .aload_n 0, 1), (509, .iload_n 3, 1), (510, .iconst 3, 1), (511, .iadd, 1), (512, .iaload, 1), (513, .invokevirtual 48, 3), (516, .pop, 1), (517, .goto 1324, 3)]
theorem dzL_c7 : dz cL_law rwL_c7 := dz_all 477 (by decide +kernel)
theorem hy_X7_earnings : yX7_earnings.cls ≠ "java/lang/invoke/MethodHandle" ∧ yX7_earnings.cls ≠ "java/lang/invoke/VarHandle" ∧ (parseMethodDescriptor yX7_earnings.desc).map (fun d => d.parameters.length) = some 3 := ⟨by decide +kernel, by decide +kernel, by decide +kernel⟩
set_option maxRecDepth 100000 in
theorem wd_454 : Cond.methodLink "LearnLoansLaw" 44 yX7_earnings ∈ am_ws := am_wt2 (List.mem_of_getElem? (i := 157) (by rfl)) (by decide +kernel)
set_option maxRecDepth 100000 in
theorem wd_455 : Cond.instanceMethod yX7_earnings ∈ am_ws := am_wt2 (List.mem_of_getElem? (i := 158) (by rfl)) (by decide +kernel)
set_option maxRecDepth 100000 in
theorem wd_456 : Cond.selects "LearnLoans" yX7_earnings yX7_earnings ∈ am_ws := am_wt2 (List.mem_of_getElem? (i := 159) (by rfl)) (by decide +kernel)
set_option maxRecDepth 100000 in
theorem wd_457 : Cond.code yX7_earnings cX7_earnings 4 (some .int) ∈ am_ws := am_wt2 (List.mem_of_getElem? (i := 160) (by rfl)) (by decide +kernel)
theorem hy_X8_earnings : yX8_earnings.cls ≠ "java/lang/invoke/MethodHandle" ∧ yX8_earnings.cls ≠ "java/lang/invoke/VarHandle" ∧ (parseMethodDescriptor yX8_earnings.desc).map (fun d => d.parameters.length) = some 3 := ⟨by decide +kernel, by decide +kernel, by decide +kernel⟩
set_option maxRecDepth 100000 in
theorem wd_1022 : Cond.methodLink "LearnLoansLaw" 48 yX8_earnings ∈ am_ws := am_wt5 (List.mem_of_getElem? (i := 5) (by rfl)) (by decide +kernel)
set_option maxRecDepth 100000 in
theorem wd_1023 : Cond.instanceMethod yX8_earnings ∈ am_ws := am_wt5 (List.mem_of_getElem? (i := 6) (by rfl)) (by decide +kernel)
set_option maxRecDepth 100000 in
theorem wd_1024 : Cond.selects "LearnLoansModel" yX8_earnings yX8_earnings ∈ am_ws := am_wt5 (List.mem_of_getElem? (i := 7) (by rfl)) (by decide +kernel)
set_option maxRecDepth 100000 in
theorem wd_1025 : Cond.code yX8_earnings cX8_earnings 4 (some .int) ∈ am_ws := am_wt5 (List.mem_of_getElem? (i := 8) (by rfl)) (by decide +kernel)
def kL_c7 (Ln : Nat) (xs : Nat → Int32) : an_code := [(477, an_lf (fun live => am_aload 1 478)), (478, an_lf (fun live => am_aload 0 479)), (479, an_lf (fun live => am_iload 3 480)), (480, an_lf (fun live => am_const (.int 1) 481)), (481, an_lf (fun live => am_i2 (fun x y => x + y) 482)), (482, an_sld Ln xs 483), (483, an_lf (fun live => am_aload 0 484)), (484, an_lf (fun live => am_iload 3 485)), (485, an_lf (fun live => am_const (.int 2) 486)), (486, an_lf (fun live => am_i2 (fun x y => x + y) 487)), (487, an_sld Ln xs 488), (488, an_lf (fun live => am_aload 0 489)), (489, an_lf (fun live => am_iload 3 490)), (490, an_lf (fun live => am_const (.int 3) 491)), (491, an_lf (fun live => am_i2 (fun x y => x + y) 492)), (492, an_sld Ln xs 493), (493, an_lf (fun live => am_callV live 7 3 TW_earnings 496)), (496, an_lf (fun live => am_pop 497)), (497, an_lf (fun live => am_aload 2 498)), (498, an_lf (fun live => am_aload 0 499)), (499, an_lf (fun live => am_iload 3 500)), (500, an_lf (fun live => am_const (.int 1) 501)), (501, an_lf (fun live => am_i2 (fun x y => x + y) 502)), (502, an_sld Ln xs 503), (503, an_lf (fun live => am_aload 0 504)), (504, an_lf (fun live => am_iload 3 505)), (505, an_lf (fun live => am_const (.int 2) 506)), (506, an_lf (fun live => am_i2 (fun x y => x + y) 507)), (507, an_sld Ln xs 508), (508, an_lf (fun live => am_aload 0 509)), (509, an_lf (fun live => am_iload 3 510)), (510, an_lf (fun live => am_const (.int 3) 511)), (511, an_lf (fun live => am_i2 (fun x y => x + y) 512)), (512, an_sld Ln xs 513), (513, an_lf (fun live => am_callV live 8 3 TX8_earnings 516)), (516, an_lf (fun live => am_pop 517)), (517, an_lf (fun live => am_goto 1841))]
theorem koL_c7 (Ln : Nat) (xs : Nat → Int32) : ∀ q ∈ kL_c7 Ln xs, an_ok RL cL_law 4 (some .boolean) 2000 80000 600000 7302250 false (lawP Ln xs) an_noR q.1 q.2 :=
  am_kz dzL_c7 <|
  an_kd (fun d => an_lift (fun live => ak_aload_n d rfl rfl)) <|
  an_kd (fun d => an_lift (fun live => ak_aload_n d rfl rfl)) <|
  an_kd (fun d => an_lift (fun live => ak_iload_n d rfl rfl)) <|
  an_kd (fun d => an_lift (fun live => ak_iconst d (by decide +kernel) rfl)) <|
  an_kd (fun d => an_lift (fun live => ak_iadd d rfl)) <|
  an_kd (fun d => nk_sld d rfl) <|
  an_kd (fun d => an_lift (fun live => ak_aload_n d rfl rfl)) <|
  an_kd (fun d => an_lift (fun live => ak_iload_n d rfl rfl)) <|
  an_kd (fun d => an_lift (fun live => ak_iconst d (by decide +kernel) rfl)) <|
  an_kd (fun d => an_lift (fun live => ak_iadd d rfl)) <|
  an_kd (fun d => nk_sld d rfl) <|
  an_kd (fun d => an_lift (fun live => ak_aload_n d rfl rfl)) <|
  an_kd (fun d => an_lift (fun live => ak_iload_n d rfl rfl)) <|
  an_kd (fun d => an_lift (fun live => ak_iconst d (by decide +kernel) rfl)) <|
  an_kd (fun d => an_lift (fun live => ak_iadd d rfl)) <|
  an_kd (fun d => nk_sld d rfl) <|
  an_kd (fun d => an_lift (fun live => ak_callV (C := RX7) (F := TX7) (N := 4) metW_earnings rfl ⟨rfl, hy_X7_earnings⟩ (am_w5 wd_454 wd_455 wd_456 wd_58 wd_457) (by decide) d rfl)) <|
  an_kd (fun d => an_lift (fun live => ak_pop d rfl)) <|
  an_kd (fun d => an_lift (fun live => ak_aload_n d rfl rfl)) <|
  an_kd (fun d => an_lift (fun live => ak_aload_n d rfl rfl)) <|
  an_kd (fun d => an_lift (fun live => ak_iload_n d rfl rfl)) <|
  an_kd (fun d => an_lift (fun live => ak_iconst d (by decide +kernel) rfl)) <|
  an_kd (fun d => an_lift (fun live => ak_iadd d rfl)) <|
  an_kd (fun d => nk_sld d rfl) <|
  an_kd (fun d => an_lift (fun live => ak_aload_n d rfl rfl)) <|
  an_kd (fun d => an_lift (fun live => ak_iload_n d rfl rfl)) <|
  an_kd (fun d => an_lift (fun live => ak_iconst d (by decide +kernel) rfl)) <|
  an_kd (fun d => an_lift (fun live => ak_iadd d rfl)) <|
  an_kd (fun d => nk_sld d rfl) <|
  an_kd (fun d => an_lift (fun live => ak_aload_n d rfl rfl)) <|
  an_kd (fun d => an_lift (fun live => ak_iload_n d rfl rfl)) <|
  an_kd (fun d => an_lift (fun live => ak_iconst d (by decide +kernel) rfl)) <|
  an_kd (fun d => an_lift (fun live => ak_iadd d rfl)) <|
  an_kd (fun d => nk_sld d rfl) <|
  an_kd (fun d => an_lift (fun live => ak_callV (C := RX8) (F := TX8) (N := 27) metX8_earnings rfl ⟨rfl, hy_X8_earnings⟩ (am_w5 wd_1022 wd_1023 wd_1024 wd_67 wd_1025) (by decide) d rfl)) <|
  an_kd (fun d => an_lift (fun live => ak_pop d rfl)) <|
  an_kd (fun d => an_lift (fun live => ak_goto d (by decide +kernel))) <| an_kdn
set_option maxRecDepth 100000 in
set_option maxHeartbeats 4000000 in
theorem caseL_c7 {Ln : Nat} (xs : Nat → Int32) {i : Int32} {i1 i2 : Bool} {kc kn : Nat} {M : am_M} (h : LI i1 i2 M) (hi : lawI Ln i kc kn) : an_wp (kL_c7 Ln xs) (lawC Ln i) 200 (an_go (kL_c7 Ln xs) 477) (lawL i) [] ((am_lv i1 i2, am_q i1 i2), kc, kn, M) := by
    obtain ⟨⟨f1, f2, f3, f4, f5, f6, f7⟩, k1, k2, k3, k4⟩ := hi.f
    have hmn : am_mn (am_lv i1 i2, am_q i1 i2) := ⟨_, _, rfl⟩
    repeat' (first | (with_reducible exact f1) | (with_reducible exact f2) | (with_reducible exact f3) | (with_reducible exact f4) | (with_reducible exact f5) | (with_reducible exact f6) | (with_reducible exact f7) | (with_reducible exact hmn) | (with_reducible exact h) | (with_reducible exact k1) | (with_reducible exact k2) | (with_reducible exact k3) | (with_reducible exact k4) | apply And.intro | exact rfl | ((with_reducible change r_I _); (with_reducible assumption)) | (intro hx; exact absurd hx (by decide)) | (intro hx; exact absurd (by decide) hx) | decide | intro hx | (refine Exists.intro _ (And.intro rfl ?_)) | (refine Exists.intro _ (Exists.intro _ (And.intro rfl (And.intro rfl ?_)))) | ((with_reducible change LI _ _ _); (with_reducible assumption)) | ((with_reducible change _ = true); simp only [k1, k2, k3, k4, Bool.true_and]; rfl))
    all_goals try first | (with_reducible change am_tI _ _) | (change Ret _ _) | (change Ret _ _ _) | (change Exists _)
    all_goals try dsimp only at *
    all_goals try (with_reducible exact absurd ‹(1000 : Int64) = 0› am_z1000)
    all_goals first
      | exact ⟨_, _, rfl⟩
      | exact lawE.mk hi (by with_reducible assumption) (by omega) (by omega)
      | skip
end
-- part 84.law.lean.txt
section
/-! the law: cases 8 to 11 -/
def rwL_c8 : List dz_r := [(520, .aload_n 1, 1), (521, .aload_n 0, 1), (522, .iload_n 3, 1), (523, .iconst 1, 1), (524, .iadd, 1), (525, .iaload, 1), (526, .aload_n 0, 1), (527, .iload_n 3, 1), (528, .iconst 2, 1), (529, .iadd, 1), (530, .iaload, 1), (531, .aload_n 0, 1), (532, .iload_n 3, 1), (533, .iconst 3, 1), (534, .iadd, 1), (535, .iaload, 1), (536, .aload_n 0, 1), (537, .iload_n 3, 1), (538, .iconst 4, 1), (539, .iadd, 1), (540, .iaload, 1), (541, .aload_n 0, 1), (542, .iload_n 3, 1), (543, .iconst 5, 1), (544, .iadd, 1), (545, .iaload, 1), (546, .aload_n 0, 1), (547, .iload_n 3, 1), (548, .bipush 6, 2), (550, .iadd, 1), (551, .iaload, 1), (552, .invokevirtual 49, 3), (555, .pop, 1), (556, .aload_n 2, 1), (557, .aload_n 0, 1), (558, .iload_n 3, 1), (559, .iconst 1, 1), (560, .iadd, 1), (561, .iaload, 1), (562, .aload_n 0, 1), (563, .iload_n 3, 1), (564, .iconst 2, 1), (565, .iadd, 1), (566, .iaload, 1), (567, .aload_n 0, 1), (568, .iload_n 3, 1), (569, .iconst 3, 1), (570, .iadd, 1), (571, .iaload, 1), (572, .aload_n 0, 1), (573, .iload_n 3, 1), (574, .iconst 4, 1), (575, .iadd, 1), (576, .iaload, 1), (577, .aload_n 0, 1), (578, .iload_n 3, 1), (579, .iconst 5, 1), (580, .iadd, 1), (581, .iaload, 1), (582, .aload_n 0, 1), (583, .iload_n 3, 1), (584, .bipush 6, 2), (586, .iadd, 1), (587, .iaload, 1), (588, .invokevirtual 53, 3), (591, .pop, 1), (592, .goto 1249, 3)]
theorem dzL_c8 : dz cL_law rwL_c8 := dz_all 520 (by decide +kernel)
theorem hy_X7_act : yX7_act.cls ≠ "java/lang/invoke/MethodHandle" ∧ yX7_act.cls ≠ "java/lang/invoke/VarHandle" ∧ (parseMethodDescriptor yX7_act.desc).map (fun d => d.parameters.length) = some 6 := ⟨by decide +kernel, by decide +kernel, by decide +kernel⟩
set_option maxRecDepth 100000 in
theorem wd_462 : Cond.methodLink "LearnLoansLaw" 49 yX7_act ∈ am_ws := am_wt2 (List.mem_of_getElem? (i := 165) (by rfl)) (by decide +kernel)
set_option maxRecDepth 100000 in
theorem wd_463 : Cond.instanceMethod yX7_act ∈ am_ws := am_wt2 (List.mem_of_getElem? (i := 166) (by rfl)) (by decide +kernel)
set_option maxRecDepth 100000 in
theorem wd_464 : Cond.selects "LearnLoans" yX7_act yX7_act ∈ am_ws := am_wt2 (List.mem_of_getElem? (i := 167) (by rfl)) (by decide +kernel)
set_option maxRecDepth 100000 in
theorem wd_465 : Cond.code yX7_act cX7_act 7 (some .int) ∈ am_ws := am_wt2 (List.mem_of_getElem? (i := 168) (by rfl)) (by decide +kernel)
theorem hy_X8_act : yX8_act.cls ≠ "java/lang/invoke/MethodHandle" ∧ yX8_act.cls ≠ "java/lang/invoke/VarHandle" ∧ (parseMethodDescriptor yX8_act.desc).map (fun d => d.parameters.length) = some 6 := ⟨by decide +kernel, by decide +kernel, by decide +kernel⟩
set_option maxRecDepth 100000 in
theorem wd_1030 : Cond.methodLink "LearnLoansLaw" 53 yX8_act ∈ am_ws := am_wt5 (List.mem_of_getElem? (i := 13) (by rfl)) (by decide +kernel)
set_option maxRecDepth 100000 in
theorem wd_1031 : Cond.instanceMethod yX8_act ∈ am_ws := am_wt5 (List.mem_of_getElem? (i := 14) (by rfl)) (by decide +kernel)
set_option maxRecDepth 100000 in
theorem wd_1032 : Cond.selects "LearnLoansModel" yX8_act yX8_act ∈ am_ws := am_wt5 (List.mem_of_getElem? (i := 15) (by rfl)) (by decide +kernel)
set_option maxRecDepth 100000 in
theorem wd_1033 : Cond.code yX8_act cX8_act 8 (some .int) ∈ am_ws := am_wt5 (List.mem_of_getElem? (i := 16) (by rfl)) (by decide +kernel)
def kL_c8 (Ln : Nat) (xs : Nat → Int32) : an_code := [(520, an_lf (fun live => am_aload 1 521)), (521, an_lf (fun live => am_aload 0 522)), (522, an_lf (fun live => am_iload 3 523)), (523, an_lf (fun live => am_const (.int 1) 524)), (524, an_lf (fun live => am_i2 (fun x y => x + y) 525)), (525, an_sld Ln xs 526), (526, an_lf (fun live => am_aload 0 527)), (527, an_lf (fun live => am_iload 3 528)), (528, an_lf (fun live => am_const (.int 2) 529)), (529, an_lf (fun live => am_i2 (fun x y => x + y) 530)), (530, an_sld Ln xs 531), (531, an_lf (fun live => am_aload 0 532)), (532, an_lf (fun live => am_iload 3 533)), (533, an_lf (fun live => am_const (.int 3) 534)), (534, an_lf (fun live => am_i2 (fun x y => x + y) 535)), (535, an_sld Ln xs 536), (536, an_lf (fun live => am_aload 0 537)), (537, an_lf (fun live => am_iload 3 538)), (538, an_lf (fun live => am_const (.int 4) 539)), (539, an_lf (fun live => am_i2 (fun x y => x + y) 540)), (540, an_sld Ln xs 541), (541, an_lf (fun live => am_aload 0 542)), (542, an_lf (fun live => am_iload 3 543)), (543, an_lf (fun live => am_const (.int 5) 544)), (544, an_lf (fun live => am_i2 (fun x y => x + y) 545)), (545, an_sld Ln xs 546), (546, an_lf (fun live => am_aload 0 547)), (547, an_lf (fun live => am_iload 3 548)), (548, an_lf (fun live => am_const (.int 6) 550)), (550, an_lf (fun live => am_i2 (fun x y => x + y) 551)), (551, an_sld Ln xs 552), (552, an_lf (fun live => am_callV live 7 6 TW_act 555)), (555, an_lf (fun live => am_pop 556)), (556, an_lf (fun live => am_aload 2 557)), (557, an_lf (fun live => am_aload 0 558)), (558, an_lf (fun live => am_iload 3 559)), (559, an_lf (fun live => am_const (.int 1) 560)), (560, an_lf (fun live => am_i2 (fun x y => x + y) 561)), (561, an_sld Ln xs 562), (562, an_lf (fun live => am_aload 0 563)), (563, an_lf (fun live => am_iload 3 564)), (564, an_lf (fun live => am_const (.int 2) 565)), (565, an_lf (fun live => am_i2 (fun x y => x + y) 566)), (566, an_sld Ln xs 567), (567, an_lf (fun live => am_aload 0 568)), (568, an_lf (fun live => am_iload 3 569)), (569, an_lf (fun live => am_const (.int 3) 570)), (570, an_lf (fun live => am_i2 (fun x y => x + y) 571)), (571, an_sld Ln xs 572), (572, an_lf (fun live => am_aload 0 573)), (573, an_lf (fun live => am_iload 3 574)), (574, an_lf (fun live => am_const (.int 4) 575)), (575, an_lf (fun live => am_i2 (fun x y => x + y) 576)), (576, an_sld Ln xs 577), (577, an_lf (fun live => am_aload 0 578)), (578, an_lf (fun live => am_iload 3 579)), (579, an_lf (fun live => am_const (.int 5) 580)), (580, an_lf (fun live => am_i2 (fun x y => x + y) 581)), (581, an_sld Ln xs 582), (582, an_lf (fun live => am_aload 0 583)), (583, an_lf (fun live => am_iload 3 584)), (584, an_lf (fun live => am_const (.int 6) 586)), (586, an_lf (fun live => am_i2 (fun x y => x + y) 587)), (587, an_sld Ln xs 588), (588, an_lf (fun live => am_callV live 8 6 TX8_act 591)), (591, an_lf (fun live => am_pop 592)), (592, an_lf (fun live => am_goto 1841))]
theorem koL_c8 (Ln : Nat) (xs : Nat → Int32) : ∀ q ∈ kL_c8 Ln xs, an_ok RL cL_law 4 (some .boolean) 2000 80000 600000 7302250 false (lawP Ln xs) an_noR q.1 q.2 :=
  am_kz dzL_c8 <|
  an_kd (fun d => an_lift (fun live => ak_aload_n d rfl rfl)) <|
  an_kd (fun d => an_lift (fun live => ak_aload_n d rfl rfl)) <|
  an_kd (fun d => an_lift (fun live => ak_iload_n d rfl rfl)) <|
  an_kd (fun d => an_lift (fun live => ak_iconst d (by decide +kernel) rfl)) <|
  an_kd (fun d => an_lift (fun live => ak_iadd d rfl)) <|
  an_kd (fun d => nk_sld d rfl) <|
  an_kd (fun d => an_lift (fun live => ak_aload_n d rfl rfl)) <|
  an_kd (fun d => an_lift (fun live => ak_iload_n d rfl rfl)) <|
  an_kd (fun d => an_lift (fun live => ak_iconst d (by decide +kernel) rfl)) <|
  an_kd (fun d => an_lift (fun live => ak_iadd d rfl)) <|
  an_kd (fun d => nk_sld d rfl) <|
  an_kd (fun d => an_lift (fun live => ak_aload_n d rfl rfl)) <|
  an_kd (fun d => an_lift (fun live => ak_iload_n d rfl rfl)) <|
  an_kd (fun d => an_lift (fun live => ak_iconst d (by decide +kernel) rfl)) <|
  an_kd (fun d => an_lift (fun live => ak_iadd d rfl)) <|
  an_kd (fun d => nk_sld d rfl) <|
  an_kd (fun d => an_lift (fun live => ak_aload_n d rfl rfl)) <|
  an_kd (fun d => an_lift (fun live => ak_iload_n d rfl rfl)) <|
  an_kd (fun d => an_lift (fun live => ak_iconst d (by decide +kernel) rfl)) <|
  an_kd (fun d => an_lift (fun live => ak_iadd d rfl)) <|
  an_kd (fun d => nk_sld d rfl) <|
  an_kd (fun d => an_lift (fun live => ak_aload_n d rfl rfl)) <|
  an_kd (fun d => an_lift (fun live => ak_iload_n d rfl rfl)) <|
  an_kd (fun d => an_lift (fun live => ak_iconst d (by decide +kernel) rfl)) <|
  an_kd (fun d => an_lift (fun live => ak_iadd d rfl)) <|
  an_kd (fun d => nk_sld d rfl) <|
  an_kd (fun d => an_lift (fun live => ak_aload_n d rfl rfl)) <|
  an_kd (fun d => an_lift (fun live => ak_iload_n d rfl rfl)) <|
  an_kd (fun d => an_lift (fun live => ak_bipush d (by decide +kernel) rfl)) <|
  an_kd (fun d => an_lift (fun live => ak_iadd d rfl)) <|
  an_kd (fun d => nk_sld d rfl) <|
  an_kd (fun d => an_lift (fun live => ak_callV (C := RX7) (F := TX7) (N := 4) metW_act rfl ⟨rfl, hy_X7_act⟩ (am_w5 wd_462 wd_463 wd_464 wd_58 wd_465) (by decide) d rfl)) <|
  an_kd (fun d => an_lift (fun live => ak_pop d rfl)) <|
  an_kd (fun d => an_lift (fun live => ak_aload_n d rfl rfl)) <|
  an_kd (fun d => an_lift (fun live => ak_aload_n d rfl rfl)) <|
  an_kd (fun d => an_lift (fun live => ak_iload_n d rfl rfl)) <|
  an_kd (fun d => an_lift (fun live => ak_iconst d (by decide +kernel) rfl)) <|
  an_kd (fun d => an_lift (fun live => ak_iadd d rfl)) <|
  an_kd (fun d => nk_sld d rfl) <|
  an_kd (fun d => an_lift (fun live => ak_aload_n d rfl rfl)) <|
  an_kd (fun d => an_lift (fun live => ak_iload_n d rfl rfl)) <|
  an_kd (fun d => an_lift (fun live => ak_iconst d (by decide +kernel) rfl)) <|
  an_kd (fun d => an_lift (fun live => ak_iadd d rfl)) <|
  an_kd (fun d => nk_sld d rfl) <|
  an_kd (fun d => an_lift (fun live => ak_aload_n d rfl rfl)) <|
  an_kd (fun d => an_lift (fun live => ak_iload_n d rfl rfl)) <|
  an_kd (fun d => an_lift (fun live => ak_iconst d (by decide +kernel) rfl)) <|
  an_kd (fun d => an_lift (fun live => ak_iadd d rfl)) <|
  an_kd (fun d => nk_sld d rfl) <|
  an_kd (fun d => an_lift (fun live => ak_aload_n d rfl rfl)) <|
  an_kd (fun d => an_lift (fun live => ak_iload_n d rfl rfl)) <|
  an_kd (fun d => an_lift (fun live => ak_iconst d (by decide +kernel) rfl)) <|
  an_kd (fun d => an_lift (fun live => ak_iadd d rfl)) <|
  an_kd (fun d => nk_sld d rfl) <|
  an_kd (fun d => an_lift (fun live => ak_aload_n d rfl rfl)) <|
  an_kd (fun d => an_lift (fun live => ak_iload_n d rfl rfl)) <|
  an_kd (fun d => an_lift (fun live => ak_iconst d (by decide +kernel) rfl)) <|
  an_kd (fun d => an_lift (fun live => ak_iadd d rfl)) <|
  an_kd (fun d => nk_sld d rfl) <|
  an_kd (fun d => an_lift (fun live => ak_aload_n d rfl rfl)) <|
  an_kd (fun d => an_lift (fun live => ak_iload_n d rfl rfl)) <|
  an_kd (fun d => an_lift (fun live => ak_bipush d (by decide +kernel) rfl)) <|
  an_kd (fun d => an_lift (fun live => ak_iadd d rfl)) <|
  an_kd (fun d => nk_sld d rfl) <|
  an_kd (fun d => an_lift (fun live => ak_callV (C := RX8) (F := TX8) (N := 27) metX8_act rfl ⟨rfl, hy_X8_act⟩ (am_w5 wd_1030 wd_1031 wd_1032 wd_67 wd_1033) (by decide) d rfl)) <|
  an_kd (fun d => an_lift (fun live => ak_pop d rfl)) <|
  an_kd (fun d => an_lift (fun live => ak_goto d (by decide +kernel))) <| an_kdn
set_option maxRecDepth 100000 in
set_option maxHeartbeats 4000000 in
theorem caseL_c8 {Ln : Nat} (xs : Nat → Int32) {i : Int32} {i1 i2 : Bool} {kc kn : Nat} {M : am_M} (h : LI i1 i2 M) (hi : lawI Ln i kc kn) : an_wp (kL_c8 Ln xs) (lawC Ln i) 200 (an_go (kL_c8 Ln xs) 520) (lawL i) [] ((am_lv i1 i2, am_q i1 i2), kc, kn, M) := by
    obtain ⟨⟨f1, f2, f3, f4, f5, f6, f7⟩, k1, k2, k3, k4⟩ := hi.f
    have hmn : am_mn (am_lv i1 i2, am_q i1 i2) := ⟨_, _, rfl⟩
    repeat' (first | (with_reducible exact f1) | (with_reducible exact f2) | (with_reducible exact f3) | (with_reducible exact f4) | (with_reducible exact f5) | (with_reducible exact f6) | (with_reducible exact f7) | (with_reducible exact hmn) | (with_reducible exact h) | (with_reducible exact k1) | (with_reducible exact k2) | (with_reducible exact k3) | (with_reducible exact k4) | apply And.intro | exact rfl | ((with_reducible change r_I _); (with_reducible assumption)) | (intro hx; exact absurd hx (by decide)) | (intro hx; exact absurd (by decide) hx) | decide | intro hx | (refine Exists.intro _ (And.intro rfl ?_)) | (refine Exists.intro _ (Exists.intro _ (And.intro rfl (And.intro rfl ?_)))) | ((with_reducible change LI _ _ _); (with_reducible assumption)) | ((with_reducible change _ = true); simp only [k1, k2, k3, k4, Bool.true_and]; rfl))
    all_goals try first | (with_reducible change am_tI _ _) | (change Ret _ _) | (change Ret _ _ _) | (change Exists _)
    all_goals try dsimp only at *
    all_goals try (with_reducible exact absurd ‹(1000 : Int64) = 0› am_z1000)
    all_goals first
      | exact ⟨_, _, rfl⟩
      | exact lawE.mk hi (by with_reducible assumption) (by omega) (by omega)
      | skip
def rwL_c9 : List dz_r := [(595, .aload_n 1, 1), (596, .aload_n 0, 1), (597, .iload_n 3, 1), (598, .iconst 1, 1), (599, .iadd, 1), (600, .iaload, 1), (601, .aload_n 0, 1), (602, .iload_n 3, 1), (603, .iconst 2, 1), (604, .iadd, 1), (605, .iaload, 1), (606, .aload_n 0, 1), (607, .iload_n 3, 1), (608, .iconst 3, 1), (609, .iadd, 1), (610, .iaload, 1), (611, .aload_n 0, 1), (612, .iload_n 3, 1), (613, .iconst 4, 1), (614, .iadd, 1), (615, .iaload, 1), (616, .invokevirtual 54, 3), (619, .pop, 1), (620, .aload_n 2, 1), (621, .aload_n 0, 1), (622, .iload_n 3, 1), (623, .iconst 1, 1), (624, .iadd, 1), (625, .iaload, 1), (626, .aload_n 0, 1), (627, .iload_n 3, 1), (628, .iconst 2, 1), (629, .iadd, 1), (630, .iaload, 1), (631, .aload_n 0, 1), (632, .iload_n 3, 1), (633, .iconst 3, 1), (634, .iadd, 1), (635, .iaload, 1), (636, .aload_n 0, 1), (637, .iload_n 3, 1), (638, .iconst 4, 1), (639, .iadd, 1), (640, .iaload, 1), (641, .invokevirtual 57, 3), (644, .pop, 1), (645, .goto 1196, 3)]
theorem dzL_c9 : dz cL_law rwL_c9 := dz_all 595 (by decide +kernel)
set_option maxRecDepth 100000 in
theorem wd_489 : Cond.methodLink "LearnLoansLaw" 54 yX7_force ∈ am_ws := am_wt2 (List.mem_of_getElem? (i := 192) (by rfl)) (by decide +kernel)
theorem hy_X8_force : yX8_force.cls ≠ "java/lang/invoke/MethodHandle" ∧ yX8_force.cls ≠ "java/lang/invoke/VarHandle" ∧ (parseMethodDescriptor yX8_force.desc).map (fun d => d.parameters.length) = some 4 := ⟨by decide +kernel, by decide +kernel, by decide +kernel⟩
set_option maxRecDepth 100000 in
theorem wd_1049 : Cond.methodLink "LearnLoansLaw" 57 yX8_force ∈ am_ws := am_wt5 (List.mem_of_getElem? (i := 32) (by rfl)) (by decide +kernel)
set_option maxRecDepth 100000 in
theorem wd_1050 : Cond.instanceMethod yX8_force ∈ am_ws := am_wt5 (List.mem_of_getElem? (i := 33) (by rfl)) (by decide +kernel)
set_option maxRecDepth 100000 in
theorem wd_1051 : Cond.selects "LearnLoansModel" yX8_force yX8_force ∈ am_ws := am_wt5 (List.mem_of_getElem? (i := 34) (by rfl)) (by decide +kernel)
set_option maxRecDepth 100000 in
theorem wd_1052 : Cond.code yX8_force cX8_force 5 (some .int) ∈ am_ws := am_wt5 (List.mem_of_getElem? (i := 35) (by rfl)) (by decide +kernel)
def kL_c9 (Ln : Nat) (xs : Nat → Int32) : an_code := [(595, an_lf (fun live => am_aload 1 596)), (596, an_lf (fun live => am_aload 0 597)), (597, an_lf (fun live => am_iload 3 598)), (598, an_lf (fun live => am_const (.int 1) 599)), (599, an_lf (fun live => am_i2 (fun x y => x + y) 600)), (600, an_sld Ln xs 601), (601, an_lf (fun live => am_aload 0 602)), (602, an_lf (fun live => am_iload 3 603)), (603, an_lf (fun live => am_const (.int 2) 604)), (604, an_lf (fun live => am_i2 (fun x y => x + y) 605)), (605, an_sld Ln xs 606), (606, an_lf (fun live => am_aload 0 607)), (607, an_lf (fun live => am_iload 3 608)), (608, an_lf (fun live => am_const (.int 3) 609)), (609, an_lf (fun live => am_i2 (fun x y => x + y) 610)), (610, an_sld Ln xs 611), (611, an_lf (fun live => am_aload 0 612)), (612, an_lf (fun live => am_iload 3 613)), (613, an_lf (fun live => am_const (.int 4) 614)), (614, an_lf (fun live => am_i2 (fun x y => x + y) 615)), (615, an_sld Ln xs 616), (616, an_lf (fun live => am_callV live 7 4 TW_force 619)), (619, an_lf (fun live => am_pop 620)), (620, an_lf (fun live => am_aload 2 621)), (621, an_lf (fun live => am_aload 0 622)), (622, an_lf (fun live => am_iload 3 623)), (623, an_lf (fun live => am_const (.int 1) 624)), (624, an_lf (fun live => am_i2 (fun x y => x + y) 625)), (625, an_sld Ln xs 626), (626, an_lf (fun live => am_aload 0 627)), (627, an_lf (fun live => am_iload 3 628)), (628, an_lf (fun live => am_const (.int 2) 629)), (629, an_lf (fun live => am_i2 (fun x y => x + y) 630)), (630, an_sld Ln xs 631), (631, an_lf (fun live => am_aload 0 632)), (632, an_lf (fun live => am_iload 3 633)), (633, an_lf (fun live => am_const (.int 3) 634)), (634, an_lf (fun live => am_i2 (fun x y => x + y) 635)), (635, an_sld Ln xs 636), (636, an_lf (fun live => am_aload 0 637)), (637, an_lf (fun live => am_iload 3 638)), (638, an_lf (fun live => am_const (.int 4) 639)), (639, an_lf (fun live => am_i2 (fun x y => x + y) 640)), (640, an_sld Ln xs 641), (641, an_lf (fun live => am_callV live 8 4 TV_force 644)), (644, an_lf (fun live => am_pop 645)), (645, an_lf (fun live => am_goto 1841))]
theorem koL_c9 (Ln : Nat) (xs : Nat → Int32) : ∀ q ∈ kL_c9 Ln xs, an_ok RL cL_law 4 (some .boolean) 2000 80000 600000 7302250 false (lawP Ln xs) an_noR q.1 q.2 :=
  am_kz dzL_c9 <|
  an_kd (fun d => an_lift (fun live => ak_aload_n d rfl rfl)) <|
  an_kd (fun d => an_lift (fun live => ak_aload_n d rfl rfl)) <|
  an_kd (fun d => an_lift (fun live => ak_iload_n d rfl rfl)) <|
  an_kd (fun d => an_lift (fun live => ak_iconst d (by decide +kernel) rfl)) <|
  an_kd (fun d => an_lift (fun live => ak_iadd d rfl)) <|
  an_kd (fun d => nk_sld d rfl) <|
  an_kd (fun d => an_lift (fun live => ak_aload_n d rfl rfl)) <|
  an_kd (fun d => an_lift (fun live => ak_iload_n d rfl rfl)) <|
  an_kd (fun d => an_lift (fun live => ak_iconst d (by decide +kernel) rfl)) <|
  an_kd (fun d => an_lift (fun live => ak_iadd d rfl)) <|
  an_kd (fun d => nk_sld d rfl) <|
  an_kd (fun d => an_lift (fun live => ak_aload_n d rfl rfl)) <|
  an_kd (fun d => an_lift (fun live => ak_iload_n d rfl rfl)) <|
  an_kd (fun d => an_lift (fun live => ak_iconst d (by decide +kernel) rfl)) <|
  an_kd (fun d => an_lift (fun live => ak_iadd d rfl)) <|
  an_kd (fun d => nk_sld d rfl) <|
  an_kd (fun d => an_lift (fun live => ak_aload_n d rfl rfl)) <|
  an_kd (fun d => an_lift (fun live => ak_iload_n d rfl rfl)) <|
  an_kd (fun d => an_lift (fun live => ak_iconst d (by decide +kernel) rfl)) <|
  an_kd (fun d => an_lift (fun live => ak_iadd d rfl)) <|
  an_kd (fun d => nk_sld d rfl) <|
  an_kd (fun d => an_lift (fun live => ak_callV (C := RX7) (F := TX7) (N := 4) metW_force rfl ⟨rfl, hy_X7_force⟩ (am_w5 wd_489 wd_490 wd_491 wd_58 wd_492) (by decide) d rfl)) <|
  an_kd (fun d => an_lift (fun live => ak_pop d rfl)) <|
  an_kd (fun d => an_lift (fun live => ak_aload_n d rfl rfl)) <|
  an_kd (fun d => an_lift (fun live => ak_aload_n d rfl rfl)) <|
  an_kd (fun d => an_lift (fun live => ak_iload_n d rfl rfl)) <|
  an_kd (fun d => an_lift (fun live => ak_iconst d (by decide +kernel) rfl)) <|
  an_kd (fun d => an_lift (fun live => ak_iadd d rfl)) <|
  an_kd (fun d => nk_sld d rfl) <|
  an_kd (fun d => an_lift (fun live => ak_aload_n d rfl rfl)) <|
  an_kd (fun d => an_lift (fun live => ak_iload_n d rfl rfl)) <|
  an_kd (fun d => an_lift (fun live => ak_iconst d (by decide +kernel) rfl)) <|
  an_kd (fun d => an_lift (fun live => ak_iadd d rfl)) <|
  an_kd (fun d => nk_sld d rfl) <|
  an_kd (fun d => an_lift (fun live => ak_aload_n d rfl rfl)) <|
  an_kd (fun d => an_lift (fun live => ak_iload_n d rfl rfl)) <|
  an_kd (fun d => an_lift (fun live => ak_iconst d (by decide +kernel) rfl)) <|
  an_kd (fun d => an_lift (fun live => ak_iadd d rfl)) <|
  an_kd (fun d => nk_sld d rfl) <|
  an_kd (fun d => an_lift (fun live => ak_aload_n d rfl rfl)) <|
  an_kd (fun d => an_lift (fun live => ak_iload_n d rfl rfl)) <|
  an_kd (fun d => an_lift (fun live => ak_iconst d (by decide +kernel) rfl)) <|
  an_kd (fun d => an_lift (fun live => ak_iadd d rfl)) <|
  an_kd (fun d => nk_sld d rfl) <|
  an_kd (fun d => an_lift (fun live => ak_callV (C := RX8) (F := TX8) (N := 27) metV_force rfl ⟨rfl, hy_X8_force⟩ (am_w5 wd_1049 wd_1050 wd_1051 wd_67 wd_1052) (by decide) d rfl)) <|
  an_kd (fun d => an_lift (fun live => ak_pop d rfl)) <|
  an_kd (fun d => an_lift (fun live => ak_goto d (by decide +kernel))) <| an_kdn
set_option maxRecDepth 100000 in
set_option maxHeartbeats 4000000 in
theorem caseL_c9 {Ln : Nat} (xs : Nat → Int32) {i : Int32} {i1 i2 : Bool} {kc kn : Nat} {M : am_M} (h : LI i1 i2 M) (hi : lawI Ln i kc kn) : an_wp (kL_c9 Ln xs) (lawC Ln i) 200 (an_go (kL_c9 Ln xs) 595) (lawL i) [] ((am_lv i1 i2, am_q i1 i2), kc, kn, M) := by
    obtain ⟨⟨f1, f2, f3, f4, f5, f6, f7⟩, k1, k2, k3, k4⟩ := hi.f
    have hmn : am_mn (am_lv i1 i2, am_q i1 i2) := ⟨_, _, rfl⟩
    repeat' (first | (with_reducible exact f1) | (with_reducible exact f2) | (with_reducible exact f3) | (with_reducible exact f4) | (with_reducible exact f5) | (with_reducible exact f6) | (with_reducible exact f7) | (with_reducible exact hmn) | (with_reducible exact h) | (with_reducible exact k1) | (with_reducible exact k2) | (with_reducible exact k3) | (with_reducible exact k4) | apply And.intro | exact rfl | ((with_reducible change r_I _); (with_reducible assumption)) | (intro hx; exact absurd hx (by decide)) | (intro hx; exact absurd (by decide) hx) | decide | intro hx | (refine Exists.intro _ (And.intro rfl ?_)) | (refine Exists.intro _ (Exists.intro _ (And.intro rfl (And.intro rfl ?_)))) | ((with_reducible change LI _ _ _); (with_reducible assumption)) | ((with_reducible change _ = true); simp only [k1, k2, k3, k4, Bool.true_and]; rfl))
    all_goals try first | (with_reducible change am_tI _ _) | (change Ret _ _) | (change Ret _ _ _) | (change Exists _)
    all_goals try dsimp only at *
    all_goals try (with_reducible exact absurd ‹(1000 : Int64) = 0› am_z1000)
    all_goals first
      | exact ⟨_, _, rfl⟩
      | exact lawE.mk hi (by with_reducible assumption) (by omega) (by omega)
      | skip
def rwL_c10 : List dz_r := [(648, .aload_n 1, 1), (649, .aload_n 0, 1), (650, .iload_n 3, 1), (651, .iconst 1, 1), (652, .iadd, 1), (653, .iaload, 1), (654, .aload_n 0, 1), (655, .iload_n 3, 1), (656, .iconst 2, 1), (657, .iadd, 1), (658, .iaload, 1), (659, .aload_n 0, 1), (660, .iload_n 3, 1), (661, .iconst 3, 1), (662, .iadd, 1), (663, .iaload, 1), (664, .aload_n 0, 1), (665, .iload_n 3, 1), (666, .iconst 4, 1), (667, .iadd, 1), (668, .iaload, 1), (669, .aload_n 0, 1), (670, .iload_n 3, 1), (671, .iconst 5, 1), (672, .iadd, 1), (673, .iaload, 1), (674, .ifCond .eq 7, 3), (677, .iconst 1, 1), (678, .goto 4, 3), (681, .iconst 0, 1), (682, .invokevirtual 58, 3), (685, .pop, 1), (686, .aload_n 2, 1), (687, .aload_n 0, 1), (688, .iload_n 3, 1), (689, .iconst 1, 1), (690, .iadd, 1), (691, .iaload, 1), (692, .aload_n 0, 1), (693, .iload_n 3, 1), (694, .iconst 2, 1), (695, .iadd, 1), (696, .iaload, 1), (697, .aload_n 0, 1), (698, .iload_n 3, 1), (699, .iconst 3, 1), (700, .iadd, 1), (701, .iaload, 1), (702, .aload_n 0, 1), (703, .iload_n 3, 1), (704, .iconst 4, 1), (705, .iadd, 1), (706, .iaload, 1), (707, .aload_n 0, 1), (708, .iload_n 3, 1), (709, .iconst 5, 1), (710, .iadd, 1), (711, .iaload, 1), (712, .ifCond .eq 7, 3), (715, .iconst 1, 1), (716, .goto 4, 3), (719, .iconst 0, 1), (720, .invokevirtual 62, 3), (723, .pop, 1), (724, .goto 1117, 3)]
theorem dzL_c10 : dz cL_law rwL_c10 := dz_all 648 (by decide +kernel)
theorem hy_X7_loan : yX7_loan.cls ≠ "java/lang/invoke/MethodHandle" ∧ yX7_loan.cls ≠ "java/lang/invoke/VarHandle" ∧ (parseMethodDescriptor yX7_loan.desc).map (fun d => d.parameters.length) = some 5 := ⟨by decide +kernel, by decide +kernel, by decide +kernel⟩
set_option maxRecDepth 100000 in
theorem wd_510 : Cond.methodLink "LearnLoansLaw" 58 yX7_loan ∈ am_ws := am_wt2 (List.mem_of_getElem? (i := 213) (by rfl)) (by decide +kernel)
set_option maxRecDepth 100000 in
theorem wd_511 : Cond.instanceMethod yX7_loan ∈ am_ws := am_wt2 (List.mem_of_getElem? (i := 214) (by rfl)) (by decide +kernel)
set_option maxRecDepth 100000 in
theorem wd_512 : Cond.selects "LearnLoans" yX7_loan yX7_loan ∈ am_ws := am_wt2 (List.mem_of_getElem? (i := 215) (by rfl)) (by decide +kernel)
set_option maxRecDepth 100000 in
theorem wd_513 : Cond.code yX7_loan cX7_loan 8 (some .int) ∈ am_ws := am_wt2 (List.mem_of_getElem? (i := 216) (by rfl)) (by decide +kernel)
theorem hy_X8_loan : yX8_loan.cls ≠ "java/lang/invoke/MethodHandle" ∧ yX8_loan.cls ≠ "java/lang/invoke/VarHandle" ∧ (parseMethodDescriptor yX8_loan.desc).map (fun d => d.parameters.length) = some 5 := ⟨by decide +kernel, by decide +kernel, by decide +kernel⟩
set_option maxRecDepth 100000 in
theorem wd_1061 : Cond.methodLink "LearnLoansLaw" 62 yX8_loan ∈ am_ws := am_wt5 (List.mem_of_getElem? (i := 44) (by rfl)) (by decide +kernel)
set_option maxRecDepth 100000 in
theorem wd_1062 : Cond.instanceMethod yX8_loan ∈ am_ws := am_wt5 (List.mem_of_getElem? (i := 45) (by rfl)) (by decide +kernel)
set_option maxRecDepth 100000 in
theorem wd_1063 : Cond.selects "LearnLoansModel" yX8_loan yX8_loan ∈ am_ws := am_wt5 (List.mem_of_getElem? (i := 46) (by rfl)) (by decide +kernel)
set_option maxRecDepth 100000 in
theorem wd_1064 : Cond.code yX8_loan cX8_loan 7 (some .int) ∈ am_ws := am_wt5 (List.mem_of_getElem? (i := 47) (by rfl)) (by decide +kernel)
def kL_c10 (Ln : Nat) (xs : Nat → Int32) : an_code := [(648, an_lf (fun live => am_aload 1 649)), (649, an_lf (fun live => am_aload 0 650)), (650, an_lf (fun live => am_iload 3 651)), (651, an_lf (fun live => am_const (.int 1) 652)), (652, an_lf (fun live => am_i2 (fun x y => x + y) 653)), (653, an_sld Ln xs 654), (654, an_lf (fun live => am_aload 0 655)), (655, an_lf (fun live => am_iload 3 656)), (656, an_lf (fun live => am_const (.int 2) 657)), (657, an_lf (fun live => am_i2 (fun x y => x + y) 658)), (658, an_sld Ln xs 659), (659, an_lf (fun live => am_aload 0 660)), (660, an_lf (fun live => am_iload 3 661)), (661, an_lf (fun live => am_const (.int 3) 662)), (662, an_lf (fun live => am_i2 (fun x y => x + y) 663)), (663, an_sld Ln xs 664), (664, an_lf (fun live => am_aload 0 665)), (665, an_lf (fun live => am_iload 3 666)), (666, an_lf (fun live => am_const (.int 4) 667)), (667, an_lf (fun live => am_i2 (fun x y => x + y) 668)), (668, an_sld Ln xs 669), (669, an_lf (fun live => am_aload 0 670)), (670, an_lf (fun live => am_iload 3 671)), (671, an_lf (fun live => am_const (.int 5) 672)), (672, an_lf (fun live => am_i2 (fun x y => x + y) 673)), (673, an_sld Ln xs 674), (674, an_lf (fun live => am_if1 (fun x => x = 0) 681 677)), (677, an_lf (fun live => am_const (.int 1) 678)), (678, an_lf (fun live => am_goto 682)), (681, an_lf (fun live => am_const (.int 0) 682)), (682, an_lf (fun live => am_callV live 7 5 TW_loan 685)), (685, an_lf (fun live => am_pop 686)), (686, an_lf (fun live => am_aload 2 687)), (687, an_lf (fun live => am_aload 0 688)), (688, an_lf (fun live => am_iload 3 689)), (689, an_lf (fun live => am_const (.int 1) 690)), (690, an_lf (fun live => am_i2 (fun x y => x + y) 691)), (691, an_sld Ln xs 692), (692, an_lf (fun live => am_aload 0 693)), (693, an_lf (fun live => am_iload 3 694)), (694, an_lf (fun live => am_const (.int 2) 695)), (695, an_lf (fun live => am_i2 (fun x y => x + y) 696)), (696, an_sld Ln xs 697), (697, an_lf (fun live => am_aload 0 698)), (698, an_lf (fun live => am_iload 3 699)), (699, an_lf (fun live => am_const (.int 3) 700)), (700, an_lf (fun live => am_i2 (fun x y => x + y) 701)), (701, an_sld Ln xs 702), (702, an_lf (fun live => am_aload 0 703)), (703, an_lf (fun live => am_iload 3 704)), (704, an_lf (fun live => am_const (.int 4) 705)), (705, an_lf (fun live => am_i2 (fun x y => x + y) 706)), (706, an_sld Ln xs 707), (707, an_lf (fun live => am_aload 0 708)), (708, an_lf (fun live => am_iload 3 709)), (709, an_lf (fun live => am_const (.int 5) 710)), (710, an_lf (fun live => am_i2 (fun x y => x + y) 711)), (711, an_sld Ln xs 712), (712, an_lf (fun live => am_if1 (fun x => x = 0) 719 715)), (715, an_lf (fun live => am_const (.int 1) 716)), (716, an_lf (fun live => am_goto 720)), (719, an_lf (fun live => am_const (.int 0) 720)), (720, an_lf (fun live => am_callV live 8 5 TX8_loan 723)), (723, an_lf (fun live => am_pop 724)), (724, an_lf (fun live => am_goto 1841))]
theorem koL_c10 (Ln : Nat) (xs : Nat → Int32) : ∀ q ∈ kL_c10 Ln xs, an_ok RL cL_law 4 (some .boolean) 2000 80000 600000 7302250 false (lawP Ln xs) an_noR q.1 q.2 :=
  am_kz dzL_c10 <|
  an_kd (fun d => an_lift (fun live => ak_aload_n d rfl rfl)) <|
  an_kd (fun d => an_lift (fun live => ak_aload_n d rfl rfl)) <|
  an_kd (fun d => an_lift (fun live => ak_iload_n d rfl rfl)) <|
  an_kd (fun d => an_lift (fun live => ak_iconst d (by decide +kernel) rfl)) <|
  an_kd (fun d => an_lift (fun live => ak_iadd d rfl)) <|
  an_kd (fun d => nk_sld d rfl) <|
  an_kd (fun d => an_lift (fun live => ak_aload_n d rfl rfl)) <|
  an_kd (fun d => an_lift (fun live => ak_iload_n d rfl rfl)) <|
  an_kd (fun d => an_lift (fun live => ak_iconst d (by decide +kernel) rfl)) <|
  an_kd (fun d => an_lift (fun live => ak_iadd d rfl)) <|
  an_kd (fun d => nk_sld d rfl) <|
  an_kd (fun d => an_lift (fun live => ak_aload_n d rfl rfl)) <|
  an_kd (fun d => an_lift (fun live => ak_iload_n d rfl rfl)) <|
  an_kd (fun d => an_lift (fun live => ak_iconst d (by decide +kernel) rfl)) <|
  an_kd (fun d => an_lift (fun live => ak_iadd d rfl)) <|
  an_kd (fun d => nk_sld d rfl) <|
  an_kd (fun d => an_lift (fun live => ak_aload_n d rfl rfl)) <|
  an_kd (fun d => an_lift (fun live => ak_iload_n d rfl rfl)) <|
  an_kd (fun d => an_lift (fun live => ak_iconst d (by decide +kernel) rfl)) <|
  an_kd (fun d => an_lift (fun live => ak_iadd d rfl)) <|
  an_kd (fun d => nk_sld d rfl) <|
  an_kd (fun d => an_lift (fun live => ak_aload_n d rfl rfl)) <|
  an_kd (fun d => an_lift (fun live => ak_iload_n d rfl rfl)) <|
  an_kd (fun d => an_lift (fun live => ak_iconst d (by decide +kernel) rfl)) <|
  an_kd (fun d => an_lift (fun live => ak_iadd d rfl)) <|
  an_kd (fun d => nk_sld d rfl) <|
  an_kd (fun d => an_lift (fun live => ak_if_eq d (by decide +kernel) rfl)) <|
  an_kd (fun d => an_lift (fun live => ak_iconst d (by decide +kernel) rfl)) <|
  an_kd (fun d => an_lift (fun live => ak_goto d (by decide +kernel))) <|
  an_kd (fun d => an_lift (fun live => ak_iconst d (by decide +kernel) rfl)) <|
  an_kd (fun d => an_lift (fun live => ak_callV (C := RX7) (F := TX7) (N := 4) metW_loan rfl ⟨rfl, hy_X7_loan⟩ (am_w5 wd_510 wd_511 wd_512 wd_58 wd_513) (by decide) d rfl)) <|
  an_kd (fun d => an_lift (fun live => ak_pop d rfl)) <|
  an_kd (fun d => an_lift (fun live => ak_aload_n d rfl rfl)) <|
  an_kd (fun d => an_lift (fun live => ak_aload_n d rfl rfl)) <|
  an_kd (fun d => an_lift (fun live => ak_iload_n d rfl rfl)) <|
  an_kd (fun d => an_lift (fun live => ak_iconst d (by decide +kernel) rfl)) <|
  an_kd (fun d => an_lift (fun live => ak_iadd d rfl)) <|
  an_kd (fun d => nk_sld d rfl) <|
  an_kd (fun d => an_lift (fun live => ak_aload_n d rfl rfl)) <|
  an_kd (fun d => an_lift (fun live => ak_iload_n d rfl rfl)) <|
  an_kd (fun d => an_lift (fun live => ak_iconst d (by decide +kernel) rfl)) <|
  an_kd (fun d => an_lift (fun live => ak_iadd d rfl)) <|
  an_kd (fun d => nk_sld d rfl) <|
  an_kd (fun d => an_lift (fun live => ak_aload_n d rfl rfl)) <|
  an_kd (fun d => an_lift (fun live => ak_iload_n d rfl rfl)) <|
  an_kd (fun d => an_lift (fun live => ak_iconst d (by decide +kernel) rfl)) <|
  an_kd (fun d => an_lift (fun live => ak_iadd d rfl)) <|
  an_kd (fun d => nk_sld d rfl) <|
  an_kd (fun d => an_lift (fun live => ak_aload_n d rfl rfl)) <|
  an_kd (fun d => an_lift (fun live => ak_iload_n d rfl rfl)) <|
  an_kd (fun d => an_lift (fun live => ak_iconst d (by decide +kernel) rfl)) <|
  an_kd (fun d => an_lift (fun live => ak_iadd d rfl)) <|
  an_kd (fun d => nk_sld d rfl) <|
  an_kd (fun d => an_lift (fun live => ak_aload_n d rfl rfl)) <|
  an_kd (fun d => an_lift (fun live => ak_iload_n d rfl rfl)) <|
  an_kd (fun d => an_lift (fun live => ak_iconst d (by decide +kernel) rfl)) <|
  an_kd (fun d => an_lift (fun live => ak_iadd d rfl)) <|
  an_kd (fun d => nk_sld d rfl) <|
  an_kd (fun d => an_lift (fun live => ak_if_eq d (by decide +kernel) rfl)) <|
  an_kd (fun d => an_lift (fun live => ak_iconst d (by decide +kernel) rfl)) <|
  an_kd (fun d => an_lift (fun live => ak_goto d (by decide +kernel))) <|
  an_kd (fun d => an_lift (fun live => ak_iconst d (by decide +kernel) rfl)) <|
  an_kd (fun d => an_lift (fun live => ak_callV (C := RX8) (F := TX8) (N := 27) metX8_loan rfl ⟨rfl, hy_X8_loan⟩ (am_w5 wd_1061 wd_1062 wd_1063 wd_67 wd_1064) (by decide) d rfl)) <|
  an_kd (fun d => an_lift (fun live => ak_pop d rfl)) <|
  an_kd (fun d => an_lift (fun live => ak_goto d (by decide +kernel))) <| an_kdn
set_option maxRecDepth 100000 in
set_option maxHeartbeats 4000000 in
theorem caseL_c10 {Ln : Nat} (xs : Nat → Int32) {i : Int32} {i1 i2 : Bool} {kc kn : Nat} {M : am_M} (h : LI i1 i2 M) (hi : lawI Ln i kc kn) : an_wp (kL_c10 Ln xs) (lawC Ln i) 200 (an_go (kL_c10 Ln xs) 648) (lawL i) [] ((am_lv i1 i2, am_q i1 i2), kc, kn, M) := by
    obtain ⟨⟨f1, f2, f3, f4, f5, f6, f7⟩, k1, k2, k3, k4⟩ := hi.f
    have hmn : am_mn (am_lv i1 i2, am_q i1 i2) := ⟨_, _, rfl⟩
    by_cases hz : xs (i + 5).toNatClampNeg = 0
    · skip
      repeat' (first | (with_reducible exact f1) | (with_reducible exact f2) | (with_reducible exact f3) | (with_reducible exact f4) | (with_reducible exact f5) | (with_reducible exact f6) | (with_reducible exact f7) | (with_reducible exact hmn) | (with_reducible exact h) | (with_reducible exact k1) | (with_reducible exact k2) | (with_reducible exact k3) | (with_reducible exact k4) | apply And.intro | exact rfl | (intro hx; with_reducible exact absurd hz hx) | ((with_reducible change r_I _); (with_reducible assumption)) | (intro hx; exact absurd hx (by decide)) | (intro hx; exact absurd (by decide) hx) | decide | intro hx | (refine Exists.intro _ (And.intro rfl ?_)) | (refine Exists.intro _ (Exists.intro _ (And.intro rfl (And.intro rfl ?_)))) | ((with_reducible change LI _ _ _); (with_reducible assumption)) | ((with_reducible change _ = true); simp only [k1, k2, k3, k4, Bool.true_and]; rfl))
      all_goals try first | (with_reducible change am_tI _ _) | (change Ret _ _) | (change Ret _ _ _) | (change Exists _)
      all_goals try dsimp only at *
      all_goals try (with_reducible exact absurd ‹(1000 : Int64) = 0› am_z1000)
      all_goals first
        | exact ⟨_, _, rfl⟩
        | exact lawE.mk hi (by with_reducible assumption) (by omega) (by omega)
        | skip
    · skip
      repeat' (first | (with_reducible exact f1) | (with_reducible exact f2) | (with_reducible exact f3) | (with_reducible exact f4) | (with_reducible exact f5) | (with_reducible exact f6) | (with_reducible exact f7) | (with_reducible exact hmn) | (with_reducible exact h) | (with_reducible exact k1) | (with_reducible exact k2) | (with_reducible exact k3) | (with_reducible exact k4) | apply And.intro | exact rfl | (intro hx; with_reducible exact absurd hx hz) | ((with_reducible change r_I _); (with_reducible assumption)) | (intro hx; exact absurd hx (by decide)) | (intro hx; exact absurd (by decide) hx) | decide | intro hx | (refine Exists.intro _ (And.intro rfl ?_)) | (refine Exists.intro _ (Exists.intro _ (And.intro rfl (And.intro rfl ?_)))) | ((with_reducible change LI _ _ _); (with_reducible assumption)) | ((with_reducible change _ = true); simp only [k1, k2, k3, k4, Bool.true_and]; rfl))
      all_goals try first | (with_reducible change am_tI _ _) | (change Ret _ _) | (change Ret _ _ _) | (change Exists _)
      all_goals try dsimp only at *
      all_goals try (with_reducible exact absurd ‹(1000 : Int64) = 0› am_z1000)
      all_goals first
        | exact ⟨_, _, rfl⟩
        | exact lawE.mk hi (by with_reducible assumption) (by omega) (by omega)
        | skip
def rwL_c11 : List dz_r := [(727, .aload_n 1, 1), (728, .aload_n 0, 1), (729, .iload_n 3, 1), (730, .iconst 1, 1), (731, .iadd, 1), (732, .iaload, 1), (733, .aload_n 0, 1), (734, .iload_n 3, 1), (735, .iconst 2, 1), (736, .iadd, 1), (737, .iaload, 1), (738, .invokevirtual 63, 3), (741, .pop, 1), (742, .aload_n 2, 1), (743, .aload_n 0, 1), (744, .iload_n 3, 1), (745, .iconst 1, 1), (746, .iadd, 1), (747, .iaload, 1), (748, .aload_n 0, 1), (749, .iload_n 3, 1), (750, .iconst 2, 1), (751, .iadd, 1), (752, .iaload, 1), (753, .invokevirtual 66, 3), (756, .pop, 1), (757, .goto 1084, 3)]
theorem dzL_c11 : dz cL_law rwL_c11 := dz_all 727 (by decide +kernel)
theorem hy_X7_leave : yX7_leave.cls ≠ "java/lang/invoke/MethodHandle" ∧ yX7_leave.cls ≠ "java/lang/invoke/VarHandle" ∧ (parseMethodDescriptor yX7_leave.desc).map (fun d => d.parameters.length) = some 2 := ⟨by decide +kernel, by decide +kernel, by decide +kernel⟩
set_option maxRecDepth 100000 in
theorem wd_516 : Cond.methodLink "LearnLoansLaw" 63 yX7_leave ∈ am_ws := am_wt2 (List.mem_of_getElem? (i := 219) (by rfl)) (by decide +kernel)
set_option maxRecDepth 100000 in
theorem wd_517 : Cond.instanceMethod yX7_leave ∈ am_ws := am_wt2 (List.mem_of_getElem? (i := 220) (by rfl)) (by decide +kernel)
set_option maxRecDepth 100000 in
theorem wd_518 : Cond.selects "LearnLoans" yX7_leave yX7_leave ∈ am_ws := am_wt2 (List.mem_of_getElem? (i := 221) (by rfl)) (by decide +kernel)
set_option maxRecDepth 100000 in
theorem wd_519 : Cond.code yX7_leave cX7_leave 4 (some .int) ∈ am_ws := am_wt2 (List.mem_of_getElem? (i := 222) (by rfl)) (by decide +kernel)
theorem hy_X8_leave : yX8_leave.cls ≠ "java/lang/invoke/MethodHandle" ∧ yX8_leave.cls ≠ "java/lang/invoke/VarHandle" ∧ (parseMethodDescriptor yX8_leave.desc).map (fun d => d.parameters.length) = some 2 := ⟨by decide +kernel, by decide +kernel, by decide +kernel⟩
set_option maxRecDepth 100000 in
theorem wd_1065 : Cond.methodLink "LearnLoansLaw" 66 yX8_leave ∈ am_ws := am_wt5 (List.mem_of_getElem? (i := 48) (by rfl)) (by decide +kernel)
set_option maxRecDepth 100000 in
theorem wd_1066 : Cond.instanceMethod yX8_leave ∈ am_ws := am_wt5 (List.mem_of_getElem? (i := 49) (by rfl)) (by decide +kernel)
set_option maxRecDepth 100000 in
theorem wd_1067 : Cond.selects "LearnLoansModel" yX8_leave yX8_leave ∈ am_ws := am_wt5 (List.mem_of_getElem? (i := 50) (by rfl)) (by decide +kernel)
set_option maxRecDepth 100000 in
theorem wd_1068 : Cond.code yX8_leave cX8_leave 3 (some .int) ∈ am_ws := am_wt5 (List.mem_of_getElem? (i := 51) (by rfl)) (by decide +kernel)
def kL_c11 (Ln : Nat) (xs : Nat → Int32) : an_code := [(727, an_lf (fun live => am_aload 1 728)), (728, an_lf (fun live => am_aload 0 729)), (729, an_lf (fun live => am_iload 3 730)), (730, an_lf (fun live => am_const (.int 1) 731)), (731, an_lf (fun live => am_i2 (fun x y => x + y) 732)), (732, an_sld Ln xs 733), (733, an_lf (fun live => am_aload 0 734)), (734, an_lf (fun live => am_iload 3 735)), (735, an_lf (fun live => am_const (.int 2) 736)), (736, an_lf (fun live => am_i2 (fun x y => x + y) 737)), (737, an_sld Ln xs 738), (738, an_lf (fun live => am_callV live 7 2 TW_leave 741)), (741, an_lf (fun live => am_pop 742)), (742, an_lf (fun live => am_aload 2 743)), (743, an_lf (fun live => am_aload 0 744)), (744, an_lf (fun live => am_iload 3 745)), (745, an_lf (fun live => am_const (.int 1) 746)), (746, an_lf (fun live => am_i2 (fun x y => x + y) 747)), (747, an_sld Ln xs 748), (748, an_lf (fun live => am_aload 0 749)), (749, an_lf (fun live => am_iload 3 750)), (750, an_lf (fun live => am_const (.int 2) 751)), (751, an_lf (fun live => am_i2 (fun x y => x + y) 752)), (752, an_sld Ln xs 753), (753, an_lf (fun live => am_callV live 8 2 TX8_leave 756)), (756, an_lf (fun live => am_pop 757)), (757, an_lf (fun live => am_goto 1841))]
theorem koL_c11 (Ln : Nat) (xs : Nat → Int32) : ∀ q ∈ kL_c11 Ln xs, an_ok RL cL_law 4 (some .boolean) 2000 80000 600000 7302250 false (lawP Ln xs) an_noR q.1 q.2 :=
  am_kz dzL_c11 <|
  an_kd (fun d => an_lift (fun live => ak_aload_n d rfl rfl)) <|
  an_kd (fun d => an_lift (fun live => ak_aload_n d rfl rfl)) <|
  an_kd (fun d => an_lift (fun live => ak_iload_n d rfl rfl)) <|
  an_kd (fun d => an_lift (fun live => ak_iconst d (by decide +kernel) rfl)) <|
  an_kd (fun d => an_lift (fun live => ak_iadd d rfl)) <|
  an_kd (fun d => nk_sld d rfl) <|
  an_kd (fun d => an_lift (fun live => ak_aload_n d rfl rfl)) <|
  an_kd (fun d => an_lift (fun live => ak_iload_n d rfl rfl)) <|
  an_kd (fun d => an_lift (fun live => ak_iconst d (by decide +kernel) rfl)) <|
  an_kd (fun d => an_lift (fun live => ak_iadd d rfl)) <|
  an_kd (fun d => nk_sld d rfl) <|
  an_kd (fun d => an_lift (fun live => ak_callV (C := RX7) (F := TX7) (N := 4) metW_leave rfl ⟨rfl, hy_X7_leave⟩ (am_w5 wd_516 wd_517 wd_518 wd_58 wd_519) (by decide) d rfl)) <|
  an_kd (fun d => an_lift (fun live => ak_pop d rfl)) <|
  an_kd (fun d => an_lift (fun live => ak_aload_n d rfl rfl)) <|
  an_kd (fun d => an_lift (fun live => ak_aload_n d rfl rfl)) <|
  an_kd (fun d => an_lift (fun live => ak_iload_n d rfl rfl)) <|
  an_kd (fun d => an_lift (fun live => ak_iconst d (by decide +kernel) rfl)) <|
  an_kd (fun d => an_lift (fun live => ak_iadd d rfl)) <|
  an_kd (fun d => nk_sld d rfl) <|
  an_kd (fun d => an_lift (fun live => ak_aload_n d rfl rfl)) <|
  an_kd (fun d => an_lift (fun live => ak_iload_n d rfl rfl)) <|
  an_kd (fun d => an_lift (fun live => ak_iconst d (by decide +kernel) rfl)) <|
  an_kd (fun d => an_lift (fun live => ak_iadd d rfl)) <|
  an_kd (fun d => nk_sld d rfl) <|
  an_kd (fun d => an_lift (fun live => ak_callV (C := RX8) (F := TX8) (N := 27) metX8_leave rfl ⟨rfl, hy_X8_leave⟩ (am_w5 wd_1065 wd_1066 wd_1067 wd_67 wd_1068) (by decide) d rfl)) <|
  an_kd (fun d => an_lift (fun live => ak_pop d rfl)) <|
  an_kd (fun d => an_lift (fun live => ak_goto d (by decide +kernel))) <| an_kdn
set_option maxRecDepth 100000 in
set_option maxHeartbeats 4000000 in
theorem caseL_c11 {Ln : Nat} (xs : Nat → Int32) {i : Int32} {i1 i2 : Bool} {kc kn : Nat} {M : am_M} (h : LI i1 i2 M) (hi : lawI Ln i kc kn) : an_wp (kL_c11 Ln xs) (lawC Ln i) 200 (an_go (kL_c11 Ln xs) 727) (lawL i) [] ((am_lv i1 i2, am_q i1 i2), kc, kn, M) := by
    obtain ⟨⟨f1, f2, f3, f4, f5, f6, f7⟩, k1, k2, k3, k4⟩ := hi.f
    have hmn : am_mn (am_lv i1 i2, am_q i1 i2) := ⟨_, _, rfl⟩
    repeat' (first | (with_reducible exact f1) | (with_reducible exact f2) | (with_reducible exact f3) | (with_reducible exact f4) | (with_reducible exact f5) | (with_reducible exact f6) | (with_reducible exact f7) | (with_reducible exact hmn) | (with_reducible exact h) | (with_reducible exact k1) | (with_reducible exact k2) | (with_reducible exact k3) | (with_reducible exact k4) | apply And.intro | exact rfl | ((with_reducible change r_I _); (with_reducible assumption)) | (intro hx; exact absurd hx (by decide)) | (intro hx; exact absurd (by decide) hx) | decide | intro hx | (refine Exists.intro _ (And.intro rfl ?_)) | (refine Exists.intro _ (Exists.intro _ (And.intro rfl (And.intro rfl ?_)))) | ((with_reducible change LI _ _ _); (with_reducible assumption)) | ((with_reducible change _ = true); simp only [k1, k2, k3, k4, Bool.true_and]; rfl))
    all_goals try first | (with_reducible change am_tI _ _) | (change Ret _ _) | (change Ret _ _ _) | (change Exists _)
    all_goals try dsimp only at *
    all_goals try (with_reducible exact absurd ‹(1000 : Int64) = 0› am_z1000)
    all_goals first
      | exact ⟨_, _, rfl⟩
      | exact lawE.mk hi (by with_reducible assumption) (by omega) (by omega)
      | skip
end
