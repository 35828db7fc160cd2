-- part 30.told.lean.txt
section
/-! general: the calls of the class that tell: each answers c_NAME, and leaves what it says -/
theorem hy_X7_isYear : yX7_isYear.cls ≠ "java/lang/invoke/MethodHandle" ∧ yX7_isYear.cls ≠ "java/lang/invoke/VarHandle" ∧ (parseMethodDescriptor yX7_isYear.desc).map (fun d => d.parameters.length) = some 1 := ⟨by decide +kernel, by decide +kernel, by decide +kernel⟩
set_option maxRecDepth 100000 in
theorem wd_407 : Cond.methodLink "LearnLoans" 34 yX7_isYear ∈ am_ws := am_wt2 (List.mem_of_getElem? (i := 110) (by rfl)) (by decide +kernel)
set_option maxRecDepth 100000 in
theorem wd_408 : Cond.static yX7_isYear ∈ am_ws := am_wt2 (List.mem_of_getElem? (i := 111) (by rfl)) (by decide +kernel)
set_option maxRecDepth 100000 in
theorem wd_58 : Cond.initialized "LearnLoans" ∈ am_ws := am_wt1 (List.mem_of_getElem? (i := 1) (by rfl)) (by decide +kernel)
set_option maxRecDepth 100000 in
theorem wd_409 : Cond.code yX7_isYear cX7_isYear 1 (some .boolean) ∈ am_ws := am_wt2 (List.mem_of_getElem? (i := 112) (by rfl)) (by decide +kernel)
set_option maxRecDepth 100000 in
theorem wd_106 : Cond.fieldLink "LearnLoans" 48 "LearnLoans$People" "began" "[I" ∈ am_ws := am_wt1 (List.mem_of_getElem? (i := 49) (by rfl)) (by decide +kernel)
def rwX7_person : List dz_r := [(0, .iload_n 1, 1), (1, .invokestatic 34, 3), (4, .ifCond .ne 6, 3), (7, .bipush (-2), 2), (9, .ireturn, 1), (10, .aload_n 0, 1), (11, .getfield 27, 3), (14, .getfield 38, 3), (17, .astore_n 2, 1), (18, .aload_n 2, 1), (19, .getfield 42, 3), (22, .bipush 12, 2), (24, .if_icmp .lt 6, 3), (27, .bipush (-4), 2), (29, .ireturn, 1), (30, .aload_n 2, 1), (31, .getfield 48, 3), (34, .aload_n 2, 1), (35, .getfield 42, 3), (38, .iload_n 1, 1), (39, .iastore, 1), (40, .aload_n 2, 1), (41, .dup, 1), (42, .getfield 42, 3), (45, .iconst 1, 1), (46, .iadd, 1), (47, .putfield 42, 3), (50, .aload_n 2, 1), (51, .getfield 42, 3), (54, .iconst 1, 1), (55, .isub, 1), (56, .ireturn, 1)]
theorem dzX7_person : dz cX7_person rwX7_person := dz_all 0 (by decide +kernel)
def kX7_person (live : am_E) (Ret : am_R) : am_code := [(0, am_iload 1 1), (1, am_callS live 1 TX7_isYear 4), (4, am_if1 (fun x => x = 0) 7 10), (7, am_const (.int (-2)) 9), (9, am_retI Ret), (10, am_aload 0 11), (11, am_getR live 7 0 14), (14, am_getR live 0 0 17), (17, am_astore 2 3 18), (18, am_aload 2 19), (19, am_getI live 2 7 22), (22, am_const (.int 12) 24), (24, am_if2 (fun x y => x < y) 30 27), (27, am_const (.int (-4)) 29), (29, am_retI Ret), (30, am_aload 2 31), (31, am_getR live 2 0 34), (34, am_aload 2 35), (35, am_getI live 2 7 38), (38, am_iload 1 39), (39, am_ast live 0 40), (40, am_aload 2 41), (41, am_dup 42), (42, am_getI live 2 7 45), (45, am_const (.int 1) 46), (46, am_i2 (fun x y => x + y) 47), (47, am_putI live 2 7 50), (50, am_aload 2 51), (51, am_getI live 2 7 54), (54, am_const (.int 1) 55), (55, am_i2 (fun x y => x - y) 56), (56, am_retI Ret)]
theorem koX7_person (live : am_E) (Ret : am_R) : ∀ q ∈ kX7_person live Ret, am_ok RX7 cX7_person 3 (some .int) 1 20 live Ret q.1 q.2 :=
  am_kz dzX7_person <|
  am_kd (fun d => ak_iload_n d rfl rfl) <|
  am_kd (fun d => ak_callS metX7_isYear ⟨rfl, hy_X7_isYear⟩ (am_w4 wd_407 wd_408 wd_58 wd_409) (by decide) d rfl) <|
  am_kd (fun d => ak_if_ne d (by decide +kernel) rfl) <|
  am_kd (fun d => ak_bipush d (by decide +kernel) rfl) <|
  am_kd (fun d => ak_retI d) <|
  am_kd (fun d => ak_aload_n d rfl rfl) <|
  am_kd (fun d => ak_getR (C := RX7) (T := TX7) (N := 4) rfl inX7w (by decide) rfl rfl rfl wd_390 d rfl) <|
  am_kd (fun d => ak_getR (C := RX0) (T := TX0) (N := 13) rfl inX0w (by decide) rfl rfl rfl wd_194 d rfl) <|
  am_kd (fun d => ak_astore_n d rfl rfl) <|
  am_kd (fun d => ak_aload_n d rfl rfl) <|
  am_kd (fun d => ak_getI (C := RX2) (T := TX2) (N := 8) rfl inX2w (by decide) rfl rfl rfl wd_121 d rfl) <|
  am_kd (fun d => ak_bipush d (by decide +kernel) rfl) <|
  am_kd (fun d => ak_icmp_lt d (by decide +kernel) rfl) <|
  am_kd (fun d => ak_bipush d (by decide +kernel) rfl) <|
  am_kd (fun d => ak_retI d) <|
  am_kd (fun d => ak_aload_n d rfl rfl) <|
  am_kd (fun d => ak_getR (C := RX2) (T := TX2) (N := 8) rfl inX2w (by decide) rfl rfl rfl wd_106 d rfl) <|
  am_kd (fun d => ak_aload_n d rfl rfl) <|
  am_kd (fun d => ak_getI (C := RX2) (T := TX2) (N := 8) rfl inX2w (by decide) rfl rfl rfl wd_121 d rfl) <|
  am_kd (fun d => ak_iload_n d rfl rfl) <|
  am_kd (fun d => ak_iast (t := 0) (fun _ => rfl) rfl d rfl) <|
  am_kd (fun d => ak_aload_n d rfl rfl) <|
  am_kd (fun d => ak_dup d rfl) <|
  am_kd (fun d => ak_getI (C := RX2) (T := TX2) (N := 8) rfl inX2w (by decide) rfl rfl rfl wd_121 d rfl) <|
  am_kd (fun d => ak_iconst d (by decide +kernel) rfl) <|
  am_kd (fun d => ak_iadd d rfl) <|
  am_kd (fun d => ak_putI (C := RX2) (T := TX2) (N := 8) rfl inX2w tyX2_ok nmX2 (by decide) rfl rfl rfl rfl (by decide +kernel) wd_121 d rfl) <|
  am_kd (fun d => ak_aload_n d rfl rfl) <|
  am_kd (fun d => ak_getI (C := RX2) (T := TX2) (N := 8) rfl inX2w (by decide) rfl rfl rfl wd_121 d rfl) <|
  am_kd (fun d => ak_iconst d (by decide +kernel) rfl) <|
  am_kd (fun d => ak_isub d rfl) <|
  am_kd (fun d => ak_retI d) <| am_kdn
def c_person (M : am_M) (b : Int32) : Int32 × am_M := if 0 ≤ b ∧ b < 40 then (if M.1 21 7 < 12 then (M.1 21 7 + 1 - 1, am_wI (am_wI M 22 (M.1 21 7).toNatClampNeg b) 21 7 (M.1 21 7 + 1)) else ((-4 : Int32), M)) else ((-2 : Int32), M)
def TX7_person : am_T := fun live as M R => match as with
  | [.ref n, .int b] => am_mn live ∧ n = 0 ∧ (g_hI M ∧ g_rI M) ∧ R (some (.int (c_person M b).1)) (c_person M b).2
  | _ => False
set_option maxRecDepth 100000 in
set_option maxHeartbeats 4000000 in
theorem metX7_person : am_Met yX7_person cX7_person 3 (some .int) (1) (20) TX7_person := by
  refine am_met (own := RX7) (by decide +kernel) rfl kX7_person koX7_person 150 (fun _ _ _ _ _ => none) (fun live as M Ret h => ?_) (fun _ _ _ _ _ _ _ _ hI => by cases hI)
  unfold TX7_person at h
  split at h
  · next n b =>
    refine ⟨Nat.le_of_ble_eq_true rfl, ?_⟩
    change am_wp _ _ _ _ [(0, Value.ref n), (1, Value.int b)] _ _
    obtain ⟨hmn, rfl, ⟨hH, hR⟩, h⟩ := h
    have hmn2 := hmn
    obtain ⟨i1, i2, rfl⟩ := hmn2
    by_cases z0 : 0 ≤ b ∧ b < 40
    rotate_left
    · skip
      have q0 : (if 0 ≤ b ∧ b < 40 then (1 : Int32) else 0) = 0 := if_neg z0
      have e : c_person M b = ((-2 : Int32), M) := by unfold c_person; rw [if_neg z0]
      rw [e] at h
      repeat' (first | (with_reducible exact hmn) | (with_reducible exact h) | apply And.intro | exact rfl | (intro hx; with_reducible exact absurd q0 hx) | (intro hx; exact absurd hx (by decide)) | (intro hx; exact absurd (by decide) hx) | decide | intro hx | (refine Exists.intro _ (And.intro rfl ?_)))
      all_goals try first | (with_reducible change am_tI _ _) | (change Ret _ _) | (change Ret _ _ _) | (change Exists _)
      all_goals try dsimp only at *
      all_goals try (with_reducible exact absurd ‹(1000 : Int64) = 0› am_z1000)
      all_goals first | (with_reducible exact h) | omega | (rw [l22]; omega) | exact h | skip
    · skip
      have q0 : ¬ ((if 0 ≤ b ∧ b < 40 then (1 : Int32) else 0) = 0) := by rw [if_pos z0]; decide
      by_cases z1 : M.1 21 7 < 12
      rotate_left
      · skip
        have y1 : (12 : Int32) ≤ M.1 21 7 := Int32.not_lt.mp z1
        have e : c_person M b = ((-4 : Int32), M) := by unfold c_person; rw [if_pos z0, if_neg z1]
        rw [e] at h
        repeat' (first | (with_reducible exact hmn) | (with_reducible exact h) | apply And.intro | exact rfl | (intro hx; with_reducible exact absurd hx q0) | (intro hx; with_reducible exact absurd hx z1) | (intro hx; with_reducible exact absurd y1 hx) | (intro hx; exact absurd hx (by decide)) | (intro hx; exact absurd (by decide) hx) | decide | intro hx | (refine Exists.intro _ (And.intro rfl ?_)))
        all_goals try first | (with_reducible change am_tI _ _) | (change Ret _ _) | (change Ret _ _ _) | (change Exists _)
        all_goals try dsimp only at *
        all_goals try (with_reducible exact absurd ‹(1000 : Int64) = 0› am_z1000)
        all_goals first | (with_reducible exact h) | omega | (rw [l22]; omega) | exact h | skip
      · skip
        have y1 : ¬ (12 : Int32) ≤ M.1 21 7 := Int32.not_le.mpr z1
        have l22 : am_len 22 = 12 := rfl
        have q := hH.pe
        have zb : (M.1 21 7).toInt < 12 := by have q := z1; simp only [i_lt, Int32.reduceToInt] at q; exact q
        have e : c_person M b = (M.1 21 7 + 1 - 1, am_wI (am_wI M 22 (M.1 21 7).toNatClampNeg b) 21 7 (M.1 21 7 + 1)) := by unfold c_person; rw [if_pos z0, if_pos z1]
        rw [e] at h
        repeat' (first | (with_reducible exact hmn) | apply And.intro | exact rfl | (intro hx; with_reducible exact absurd hx q0) | (intro hx; with_reducible exact absurd hx y1) | (intro hx; with_reducible exact absurd z1 hx) | (intro hx; exact absurd hx (by decide)) | (intro hx; exact absurd (by decide) hx) | decide | intro hx | (refine Exists.intro _ (And.intro rfl ?_)))
        all_goals try first | (with_reducible change am_tI _ _) | (change Ret _ _) | (change Ret _ _ _) | (change Exists _)
        all_goals try dsimp only at *
        all_goals try (with_reducible exact absurd ‹(1000 : Int64) = 0› am_z1000)
        all_goals first | (with_reducible exact h) | omega | (rw [l22]; omega) | exact h | skip
  · exact h.elim
theorem hy_X7_isPerson : yX7_isPerson.cls ≠ "java/lang/invoke/MethodHandle" ∧ yX7_isPerson.cls ≠ "java/lang/invoke/VarHandle" ∧ (parseMethodDescriptor yX7_isPerson.desc).map (fun d => d.parameters.length) = some 1 := ⟨by decide +kernel, by decide +kernel, by decide +kernel⟩
set_option maxRecDepth 100000 in
theorem wd_414 : Cond.methodLink "LearnLoans" 52 yX7_isPerson ∈ am_ws := am_wt2 (List.mem_of_getElem? (i := 117) (by rfl)) (by decide +kernel)
set_option maxRecDepth 100000 in
theorem wd_416 : Cond.instanceMethod yX7_isPerson ∈ am_ws := am_wt2 (List.mem_of_getElem? (i := 119) (by rfl)) (by decide +kernel)
set_option maxRecDepth 100000 in
theorem wd_0 : Cond.selects "LearnLoans" yX7_isPerson yX7_isPerson ∈ am_ws := am_wsi (List.mem_of_getElem? (i := 0) (by rfl)) (by decide +kernel)
set_option maxRecDepth 100000 in
theorem wd_417 : Cond.code yX7_isPerson cX7_isPerson 2 (some .boolean) ∈ am_ws := am_wt2 (List.mem_of_getElem? (i := 120) (by rfl)) (by decide +kernel)
theorem hy_X7_within : yX7_within.cls ≠ "java/lang/invoke/MethodHandle" ∧ yX7_within.cls ≠ "java/lang/invoke/VarHandle" ∧ (parseMethodDescriptor yX7_within.desc).map (fun d => d.parameters.length) = some 3 := ⟨by decide +kernel, by decide +kernel, by decide +kernel⟩
set_option maxRecDepth 100000 in
theorem wd_418 : Cond.methodLink "LearnLoans" 55 yX7_within ∈ am_ws := am_wt2 (List.mem_of_getElem? (i := 121) (by rfl)) (by decide +kernel)
set_option maxRecDepth 100000 in
theorem wd_419 : Cond.static yX7_within ∈ am_ws := am_wt2 (List.mem_of_getElem? (i := 122) (by rfl)) (by decide +kernel)
set_option maxRecDepth 100000 in
theorem wd_420 : Cond.code yX7_within cX7_within 3 (some .boolean) ∈ am_ws := am_wt2 (List.mem_of_getElem? (i := 123) (by rfl)) (by decide +kernel)
theorem hy_X7_isSpan : yX7_isSpan.cls ≠ "java/lang/invoke/MethodHandle" ∧ yX7_isSpan.cls ≠ "java/lang/invoke/VarHandle" ∧ (parseMethodDescriptor yX7_isSpan.desc).map (fun d => d.parameters.length) = some 2 := ⟨by decide +kernel, by decide +kernel, by decide +kernel⟩
set_option maxRecDepth 100000 in
theorem wd_421 : Cond.methodLink "LearnLoans" 59 yX7_isSpan ∈ am_ws := am_wt2 (List.mem_of_getElem? (i := 124) (by rfl)) (by decide +kernel)
set_option maxRecDepth 100000 in
theorem wd_422 : Cond.static yX7_isSpan ∈ am_ws := am_wt2 (List.mem_of_getElem? (i := 125) (by rfl)) (by decide +kernel)
set_option maxRecDepth 100000 in
theorem wd_423 : Cond.code yX7_isSpan cX7_isSpan 2 (some .boolean) ∈ am_ws := am_wt2 (List.mem_of_getElem? (i := 126) (by rfl)) (by decide +kernel)
set_option maxRecDepth 100000 in
theorem wd_111 : Cond.fieldLink "LearnLoans" 63 "LearnLoans$People" "lands" "[I" ∈ am_ws := am_wt1 (List.mem_of_getElem? (i := 54) (by rfl)) (by decide +kernel)
theorem hy_X7_lay : yX7_lay.cls ≠ "java/lang/invoke/MethodHandle" ∧ yX7_lay.cls ≠ "java/lang/invoke/VarHandle" ∧ (parseMethodDescriptor yX7_lay.desc).map (fun d => d.parameters.length) = some 4 := ⟨by decide +kernel, by decide +kernel, by decide +kernel⟩
set_option maxRecDepth 100000 in
theorem wd_424 : Cond.methodLink "LearnLoans" 66 yX7_lay ∈ am_ws := am_wt2 (List.mem_of_getElem? (i := 127) (by rfl)) (by decide +kernel)
set_option maxRecDepth 100000 in
theorem wd_425 : Cond.static yX7_lay ∈ am_ws := am_wt2 (List.mem_of_getElem? (i := 128) (by rfl)) (by decide +kernel)
set_option maxRecDepth 100000 in
theorem wd_426 : Cond.code yX7_lay cX7_lay 5 none ∈ am_ws := am_wt2 (List.mem_of_getElem? (i := 129) (by rfl)) (by decide +kernel)
def rwX7_land : List dz_r := [(0, .aload_n 0, 1), (1, .iload_n 1, 1), (2, .invokevirtual 52, 3), (5, .ifCond .eq 21, 3), (8, .iload_n 2, 1), (9, .iconst 0, 1), (10, .iconst 3, 1), (11, .invokestatic 55, 3), (14, .ifCond .eq 12, 3), (17, .iload_n 3, 1), (18, .iload 4, 2), (20, .invokestatic 59, 3), (23, .ifCond .ne 6, 3), (26, .bipush (-2), 2), (28, .ireturn, 1), (29, .aload_n 0, 1), (30, .getfield 27, 3), (33, .getfield 38, 3), (36, .getfield 63, 3), (39, .iload_n 1, 1), (40, .bipush 40, 2), (42, .imul, 1), (43, .iload_n 3, 1), (44, .iadd, 1), (45, .iload_n 1, 1), (46, .bipush 40, 2), (48, .imul, 1), (49, .iload 4, 2), (51, .iadd, 1), (52, .iload_n 2, 1), (53, .invokestatic 66, 3), (56, .iconst 1, 1), (57, .ireturn, 1)]
theorem dzX7_land : dz cX7_land rwX7_land := dz_all 0 (by decide +kernel)
def kX7_land (live : am_E) (Ret : am_R) : am_code := [(0, am_aload 0 1), (1, am_iload 1 2), (2, am_callV live 7 1 TX7_isPerson 5), (5, am_if1 (fun x => x = 0) 26 8), (8, am_iload 2 9), (9, am_const (.int 0) 10), (10, am_const (.int 3) 11), (11, am_callS live 3 TX7_within 14), (14, am_if1 (fun x => x = 0) 26 17), (17, am_iload 3 18), (18, am_iload 4 20), (20, am_callS live 2 TX7_isSpan 23), (23, am_if1 (fun x => x = 0) 26 29), (26, am_const (.int (-2)) 28), (28, am_retI Ret), (29, am_aload 0 30), (30, am_getR live 7 0 33), (33, am_getR live 0 0 36), (36, am_getR live 2 2 39), (39, am_iload 1 40), (40, am_const (.int 40) 42), (42, am_i2 (fun x y => x * y) 43), (43, am_iload 3 44), (44, am_i2 (fun x y => x + y) 45), (45, am_iload 1 46), (46, am_const (.int 40) 48), (48, am_i2 (fun x y => x * y) 49), (49, am_iload 4 51), (51, am_i2 (fun x y => x + y) 52), (52, am_iload 2 53), (53, am_callS live 4 TX7_lay 56), (56, am_const (.int 1) 57), (57, am_retI Ret)]
theorem koX7_land (live : am_E) (Ret : am_R) : ∀ q ∈ kX7_land live Ret, am_ok RX7 cX7_land 5 (some .int) 2 47 live Ret q.1 q.2 :=
  am_kz dzX7_land <|
  am_kd (fun d => ak_aload_n d rfl rfl) <|
  am_kd (fun d => ak_iload_n d rfl rfl) <|
  am_kd (fun d => ak_callV (C := RX7) (F := TX7) (N := 4) metX7_isPerson rfl ⟨rfl, hy_X7_isPerson⟩ (am_w5 wd_414 wd_416 wd_0 wd_58 wd_417) (by decide) d rfl) <|
  am_kd (fun d => ak_if_eq d (by decide +kernel) rfl) <|
  am_kd (fun d => ak_iload_n d rfl rfl) <|
  am_kd (fun d => ak_iconst d (by decide +kernel) rfl) <|
  am_kd (fun d => ak_iconst d (by decide +kernel) rfl) <|
  am_kd (fun d => ak_callS metX7_within ⟨rfl, hy_X7_within⟩ (am_w4 wd_418 wd_419 wd_58 wd_420) (by decide) d rfl) <|
  am_kd (fun d => ak_if_eq d (by decide +kernel) rfl) <|
  am_kd (fun d => ak_iload_n d rfl rfl) <|
  am_kd (fun d => ak_iload d rfl) <|
  am_kd (fun d => ak_callS metX7_isSpan ⟨rfl, hy_X7_isSpan⟩ (am_w4 wd_421 wd_422 wd_58 wd_423) (by decide) d rfl) <|
  am_kd (fun d => ak_if_ne d (by decide +kernel) rfl) <|
  am_kd (fun d => ak_bipush d (by decide +kernel) rfl) <|
  am_kd (fun d => ak_retI d) <|
  am_kd (fun d => ak_aload_n d rfl rfl) <|
  am_kd (fun d => ak_getR (C := RX7) (T := TX7) (N := 4) rfl inX7w (by decide) rfl rfl rfl wd_390 d rfl) <|
  am_kd (fun d => ak_getR (C := RX0) (T := TX0) (N := 13) rfl inX0w (by decide) rfl rfl rfl wd_194 d rfl) <|
  am_kd (fun d => ak_getR (C := RX2) (T := TX2) (N := 8) rfl inX2w (by decide) rfl rfl rfl wd_111 d rfl) <|
  am_kd (fun d => ak_iload_n d rfl rfl) <|
  am_kd (fun d => ak_bipush d (by decide +kernel) rfl) <|
  am_kd (fun d => ak_imul d rfl) <|
  am_kd (fun d => ak_iload_n d rfl rfl) <|
  am_kd (fun d => ak_iadd d rfl) <|
  am_kd (fun d => ak_iload_n d rfl rfl) <|
  am_kd (fun d => ak_bipush d (by decide +kernel) rfl) <|
  am_kd (fun d => ak_imul d rfl) <|
  am_kd (fun d => ak_iload d rfl) <|
  am_kd (fun d => ak_iadd d rfl) <|
  am_kd (fun d => ak_iload_n d rfl rfl) <|
  am_kd (fun d => ak_callS metX7_lay ⟨rfl, hy_X7_lay⟩ (am_w4 wd_424 wd_425 wd_58 wd_426) (by decide) d rfl) <|
  am_kd (fun d => ak_iconst d (by decide +kernel) rfl) <|
  am_kd (fun d => ak_retI d) <| am_kdn
def c_land (M : am_M) (p l f t : Int32) : Int32 × am_M := if 0 ≤ p ∧ p < M.1 21 7 then (if 0 ≤ l ∧ l ≤ 3 then (if 0 ≤ f ∧ f ≤ t ∧ t < 40 then (1, am_lay M 24 (max (p * 40 + f).toInt 0) (min (p * 40 + t).toInt ((am_len 24 : Int) - 1)) l) else ((-2 : Int32), M)) else ((-2 : Int32), M)) else ((-2 : Int32), M)
def TX7_land : am_T := fun live as M R => match as with
  | [.ref n, .int p, .int l, .int f, .int t] => am_mn live ∧ n = 0 ∧ (g_hI M ∧ g_rI M) ∧ R (some (.int (c_land M p l f t).1)) (c_land M p l f t).2
  | _ => False
set_option maxRecDepth 100000 in
set_option maxHeartbeats 4000000 in
theorem metX7_land : am_Met yX7_land cX7_land 5 (some .int) (2) (47) TX7_land := by
  refine am_met (own := RX7) (by decide +kernel) rfl kX7_land koX7_land 150 (fun _ _ _ _ _ => none) (fun live as M Ret h => ?_) (fun _ _ _ _ _ _ _ _ hI => by cases hI)
  unfold TX7_land at h
  split at h
  · next n p l f t =>
    refine ⟨Nat.le_of_ble_eq_true rfl, ?_⟩
    change am_wp _ _ _ _ [(0, Value.ref n), (1, Value.int p), (2, Value.int l), (3, Value.int f), (4, Value.int t)] _ _
    obtain ⟨hmn, rfl, ⟨hH, hR⟩, h⟩ := h
    have hmn2 := hmn
    obtain ⟨i1, i2, rfl⟩ := hmn2
    by_cases z0 : 0 ≤ p ∧ p < M.1 21 7
    rotate_left
    · skip
      have q0 : (if 0 ≤ p ∧ p < M.1 21 7 then (1 : Int32) else 0) = 0 := if_neg z0
      have e : c_land M p l f t = ((-2 : Int32), M) := by unfold c_land; rw [if_neg z0]
      rw [e] at h
      repeat' (first | (with_reducible exact hmn) | (with_reducible exact h) | apply And.intro | exact rfl | (intro hx; with_reducible exact absurd q0 hx) | (intro hx; exact absurd hx (by decide)) | (intro hx; exact absurd (by decide) hx) | decide | intro hx | (refine Exists.intro _ (And.intro rfl ?_)))
      all_goals try first | (with_reducible change am_tI _ _) | (change Ret _ _) | (change Ret _ _ _) | (change Exists _)
      all_goals try dsimp only at *
      all_goals try (with_reducible exact absurd ‹(1000 : Int64) = 0› am_z1000)
      all_goals first | exact h | skip
    · skip
      have q0 : ¬ ((if 0 ≤ p ∧ p < M.1 21 7 then (1 : Int32) else 0) = 0) := by rw [if_pos z0]; decide
      by_cases z1 : 0 ≤ l ∧ l ≤ 3
      rotate_left
      · skip
        have q1 : (if 0 ≤ l ∧ l ≤ 3 then (1 : Int32) else 0) = 0 := if_neg z1
        have e : c_land M p l f t = ((-2 : Int32), M) := by unfold c_land; rw [if_pos z0, if_neg z1]
        rw [e] at h
        repeat' (first | (with_reducible exact hmn) | (with_reducible exact h) | apply And.intro | exact rfl | (intro hx; with_reducible exact absurd hx q0) | (intro hx; with_reducible exact absurd q1 hx) | (intro hx; exact absurd hx (by decide)) | (intro hx; exact absurd (by decide) hx) | decide | intro hx | (refine Exists.intro _ (And.intro rfl ?_)))
        all_goals try first | (with_reducible change am_tI _ _) | (change Ret _ _) | (change Ret _ _ _) | (change Exists _)
        all_goals try dsimp only at *
        all_goals try (with_reducible exact absurd ‹(1000 : Int64) = 0› am_z1000)
        all_goals first | exact h | skip
      · skip
        have q1 : ¬ ((if 0 ≤ l ∧ l ≤ 3 then (1 : Int32) else 0) = 0) := by rw [if_pos z1]; decide
        by_cases z2 : 0 ≤ f ∧ f ≤ t ∧ t < 40
        rotate_left
        · skip
          have q2 : (if 0 ≤ f ∧ f ≤ t ∧ t < 40 then (1 : Int32) else 0) = 0 := if_neg z2
          have e : c_land M p l f t = ((-2 : Int32), M) := by unfold c_land; rw [if_pos z0, if_pos z1, if_neg z2]
          rw [e] at h
          repeat' (first | (with_reducible exact hmn) | (with_reducible exact h) | apply And.intro | exact rfl | (intro hx; with_reducible exact absurd hx q0) | (intro hx; with_reducible exact absurd hx q1) | (intro hx; with_reducible exact absurd q2 hx) | (intro hx; exact absurd hx (by decide)) | (intro hx; exact absurd (by decide) hx) | decide | intro hx | (refine Exists.intro _ (And.intro rfl ?_)))
          all_goals try first | (with_reducible change am_tI _ _) | (change Ret _ _) | (change Ret _ _ _) | (change Exists _)
          all_goals try dsimp only at *
          all_goals try (with_reducible exact absurd ‹(1000 : Int64) = 0› am_z1000)
          all_goals first | exact h | skip
        · skip
          have q2 : ¬ ((if 0 ≤ f ∧ f ≤ t ∧ t < 40 then (1 : Int32) else 0) = 0) := by rw [if_pos z2]; decide
          have e : c_land M p l f t = (1, am_lay M 24 (max (p * 40 + f).toInt 0) (min (p * 40 + t).toInt ((am_len 24 : Int) - 1)) l) := by unfold c_land; rw [if_pos z0, if_pos z1, if_pos z2]
          rw [e] at h
          repeat' (first | (with_reducible exact hmn) | apply And.intro | exact rfl | (intro hx; with_reducible exact absurd hx q0) | (intro hx; with_reducible exact absurd hx q1) | (intro hx; with_reducible exact absurd hx q2) | (intro hx; exact absurd hx (by decide)) | (intro hx; exact absurd (by decide) hx) | decide | intro hx | (refine Exists.intro _ (And.intro rfl ?_)))
          all_goals try first | (with_reducible change am_tI _ _) | (change Ret _ _) | (change Ret _ _ _) | (change Exists _)
          all_goals try dsimp only at *
          all_goals try (with_reducible exact absurd ‹(1000 : Int64) = 0› am_z1000)
          all_goals first | exact h | skip
  · exact h.elim
set_option maxRecDepth 100000 in
theorem wd_197 : Cond.fieldLink "LearnLoans" 70 "LearnLoans$House" "scales" "[I" ∈ am_ws := am_wt1 (List.mem_of_getElem? (i := 140) (by rfl)) (by decide +kernel)
def rwX7_scale : List dz_r := [(0, .iload_n 1, 1), (1, .iconst 0, 1), (2, .iconst 3, 1), (3, .invokestatic 55, 3), (6, .ifCond .eq 14, 3), (9, .iload_n 2, 1), (10, .iconst 1, 1), (11, .sipush 5000, 3), (14, .invokestatic 55, 3), (17, .ifCond .ne 6, 3), (20, .bipush (-2), 2), (22, .ireturn, 1), (23, .aload_n 0, 1), (24, .getfield 27, 3), (27, .getfield 70, 3), (30, .iload_n 1, 1), (31, .iaload, 1), (32, .istore_n 3, 1), (33, .aload_n 0, 1), (34, .getfield 27, 3), (37, .getfield 70, 3), (40, .iload_n 1, 1), (41, .iload_n 2, 1), (42, .iastore, 1), (43, .iload_n 3, 1), (44, .ireturn, 1)]
theorem dzX7_scale : dz cX7_scale rwX7_scale := dz_all 0 (by decide +kernel)
def kX7_scale (live : am_E) (Ret : am_R) : am_code := [(0, am_iload 1 1), (1, am_const (.int 0) 2), (2, am_const (.int 3) 3), (3, am_callS live 3 TX7_within 6), (6, am_if1 (fun x => x = 0) 20 9), (9, am_iload 2 10), (10, am_const (.int 1) 11), (11, am_const (.int 5000) 14), (14, am_callS live 3 TX7_within 17), (17, am_if1 (fun x => x = 0) 20 23), (20, am_const (.int (-2)) 22), (22, am_retI Ret), (23, am_aload 0 24), (24, am_getR live 7 0 27), (27, am_getR live 0 1 30), (30, am_iload 1 31), (31, am_ald live 0 32), (32, am_istore 3 4 33), (33, am_aload 0 34), (34, am_getR live 7 0 37), (37, am_getR live 0 1 40), (40, am_iload 1 41), (41, am_iload 2 42), (42, am_ast live 0 43), (43, am_iload 3 44), (44, am_retI Ret)]
theorem koX7_scale (live : am_E) (Ret : am_R) : ∀ q ∈ kX7_scale live Ret, am_ok RX7 cX7_scale 4 (some .int) 1 22 live Ret q.1 q.2 :=
  am_kz dzX7_scale <|
  am_kd (fun d => ak_iload_n d rfl rfl) <|
  am_kd (fun d => ak_iconst d (by decide +kernel) rfl) <|
  am_kd (fun d => ak_iconst d (by decide +kernel) rfl) <|
  am_kd (fun d => ak_callS metX7_within ⟨rfl, hy_X7_within⟩ (am_w4 wd_418 wd_419 wd_58 wd_420) (by decide) d rfl) <|
  am_kd (fun d => ak_if_eq d (by decide +kernel) rfl) <|
  am_kd (fun d => ak_iload_n d rfl rfl) <|
  am_kd (fun d => ak_iconst d (by decide +kernel) rfl) <|
  am_kd (fun d => ak_sipush d (by decide +kernel) rfl) <|
  am_kd (fun d => ak_callS metX7_within ⟨rfl, hy_X7_within⟩ (am_w4 wd_418 wd_419 wd_58 wd_420) (by decide) d rfl) <|
  am_kd (fun d => ak_if_ne d (by decide +kernel) rfl) <|
  am_kd (fun d => ak_bipush d (by decide +kernel) rfl) <|
  am_kd (fun d => ak_retI d) <|
  am_kd (fun d => ak_aload_n d rfl rfl) <|
  am_kd (fun d => ak_getR (C := RX7) (T := TX7) (N := 4) rfl inX7w (by decide) rfl rfl rfl wd_390 d rfl) <|
  am_kd (fun d => ak_getR (C := RX0) (T := TX0) (N := 13) rfl inX0w (by decide) rfl rfl rfl wd_197 d rfl) <|
  am_kd (fun d => ak_iload_n d rfl rfl) <|
  am_kd (fun d => ak_iald (t := 0) (fun _ => rfl) rfl d rfl) <|
  am_kd (fun d => ak_istore_n d rfl rfl) <|
  am_kd (fun d => ak_aload_n d rfl rfl) <|
  am_kd (fun d => ak_getR (C := RX7) (T := TX7) (N := 4) rfl inX7w (by decide) rfl rfl rfl wd_390 d rfl) <|
  am_kd (fun d => ak_getR (C := RX0) (T := TX0) (N := 13) rfl inX0w (by decide) rfl rfl rfl wd_197 d rfl) <|
  am_kd (fun d => ak_iload_n d rfl rfl) <|
  am_kd (fun d => ak_iload_n d rfl rfl) <|
  am_kd (fun d => ak_iast (t := 0) (fun _ => rfl) rfl d rfl) <|
  am_kd (fun d => ak_iload_n d rfl rfl) <|
  am_kd (fun d => ak_retI d) <| am_kdn
def c_scale (M : am_M) (l v : Int32) : Int32 × am_M := if 0 ≤ l ∧ l ≤ 3 then (if 1 ≤ v ∧ v ≤ 5000 then (M.1 29 l.toNatClampNeg, am_wI M 29 l.toNatClampNeg v) else ((-2 : Int32), M)) else ((-2 : Int32), M)
def TX7_scale : am_T := fun live as M R => match as with
  | [.ref n, .int l, .int v] => am_mn live ∧ n = 0 ∧ (g_hI M ∧ g_rI M) ∧ R (some (.int (c_scale M l v).1)) (c_scale M l v).2
  | _ => False
set_option maxRecDepth 100000 in
set_option maxHeartbeats 4000000 in
theorem metX7_scale : am_Met yX7_scale cX7_scale 4 (some .int) (1) (22) TX7_scale := by
  refine am_met (own := RX7) (by decide +kernel) rfl kX7_scale koX7_scale 150 (fun _ _ _ _ _ => none) (fun live as M Ret h => ?_) (fun _ _ _ _ _ _ _ _ hI => by cases hI)
  unfold TX7_scale at h
  split at h
  · next n l v =>
    refine ⟨Nat.le_of_ble_eq_true rfl, ?_⟩
    change am_wp _ _ _ _ [(0, Value.ref n), (1, Value.int l), (2, Value.int v)] _ _
    obtain ⟨hmn, rfl, ⟨hH, hR⟩, h⟩ := h
    have hmn2 := hmn
    obtain ⟨i1, i2, rfl⟩ := hmn2
    by_cases z0 : 0 ≤ l ∧ l ≤ 3
    rotate_left
    · skip
      have q0 : (if 0 ≤ l ∧ l ≤ 3 then (1 : Int32) else 0) = 0 := if_neg z0
      have e : c_scale M l v = ((-2 : Int32), M) := by unfold c_scale; rw [if_neg z0]
      rw [e] at h
      repeat' (first | (with_reducible exact hmn) | (with_reducible exact h) | apply And.intro | exact rfl | (intro hx; with_reducible exact absurd q0 hx) | (intro hx; exact absurd hx (by decide)) | (intro hx; exact absurd (by decide) hx) | decide | intro hx | (refine Exists.intro _ (And.intro rfl ?_)))
      all_goals try first | (with_reducible change am_tI _ _) | (change Ret _ _) | (change Ret _ _ _) | (change Exists _)
      all_goals try dsimp only at *
      all_goals try (with_reducible exact absurd ‹(1000 : Int64) = 0› am_z1000)
      all_goals first | (with_reducible exact h) | (with_reducible exact hl.1) | (rw [l29]; exact hl.2) | exact h | exact hl.1 | skip
    · skip
      have q0 : ¬ ((if 0 ≤ l ∧ l ≤ 3 then (1 : Int32) else 0) = 0) := by rw [if_pos z0]; decide
      by_cases z1 : 1 ≤ v ∧ v ≤ 5000
      rotate_left
      · skip
        have q1 : (if 1 ≤ v ∧ v ≤ 5000 then (1 : Int32) else 0) = 0 := if_neg z1
        have e : c_scale M l v = ((-2 : Int32), M) := by unfold c_scale; rw [if_pos z0, if_neg z1]
        rw [e] at h
        repeat' (first | (with_reducible exact hmn) | (with_reducible exact h) | apply And.intro | exact rfl | (intro hx; with_reducible exact absurd hx q0) | (intro hx; with_reducible exact absurd q1 hx) | (intro hx; exact absurd hx (by decide)) | (intro hx; exact absurd (by decide) hx) | decide | intro hx | (refine Exists.intro _ (And.intro rfl ?_)))
        all_goals try first | (with_reducible change am_tI _ _) | (change Ret _ _) | (change Ret _ _ _) | (change Exists _)
        all_goals try dsimp only at *
        all_goals try (with_reducible exact absurd ‹(1000 : Int64) = 0› am_z1000)
        all_goals first | (with_reducible exact h) | (with_reducible exact hl.1) | (rw [l29]; exact hl.2) | exact h | exact hl.1 | skip
      · skip
        have q1 : ¬ ((if 1 ≤ v ∧ v ≤ 5000 then (1 : Int32) else 0) = 0) := by rw [if_pos z1]; decide
        have l29 : am_len 29 = 4 := rfl
        have hl : am_in l 4 := ⟨by have q := z0.1; simp only [i_le, Int32.reduceToInt] at q; omega, by have q := z0.2; simp only [i_le, Int32.reduceToInt] at q; omega⟩
        have e : c_scale M l v = (M.1 29 l.toNatClampNeg, am_wI M 29 l.toNatClampNeg v) := by unfold c_scale; rw [if_pos z0, if_pos z1]
        rw [e] at h
        repeat' (first | (with_reducible exact hmn) | apply And.intro | exact rfl | (intro hx; with_reducible exact absurd hx q0) | (intro hx; with_reducible exact absurd hx q1) | (intro hx; exact absurd hx (by decide)) | (intro hx; exact absurd (by decide) hx) | decide | intro hx | (refine Exists.intro _ (And.intro rfl ?_)))
        all_goals try first | (with_reducible change am_tI _ _) | (change Ret _ _) | (change Ret _ _ _) | (change Exists _)
        all_goals try dsimp only at *
        all_goals try (with_reducible exact absurd ‹(1000 : Int64) = 0› am_z1000)
        all_goals first | (with_reducible exact h) | (with_reducible exact hl.1) | (rw [l29]; exact hl.2) | exact h | exact hl.1 | skip
  · exact h.elim
set_option maxRecDepth 100000 in
theorem wd_200 : Cond.fieldLink "LearnLoans" 73 "LearnLoans$House" "prices" "[I" ∈ am_ws := am_wt1 (List.mem_of_getElem? (i := 143) (by rfl)) (by decide +kernel)
def rwX7_prices : List dz_r := [(0, .iload_n 1, 1), (1, .invokestatic 34, 3), (4, .ifCond .eq 15, 3), (7, .iload_n 2, 1), (8, .bipush (-100), 2), (10, .sipush 500, 3), (13, .invokestatic 55, 3), (16, .ifCond .ne 7, 3), (19, .sipush (-1000), 3), (22, .ireturn, 1), (23, .aload_n 0, 1), (24, .getfield 27, 3), (27, .getfield 73, 3), (30, .iload_n 1, 1), (31, .iaload, 1), (32, .istore_n 3, 1), (33, .aload_n 0, 1), (34, .getfield 27, 3), (37, .getfield 73, 3), (40, .iload_n 1, 1), (41, .iload_n 2, 1), (42, .iastore, 1), (43, .iload_n 3, 1), (44, .ireturn, 1)]
theorem dzX7_prices : dz cX7_prices rwX7_prices := dz_all 0 (by decide +kernel)
def kX7_prices (live : am_E) (Ret : am_R) : am_code := [(0, am_iload 1 1), (1, am_callS live 1 TX7_isYear 4), (4, am_if1 (fun x => x = 0) 19 7), (7, am_iload 2 8), (8, am_const (.int (-100)) 10), (10, am_const (.int 500) 13), (13, am_callS live 3 TX7_within 16), (16, am_if1 (fun x => x = 0) 19 23), (19, am_const (.int (-1000)) 22), (22, am_retI Ret), (23, am_aload 0 24), (24, am_getR live 7 0 27), (27, am_getR live 0 2 30), (30, am_iload 1 31), (31, am_ald live 0 32), (32, am_istore 3 4 33), (33, am_aload 0 34), (34, am_getR live 7 0 37), (37, am_getR live 0 2 40), (40, am_iload 1 41), (41, am_iload 2 42), (42, am_ast live 0 43), (43, am_iload 3 44), (44, am_retI Ret)]
theorem koX7_prices (live : am_E) (Ret : am_R) : ∀ q ∈ kX7_prices live Ret, am_ok RX7 cX7_prices 4 (some .int) 1 22 live Ret q.1 q.2 :=
  am_kz dzX7_prices <|
  am_kd (fun d => ak_iload_n d rfl rfl) <|
  am_kd (fun d => ak_callS metX7_isYear ⟨rfl, hy_X7_isYear⟩ (am_w4 wd_407 wd_408 wd_58 wd_409) (by decide) d rfl) <|
  am_kd (fun d => ak_if_eq d (by decide +kernel) rfl) <|
  am_kd (fun d => ak_iload_n d rfl rfl) <|
  am_kd (fun d => ak_bipush d (by decide +kernel) rfl) <|
  am_kd (fun d => ak_sipush d (by decide +kernel) rfl) <|
  am_kd (fun d => ak_callS metX7_within ⟨rfl, hy_X7_within⟩ (am_w4 wd_418 wd_419 wd_58 wd_420) (by decide) d rfl) <|
  am_kd (fun d => ak_if_ne d (by decide +kernel) rfl) <|
  am_kd (fun d => ak_sipush d (by decide +kernel) rfl) <|
  am_kd (fun d => ak_retI d) <|
  am_kd (fun d => ak_aload_n d rfl rfl) <|
  am_kd (fun d => ak_getR (C := RX7) (T := TX7) (N := 4) rfl inX7w (by decide) rfl rfl rfl wd_390 d rfl) <|
  am_kd (fun d => ak_getR (C := RX0) (T := TX0) (N := 13) rfl inX0w (by decide) rfl rfl rfl wd_200 d rfl) <|
  am_kd (fun d => ak_iload_n d rfl rfl) <|
  am_kd (fun d => ak_iald (t := 0) (fun _ => rfl) rfl d rfl) <|
  am_kd (fun d => ak_istore_n d rfl rfl) <|
  am_kd (fun d => ak_aload_n d rfl rfl) <|
  am_kd (fun d => ak_getR (C := RX7) (T := TX7) (N := 4) rfl inX7w (by decide) rfl rfl rfl wd_390 d rfl) <|
  am_kd (fun d => ak_getR (C := RX0) (T := TX0) (N := 13) rfl inX0w (by decide) rfl rfl rfl wd_200 d rfl) <|
  am_kd (fun d => ak_iload_n d rfl rfl) <|
  am_kd (fun d => ak_iload_n d rfl rfl) <|
  am_kd (fun d => ak_iast (t := 0) (fun _ => rfl) rfl d rfl) <|
  am_kd (fun d => ak_iload_n d rfl rfl) <|
  am_kd (fun d => ak_retI d) <| am_kdn
def c_prices (M : am_M) (y v : Int32) : Int32 × am_M := if 0 ≤ y ∧ y < 40 then (if -100 ≤ v ∧ v ≤ 500 then (M.1 30 y.toNatClampNeg, am_wI M 30 y.toNatClampNeg v) else ((-1000 : Int32), M)) else ((-1000 : Int32), M)
def TX7_prices : am_T := fun live as M R => match as with
  | [.ref n, .int y, .int v] => am_mn live ∧ n = 0 ∧ (g_hI M ∧ g_rI M) ∧ R (some (.int (c_prices M y v).1)) (c_prices M y v).2
  | _ => False
set_option maxRecDepth 100000 in
set_option maxHeartbeats 4000000 in
theorem metX7_prices : am_Met yX7_prices cX7_prices 4 (some .int) (1) (22) TX7_prices := by
  refine am_met (own := RX7) (by decide +kernel) rfl kX7_prices koX7_prices 150 (fun _ _ _ _ _ => none) (fun live as M Ret h => ?_) (fun _ _ _ _ _ _ _ _ hI => by cases hI)
  unfold TX7_prices at h
  split at h
  · next n y v =>
    refine ⟨Nat.le_of_ble_eq_true rfl, ?_⟩
    change am_wp _ _ _ _ [(0, Value.ref n), (1, Value.int y), (2, Value.int v)] _ _
    obtain ⟨hmn, rfl, ⟨hH, hR⟩, h⟩ := h
    have hmn2 := hmn
    obtain ⟨i1, i2, rfl⟩ := hmn2
    by_cases z0 : 0 ≤ y ∧ y < 40
    rotate_left
    · skip
      have q0 : (if 0 ≤ y ∧ y < 40 then (1 : Int32) else 0) = 0 := if_neg z0
      have e : c_prices M y v = ((-1000 : Int32), M) := by unfold c_prices; rw [if_neg z0]
      rw [e] at h
      repeat' (first | (with_reducible exact hmn) | (with_reducible exact h) | apply And.intro | exact rfl | (intro hx; with_reducible exact absurd q0 hx) | (intro hx; exact absurd hx (by decide)) | (intro hx; exact absurd (by decide) hx) | decide | intro hx | (refine Exists.intro _ (And.intro rfl ?_)))
      all_goals try first | (with_reducible change am_tI _ _) | (change Ret _ _) | (change Ret _ _ _) | (change Exists _)
      all_goals try dsimp only at *
      all_goals try (with_reducible exact absurd ‹(1000 : Int64) = 0› am_z1000)
      all_goals first | (with_reducible exact h) | (with_reducible exact hy.1) | (rw [l30]; exact hy.2) | exact h | exact hy.1 | skip
    · skip
      have q0 : ¬ ((if 0 ≤ y ∧ y < 40 then (1 : Int32) else 0) = 0) := by rw [if_pos z0]; decide
      by_cases z1 : -100 ≤ v ∧ v ≤ 500
      rotate_left
      · skip
        have q1 : (if -100 ≤ v ∧ v ≤ 500 then (1 : Int32) else 0) = 0 := if_neg z1
        have e : c_prices M y v = ((-1000 : Int32), M) := by unfold c_prices; rw [if_pos z0, if_neg z1]
        rw [e] at h
        repeat' (first | (with_reducible exact hmn) | (with_reducible exact h) | apply And.intro | exact rfl | (intro hx; with_reducible exact absurd hx q0) | (intro hx; with_reducible exact absurd q1 hx) | (intro hx; exact absurd hx (by decide)) | (intro hx; exact absurd (by decide) hx) | decide | intro hx | (refine Exists.intro _ (And.intro rfl ?_)))
        all_goals try first | (with_reducible change am_tI _ _) | (change Ret _ _) | (change Ret _ _ _) | (change Exists _)
        all_goals try dsimp only at *
        all_goals try (with_reducible exact absurd ‹(1000 : Int64) = 0› am_z1000)
        all_goals first | (with_reducible exact h) | (with_reducible exact hy.1) | (rw [l30]; exact hy.2) | exact h | exact hy.1 | skip
      · skip
        have q1 : ¬ ((if -100 ≤ v ∧ v ≤ 500 then (1 : Int32) else 0) = 0) := by rw [if_pos z1]; decide
        have l30 : am_len 30 = 40 := rfl
        have hy : am_in y 40 := ⟨by have q := z0.1; simp only [i_le, Int32.reduceToInt] at q; omega, by have q := z0.2; simp only [i_lt, Int32.reduceToInt] at q; omega⟩
        have e : c_prices M y v = (M.1 30 y.toNatClampNeg, am_wI M 30 y.toNatClampNeg v) := by unfold c_prices; rw [if_pos z0, if_pos z1]
        rw [e] at h
        repeat' (first | (with_reducible exact hmn) | apply And.intro | exact rfl | (intro hx; with_reducible exact absurd hx q0) | (intro hx; with_reducible exact absurd hx q1) | (intro hx; exact absurd hx (by decide)) | (intro hx; exact absurd (by decide) hx) | decide | intro hx | (refine Exists.intro _ (And.intro rfl ?_)))
        all_goals try first | (with_reducible change am_tI _ _) | (change Ret _ _) | (change Ret _ _ _) | (change Exists _)
        all_goals try dsimp only at *
        all_goals try (with_reducible exact absurd ‹(1000 : Int64) = 0› am_z1000)
        all_goals first | (with_reducible exact h) | (with_reducible exact hy.1) | (rw [l30]; exact hy.2) | exact h | exact hy.1 | skip
  · exact h.elim
set_option maxRecDepth 100000 in
theorem wd_109 : Cond.fieldLink "LearnLoans" 76 "LearnLoans$People" "died" "[I" ∈ am_ws := am_wt1 (List.mem_of_getElem? (i := 52) (by rfl)) (by decide +kernel)
def rwX7_dies : List dz_r := [(0, .aload_n 0, 1), (1, .iload_n 1, 1), (2, .invokevirtual 52, 3), (5, .ifCond .eq 10, 3), (8, .iload_n 2, 1), (9, .invokestatic 34, 3), (12, .ifCond .ne 6, 3), (15, .bipush (-2), 2), (17, .ireturn, 1), (18, .aload_n 0, 1), (19, .getfield 27, 3), (22, .getfield 38, 3), (25, .getfield 76, 3), (28, .iload_n 1, 1), (29, .iaload, 1), (30, .iconst (-1), 1), (31, .if_icmp .eq 6, 3), (34, .bipush (-3), 2), (36, .ireturn, 1), (37, .aload_n 0, 1), (38, .getfield 27, 3), (41, .getfield 38, 3), (44, .getfield 76, 3), (47, .iload_n 1, 1), (48, .iload_n 2, 1), (49, .iastore, 1), (50, .iconst 1, 1), (51, .ireturn, 1)]
theorem dzX7_dies : dz cX7_dies rwX7_dies := dz_all 0 (by decide +kernel)
def kX7_dies (live : am_E) (Ret : am_R) : am_code := [(0, am_aload 0 1), (1, am_iload 1 2), (2, am_callV live 7 1 TX7_isPerson 5), (5, am_if1 (fun x => x = 0) 15 8), (8, am_iload 2 9), (9, am_callS live 1 TX7_isYear 12), (12, am_if1 (fun x => x = 0) 15 18), (15, am_const (.int (-2)) 17), (17, am_retI Ret), (18, am_aload 0 19), (19, am_getR live 7 0 22), (22, am_getR live 0 0 25), (25, am_getR live 2 1 28), (28, am_iload 1 29), (29, am_ald live 0 30), (30, am_const (.int (-1)) 31), (31, am_if2 (fun x y => x = y) 37 34), (34, am_const (.int (-3)) 36), (36, am_retI Ret), (37, am_aload 0 38), (38, am_getR live 7 0 41), (41, am_getR live 0 0 44), (44, am_getR live 2 1 47), (47, am_iload 1 48), (48, am_iload 2 49), (49, am_ast live 0 50), (50, am_const (.int 1) 51), (51, am_retI Ret)]
theorem koX7_dies (live : am_E) (Ret : am_R) : ∀ q ∈ kX7_dies live Ret, am_ok RX7 cX7_dies 3 (some .int) 1 21 live Ret q.1 q.2 :=
  am_kz dzX7_dies <|
  am_kd (fun d => ak_aload_n d rfl rfl) <|
  am_kd (fun d => ak_iload_n d rfl rfl) <|
  am_kd (fun d => ak_callV (C := RX7) (F := TX7) (N := 4) metX7_isPerson rfl ⟨rfl, hy_X7_isPerson⟩ (am_w5 wd_414 wd_416 wd_0 wd_58 wd_417) (by decide) d rfl) <|
  am_kd (fun d => ak_if_eq d (by decide +kernel) rfl) <|
  am_kd (fun d => ak_iload_n d rfl rfl) <|
  am_kd (fun d => ak_callS metX7_isYear ⟨rfl, hy_X7_isYear⟩ (am_w4 wd_407 wd_408 wd_58 wd_409) (by decide) d rfl) <|
  am_kd (fun d => ak_if_ne d (by decide +kernel) rfl) <|
  am_kd (fun d => ak_bipush d (by decide +kernel) rfl) <|
  am_kd (fun d => ak_retI d) <|
  am_kd (fun d => ak_aload_n d rfl rfl) <|
  am_kd (fun d => ak_getR (C := RX7) (T := TX7) (N := 4) rfl inX7w (by decide) rfl rfl rfl wd_390 d rfl) <|
  am_kd (fun d => ak_getR (C := RX0) (T := TX0) (N := 13) rfl inX0w (by decide) rfl rfl rfl wd_194 d rfl) <|
  am_kd (fun d => ak_getR (C := RX2) (T := TX2) (N := 8) rfl inX2w (by decide) rfl rfl rfl wd_109 d rfl) <|
  am_kd (fun d => ak_iload_n d rfl rfl) <|
  am_kd (fun d => ak_iald (t := 0) (fun _ => rfl) rfl d rfl) <|
  am_kd (fun d => ak_iconst d (by decide +kernel) rfl) <|
  am_kd (fun d => ak_icmp_eq d (by decide +kernel) rfl) <|
  am_kd (fun d => ak_bipush d (by decide +kernel) rfl) <|
  am_kd (fun d => ak_retI d) <|
  am_kd (fun d => ak_aload_n d rfl rfl) <|
  am_kd (fun d => ak_getR (C := RX7) (T := TX7) (N := 4) rfl inX7w (by decide) rfl rfl rfl wd_390 d rfl) <|
  am_kd (fun d => ak_getR (C := RX0) (T := TX0) (N := 13) rfl inX0w (by decide) rfl rfl rfl wd_194 d rfl) <|
  am_kd (fun d => ak_getR (C := RX2) (T := TX2) (N := 8) rfl inX2w (by decide) rfl rfl rfl wd_109 d rfl) <|
  am_kd (fun d => ak_iload_n d rfl rfl) <|
  am_kd (fun d => ak_iload_n d rfl rfl) <|
  am_kd (fun d => ak_iast (t := 0) (fun _ => rfl) rfl d rfl) <|
  am_kd (fun d => ak_iconst d (by decide +kernel) rfl) <|
  am_kd (fun d => ak_retI d) <| am_kdn
def c_dies (M : am_M) (p y : Int32) : Int32 × am_M := if 0 ≤ p ∧ p < M.1 21 7 then (if 0 ≤ y ∧ y < 40 then (if M.1 23 p.toNatClampNeg = -1 then (1, am_wI M 23 p.toNatClampNeg y) else ((-3 : Int32), M)) else ((-2 : Int32), M)) else ((-2 : Int32), M)
def TX7_dies : am_T := fun live as M R => match as with
  | [.ref n, .int p, .int y] => am_mn live ∧ n = 0 ∧ (g_hI M ∧ g_rI M) ∧ R (some (.int (c_dies M p y).1)) (c_dies M p y).2
  | _ => False
set_option maxRecDepth 100000 in
set_option maxHeartbeats 4000000 in
theorem metX7_dies : am_Met yX7_dies cX7_dies 3 (some .int) (1) (21) TX7_dies := by
  refine am_met (own := RX7) (by decide +kernel) rfl kX7_dies koX7_dies 150 (fun _ _ _ _ _ => none) (fun live as M Ret h => ?_) (fun _ _ _ _ _ _ _ _ hI => by cases hI)
  unfold TX7_dies at h
  split at h
  · next n p y =>
    refine ⟨Nat.le_of_ble_eq_true rfl, ?_⟩
    change am_wp _ _ _ _ [(0, Value.ref n), (1, Value.int p), (2, Value.int y)] _ _
    obtain ⟨hmn, rfl, ⟨hH, hR⟩, h⟩ := h
    have hmn2 := hmn
    obtain ⟨i1, i2, rfl⟩ := hmn2
    by_cases z0 : 0 ≤ p ∧ p < M.1 21 7
    rotate_left
    · skip
      have q0 : (if 0 ≤ p ∧ p < M.1 21 7 then (1 : Int32) else 0) = 0 := if_neg z0
      have e : c_dies M p y = ((-2 : Int32), M) := by unfold c_dies; rw [if_neg z0]
      rw [e] at h
      repeat' (first | (with_reducible exact hmn) | (with_reducible exact h) | apply And.intro | exact rfl | (intro hx; with_reducible exact absurd q0 hx) | (intro hx; exact absurd hx (by decide)) | (intro hx; exact absurd (by decide) hx) | decide | intro hx | (refine Exists.intro _ (And.intro rfl ?_)))
      all_goals try first | (with_reducible change am_tI _ _) | (change Ret _ _) | (change Ret _ _ _) | (change Exists _)
      all_goals try dsimp only at *
      all_goals try (with_reducible exact absurd ‹(1000 : Int64) = 0› am_z1000)
      all_goals first | (with_reducible exact h) | (with_reducible exact hp.1) | (rw [l23]; exact hp.2) | exact h | exact hp.1 | skip
    · skip
      have q0 : ¬ ((if 0 ≤ p ∧ p < M.1 21 7 then (1 : Int32) else 0) = 0) := by rw [if_pos z0]; decide
      by_cases z1 : 0 ≤ y ∧ y < 40
      rotate_left
      · skip
        have q1 : (if 0 ≤ y ∧ y < 40 then (1 : Int32) else 0) = 0 := if_neg z1
        have e : c_dies M p y = ((-2 : Int32), M) := by unfold c_dies; rw [if_pos z0, if_neg z1]
        rw [e] at h
        repeat' (first | (with_reducible exact hmn) | (with_reducible exact h) | apply And.intro | exact rfl | (intro hx; with_reducible exact absurd hx q0) | (intro hx; with_reducible exact absurd q1 hx) | (intro hx; exact absurd hx (by decide)) | (intro hx; exact absurd (by decide) hx) | decide | intro hx | (refine Exists.intro _ (And.intro rfl ?_)))
        all_goals try first | (with_reducible change am_tI _ _) | (change Ret _ _) | (change Ret _ _ _) | (change Exists _)
        all_goals try dsimp only at *
        all_goals try (with_reducible exact absurd ‹(1000 : Int64) = 0› am_z1000)
        all_goals first | (with_reducible exact h) | (with_reducible exact hp.1) | (rw [l23]; exact hp.2) | exact h | exact hp.1 | skip
      · skip
        have q1 : ¬ ((if 0 ≤ y ∧ y < 40 then (1 : Int32) else 0) = 0) := by rw [if_pos z1]; decide
        have l23 : am_len 23 = 12 := rfl
        have hp : am_in p 12 := ⟨by have q := z0.1; simp only [i_le, Int32.reduceToInt] at q; omega, by have q := z0.2; have q2 := hH.pe; simp only [i_lt] at q; omega⟩
        by_cases z2 : M.1 23 p.toNatClampNeg = -1
        rotate_left
        · skip
          have e : c_dies M p y = ((-3 : Int32), M) := by unfold c_dies; rw [if_pos z0, if_pos z1, if_neg z2]
          rw [e] at h
          repeat' (first | (with_reducible exact hmn) | (with_reducible exact h) | apply And.intro | exact rfl | (intro hx; with_reducible exact absurd hx q0) | (intro hx; with_reducible exact absurd hx q1) | (intro hx; with_reducible exact absurd hx z2) | (intro hx; exact absurd hx (by decide)) | (intro hx; exact absurd (by decide) hx) | decide | intro hx | (refine Exists.intro _ (And.intro rfl ?_)))
          all_goals try first | (with_reducible change am_tI _ _) | (change Ret _ _) | (change Ret _ _ _) | (change Exists _)
          all_goals try dsimp only at *
          all_goals try (with_reducible exact absurd ‹(1000 : Int64) = 0› am_z1000)
          all_goals first | (with_reducible exact h) | (with_reducible exact hp.1) | (rw [l23]; exact hp.2) | exact h | exact hp.1 | skip
        · skip
          have e : c_dies M p y = (1, am_wI M 23 p.toNatClampNeg y) := by unfold c_dies; rw [if_pos z0, if_pos z1, if_pos z2]
          rw [e] at h
          repeat' (first | (with_reducible exact hmn) | apply And.intro | exact rfl | (intro hx; with_reducible exact absurd hx q0) | (intro hx; with_reducible exact absurd hx q1) | (intro hx; with_reducible exact absurd z2 hx) | (intro hx; exact absurd hx (by decide)) | (intro hx; exact absurd (by decide) hx) | decide | intro hx | (refine Exists.intro _ (And.intro rfl ?_)))
          all_goals try first | (with_reducible change am_tI _ _) | (change Ret _ _) | (change Ret _ _ _) | (change Exists _)
          all_goals try dsimp only at *
          all_goals try (with_reducible exact absurd ‹(1000 : Int64) = 0› am_z1000)
          all_goals first | (with_reducible exact h) | (with_reducible exact hp.1) | (rw [l23]; exact hp.2) | exact h | exact hp.1 | skip
  · exact h.elim
theorem hy_X7_isPence : yX7_isPence.cls ≠ "java/lang/invoke/MethodHandle" ∧ yX7_isPence.cls ≠ "java/lang/invoke/VarHandle" ∧ (parseMethodDescriptor yX7_isPence.desc).map (fun d => d.parameters.length) = some 1 := ⟨by decide +kernel, by decide +kernel, by decide +kernel⟩
set_option maxRecDepth 100000 in
theorem wd_446 : Cond.methodLink "LearnLoans" 79 yX7_isPence ∈ am_ws := am_wt2 (List.mem_of_getElem? (i := 149) (by rfl)) (by decide +kernel)
set_option maxRecDepth 100000 in
theorem wd_447 : Cond.static yX7_isPence ∈ am_ws := am_wt2 (List.mem_of_getElem? (i := 150) (by rfl)) (by decide +kernel)
set_option maxRecDepth 100000 in
theorem wd_448 : Cond.code yX7_isPence cX7_isPence 1 (some .boolean) ∈ am_ws := am_wt2 (List.mem_of_getElem? (i := 151) (by rfl)) (by decide +kernel)
set_option maxRecDepth 100000 in
theorem wd_116 : Cond.fieldLink "LearnLoans" 82 "LearnLoans$People" "firstKnown" "[I" ∈ am_ws := am_wt1 (List.mem_of_getElem? (i := 59) (by rfl)) (by decide +kernel)
set_option maxRecDepth 100000 in
theorem wd_114 : Cond.fieldLink "LearnLoans" 85 "LearnLoans$People" "first" "[I" ∈ am_ws := am_wt1 (List.mem_of_getElem? (i := 57) (by rfl)) (by decide +kernel)
def rwX7_earn : List dz_r := [(0, .aload_n 0, 1), (1, .iload_n 1, 1), (2, .invokevirtual 52, 3), (5, .ifCond .eq 19, 3), (8, .iload_n 2, 1), (9, .iload 4, 2), (11, .invokestatic 59, 3), (14, .ifCond .eq 10, 3), (17, .iload_n 3, 1), (18, .invokestatic 79, 3), (21, .ifCond .ne 6, 3), (24, .bipush (-2), 2), (26, .ireturn, 1), (27, .aload_n 0, 1), (28, .getfield 27, 3), (31, .getfield 38, 3), (34, .astore 5, 2), (36, .iload_n 1, 1), (37, .bipush 40, 2), (39, .imul, 1), (40, .iload_n 2, 1), (41, .iadd, 1), (42, .istore 6, 2), (44, .aload 5, 2), (46, .getfield 82, 3), (49, .iload 6, 2), (51, .iaload, 1), (52, .iconst (-1), 1), (53, .if_icmp .eq 6, 3), (56, .bipush (-3), 2), (58, .ireturn, 1), (59, .aload 5, 2), (61, .getfield 85, 3), (64, .iload 6, 2), (66, .iload_n 3, 1), (67, .iastore, 1), (68, .aload 5, 2), (70, .getfield 82, 3), (73, .iload 6, 2), (75, .iload 4, 2), (77, .iastore, 1), (78, .iconst 1, 1), (79, .ireturn, 1)]
theorem dzX7_earn : dz cX7_earn rwX7_earn := dz_all 0 (by decide +kernel)
def kX7_earn (live : am_E) (Ret : am_R) : am_code := [(0, am_aload 0 1), (1, am_iload 1 2), (2, am_callV live 7 1 TX7_isPerson 5), (5, am_if1 (fun x => x = 0) 24 8), (8, am_iload 2 9), (9, am_iload 4 11), (11, am_callS live 2 TX7_isSpan 14), (14, am_if1 (fun x => x = 0) 24 17), (17, am_iload 3 18), (18, am_callS live 1 TX7_isPence 21), (21, am_if1 (fun x => x = 0) 24 27), (24, am_const (.int (-2)) 26), (26, am_retI Ret), (27, am_aload 0 28), (28, am_getR live 7 0 31), (31, am_getR live 0 0 34), (34, am_astore 5 7 36), (36, am_iload 1 37), (37, am_const (.int 40) 39), (39, am_i2 (fun x y => x * y) 40), (40, am_iload 2 41), (41, am_i2 (fun x y => x + y) 42), (42, am_istore 6 7 44), (44, am_aload 5 46), (46, am_getR live 2 4 49), (49, am_iload 6 51), (51, am_ald live 0 52), (52, am_const (.int (-1)) 53), (53, am_if2 (fun x y => x = y) 59 56), (56, am_const (.int (-3)) 58), (58, am_retI Ret), (59, am_aload 5 61), (61, am_getR live 2 3 64), (64, am_iload 6 66), (66, am_iload 3 67), (67, am_ast live 0 68), (68, am_aload 5 70), (70, am_getR live 2 4 73), (73, am_iload 6 75), (75, am_iload 4 77), (77, am_ast live 0 78), (78, am_const (.int 1) 79), (79, am_retI Ret)]
theorem koX7_earn (live : am_E) (Ret : am_R) : ∀ q ∈ kX7_earn live Ret, am_ok RX7 cX7_earn 7 (some .int) 1 21 live Ret q.1 q.2 :=
  am_kz dzX7_earn <|
  am_kd (fun d => ak_aload_n d rfl rfl) <|
  am_kd (fun d => ak_iload_n d rfl rfl) <|
  am_kd (fun d => ak_callV (C := RX7) (F := TX7) (N := 4) metX7_isPerson rfl ⟨rfl, hy_X7_isPerson⟩ (am_w5 wd_414 wd_416 wd_0 wd_58 wd_417) (by decide) d rfl) <|
  am_kd (fun d => ak_if_eq d (by decide +kernel) rfl) <|
  am_kd (fun d => ak_iload_n d rfl rfl) <|
  am_kd (fun d => ak_iload d rfl) <|
  am_kd (fun d => ak_callS metX7_isSpan ⟨rfl, hy_X7_isSpan⟩ (am_w4 wd_421 wd_422 wd_58 wd_423) (by decide) d rfl) <|
  am_kd (fun d => ak_if_eq d (by decide +kernel) rfl) <|
  am_kd (fun d => ak_iload_n d rfl rfl) <|
  am_kd (fun d => ak_callS metX7_isPence ⟨rfl, hy_X7_isPence⟩ (am_w4 wd_446 wd_447 wd_58 wd_448) (by decide) d rfl) <|
  am_kd (fun d => ak_if_ne d (by decide +kernel) rfl) <|
  am_kd (fun d => ak_bipush d (by decide +kernel) rfl) <|
  am_kd (fun d => ak_retI d) <|
  am_kd (fun d => ak_aload_n d rfl rfl) <|
  am_kd (fun d => ak_getR (C := RX7) (T := TX7) (N := 4) rfl inX7w (by decide) rfl rfl rfl wd_390 d rfl) <|
  am_kd (fun d => ak_getR (C := RX0) (T := TX0) (N := 13) rfl inX0w (by decide) rfl rfl rfl wd_194 d rfl) <|
  am_kd (fun d => ak_astore d rfl) <|
  am_kd (fun d => ak_iload_n d rfl rfl) <|
  am_kd (fun d => ak_bipush d (by decide +kernel) rfl) <|
  am_kd (fun d => ak_imul d rfl) <|
  am_kd (fun d => ak_iload_n d rfl rfl) <|
  am_kd (fun d => ak_iadd d rfl) <|
  am_kd (fun d => ak_istore d rfl) <|
  am_kd (fun d => ak_aload d rfl) <|
  am_kd (fun d => ak_getR (C := RX2) (T := TX2) (N := 8) rfl inX2w (by decide) rfl rfl rfl wd_116 d rfl) <|
  am_kd (fun d => ak_iload d rfl) <|
  am_kd (fun d => ak_iald (t := 0) (fun _ => rfl) rfl d rfl) <|
  am_kd (fun d => ak_iconst d (by decide +kernel) rfl) <|
  am_kd (fun d => ak_icmp_eq d (by decide +kernel) rfl) <|
  am_kd (fun d => ak_bipush d (by decide +kernel) rfl) <|
  am_kd (fun d => ak_retI d) <|
  am_kd (fun d => ak_aload d rfl) <|
  am_kd (fun d => ak_getR (C := RX2) (T := TX2) (N := 8) rfl inX2w (by decide) rfl rfl rfl wd_114 d rfl) <|
  am_kd (fun d => ak_iload d rfl) <|
  am_kd (fun d => ak_iload_n d rfl rfl) <|
  am_kd (fun d => ak_iast (t := 0) (fun _ => rfl) rfl d rfl) <|
  am_kd (fun d => ak_aload d rfl) <|
  am_kd (fun d => ak_getR (C := RX2) (T := TX2) (N := 8) rfl inX2w (by decide) rfl rfl rfl wd_116 d rfl) <|
  am_kd (fun d => ak_iload d rfl) <|
  am_kd (fun d => ak_iload d rfl) <|
  am_kd (fun d => ak_iast (t := 0) (fun _ => rfl) rfl d rfl) <|
  am_kd (fun d => ak_iconst d (by decide +kernel) rfl) <|
  am_kd (fun d => ak_retI d) <| am_kdn
def c_earn (M : am_M) (p y c k : Int32) : Int32 × am_M := if 0 ≤ p ∧ p < M.1 21 7 then (if 0 ≤ y ∧ y ≤ k ∧ k < 40 then (if 0 ≤ c ∧ c ≤ 10000000 then (if M.1 26 (p * 40 + y).toNatClampNeg = -1 then (1, am_wI (am_wI M 25 (p * 40 + y).toNatClampNeg c) 26 (p * 40 + y).toNatClampNeg k) else ((-3 : Int32), M)) else ((-2 : Int32), M)) else ((-2 : Int32), M)) else ((-2 : Int32), M)
def TX7_earn : am_T := fun live as M R => match as with
  | [.ref n, .int p, .int y, .int c, .int k] => am_mn live ∧ n = 0 ∧ (g_hI M ∧ g_rI M) ∧ R (some (.int (c_earn M p y c k).1)) (c_earn M p y c k).2
  | _ => False
set_option maxRecDepth 100000 in
set_option maxHeartbeats 4000000 in
theorem metX7_earn : am_Met yX7_earn cX7_earn 7 (some .int) (1) (21) TX7_earn := by
  refine am_met (own := RX7) (by decide +kernel) rfl kX7_earn koX7_earn 150 (fun _ _ _ _ _ => none) (fun live as M Ret h => ?_) (fun _ _ _ _ _ _ _ _ hI => by cases hI)
  unfold TX7_earn at h
  split at h
  · next n p y c k =>
    refine ⟨Nat.le_of_ble_eq_true rfl, ?_⟩
    change am_wp _ _ _ _ [(0, Value.ref n), (1, Value.int p), (2, Value.int y), (3, Value.int c), (4, Value.int k)] _ _
    obtain ⟨hmn, rfl, ⟨hH, hR⟩, h⟩ := h
    have hmn2 := hmn
    obtain ⟨i1, i2, rfl⟩ := hmn2
    by_cases z0 : 0 ≤ p ∧ p < M.1 21 7
    rotate_left
    · skip
      have q0 : (if 0 ≤ p ∧ p < M.1 21 7 then (1 : Int32) else 0) = 0 := if_neg z0
      have e : c_earn M p y c k = ((-2 : Int32), M) := by unfold c_earn; rw [if_neg z0]
      rw [e] at h
      repeat' (first | (with_reducible exact hmn) | (with_reducible exact h) | apply And.intro | exact rfl | (intro hx; with_reducible exact absurd q0 hx) | (intro hx; exact absurd hx (by decide)) | (intro hx; exact absurd (by decide) hx) | decide | intro hx | (refine Exists.intro _ (And.intro rfl ?_)))
      all_goals try first | (with_reducible change am_tI _ _) | (change Ret _ _) | (change Ret _ _ _) | (change Exists _)
      all_goals try dsimp only at *
      all_goals try (with_reducible exact absurd ‹(1000 : Int64) = 0› am_z1000)
      all_goals first | (with_reducible exact h) | (with_reducible exact hi.1) | (rw [l25]; exact hi.2) | (rw [l26]; exact hi.2) | exact h | exact hi.1 | skip
    · skip
      have q0 : ¬ ((if 0 ≤ p ∧ p < M.1 21 7 then (1 : Int32) else 0) = 0) := by rw [if_pos z0]; decide
      by_cases z1 : 0 ≤ y ∧ y ≤ k ∧ k < 40
      rotate_left
      · skip
        have q1 : (if 0 ≤ y ∧ y ≤ k ∧ k < 40 then (1 : Int32) else 0) = 0 := if_neg z1
        have e : c_earn M p y c k = ((-2 : Int32), M) := by unfold c_earn; rw [if_pos z0, if_neg z1]
        rw [e] at h
        repeat' (first | (with_reducible exact hmn) | (with_reducible exact h) | apply And.intro | exact rfl | (intro hx; with_reducible exact absurd hx q0) | (intro hx; with_reducible exact absurd q1 hx) | (intro hx; exact absurd hx (by decide)) | (intro hx; exact absurd (by decide) hx) | decide | intro hx | (refine Exists.intro _ (And.intro rfl ?_)))
        all_goals try first | (with_reducible change am_tI _ _) | (change Ret _ _) | (change Ret _ _ _) | (change Exists _)
        all_goals try dsimp only at *
        all_goals try (with_reducible exact absurd ‹(1000 : Int64) = 0› am_z1000)
        all_goals first | (with_reducible exact h) | (with_reducible exact hi.1) | (rw [l25]; exact hi.2) | (rw [l26]; exact hi.2) | exact h | exact hi.1 | skip
      · skip
        have q1 : ¬ ((if 0 ≤ y ∧ y ≤ k ∧ k < 40 then (1 : Int32) else 0) = 0) := by rw [if_pos z1]; decide
        by_cases z2 : 0 ≤ c ∧ c ≤ 10000000
        rotate_left
        · skip
          have q2 : (if 0 ≤ c ∧ c ≤ 10000000 then (1 : Int32) else 0) = 0 := if_neg z2
          have e : c_earn M p y c k = ((-2 : Int32), M) := by unfold c_earn; rw [if_pos z0, if_pos z1, if_neg z2]
          rw [e] at h
          repeat' (first | (with_reducible exact hmn) | (with_reducible exact h) | apply And.intro | exact rfl | (intro hx; with_reducible exact absurd hx q0) | (intro hx; with_reducible exact absurd hx q1) | (intro hx; with_reducible exact absurd q2 hx) | (intro hx; exact absurd hx (by decide)) | (intro hx; exact absurd (by decide) hx) | decide | intro hx | (refine Exists.intro _ (And.intro rfl ?_)))
          all_goals try first | (with_reducible change am_tI _ _) | (change Ret _ _) | (change Ret _ _ _) | (change Exists _)
          all_goals try dsimp only at *
          all_goals try (with_reducible exact absurd ‹(1000 : Int64) = 0› am_z1000)
          all_goals first | (with_reducible exact h) | (with_reducible exact hi.1) | (rw [l25]; exact hi.2) | (rw [l26]; exact hi.2) | exact h | exact hi.1 | skip
        · skip
          have q2 : ¬ ((if 0 ≤ c ∧ c ≤ 10000000 then (1 : Int32) else 0) = 0) := by rw [if_pos z2]; decide
          have l25 : am_len 25 = 480 := rfl
          have l26 : am_len 26 = 480 := rfl
          have hp : am_in p 12 := ⟨by have q := z0.1; simp only [i_le, Int32.reduceToInt] at q; omega, by have q := z0.2; have q2 := hH.pe; simp only [i_lt] at q; omega⟩
          have hy : am_in y 40 := ⟨by have q := z1.1; simp only [i_le, Int32.reduceToInt] at q; omega, by have q := z1.2.1; have q2 := z1.2.2; simp only [i_le, i_lt, Int32.reduceToInt] at q q2; omega⟩
          have ei := g_40 (by decide) hp hy
          have hi : am_in (p * 40 + y) 480 := ⟨by have q := hp.1; have q2 := hy.1; omega, by have q := hp.2; have q2 := hy.2; omega⟩
          by_cases z3 : M.1 26 (p * 40 + y).toNatClampNeg = -1
          rotate_left
          · skip
            have e : c_earn M p y c k = ((-3 : Int32), M) := by unfold c_earn; rw [if_pos z0, if_pos z1, if_pos z2, if_neg z3]
            rw [e] at h
            repeat' (first | (with_reducible exact hmn) | (with_reducible exact h) | apply And.intro | exact rfl | (intro hx; with_reducible exact absurd hx q0) | (intro hx; with_reducible exact absurd hx q1) | (intro hx; with_reducible exact absurd hx q2) | (intro hx; with_reducible exact absurd hx z3) | (intro hx; exact absurd hx (by decide)) | (intro hx; exact absurd (by decide) hx) | decide | intro hx | (refine Exists.intro _ (And.intro rfl ?_)))
            all_goals try first | (with_reducible change am_tI _ _) | (change Ret _ _) | (change Ret _ _ _) | (change Exists _)
            all_goals try dsimp only at *
            all_goals try (with_reducible exact absurd ‹(1000 : Int64) = 0› am_z1000)
            all_goals first | (with_reducible exact h) | (with_reducible exact hi.1) | (rw [l25]; exact hi.2) | (rw [l26]; exact hi.2) | exact h | exact hi.1 | skip
          · skip
            have e : c_earn M p y c k = (1, am_wI (am_wI M 25 (p * 40 + y).toNatClampNeg c) 26 (p * 40 + y).toNatClampNeg k) := by unfold c_earn; rw [if_pos z0, if_pos z1, if_pos z2, if_pos z3]
            rw [e] at h
            repeat' (first | (with_reducible exact hmn) | apply And.intro | exact rfl | (intro hx; with_reducible exact absurd hx q0) | (intro hx; with_reducible exact absurd hx q1) | (intro hx; with_reducible exact absurd hx q2) | (intro hx; with_reducible exact absurd z3 hx) | (intro hx; exact absurd hx (by decide)) | (intro hx; exact absurd (by decide) hx) | decide | intro hx | (refine Exists.intro _ (And.intro rfl ?_)))
            all_goals try first | (with_reducible change am_tI _ _) | (change Ret _ _) | (change Ret _ _ _) | (change Exists _)
            all_goals try dsimp only at *
            all_goals try (with_reducible exact absurd ‹(1000 : Int64) = 0› am_z1000)
            all_goals first | (with_reducible exact h) | (with_reducible exact hi.1) | (rw [l25]; exact hi.2) | (rw [l26]; exact hi.2) | exact h | exact hi.1 | skip
  · exact h.elim
set_option maxRecDepth 100000 in
theorem wd_120 : Cond.fieldLink "LearnLoans" 88 "LearnLoans$People" "secondKnown" "[I" ∈ am_ws := am_wt1 (List.mem_of_getElem? (i := 63) (by rfl)) (by decide +kernel)
set_option maxRecDepth 100000 in
theorem wd_118 : Cond.fieldLink "LearnLoans" 91 "LearnLoans$People" "second" "[I" ∈ am_ws := am_wt1 (List.mem_of_getElem? (i := 61) (by rfl)) (by decide +kernel)
def rwX7_right : List dz_r := [(0, .aload_n 0, 1), (1, .iload_n 1, 1), (2, .invokevirtual 52, 3), (5, .ifCond .eq 25, 3), (8, .iload_n 2, 1), (9, .invokestatic 34, 3), (12, .ifCond .eq 18, 3), (15, .iload_n 3, 1), (16, .invokestatic 79, 3), (19, .ifCond .eq 11, 3), (22, .iload 4, 2), (24, .invokestatic 34, 3), (27, .ifCond .ne 6, 3), (30, .bipush (-2), 2), (32, .ireturn, 1), (33, .aload_n 0, 1), (34, .getfield 27, 3), (37, .getfield 38, 3), (40, .astore 5, 2), (42, .iload_n 1, 1), (43, .bipush 40, 2), (45, .imul, 1), (46, .iload_n 2, 1), (47, .iadd, 1), (48, .istore 6, 2), (50, .iload 4, 2), (52, .aload 5, 2), (54, .getfield 82, 3), (57, .iload 6, 2), (59, .iaload, 1), (60, .if_icmp .ge 6, 3), (63, .bipush (-2), 2), (65, .ireturn, 1), (66, .aload 5, 2), (68, .getfield 82, 3), (71, .iload 6, 2), (73, .iaload, 1), (74, .iconst (-1), 1), (75, .if_icmp .eq 15, 3), (78, .aload 5, 2), (80, .getfield 88, 3), (83, .iload 6, 2), (85, .iaload, 1), (86, .iconst (-1), 1), (87, .if_icmp .eq 6, 3), (90, .bipush (-3), 2), (92, .ireturn, 1), (93, .aload 5, 2), (95, .getfield 91, 3), (98, .iload 6, 2), (100, .iload_n 3, 1), (101, .iastore, 1), (102, .aload 5, 2), (104, .getfield 88, 3), (107, .iload 6, 2), (109, .iload 4, 2), (111, .iastore, 1), (112, .iconst 1, 1), (113, .ireturn, 1)]
theorem dzX7_right : dz cX7_right rwX7_right := dz_all 0 (by decide +kernel)
def kX7_right (live : am_E) (Ret : am_R) : am_code := [(0, am_aload 0 1), (1, am_iload 1 2), (2, am_callV live 7 1 TX7_isPerson 5), (5, am_if1 (fun x => x = 0) 30 8), (8, am_iload 2 9), (9, am_callS live 1 TX7_isYear 12), (12, am_if1 (fun x => x = 0) 30 15), (15, am_iload 3 16), (16, am_callS live 1 TX7_isPence 19), (19, am_if1 (fun x => x = 0) 30 22), (22, am_iload 4 24), (24, am_callS live 1 TX7_isYear 27), (27, am_if1 (fun x => x = 0) 30 33), (30, am_const (.int (-2)) 32), (32, am_retI Ret), (33, am_aload 0 34), (34, am_getR live 7 0 37), (37, am_getR live 0 0 40), (40, am_astore 5 7 42), (42, am_iload 1 43), (43, am_const (.int 40) 45), (45, am_i2 (fun x y => x * y) 46), (46, am_iload 2 47), (47, am_i2 (fun x y => x + y) 48), (48, am_istore 6 7 50), (50, am_iload 4 52), (52, am_aload 5 54), (54, am_getR live 2 4 57), (57, am_iload 6 59), (59, am_ald live 0 60), (60, am_if2 (fun x y => y ≤ x) 66 63), (63, am_const (.int (-2)) 65), (65, am_retI Ret), (66, am_aload 5 68), (68, am_getR live 2 4 71), (71, am_iload 6 73), (73, am_ald live 0 74), (74, am_const (.int (-1)) 75), (75, am_if2 (fun x y => x = y) 90 78), (78, am_aload 5 80), (80, am_getR live 2 6 83), (83, am_iload 6 85), (85, am_ald live 0 86), (86, am_const (.int (-1)) 87), (87, am_if2 (fun x y => x = y) 93 90), (90, am_const (.int (-3)) 92), (92, am_retI Ret), (93, am_aload 5 95), (95, am_getR live 2 5 98), (98, am_iload 6 100), (100, am_iload 3 101), (101, am_ast live 0 102), (102, am_aload 5 104), (104, am_getR live 2 6 107), (107, am_iload 6 109), (109, am_iload 4 111), (111, am_ast live 0 112), (112, am_const (.int 1) 113), (113, am_retI Ret)]
theorem koX7_right (live : am_E) (Ret : am_R) : ∀ q ∈ kX7_right live Ret, am_ok RX7 cX7_right 7 (some .int) 1 21 live Ret q.1 q.2 :=
  am_kz dzX7_right <|
  am_kd (fun d => ak_aload_n d rfl rfl) <|
  am_kd (fun d => ak_iload_n d rfl rfl) <|
  am_kd (fun d => ak_callV (C := RX7) (F := TX7) (N := 4) metX7_isPerson rfl ⟨rfl, hy_X7_isPerson⟩ (am_w5 wd_414 wd_416 wd_0 wd_58 wd_417) (by decide) d rfl) <|
  am_kd (fun d => ak_if_eq d (by decide +kernel) rfl) <|
  am_kd (fun d => ak_iload_n d rfl rfl) <|
  am_kd (fun d => ak_callS metX7_isYear ⟨rfl, hy_X7_isYear⟩ (am_w4 wd_407 wd_408 wd_58 wd_409) (by decide) d rfl) <|
  am_kd (fun d => ak_if_eq d (by decide +kernel) rfl) <|
  am_kd (fun d => ak_iload_n d rfl rfl) <|
  am_kd (fun d => ak_callS metX7_isPence ⟨rfl, hy_X7_isPence⟩ (am_w4 wd_446 wd_447 wd_58 wd_448) (by decide) d rfl) <|
  am_kd (fun d => ak_if_eq d (by decide +kernel) rfl) <|
  am_kd (fun d => ak_iload d rfl) <|
  am_kd (fun d => ak_callS metX7_isYear ⟨rfl, hy_X7_isYear⟩ (am_w4 wd_407 wd_408 wd_58 wd_409) (by decide) d rfl) <|
  am_kd (fun d => ak_if_ne d (by decide +kernel) rfl) <|
  am_kd (fun d => ak_bipush d (by decide +kernel) rfl) <|
  am_kd (fun d => ak_retI d) <|
  am_kd (fun d => ak_aload_n d rfl rfl) <|
  am_kd (fun d => ak_getR (C := RX7) (T := TX7) (N := 4) rfl inX7w (by decide) rfl rfl rfl wd_390 d rfl) <|
  am_kd (fun d => ak_getR (C := RX0) (T := TX0) (N := 13) rfl inX0w (by decide) rfl rfl rfl wd_194 d rfl) <|
  am_kd (fun d => ak_astore d rfl) <|
  am_kd (fun d => ak_iload_n d rfl rfl) <|
  am_kd (fun d => ak_bipush d (by decide +kernel) rfl) <|
  am_kd (fun d => ak_imul d rfl) <|
  am_kd (fun d => ak_iload_n d rfl rfl) <|
  am_kd (fun d => ak_iadd d rfl) <|
  am_kd (fun d => ak_istore d rfl) <|
  am_kd (fun d => ak_iload d rfl) <|
  am_kd (fun d => ak_aload d rfl) <|
  am_kd (fun d => ak_getR (C := RX2) (T := TX2) (N := 8) rfl inX2w (by decide) rfl rfl rfl wd_116 d rfl) <|
  am_kd (fun d => ak_iload d rfl) <|
  am_kd (fun d => ak_iald (t := 0) (fun _ => rfl) rfl d rfl) <|
  am_kd (fun d => ak_icmp_ge d (by decide +kernel) rfl) <|
  am_kd (fun d => ak_bipush d (by decide +kernel) rfl) <|
  am_kd (fun d => ak_retI d) <|
  am_kd (fun d => ak_aload d rfl) <|
  am_kd (fun d => ak_getR (C := RX2) (T := TX2) (N := 8) rfl inX2w (by decide) rfl rfl rfl wd_116 d rfl) <|
  am_kd (fun d => ak_iload d rfl) <|
  am_kd (fun d => ak_iald (t := 0) (fun _ => rfl) rfl d rfl) <|
  am_kd (fun d => ak_iconst d (by decide +kernel) rfl) <|
  am_kd (fun d => ak_icmp_eq d (by decide +kernel) rfl) <|
  am_kd (fun d => ak_aload d rfl) <|
  am_kd (fun d => ak_getR (C := RX2) (T := TX2) (N := 8) rfl inX2w (by decide) rfl rfl rfl wd_120 d rfl) <|
  am_kd (fun d => ak_iload d rfl) <|
  am_kd (fun d => ak_iald (t := 0) (fun _ => rfl) rfl d rfl) <|
  am_kd (fun d => ak_iconst d (by decide +kernel) rfl) <|
  am_kd (fun d => ak_icmp_eq d (by decide +kernel) rfl) <|
  am_kd (fun d => ak_bipush d (by decide +kernel) rfl) <|
  am_kd (fun d => ak_retI d) <|
  am_kd (fun d => ak_aload d rfl) <|
  am_kd (fun d => ak_getR (C := RX2) (T := TX2) (N := 8) rfl inX2w (by decide) rfl rfl rfl wd_118 d rfl) <|
  am_kd (fun d => ak_iload d rfl) <|
  am_kd (fun d => ak_iload_n d rfl rfl) <|
  am_kd (fun d => ak_iast (t := 0) (fun _ => rfl) rfl d rfl) <|
  am_kd (fun d => ak_aload d rfl) <|
  am_kd (fun d => ak_getR (C := RX2) (T := TX2) (N := 8) rfl inX2w (by decide) rfl rfl rfl wd_120 d rfl) <|
  am_kd (fun d => ak_iload d rfl) <|
  am_kd (fun d => ak_iload d rfl) <|
  am_kd (fun d => ak_iast (t := 0) (fun _ => rfl) rfl d rfl) <|
  am_kd (fun d => ak_iconst d (by decide +kernel) rfl) <|
  am_kd (fun d => ak_retI d) <| am_kdn
def c_right (M : am_M) (p y c k : Int32) : Int32 × am_M := if 0 ≤ p ∧ p < M.1 21 7 then (if 0 ≤ y ∧ y < 40 then (if 0 ≤ c ∧ c ≤ 10000000 then (if 0 ≤ k ∧ k < 40 then (if M.1 26 (p * 40 + y).toNatClampNeg ≤ k then (if M.1 26 (p * 40 + y).toNatClampNeg = -1 then ((-3 : Int32), M) else (if M.1 28 (p * 40 + y).toNatClampNeg = -1 then (1, am_wI (am_wI M 27 (p * 40 + y).toNatClampNeg c) 28 (p * 40 + y).toNatClampNeg k) else ((-3 : Int32), M))) else ((-2 : Int32), M)) else ((-2 : Int32), M)) else ((-2 : Int32), M)) else ((-2 : Int32), M)) else ((-2 : Int32), M)
def TX7_right : am_T := fun live as M R => match as with
  | [.ref n, .int p, .int y, .int c, .int k] => am_mn live ∧ n = 0 ∧ (g_hI M ∧ g_rI M) ∧ R (some (.int (c_right M p y c k).1)) (c_right M p y c k).2
  | _ => False
set_option maxRecDepth 100000 in
set_option maxHeartbeats 4000000 in
theorem metX7_right : am_Met yX7_right cX7_right 7 (some .int) (1) (21) TX7_right := by
  refine am_met (own := RX7) (by decide +kernel) rfl kX7_right koX7_right 150 (fun _ _ _ _ _ => none) (fun live as M Ret h => ?_) (fun _ _ _ _ _ _ _ _ hI => by cases hI)
  unfold TX7_right at h
  split at h
  · next n p y c k =>
    refine ⟨Nat.le_of_ble_eq_true rfl, ?_⟩
    change am_wp _ _ _ _ [(0, Value.ref n), (1, Value.int p), (2, Value.int y), (3, Value.int c), (4, Value.int k)] _ _
    obtain ⟨hmn, rfl, ⟨hH, hR⟩, h⟩ := h
    have hmn2 := hmn
    obtain ⟨i1, i2, rfl⟩ := hmn2
    by_cases z0 : 0 ≤ p ∧ p < M.1 21 7
    rotate_left
    · skip
      have q0 : (if 0 ≤ p ∧ p < M.1 21 7 then (1 : Int32) else 0) = 0 := if_neg z0
      have e : c_right M p y c k = ((-2 : Int32), M) := by unfold c_right; rw [if_neg z0]
      rw [e] at h
      repeat' (first | (with_reducible exact hmn) | (with_reducible exact h) | apply And.intro | exact rfl | (intro hx; with_reducible exact absurd q0 hx) | (intro hx; exact absurd hx (by decide)) | (intro hx; exact absurd (by decide) hx) | decide | intro hx | (refine Exists.intro _ (And.intro rfl ?_)))
      all_goals try first | (with_reducible change am_tI _ _) | (change Ret _ _) | (change Ret _ _ _) | (change Exists _)
      all_goals try dsimp only at *
      all_goals try (with_reducible exact absurd ‹(1000 : Int64) = 0› am_z1000)
      all_goals first | (with_reducible exact h) | (with_reducible exact hi.1) | (rw [l26]; exact hi.2) | (rw [l27]; exact hi.2) | (rw [l28]; exact hi.2) | exact h | exact hi.1 | skip
    · skip
      have q0 : ¬ ((if 0 ≤ p ∧ p < M.1 21 7 then (1 : Int32) else 0) = 0) := by rw [if_pos z0]; decide
      by_cases z1 : 0 ≤ y ∧ y < 40
      rotate_left
      · skip
        have q1 : (if 0 ≤ y ∧ y < 40 then (1 : Int32) else 0) = 0 := if_neg z1
        have e : c_right M p y c k = ((-2 : Int32), M) := by unfold c_right; rw [if_pos z0, if_neg z1]
        rw [e] at h
        repeat' (first | (with_reducible exact hmn) | (with_reducible exact h) | apply And.intro | exact rfl | (intro hx; with_reducible exact absurd hx q0) | (intro hx; with_reducible exact absurd q1 hx) | (intro hx; exact absurd hx (by decide)) | (intro hx; exact absurd (by decide) hx) | decide | intro hx | (refine Exists.intro _ (And.intro rfl ?_)))
        all_goals try first | (with_reducible change am_tI _ _) | (change Ret _ _) | (change Ret _ _ _) | (change Exists _)
        all_goals try dsimp only at *
        all_goals try (with_reducible exact absurd ‹(1000 : Int64) = 0› am_z1000)
        all_goals first | (with_reducible exact h) | (with_reducible exact hi.1) | (rw [l26]; exact hi.2) | (rw [l27]; exact hi.2) | (rw [l28]; exact hi.2) | exact h | exact hi.1 | skip
      · skip
        have q1 : ¬ ((if 0 ≤ y ∧ y < 40 then (1 : Int32) else 0) = 0) := by rw [if_pos z1]; decide
        by_cases z2 : 0 ≤ c ∧ c ≤ 10000000
        rotate_left
        · skip
          have q2 : (if 0 ≤ c ∧ c ≤ 10000000 then (1 : Int32) else 0) = 0 := if_neg z2
          have e : c_right M p y c k = ((-2 : Int32), M) := by unfold c_right; rw [if_pos z0, if_pos z1, if_neg z2]
          rw [e] at h
          repeat' (first | (with_reducible exact hmn) | (with_reducible exact h) | apply And.intro | exact rfl | (intro hx; with_reducible exact absurd hx q0) | (intro hx; with_reducible exact absurd hx q1) | (intro hx; with_reducible exact absurd q2 hx) | (intro hx; exact absurd hx (by decide)) | (intro hx; exact absurd (by decide) hx) | decide | intro hx | (refine Exists.intro _ (And.intro rfl ?_)))
          all_goals try first | (with_reducible change am_tI _ _) | (change Ret _ _) | (change Ret _ _ _) | (change Exists _)
          all_goals try dsimp only at *
          all_goals try (with_reducible exact absurd ‹(1000 : Int64) = 0› am_z1000)
          all_goals first | (with_reducible exact h) | (with_reducible exact hi.1) | (rw [l26]; exact hi.2) | (rw [l27]; exact hi.2) | (rw [l28]; exact hi.2) | exact h | exact hi.1 | skip
        · skip
          have q2 : ¬ ((if 0 ≤ c ∧ c ≤ 10000000 then (1 : Int32) else 0) = 0) := by rw [if_pos z2]; decide
          by_cases z3 : 0 ≤ k ∧ k < 40
          rotate_left
          · skip
            have q3 : (if 0 ≤ k ∧ k < 40 then (1 : Int32) else 0) = 0 := if_neg z3
            have e : c_right M p y c k = ((-2 : Int32), M) := by unfold c_right; rw [if_pos z0, if_pos z1, if_pos z2, if_neg z3]
            rw [e] at h
            repeat' (first | (with_reducible exact hmn) | (with_reducible exact h) | apply And.intro | exact rfl | (intro hx; with_reducible exact absurd hx q0) | (intro hx; with_reducible exact absurd hx q1) | (intro hx; with_reducible exact absurd hx q2) | (intro hx; with_reducible exact absurd q3 hx) | (intro hx; exact absurd hx (by decide)) | (intro hx; exact absurd (by decide) hx) | decide | intro hx | (refine Exists.intro _ (And.intro rfl ?_)))
            all_goals try first | (with_reducible change am_tI _ _) | (change Ret _ _) | (change Ret _ _ _) | (change Exists _)
            all_goals try dsimp only at *
            all_goals try (with_reducible exact absurd ‹(1000 : Int64) = 0› am_z1000)
            all_goals first | (with_reducible exact h) | (with_reducible exact hi.1) | (rw [l26]; exact hi.2) | (rw [l27]; exact hi.2) | (rw [l28]; exact hi.2) | exact h | exact hi.1 | skip
          · skip
            have q3 : ¬ ((if 0 ≤ k ∧ k < 40 then (1 : Int32) else 0) = 0) := by rw [if_pos z3]; decide
            have l26 : am_len 26 = 480 := rfl
            have l27 : am_len 27 = 480 := rfl
            have l28 : am_len 28 = 480 := rfl
            have hp : am_in p 12 := ⟨by have q := z0.1; simp only [i_le, Int32.reduceToInt] at q; omega, by have q := z0.2; have q2 := hH.pe; simp only [i_lt] at q; omega⟩
            have hy : am_in y 40 := ⟨by have q := z1.1; simp only [i_le, Int32.reduceToInt] at q; omega, by have q := z1.2; simp only [i_lt, Int32.reduceToInt] at q; omega⟩
            have ei := g_40 (by decide) hp hy
            have hi : am_in (p * 40 + y) 480 := ⟨by have q := hp.1; have q2 := hy.1; omega, by have q := hp.2; have q2 := hy.2; omega⟩
            by_cases z4 : M.1 26 (p * 40 + y).toNatClampNeg ≤ k
            rotate_left
            · skip
              have y4 : (k : Int32) < M.1 26 (p * 40 + y).toNatClampNeg := Int32.not_le.mp z4
              have e : c_right M p y c k = ((-2 : Int32), M) := by unfold c_right; rw [if_pos z0, if_pos z1, if_pos z2, if_pos z3, if_neg z4]
              rw [e] at h
              repeat' (first | (with_reducible exact hmn) | (with_reducible exact h) | apply And.intro | exact rfl | (intro hx; with_reducible exact absurd hx q0) | (intro hx; with_reducible exact absurd hx q1) | (intro hx; with_reducible exact absurd hx q2) | (intro hx; with_reducible exact absurd hx q3) | (intro hx; with_reducible exact absurd hx z4) | (intro hx; with_reducible exact absurd y4 hx) | (intro hx; exact absurd hx (by decide)) | (intro hx; exact absurd (by decide) hx) | decide | intro hx | (refine Exists.intro _ (And.intro rfl ?_)))
              all_goals try first | (with_reducible change am_tI _ _) | (change Ret _ _) | (change Ret _ _ _) | (change Exists _)
              all_goals try dsimp only at *
              all_goals try (with_reducible exact absurd ‹(1000 : Int64) = 0› am_z1000)
              all_goals first | (with_reducible exact h) | (with_reducible exact hi.1) | (rw [l26]; exact hi.2) | (rw [l27]; exact hi.2) | (rw [l28]; exact hi.2) | exact h | exact hi.1 | skip
            · skip
              have y4 : ¬ (k : Int32) < M.1 26 (p * 40 + y).toNatClampNeg := Int32.not_lt.mpr z4
              by_cases z5 : M.1 26 (p * 40 + y).toNatClampNeg = -1
              · skip
                have e : c_right M p y c k = ((-3 : Int32), M) := by unfold c_right; rw [if_pos z0, if_pos z1, if_pos z2, if_pos z3, if_pos z4, if_pos z5]
                rw [e] at h
                repeat' (first | (with_reducible exact hmn) | (with_reducible exact h) | apply And.intro | exact rfl | (intro hx; with_reducible exact absurd hx q0) | (intro hx; with_reducible exact absurd hx q1) | (intro hx; with_reducible exact absurd hx q2) | (intro hx; with_reducible exact absurd hx q3) | (intro hx; with_reducible exact absurd hx y4) | (intro hx; with_reducible exact absurd z4 hx) | (intro hx; with_reducible exact absurd z5 hx) | (intro hx; exact absurd hx (by decide)) | (intro hx; exact absurd (by decide) hx) | decide | intro hx | (refine Exists.intro _ (And.intro rfl ?_)))
                all_goals try first | (with_reducible change am_tI _ _) | (change Ret _ _) | (change Ret _ _ _) | (change Exists _)
                all_goals try dsimp only at *
                all_goals try (with_reducible exact absurd ‹(1000 : Int64) = 0› am_z1000)
                all_goals first | (with_reducible exact h) | (with_reducible exact hi.1) | (rw [l26]; exact hi.2) | (rw [l27]; exact hi.2) | (rw [l28]; exact hi.2) | exact h | exact hi.1 | skip
              · skip
                by_cases z6 : M.1 28 (p * 40 + y).toNatClampNeg = -1
                rotate_left
                · skip
                  have e : c_right M p y c k = ((-3 : Int32), M) := by unfold c_right; rw [if_pos z0, if_pos z1, if_pos z2, if_pos z3, if_pos z4, if_neg z5, if_neg z6]
                  rw [e] at h
                  repeat' (first | (with_reducible exact hmn) | (with_reducible exact h) | apply And.intro | exact rfl | (intro hx; with_reducible exact absurd hx q0) | (intro hx; with_reducible exact absurd hx q1) | (intro hx; with_reducible exact absurd hx q2) | (intro hx; with_reducible exact absurd hx q3) | (intro hx; with_reducible exact absurd hx y4) | (intro hx; with_reducible exact absurd hx z5) | (intro hx; with_reducible exact absurd hx z6) | (intro hx; with_reducible exact absurd z4 hx) | (intro hx; exact absurd hx (by decide)) | (intro hx; exact absurd (by decide) hx) | decide | intro hx | (refine Exists.intro _ (And.intro rfl ?_)))
                  all_goals try first | (with_reducible change am_tI _ _) | (change Ret _ _) | (change Ret _ _ _) | (change Exists _)
                  all_goals try dsimp only at *
                  all_goals try (with_reducible exact absurd ‹(1000 : Int64) = 0› am_z1000)
                  all_goals first | (with_reducible exact h) | (with_reducible exact hi.1) | (rw [l26]; exact hi.2) | (rw [l27]; exact hi.2) | (rw [l28]; exact hi.2) | exact h | exact hi.1 | skip
                · skip
                  have e : c_right M p y c k = (1, am_wI (am_wI M 27 (p * 40 + y).toNatClampNeg c) 28 (p * 40 + y).toNatClampNeg k) := by unfold c_right; rw [if_pos z0, if_pos z1, if_pos z2, if_pos z3, if_pos z4, if_neg z5, if_pos z6]
                  rw [e] at h
                  repeat' (first | (with_reducible exact hmn) | apply And.intro | exact rfl | (intro hx; with_reducible exact absurd hx q0) | (intro hx; with_reducible exact absurd hx q1) | (intro hx; with_reducible exact absurd hx q2) | (intro hx; with_reducible exact absurd hx q3) | (intro hx; with_reducible exact absurd hx y4) | (intro hx; with_reducible exact absurd hx z5) | (intro hx; with_reducible exact absurd z4 hx) | (intro hx; with_reducible exact absurd z6 hx) | (intro hx; exact absurd hx (by decide)) | (intro hx; exact absurd (by decide) hx) | decide | intro hx | (refine Exists.intro _ (And.intro rfl ?_)))
                  all_goals try first | (with_reducible change am_tI _ _) | (change Ret _ _) | (change Ret _ _ _) | (change Exists _)
                  all_goals try dsimp only at *
                  all_goals try (with_reducible exact absurd ‹(1000 : Int64) = 0› am_z1000)
                  all_goals first | (with_reducible exact h) | (with_reducible exact hi.1) | (rw [l26]; exact hi.2) | (rw [l27]; exact hi.2) | (rw [l28]; exact hi.2) | exact h | exact hi.1 | skip
  · exact h.elim
theorem hy_X7_isPlan : yX7_isPlan.cls ≠ "java/lang/invoke/MethodHandle" ∧ yX7_isPlan.cls ≠ "java/lang/invoke/VarHandle" ∧ (parseMethodDescriptor yX7_isPlan.desc).map (fun d => d.parameters.length) = some 1 := ⟨by decide +kernel, by decide +kernel, by decide +kernel⟩
set_option maxRecDepth 100000 in
theorem wd_466 : Cond.methodLink "LearnLoans" 98 yX7_isPlan ∈ am_ws := am_wt2 (List.mem_of_getElem? (i := 169) (by rfl)) (by decide +kernel)
set_option maxRecDepth 100000 in
theorem wd_467 : Cond.static yX7_isPlan ∈ am_ws := am_wt2 (List.mem_of_getElem? (i := 170) (by rfl)) (by decide +kernel)
set_option maxRecDepth 100000 in
theorem wd_468 : Cond.code yX7_isPlan cX7_isPlan 1 (some .boolean) ∈ am_ws := am_wt2 (List.mem_of_getElem? (i := 171) (by rfl)) (by decide +kernel)
theorem hy_X7_isNumber : yX7_isNumber.cls ≠ "java/lang/invoke/MethodHandle" ∧ yX7_isNumber.cls ≠ "java/lang/invoke/VarHandle" ∧ (parseMethodDescriptor yX7_isNumber.desc).map (fun d => d.parameters.length) = some 2 := ⟨by decide +kernel, by decide +kernel, by decide +kernel⟩
set_option maxRecDepth 100000 in
theorem wd_469 : Cond.methodLink "LearnLoans" 101 yX7_isNumber ∈ am_ws := am_wt2 (List.mem_of_getElem? (i := 172) (by rfl)) (by decide +kernel)
set_option maxRecDepth 100000 in
theorem wd_470 : Cond.static yX7_isNumber ∈ am_ws := am_wt2 (List.mem_of_getElem? (i := 173) (by rfl)) (by decide +kernel)
set_option maxRecDepth 100000 in
theorem wd_471 : Cond.code yX7_isNumber cX7_isNumber 2 (some .boolean) ∈ am_ws := am_wt2 (List.mem_of_getElem? (i := 174) (by rfl)) (by decide +kernel)
def rwX7_act : List dz_r := [(0, .iload_n 1, 1), (1, .invokestatic 98, 3), (4, .ifCond .eq 29, 3), (7, .iload_n 2, 1), (8, .iload_n 3, 1), (9, .invokestatic 101, 3), (12, .ifCond .eq 21, 3), (15, .iload 4, 2), (17, .invokestatic 34, 3), (20, .ifCond .eq 13, 3), (23, .iload 5, 2), (25, .iload 6, 2), (27, .invokestatic 59, 3), (30, .ifCond .ne 6, 3), (33, .bipush (-2), 2), (35, .ireturn, 1), (36, .aload_n 0, 1), (37, .getfield 27, 3), (40, .getfield 104, 3), (43, .getfield 108, 3), (46, .bipush 60, 2), (48, .if_icmp .lt 6, 3), (51, .bipush (-4), 2), (53, .ireturn, 1), (54, .aload_n 0, 1), (55, .getfield 27, 3), (58, .iload_n 1, 1), (59, .iload_n 2, 1), (60, .iload_n 3, 1), (61, .iload 4, 2), (63, .iload 5, 2), (65, .iload 6, 2), (67, .invokevirtual 111, 3), (70, .ireturn, 1)]
theorem dzX7_act : dz cX7_act rwX7_act := dz_all 0 (by decide +kernel)
def kX7_act (live : am_E) (Ret : am_R) : am_code := [(0, am_iload 1 1), (1, am_callS live 1 TX7_isPlan 4), (4, am_if1 (fun x => x = 0) 33 7), (7, am_iload 2 8), (8, am_iload 3 9), (9, am_callS live 2 TX7_isNumber 12), (12, am_if1 (fun x => x = 0) 33 15), (15, am_iload 4 17), (17, am_callS live 1 TX7_isYear 20), (20, am_if1 (fun x => x = 0) 33 23), (23, am_iload 5 25), (25, am_iload 6 27), (27, am_callS live 2 TX7_isSpan 30), (30, am_if1 (fun x => x = 0) 33 36), (33, am_const (.int (-2)) 35), (35, am_retI Ret), (36, am_aload 0 37), (37, am_getR live 7 0 40), (40, am_getR live 0 3 43), (43, am_getI live 3 2 46), (46, am_const (.int 60) 48), (48, am_if2 (fun x y => x < y) 54 51), (51, am_const (.int (-4)) 53), (53, am_retI Ret), (54, am_aload 0 55), (55, am_getR live 7 0 58), (58, am_iload 1 59), (59, am_iload 2 60), (60, am_iload 3 61), (61, am_iload 4 63), (63, am_iload 5 65), (65, am_iload 6 67), (67, am_callV live 0 6 TX0_addAct 70), (70, am_retI Ret)]
theorem koX7_act (live : am_E) (Ret : am_R) : ∀ q ∈ kX7_act live Ret, am_ok RX7 cX7_act 7 (some .int) 3 74 live Ret q.1 q.2 :=
  am_kz dzX7_act <|
  am_kd (fun d => ak_iload_n d rfl rfl) <|
  am_kd (fun d => ak_callS metX7_isPlan ⟨rfl, hy_X7_isPlan⟩ (am_w4 wd_466 wd_467 wd_58 wd_468) (by decide) d rfl) <|
  am_kd (fun d => ak_if_eq d (by decide +kernel) rfl) <|
  am_kd (fun d => ak_iload_n d rfl rfl) <|
  am_kd (fun d => ak_iload_n d rfl rfl) <|
  am_kd (fun d => ak_callS metX7_isNumber ⟨rfl, hy_X7_isNumber⟩ (am_w4 wd_469 wd_470 wd_58 wd_471) (by decide) d rfl) <|
  am_kd (fun d => ak_if_eq d (by decide +kernel) rfl) <|
  am_kd (fun d => ak_iload d rfl) <|
  am_kd (fun d => ak_callS metX7_isYear ⟨rfl, hy_X7_isYear⟩ (am_w4 wd_407 wd_408 wd_58 wd_409) (by decide) d rfl) <|
  am_kd (fun d => ak_if_eq d (by decide +kernel) rfl) <|
  am_kd (fun d => ak_iload d rfl) <|
  am_kd (fun d => ak_iload d rfl) <|
  am_kd (fun d => ak_callS metX7_isSpan ⟨rfl, hy_X7_isSpan⟩ (am_w4 wd_421 wd_422 wd_58 wd_423) (by decide) d rfl) <|
  am_kd (fun d => ak_if_ne d (by decide +kernel) rfl) <|
  am_kd (fun d => ak_bipush d (by decide +kernel) rfl) <|
  am_kd (fun d => ak_retI d) <|
  am_kd (fun d => ak_aload_n d rfl rfl) <|
  am_kd (fun d => ak_getR (C := RX7) (T := TX7) (N := 4) rfl inX7w (by decide) rfl rfl rfl wd_390 d rfl) <|
  am_kd (fun d => ak_getR (C := RX0) (T := TX0) (N := 13) rfl inX0w (by decide) rfl rfl rfl wd_204 d rfl) <|
  am_kd (fun d => ak_getI (C := RX3) (T := TX3) (N := 3) rfl inX3w (by decide) rfl rfl rfl wd_152 d rfl) <|
  am_kd (fun d => ak_bipush d (by decide +kernel) rfl) <|
  am_kd (fun d => ak_icmp_lt d (by decide +kernel) rfl) <|
  am_kd (fun d => ak_bipush d (by decide +kernel) rfl) <|
  am_kd (fun d => ak_retI d) <|
  am_kd (fun d => ak_aload_n d rfl rfl) <|
  am_kd (fun d => ak_getR (C := RX7) (T := TX7) (N := 4) rfl inX7w (by decide) rfl rfl rfl wd_390 d rfl) <|
  am_kd (fun d => ak_iload_n d rfl rfl) <|
  am_kd (fun d => ak_iload_n d rfl rfl) <|
  am_kd (fun d => ak_iload_n d rfl rfl) <|
  am_kd (fun d => ak_iload d rfl) <|
  am_kd (fun d => ak_iload d rfl) <|
  am_kd (fun d => ak_iload d rfl) <|
  am_kd (fun d => ak_callV (C := RX0) (F := TX0) (N := 13) metX0_addAct rfl ⟨rfl, hy_X0_addAct⟩ (am_w5 wd_476 wd_477 wd_478 wd_61 wd_479) (by decide) d rfl) <|
  am_kd (fun d => ak_retI d) <| am_kdn
def c_act (M : am_M) (pl w v f b t : Int32) : Int32 × am_M := if 0 ≤ pl ∧ pl < 5 then (if (0 ≤ w ∧ w < 6) ∧ am_sf 1 w.toNatClampNeg ≤ v ∧ v ≤ am_sf 2 w.toNatClampNeg then (if 0 ≤ f ∧ f < 40 then (if 0 ≤ b ∧ b ≤ t ∧ t < 40 then (if M.1 31 2 < 60 then (M.1 31 2, am_addAct M pl w v f b t) else ((-4 : Int32), M)) else ((-2 : Int32), M)) else ((-2 : Int32), M)) else ((-2 : Int32), M)) else ((-2 : Int32), M)
def TX7_act : am_T := fun live as M R => match as with
  | [.ref n, .int pl, .int w, .int v, .int f, .int b, .int t] => am_mn live ∧ n = 0 ∧ (g_hI M ∧ g_rI M) ∧ R (some (.int (c_act M pl w v f b t).1)) (c_act M pl w v f b t).2
  | _ => False
set_option maxRecDepth 100000 in
set_option maxHeartbeats 4000000 in
theorem metX7_act : am_Met yX7_act cX7_act 7 (some .int) (3) (74) TX7_act := by
  refine am_met (own := RX7) (by decide +kernel) rfl kX7_act koX7_act 150 (fun _ _ _ _ _ => none) (fun live as M Ret h => ?_) (fun _ _ _ _ _ _ _ _ hI => by cases hI)
  unfold TX7_act at h
  split at h
  · next n pl w v f b t =>
    refine ⟨Nat.le_of_ble_eq_true rfl, ?_⟩
    change am_wp _ _ _ _ [(0, Value.ref n), (1, Value.int pl), (2, Value.int w), (3, Value.int v), (4, Value.int f), (5, Value.int b), (6, Value.int t)] _ _
    obtain ⟨hmn, rfl, ⟨hH, hR⟩, h⟩ := h
    have hmn2 := hmn
    obtain ⟨i1, i2, rfl⟩ := hmn2
    by_cases z0 : 0 ≤ pl ∧ pl < 5
    rotate_left
    · skip
      have q0 : (if 0 ≤ pl ∧ pl < 5 then (1 : Int32) else 0) = 0 := if_neg z0
      have e : c_act M pl w v f b t = ((-2 : Int32), M) := by unfold c_act; rw [if_neg z0]
      rw [e] at h
      repeat' (first | (with_reducible exact hmn) | (with_reducible exact h) | apply And.intro | exact rfl | (intro hx; with_reducible exact absurd q0 hx) | (intro hx; exact absurd hx (by decide)) | (intro hx; exact absurd (by decide) hx) | decide | intro hx | (refine Exists.intro _ (And.intro rfl ?_)))
      all_goals try first | (with_reducible change am_tI _ _) | (change Ret _ _) | (change Ret _ _ _) | (change Exists _)
      all_goals try dsimp only at *
      all_goals try (with_reducible exact absurd ‹(1000 : Int64) = 0› am_z1000)
      all_goals first | exact h | skip
    · skip
      have q0 : ¬ ((if 0 ≤ pl ∧ pl < 5 then (1 : Int32) else 0) = 0) := by rw [if_pos z0]; decide
      by_cases z1 : (0 ≤ w ∧ w < 6) ∧ am_sf 1 w.toNatClampNeg ≤ v ∧ v ≤ am_sf 2 w.toNatClampNeg
      rotate_left
      · skip
        have q1 : ¬ am_isNum w v := z1
        have e : c_act M pl w v f b t = ((-2 : Int32), M) := by unfold c_act; rw [if_pos z0, if_neg z1]
        rw [e] at h
        repeat' (first | (with_reducible exact hmn) | (with_reducible exact h) | apply And.intro | exact rfl | (intro hx; with_reducible exact absurd hx q0) | (intro hx; with_reducible exact absurd hx q1) | (intro hx; exact absurd hx (by decide)) | (intro hx; exact absurd (by decide) hx) | decide | intro hx | (refine Exists.intro _ (And.intro rfl ?_)))
        all_goals try first | (with_reducible change am_tI _ _) | (change Ret _ _) | (change Ret _ _ _) | (change Exists _)
        all_goals try dsimp only at *
        all_goals try (with_reducible exact absurd ‹(1000 : Int64) = 0› am_z1000)
        all_goals first | exact h | skip
      · skip
        have q1 : am_isNum w v := z1
        by_cases z2 : 0 ≤ f ∧ f < 40
        rotate_left
        · skip
          have q2 : (if 0 ≤ f ∧ f < 40 then (1 : Int32) else 0) = 0 := if_neg z2
          have e : c_act M pl w v f b t = ((-2 : Int32), M) := by unfold c_act; rw [if_pos z0, if_pos z1, if_neg z2]
          rw [e] at h
          repeat' (first | (with_reducible exact hmn) | (with_reducible exact h) | apply And.intro | exact rfl | (intro hx; with_reducible exact absurd hx q0) | (intro hx; with_reducible exact absurd q1 hx) | (intro hx; with_reducible exact absurd q2 hx) | (intro hx; exact absurd hx (by decide)) | (intro hx; exact absurd (by decide) hx) | decide | intro hx | (refine Exists.intro _ (And.intro rfl ?_)))
          all_goals try first | (with_reducible change am_tI _ _) | (change Ret _ _) | (change Ret _ _ _) | (change Exists _)
          all_goals try dsimp only at *
          all_goals try (with_reducible exact absurd ‹(1000 : Int64) = 0› am_z1000)
          all_goals first | exact h | skip
        · skip
          have q2 : ¬ ((if 0 ≤ f ∧ f < 40 then (1 : Int32) else 0) = 0) := by rw [if_pos z2]; decide
          by_cases z3 : 0 ≤ b ∧ b ≤ t ∧ t < 40
          rotate_left
          · skip
            have q3 : (if 0 ≤ b ∧ b ≤ t ∧ t < 40 then (1 : Int32) else 0) = 0 := if_neg z3
            have e : c_act M pl w v f b t = ((-2 : Int32), M) := by unfold c_act; rw [if_pos z0, if_pos z1, if_pos z2, if_neg z3]
            rw [e] at h
            repeat' (first | (with_reducible exact hmn) | (with_reducible exact h) | apply And.intro | exact rfl | (intro hx; with_reducible exact absurd hx q0) | (intro hx; with_reducible exact absurd hx q2) | (intro hx; with_reducible exact absurd q1 hx) | (intro hx; with_reducible exact absurd q3 hx) | (intro hx; exact absurd hx (by decide)) | (intro hx; exact absurd (by decide) hx) | decide | intro hx | (refine Exists.intro _ (And.intro rfl ?_)))
            all_goals try first | (with_reducible change am_tI _ _) | (change Ret _ _) | (change Ret _ _ _) | (change Exists _)
            all_goals try dsimp only at *
            all_goals try (with_reducible exact absurd ‹(1000 : Int64) = 0› am_z1000)
            all_goals first | exact h | skip
          · skip
            have q3 : ¬ ((if 0 ≤ b ∧ b ≤ t ∧ t < 40 then (1 : Int32) else 0) = 0) := by rw [if_pos z3]; decide
            by_cases z4 : M.1 31 2 < 60
            rotate_left
            · skip
              have y4 : (60 : Int32) ≤ M.1 31 2 := Int32.not_lt.mp z4
              have e : c_act M pl w v f b t = ((-4 : Int32), M) := by unfold c_act; rw [if_pos z0, if_pos z1, if_pos z2, if_pos z3, if_neg z4]
              rw [e] at h
              repeat' (first | (with_reducible exact hmn) | (with_reducible exact h) | apply And.intro | exact rfl | (intro hx; with_reducible exact absurd hx q0) | (intro hx; with_reducible exact absurd hx q2) | (intro hx; with_reducible exact absurd hx q3) | (intro hx; with_reducible exact absurd hx z4) | (intro hx; with_reducible exact absurd q1 hx) | (intro hx; with_reducible exact absurd y4 hx) | (intro hx; exact absurd hx (by decide)) | (intro hx; exact absurd (by decide) hx) | decide | intro hx | (refine Exists.intro _ (And.intro rfl ?_)))
              all_goals try first | (with_reducible change am_tI _ _) | (change Ret _ _) | (change Ret _ _ _) | (change Exists _)
              all_goals try dsimp only at *
              all_goals try (with_reducible exact absurd ‹(1000 : Int64) = 0› am_z1000)
              all_goals first | exact h | skip
            · skip
              have y4 : ¬ (60 : Int32) ≤ M.1 31 2 := Int32.not_le.mpr z4
              have e : c_act M pl w v f b t = (M.1 31 2, am_addAct M pl w v f b t) := by unfold c_act; rw [if_pos z0, if_pos z1, if_pos z2, if_pos z3, if_pos z4]
              rw [e] at h
              repeat' (first | (with_reducible exact hmn) | apply And.intro | exact rfl | (intro hx; with_reducible exact absurd hx q0) | (intro hx; with_reducible exact absurd hx q2) | (intro hx; with_reducible exact absurd hx q3) | (intro hx; with_reducible exact absurd hx y4) | (intro hx; with_reducible exact absurd q1 hx) | (intro hx; with_reducible exact absurd z4 hx) | (intro hx; exact absurd hx (by decide)) | (intro hx; exact absurd (by decide) hx) | decide | intro hx | (refine Exists.intro _ (And.intro rfl ?_)))
              all_goals try first | (with_reducible change am_tI _ _) | (change Ret _ _) | (change Ret _ _ _) | (change Exists _)
              all_goals try dsimp only at *
              all_goals try (with_reducible exact absurd ‹(1000 : Int64) = 0› am_z1000)
              all_goals first | exact h | skip
  · exact h.elim
theorem hy_X7_isLoan : yX7_isLoan.cls ≠ "java/lang/invoke/MethodHandle" ∧ yX7_isLoan.cls ≠ "java/lang/invoke/VarHandle" ∧ (parseMethodDescriptor yX7_isLoan.desc).map (fun d => d.parameters.length) = some 1 := ⟨by decide +kernel, by decide +kernel, by decide +kernel⟩
set_option maxRecDepth 100000 in
theorem wd_520 : Cond.methodLink "LearnLoans" 135 yX7_isLoan ∈ am_ws := am_wt2 (List.mem_of_getElem? (i := 223) (by rfl)) (by decide +kernel)
set_option maxRecDepth 100000 in
theorem wd_522 : Cond.instanceMethod yX7_isLoan ∈ am_ws := am_wt2 (List.mem_of_getElem? (i := 225) (by rfl)) (by decide +kernel)
set_option maxRecDepth 100000 in
theorem wd_2 : Cond.selects "LearnLoans" yX7_isLoan yX7_isLoan ∈ am_ws := am_wsi (List.mem_of_getElem? (i := 2) (by rfl)) (by decide +kernel)
set_option maxRecDepth 100000 in
theorem wd_523 : Cond.code yX7_isLoan cX7_isLoan 2 (some .boolean) ∈ am_ws := am_wt2 (List.mem_of_getElem? (i := 226) (by rfl)) (by decide +kernel)
set_option maxRecDepth 100000 in
theorem wd_524 : Cond.methodLink "LearnLoans" 138 yX3_at ∈ am_ws := am_wt2 (List.mem_of_getElem? (i := 227) (by rfl)) (by decide +kernel)
set_option maxRecDepth 100000 in
theorem wd_515 : Cond.methodLink "LearnLoans" 128 yX3_put ∈ am_ws := am_wt2 (List.mem_of_getElem? (i := 218) (by rfl)) (by decide +kernel)
set_option maxRecDepth 100000 in
theorem wd_525 : Cond.methodLink "LearnLoans" 142 yX0_givenBack ∈ am_ws := am_wt2 (List.mem_of_getElem? (i := 228) (by rfl)) (by decide +kernel)
def rwX7_leave : List dz_r := [(0, .aload_n 0, 1), (1, .iload_n 1, 1), (2, .invokevirtual 135, 3), (5, .ifCond .eq 10, 3), (8, .iload_n 2, 1), (9, .invokestatic 34, 3), (12, .ifCond .ne 6, 3), (15, .bipush (-2), 2), (17, .ireturn, 1), (18, .aload_n 0, 1), (19, .getfield 27, 3), (22, .getfield 122, 3), (25, .astore_n 3, 1), (26, .aload_n 3, 1), (27, .iload_n 1, 1), (28, .iconst 4, 1), (29, .invokevirtual 138, 3), (32, .iconst 1, 1), (33, .if_icmp .ne 13, 3), (36, .iload_n 2, 1), (37, .aload_n 3, 1), (38, .iload_n 1, 1), (39, .iconst 2, 1), (40, .invokevirtual 138, 3), (43, .if_icmp .ge 6, 3), (46, .bipush (-2), 2), (48, .ireturn, 1), (49, .aload_n 3, 1), (50, .iload_n 1, 1), (51, .iconst 5, 1), (52, .invokevirtual 138, 3), (55, .iconst (-1), 1), (56, .if_icmp .eq 6, 3), (59, .bipush (-3), 2), (61, .ireturn, 1), (62, .aload_n 3, 1), (63, .iload_n 1, 1), (64, .iconst 5, 1), (65, .iload_n 2, 1), (66, .invokevirtual 128, 3), (69, .aload_n 0, 1), (70, .getfield 27, 3), (73, .iload_n 1, 1), (74, .invokevirtual 142, 3), (77, .l2i, 1), (78, .ireturn, 1)]
theorem dzX7_leave : dz cX7_leave rwX7_leave := dz_all 0 (by decide +kernel)
def kX7_leave (live : am_E) (Ret : am_R) : am_code := [(0, am_aload 0 1), (1, am_iload 1 2), (2, am_callV live 7 1 TX7_isLoan 5), (5, am_if1 (fun x => x = 0) 15 8), (8, am_iload 2 9), (9, am_callS live 1 TX7_isYear 12), (12, am_if1 (fun x => x = 0) 15 18), (15, am_const (.int (-2)) 17), (17, am_retI Ret), (18, am_aload 0 19), (19, am_getR live 7 0 22), (22, am_getR live 0 4 25), (25, am_astore 3 4 26), (26, am_aload 3 27), (27, am_iload 1 28), (28, am_const (.int 4) 29), (29, am_callV live 3 2 TX3_at 32), (32, am_const (.int 1) 33), (33, am_if2 (fun x y => x = y) 36 46), (36, am_iload 2 37), (37, am_aload 3 38), (38, am_iload 1 39), (39, am_const (.int 2) 40), (40, am_callV live 3 2 TX3_at 43), (43, am_if2 (fun x y => y ≤ x) 49 46), (46, am_const (.int (-2)) 48), (48, am_retI Ret), (49, am_aload 3 50), (50, am_iload 1 51), (51, am_const (.int 5) 52), (52, am_callV live 3 2 TX3_at 55), (55, am_const (.int (-1)) 56), (56, am_if2 (fun x y => x = y) 62 59), (59, am_const (.int (-3)) 61), (61, am_retI Ret), (62, am_aload 3 63), (63, am_iload 1 64), (64, am_const (.int 5) 65), (65, am_iload 2 66), (66, am_callV live 3 3 TX3_put 69), (69, am_aload 0 70), (70, am_getR live 7 0 73), (73, am_iload 1 74), (74, am_callV live 0 1 TX0_givenBack 77), (77, am_l2i 78), (78, am_retI Ret)]
theorem koX7_leave (live : am_E) (Ret : am_R) : ∀ q ∈ kX7_leave live Ret, am_ok RX7 cX7_leave 4 (some .int) 2 47 live Ret q.1 q.2 :=
  am_kz dzX7_leave <|
  am_kd (fun d => ak_aload_n d rfl rfl) <|
  am_kd (fun d => ak_iload_n d rfl rfl) <|
  am_kd (fun d => ak_callV (C := RX7) (F := TX7) (N := 4) metX7_isLoan rfl ⟨rfl, hy_X7_isLoan⟩ (am_w5 wd_520 wd_522 wd_2 wd_58 wd_523) (by decide) d rfl) <|
  am_kd (fun d => ak_if_eq d (by decide +kernel) rfl) <|
  am_kd (fun d => ak_iload_n d rfl rfl) <|
  am_kd (fun d => ak_callS metX7_isYear ⟨rfl, hy_X7_isYear⟩ (am_w4 wd_407 wd_408 wd_58 wd_409) (by decide) d rfl) <|
  am_kd (fun d => ak_if_ne d (by decide +kernel) rfl) <|
  am_kd (fun d => ak_bipush d (by decide +kernel) rfl) <|
  am_kd (fun d => ak_retI d) <|
  am_kd (fun d => ak_aload_n d rfl rfl) <|
  am_kd (fun d => ak_getR (C := RX7) (T := TX7) (N := 4) rfl inX7w (by decide) rfl rfl rfl wd_390 d rfl) <|
  am_kd (fun d => ak_getR (C := RX0) (T := TX0) (N := 13) rfl inX0w (by decide) rfl rfl rfl wd_207 d rfl) <|
  am_kd (fun d => ak_astore_n d rfl rfl) <|
  am_kd (fun d => ak_aload_n d rfl rfl) <|
  am_kd (fun d => ak_iload_n d rfl rfl) <|
  am_kd (fun d => ak_iconst d (by decide +kernel) rfl) <|
  am_kd (fun d => ak_callV (C := RX3) (F := TX3) (N := 3) metX3_at rfl ⟨rfl, hy_X3_at⟩ (am_w5 wd_524 wd_503 wd_504 wd_64 wd_505) (by decide) d rfl) <|
  am_kd (fun d => ak_iconst d (by decide +kernel) rfl) <|
  am_kd (fun d => ak_icmp_ne d (by decide +kernel) rfl) <|
  am_kd (fun d => ak_iload_n d rfl rfl) <|
  am_kd (fun d => ak_aload_n d rfl rfl) <|
  am_kd (fun d => ak_iload_n d rfl rfl) <|
  am_kd (fun d => ak_iconst d (by decide +kernel) rfl) <|
  am_kd (fun d => ak_callV (C := RX3) (F := TX3) (N := 3) metX3_at rfl ⟨rfl, hy_X3_at⟩ (am_w5 wd_524 wd_503 wd_504 wd_64 wd_505) (by decide) d rfl) <|
  am_kd (fun d => ak_icmp_ge d (by decide +kernel) rfl) <|
  am_kd (fun d => ak_bipush d (by decide +kernel) rfl) <|
  am_kd (fun d => ak_retI d) <|
  am_kd (fun d => ak_aload_n d rfl rfl) <|
  am_kd (fun d => ak_iload_n d rfl rfl) <|
  am_kd (fun d => ak_iconst d (by decide +kernel) rfl) <|
  am_kd (fun d => ak_callV (C := RX3) (F := TX3) (N := 3) metX3_at rfl ⟨rfl, hy_X3_at⟩ (am_w5 wd_524 wd_503 wd_504 wd_64 wd_505) (by decide) d rfl) <|
  am_kd (fun d => ak_iconst d (by decide +kernel) rfl) <|
  am_kd (fun d => ak_icmp_eq d (by decide +kernel) rfl) <|
  am_kd (fun d => ak_bipush d (by decide +kernel) rfl) <|
  am_kd (fun d => ak_retI d) <|
  am_kd (fun d => ak_aload_n d rfl rfl) <|
  am_kd (fun d => ak_iload_n d rfl rfl) <|
  am_kd (fun d => ak_iconst d (by decide +kernel) rfl) <|
  am_kd (fun d => ak_iload_n d rfl rfl) <|
  am_kd (fun d => ak_callV (C := RX3) (F := TX3) (N := 3) metX3_put rfl ⟨rfl, hy_X3_put⟩ (am_w5 wd_515 wd_485 wd_486 wd_64 wd_487) (by decide) d rfl) <|
  am_kd (fun d => ak_aload_n d rfl rfl) <|
  am_kd (fun d => ak_getR (C := RX7) (T := TX7) (N := 4) rfl inX7w (by decide) rfl rfl rfl wd_390 d rfl) <|
  am_kd (fun d => ak_iload_n d rfl rfl) <|
  am_kd (fun d => ak_callV (C := RX0) (F := TX0) (N := 13) metX0_givenBack rfl ⟨rfl, hy_X0_givenBack⟩ (am_w5 wd_525 wd_526 wd_527 wd_61 wd_528) (by decide) d rfl) <|
  am_kd (fun d => ak_l2i d rfl) <|
  am_kd (fun d => ak_retI d) <| am_kdn
def c_leave (M : am_M) (l y : Int32) : Int32 × am_M := if 0 ≤ l ∧ l < M.1 33 2 then (if 0 ≤ y ∧ y < 40 then (if am_at (M.1 34) (am_len 34) (l * M.1 33 1 + 4) = 1 then (if am_at (M.1 34) (am_len 34) (l * M.1 33 1 + 2) ≤ y then (if am_at (M.1 34) (am_len 34) (l * M.1 33 1 + 5) = -1 then ((am_sumGiven (am_loanAt (am_rput M 33 34 l 5 y) l 3) (am_loanAt (am_rput M 33 34 l 5 y) l 5 - am_loanAt (am_rput M 33 34 l 5 y) l 2)).toInt32, am_rput M 33 34 l 5 y) else ((-3 : Int32), M)) else ((-2 : Int32), M)) else ((-2 : Int32), M)) else ((-2 : Int32), M)) else ((-2 : Int32), M)
def TX7_leave : am_T := fun live as M R => match as with
  | [.ref n, .int l, .int y] => am_mn live ∧ n = 0 ∧ (g_hI M ∧ g_rI M) ∧ R (some (.int (c_leave M l y).1)) (c_leave M l y).2
  | _ => False
set_option maxRecDepth 100000 in
set_option maxHeartbeats 4000000 in
theorem metX7_leave : am_Met yX7_leave cX7_leave 4 (some .int) (2) (47) TX7_leave := by
  refine am_met (own := RX7) (by decide +kernel) rfl kX7_leave koX7_leave 150 (fun _ _ _ _ _ => none) (fun live as M Ret h => ?_) (fun _ _ _ _ _ _ _ _ hI => by cases hI)
  unfold TX7_leave at h
  split at h
  · next n l y =>
    refine ⟨Nat.le_of_ble_eq_true rfl, ?_⟩
    change am_wp _ _ _ _ [(0, Value.ref n), (1, Value.int l), (2, Value.int y)] _ _
    obtain ⟨hmn, rfl, ⟨hH, hR⟩, h⟩ := h
    have hmn2 := hmn
    obtain ⟨i1, i2, rfl⟩ := hmn2
    by_cases z0 : 0 ≤ l ∧ l < M.1 33 2
    rotate_left
    · skip
      have q0 : (if 0 ≤ l ∧ l < M.1 33 2 then (1 : Int32) else 0) = 0 := if_neg z0
      have e : c_leave M l y = ((-2 : Int32), M) := by unfold c_leave; rw [if_neg z0]
      rw [e] at h
      repeat' (first | (with_reducible exact hmn) | (with_reducible exact h) | apply And.intro | exact rfl | (intro hx; with_reducible exact absurd q0 hx) | (intro hx; exact absurd hx (by decide)) | (intro hx; exact absurd (by decide) hx) | decide | intro hx | (refine Exists.intro _ (And.intro rfl ?_)))
      all_goals try first | (with_reducible change am_tI _ _) | (change Ret _ _) | (change Ret _ _ _) | (change Exists _)
      all_goals try dsimp only at *
      all_goals try (with_reducible exact absurd ‹(1000 : Int64) = 0› am_z1000)
      all_goals first | exact h | skip
    · skip
      have q0 : ¬ ((if 0 ≤ l ∧ l < M.1 33 2 then (1 : Int32) else 0) = 0) := by rw [if_pos z0]; decide
      by_cases z1 : 0 ≤ y ∧ y < 40
      rotate_left
      · skip
        have q1 : (if 0 ≤ y ∧ y < 40 then (1 : Int32) else 0) = 0 := if_neg z1
        have e : c_leave M l y = ((-2 : Int32), M) := by unfold c_leave; rw [if_pos z0, if_neg z1]
        rw [e] at h
        repeat' (first | (with_reducible exact hmn) | (with_reducible exact h) | apply And.intro | exact rfl | (intro hx; with_reducible exact absurd hx q0) | (intro hx; with_reducible exact absurd q1 hx) | (intro hx; exact absurd hx (by decide)) | (intro hx; exact absurd (by decide) hx) | decide | intro hx | (refine Exists.intro _ (And.intro rfl ?_)))
        all_goals try first | (with_reducible change am_tI _ _) | (change Ret _ _) | (change Ret _ _ _) | (change Exists _)
        all_goals try dsimp only at *
        all_goals try (with_reducible exact absurd ‹(1000 : Int64) = 0› am_z1000)
        all_goals first | exact h | skip
      · skip
        have q1 : ¬ ((if 0 ≤ y ∧ y < 40 then (1 : Int32) else 0) = 0) := by rw [if_pos z1]; decide
        by_cases z2 : am_at (M.1 34) (am_len 34) (l * M.1 33 1 + 4) = 1
        rotate_left
        · skip
          have e : c_leave M l y = ((-2 : Int32), M) := by unfold c_leave; rw [if_pos z0, if_pos z1, if_neg z2]
          rw [e] at h
          repeat' (first | (with_reducible exact hmn) | (with_reducible exact h) | apply And.intro | exact rfl | (intro hx; with_reducible exact absurd hx q0) | (intro hx; with_reducible exact absurd hx q1) | (intro hx; with_reducible exact absurd hx z2) | (intro hx; exact absurd hx (by decide)) | (intro hx; exact absurd (by decide) hx) | decide | intro hx | (refine Exists.intro _ (And.intro rfl ?_)))
          all_goals try first | (with_reducible change am_tI _ _) | (change Ret _ _) | (change Ret _ _ _) | (change Exists _)
          all_goals try dsimp only at *
          all_goals try (with_reducible exact absurd ‹(1000 : Int64) = 0› am_z1000)
          all_goals first | exact h | skip
        · skip
          by_cases z3 : am_at (M.1 34) (am_len 34) (l * M.1 33 1 + 2) ≤ y
          rotate_left
          · skip
            have y3 : (y : Int32) < am_at (M.1 34) (am_len 34) (l * M.1 33 1 + 2) := Int32.not_le.mp z3
            have e : c_leave M l y = ((-2 : Int32), M) := by unfold c_leave; rw [if_pos z0, if_pos z1, if_pos z2, if_neg z3]
            rw [e] at h
            repeat' (first | (with_reducible exact hmn) | (with_reducible exact h) | apply And.intro | exact rfl | (intro hx; with_reducible exact absurd hx q0) | (intro hx; with_reducible exact absurd hx q1) | (intro hx; with_reducible exact absurd hx z3) | (intro hx; with_reducible exact absurd z2 hx) | (intro hx; with_reducible exact absurd y3 hx) | (intro hx; exact absurd hx (by decide)) | (intro hx; exact absurd (by decide) hx) | decide | intro hx | (refine Exists.intro _ (And.intro rfl ?_)))
            all_goals try first | (with_reducible change am_tI _ _) | (change Ret _ _) | (change Ret _ _ _) | (change Exists _)
            all_goals try dsimp only at *
            all_goals try (with_reducible exact absurd ‹(1000 : Int64) = 0› am_z1000)
            all_goals first | exact h | skip
          · skip
            have y3 : ¬ (y : Int32) < am_at (M.1 34) (am_len 34) (l * M.1 33 1 + 2) := Int32.not_lt.mpr z3
            by_cases z4 : am_at (M.1 34) (am_len 34) (l * M.1 33 1 + 5) = -1
            rotate_left
            · skip
              have e : c_leave M l y = ((-3 : Int32), M) := by unfold c_leave; rw [if_pos z0, if_pos z1, if_pos z2, if_pos z3, if_neg z4]
              rw [e] at h
              repeat' (first | (with_reducible exact hmn) | (with_reducible exact h) | apply And.intro | exact rfl | (intro hx; with_reducible exact absurd hx q0) | (intro hx; with_reducible exact absurd hx q1) | (intro hx; with_reducible exact absurd hx y3) | (intro hx; with_reducible exact absurd hx z4) | (intro hx; with_reducible exact absurd z2 hx) | (intro hx; with_reducible exact absurd z3 hx) | (intro hx; exact absurd hx (by decide)) | (intro hx; exact absurd (by decide) hx) | decide | intro hx | (refine Exists.intro _ (And.intro rfl ?_)))
              all_goals try first | (with_reducible change am_tI _ _) | (change Ret _ _) | (change Ret _ _ _) | (change Exists _)
              all_goals try dsimp only at *
              all_goals try (with_reducible exact absurd ‹(1000 : Int64) = 0› am_z1000)
              all_goals first | exact h | skip
            · skip
              have e : c_leave M l y = ((am_sumGiven (am_loanAt (am_rput M 33 34 l 5 y) l 3) (am_loanAt (am_rput M 33 34 l 5 y) l 5 - am_loanAt (am_rput M 33 34 l 5 y) l 2)).toInt32, am_rput M 33 34 l 5 y) := by unfold c_leave; rw [if_pos z0, if_pos z1, if_pos z2, if_pos z3, if_pos z4]
              rw [e] at h
              repeat' (first | (with_reducible exact hmn) | apply And.intro | exact rfl | (intro hx; with_reducible exact absurd hx q0) | (intro hx; with_reducible exact absurd hx q1) | (intro hx; with_reducible exact absurd hx y3) | (intro hx; with_reducible exact absurd z2 hx) | (intro hx; with_reducible exact absurd z3 hx) | (intro hx; with_reducible exact absurd z4 hx) | (intro hx; exact absurd hx (by decide)) | (intro hx; exact absurd (by decide) hx) | decide | intro hx | (refine Exists.intro _ (And.intro rfl ?_)))
              all_goals try first | (with_reducible change am_tI _ _) | (change Ret _ _) | (change Ret _ _ _) | (change Exists _)
              all_goals try dsimp only at *
              all_goals try (with_reducible exact absurd ‹(1000 : Int64) = 0› am_z1000)
              all_goals first | exact h | skip
  · exact h.elim
set_option maxRecDepth 100000 in
theorem wd_209 : Cond.fieldLink "LearnLoans" 146 "LearnLoans$House" "moves" "LLearnLoans$Rows;" ∈ am_ws := am_wt1 (List.mem_of_getElem? (i := 152) (by rfl)) (by decide +kernel)
set_option maxRecDepth 100000 in
theorem wd_514 : Cond.methodLink "LearnLoans" 125 yX3_add ∈ am_ws := am_wt2 (List.mem_of_getElem? (i := 217) (by rfl)) (by decide +kernel)
set_option maxRecDepth 100000 in
theorem wd_211 : Cond.fieldLink "LearnLoans" 132 "LearnLoans$House" "planAt" "[I" ∈ am_ws := am_wt1 (List.mem_of_getElem? (i := 154) (by rfl)) (by decide +kernel)
def rwX7_move : List dz_r := [(0, .aload_n 0, 1), (1, .iload_n 1, 1), (2, .invokevirtual 135, 3), (5, .ifCond .eq 17, 3), (8, .iload_n 2, 1), (9, .invokestatic 98, 3), (12, .ifCond .eq 10, 3), (15, .iload_n 3, 1), (16, .invokestatic 34, 3), (19, .ifCond .ne 6, 3), (22, .bipush (-2), 2), (24, .ireturn, 1), (25, .aload_n 0, 1), (26, .getfield 27, 3), (29, .getfield 146, 3), (32, .getfield 108, 3), (35, .bipush 60, 2), (37, .if_icmp .lt 6, 3), (40, .bipush (-4), 2), (42, .ireturn, 1), (43, .aload_n 0, 1), (44, .getfield 27, 3), (47, .getfield 146, 3), (50, .iload_n 1, 1), (51, .iload_n 2, 1), (52, .iload_n 3, 1), (53, .invokevirtual 125, 3), (56, .pop, 1), (57, .aload_n 0, 1), (58, .getfield 27, 3), (61, .getfield 132, 3), (64, .iload_n 1, 1), (65, .bipush 40, 2), (67, .imul, 1), (68, .iload_n 3, 1), (69, .iadd, 1), (70, .iload_n 1, 1), (71, .bipush 40, 2), (73, .imul, 1), (74, .bipush 39, 2), (76, .iadd, 1), (77, .iload_n 2, 1), (78, .invokestatic 66, 3), (81, .iconst 1, 1), (82, .ireturn, 1)]
theorem dzX7_move : dz cX7_move rwX7_move := dz_all 0 (by decide +kernel)
def kX7_move (live : am_E) (Ret : am_R) : am_code := [(0, am_aload 0 1), (1, am_iload 1 2), (2, am_callV live 7 1 TX7_isLoan 5), (5, am_if1 (fun x => x = 0) 22 8), (8, am_iload 2 9), (9, am_callS live 1 TX7_isPlan 12), (12, am_if1 (fun x => x = 0) 22 15), (15, am_iload 3 16), (16, am_callS live 1 TX7_isYear 19), (19, am_if1 (fun x => x = 0) 22 25), (22, am_const (.int (-2)) 24), (24, am_retI Ret), (25, am_aload 0 26), (26, am_getR live 7 0 29), (29, am_getR live 0 5 32), (32, am_getI live 3 2 35), (35, am_const (.int 60) 37), (37, am_if2 (fun x y => x < y) 43 40), (40, am_const (.int (-4)) 42), (42, am_retI Ret), (43, am_aload 0 44), (44, am_getR live 7 0 47), (47, am_getR live 0 5 50), (50, am_iload 1 51), (51, am_iload 2 52), (52, am_iload 3 53), (53, am_callV live 3 3 TX3_add 56), (56, am_pop 57), (57, am_aload 0 58), (58, am_getR live 7 0 61), (61, am_getR live 0 6 64), (64, am_iload 1 65), (65, am_const (.int 40) 67), (67, am_i2 (fun x y => x * y) 68), (68, am_iload 3 69), (69, am_i2 (fun x y => x + y) 70), (70, am_iload 1 71), (71, am_const (.int 40) 73), (73, am_i2 (fun x y => x * y) 74), (74, am_const (.int 39) 76), (76, am_i2 (fun x y => x + y) 77), (77, am_iload 2 78), (78, am_callS live 4 TX7_lay 81), (81, am_const (.int 1) 82), (82, am_retI Ret)]
theorem koX7_move (live : am_E) (Ret : am_R) : ∀ q ∈ kX7_move live Ret, am_ok RX7 cX7_move 4 (some .int) 2 47 live Ret q.1 q.2 :=
  am_kz dzX7_move <|
  am_kd (fun d => ak_aload_n d rfl rfl) <|
  am_kd (fun d => ak_iload_n d rfl rfl) <|
  am_kd (fun d => ak_callV (C := RX7) (F := TX7) (N := 4) metX7_isLoan rfl ⟨rfl, hy_X7_isLoan⟩ (am_w5 wd_520 wd_522 wd_2 wd_58 wd_523) (by decide) d rfl) <|
  am_kd (fun d => ak_if_eq d (by decide +kernel) rfl) <|
  am_kd (fun d => ak_iload_n d rfl rfl) <|
  am_kd (fun d => ak_callS metX7_isPlan ⟨rfl, hy_X7_isPlan⟩ (am_w4 wd_466 wd_467 wd_58 wd_468) (by decide) d rfl) <|
  am_kd (fun d => ak_if_eq d (by decide +kernel) rfl) <|
  am_kd (fun d => ak_iload_n d rfl rfl) <|
  am_kd (fun d => ak_callS metX7_isYear ⟨rfl, hy_X7_isYear⟩ (am_w4 wd_407 wd_408 wd_58 wd_409) (by decide) d rfl) <|
  am_kd (fun d => ak_if_ne d (by decide +kernel) rfl) <|
  am_kd (fun d => ak_bipush d (by decide +kernel) rfl) <|
  am_kd (fun d => ak_retI d) <|
  am_kd (fun d => ak_aload_n d rfl rfl) <|
  am_kd (fun d => ak_getR (C := RX7) (T := TX7) (N := 4) rfl inX7w (by decide) rfl rfl rfl wd_390 d rfl) <|
  am_kd (fun d => ak_getR (C := RX0) (T := TX0) (N := 13) rfl inX0w (by decide) rfl rfl rfl wd_209 d rfl) <|
  am_kd (fun d => ak_getI (C := RX3) (T := TX3) (N := 3) rfl inX3w (by decide) rfl rfl rfl wd_152 d rfl) <|
  am_kd (fun d => ak_bipush d (by decide +kernel) rfl) <|
  am_kd (fun d => ak_icmp_lt d (by decide +kernel) rfl) <|
  am_kd (fun d => ak_bipush d (by decide +kernel) rfl) <|
  am_kd (fun d => ak_retI d) <|
  am_kd (fun d => ak_aload_n d rfl rfl) <|
  am_kd (fun d => ak_getR (C := RX7) (T := TX7) (N := 4) rfl inX7w (by decide) rfl rfl rfl wd_390 d rfl) <|
  am_kd (fun d => ak_getR (C := RX0) (T := TX0) (N := 13) rfl inX0w (by decide) rfl rfl rfl wd_209 d rfl) <|
  am_kd (fun d => ak_iload_n d rfl rfl) <|
  am_kd (fun d => ak_iload_n d rfl rfl) <|
  am_kd (fun d => ak_iload_n d rfl rfl) <|
  am_kd (fun d => ak_callV (C := RX3) (F := TX3) (N := 3) metX3_add rfl ⟨rfl, hy_X3_add⟩ (am_w5 wd_514 wd_481 wd_482 wd_64 wd_483) (by decide) d rfl) <|
  am_kd (fun d => ak_pop d rfl) <|
  am_kd (fun d => ak_aload_n d rfl rfl) <|
  am_kd (fun d => ak_getR (C := RX7) (T := TX7) (N := 4) rfl inX7w (by decide) rfl rfl rfl wd_390 d rfl) <|
  am_kd (fun d => ak_getR (C := RX0) (T := TX0) (N := 13) rfl inX0w (by decide) rfl rfl rfl wd_211 d rfl) <|
  am_kd (fun d => ak_iload_n d rfl rfl) <|
  am_kd (fun d => ak_bipush d (by decide +kernel) rfl) <|
  am_kd (fun d => ak_imul d rfl) <|
  am_kd (fun d => ak_iload_n d rfl rfl) <|
  am_kd (fun d => ak_iadd d rfl) <|
  am_kd (fun d => ak_iload_n d rfl rfl) <|
  am_kd (fun d => ak_bipush d (by decide +kernel) rfl) <|
  am_kd (fun d => ak_imul d rfl) <|
  am_kd (fun d => ak_bipush d (by decide +kernel) rfl) <|
  am_kd (fun d => ak_iadd d rfl) <|
  am_kd (fun d => ak_iload_n d rfl rfl) <|
  am_kd (fun d => ak_callS metX7_lay ⟨rfl, hy_X7_lay⟩ (am_w4 wd_424 wd_425 wd_58 wd_426) (by decide) d rfl) <|
  am_kd (fun d => ak_iconst d (by decide +kernel) rfl) <|
  am_kd (fun d => ak_retI d) <| am_kdn
def c_move (M : am_M) (l pl y : Int32) : Int32 × am_M := if 0 ≤ l ∧ l < M.1 33 2 then (if 0 ≤ pl ∧ pl < 5 then (if 0 ≤ y ∧ y < 40 then (if M.1 35 2 < 60 then (1, am_lay (am_radd M 35 36 l pl y) 37 (max (l * 40 + y).toInt 0) (min (l * 40 + 39).toInt ((am_len 37 : Int) - 1)) pl) else ((-4 : Int32), M)) else ((-2 : Int32), M)) else ((-2 : Int32), M)) else ((-2 : Int32), M)
def TX7_move : am_T := fun live as M R => match as with
  | [.ref n, .int l, .int pl, .int y] => am_mn live ∧ n = 0 ∧ (g_hI M ∧ g_rI M) ∧ R (some (.int (c_move M l pl y).1)) (c_move M l pl y).2
  | _ => False
set_option maxRecDepth 100000 in
set_option maxHeartbeats 4000000 in
theorem metX7_move : am_Met yX7_move cX7_move 4 (some .int) (2) (47) TX7_move := by
  refine am_met (own := RX7) (by decide +kernel) rfl kX7_move koX7_move 150 (fun _ _ _ _ _ => none) (fun live as M Ret h => ?_) (fun _ _ _ _ _ _ _ _ hI => by cases hI)
  unfold TX7_move at h
  split at h
  · next n l pl y =>
    refine ⟨Nat.le_of_ble_eq_true rfl, ?_⟩
    change am_wp _ _ _ _ [(0, Value.ref n), (1, Value.int l), (2, Value.int pl), (3, Value.int y)] _ _
    obtain ⟨hmn, rfl, ⟨hH, hR⟩, h⟩ := h
    have hmn2 := hmn
    obtain ⟨i1, i2, rfl⟩ := hmn2
    by_cases z0 : 0 ≤ l ∧ l < M.1 33 2
    rotate_left
    · skip
      have q0 : (if 0 ≤ l ∧ l < M.1 33 2 then (1 : Int32) else 0) = 0 := if_neg z0
      have e : c_move M l pl y = ((-2 : Int32), M) := by unfold c_move; rw [if_neg z0]
      rw [e] at h
      repeat' (first | (with_reducible exact hmn) | (with_reducible exact h) | apply And.intro | exact rfl | (intro hx; with_reducible exact absurd q0 hx) | (intro hx; exact absurd hx (by decide)) | (intro hx; exact absurd (by decide) hx) | decide | intro hx | (refine Exists.intro _ (And.intro rfl ?_)))
      all_goals try first | (with_reducible change am_tI _ _) | (change Ret _ _) | (change Ret _ _ _) | (change Exists _)
      all_goals try dsimp only at *
      all_goals try (with_reducible exact absurd ‹(1000 : Int64) = 0› am_z1000)
      all_goals first | exact h | skip
    · skip
      have q0 : ¬ ((if 0 ≤ l ∧ l < M.1 33 2 then (1 : Int32) else 0) = 0) := by rw [if_pos z0]; decide
      by_cases z1 : 0 ≤ pl ∧ pl < 5
      rotate_left
      · skip
        have q1 : (if 0 ≤ pl ∧ pl < 5 then (1 : Int32) else 0) = 0 := if_neg z1
        have e : c_move M l pl y = ((-2 : Int32), M) := by unfold c_move; rw [if_pos z0, if_neg z1]
        rw [e] at h
        repeat' (first | (with_reducible exact hmn) | (with_reducible exact h) | apply And.intro | exact rfl | (intro hx; with_reducible exact absurd hx q0) | (intro hx; with_reducible exact absurd q1 hx) | (intro hx; exact absurd hx (by decide)) | (intro hx; exact absurd (by decide) hx) | decide | intro hx | (refine Exists.intro _ (And.intro rfl ?_)))
        all_goals try first | (with_reducible change am_tI _ _) | (change Ret _ _) | (change Ret _ _ _) | (change Exists _)
        all_goals try dsimp only at *
        all_goals try (with_reducible exact absurd ‹(1000 : Int64) = 0› am_z1000)
        all_goals first | exact h | skip
      · skip
        have q1 : ¬ ((if 0 ≤ pl ∧ pl < 5 then (1 : Int32) else 0) = 0) := by rw [if_pos z1]; decide
        by_cases z2 : 0 ≤ y ∧ y < 40
        rotate_left
        · skip
          have q2 : (if 0 ≤ y ∧ y < 40 then (1 : Int32) else 0) = 0 := if_neg z2
          have e : c_move M l pl y = ((-2 : Int32), M) := by unfold c_move; rw [if_pos z0, if_pos z1, if_neg z2]
          rw [e] at h
          repeat' (first | (with_reducible exact hmn) | (with_reducible exact h) | apply And.intro | exact rfl | (intro hx; with_reducible exact absurd hx q0) | (intro hx; with_reducible exact absurd hx q1) | (intro hx; with_reducible exact absurd q2 hx) | (intro hx; exact absurd hx (by decide)) | (intro hx; exact absurd (by decide) hx) | decide | intro hx | (refine Exists.intro _ (And.intro rfl ?_)))
          all_goals try first | (with_reducible change am_tI _ _) | (change Ret _ _) | (change Ret _ _ _) | (change Exists _)
          all_goals try dsimp only at *
          all_goals try (with_reducible exact absurd ‹(1000 : Int64) = 0› am_z1000)
          all_goals first | exact h | skip
        · skip
          have q2 : ¬ ((if 0 ≤ y ∧ y < 40 then (1 : Int32) else 0) = 0) := by rw [if_pos z2]; decide
          by_cases z3 : M.1 35 2 < 60
          rotate_left
          · skip
            have y3 : (60 : Int32) ≤ M.1 35 2 := Int32.not_lt.mp z3
            have e : c_move M l pl y = ((-4 : Int32), M) := by unfold c_move; rw [if_pos z0, if_pos z1, if_pos z2, if_neg z3]
            rw [e] at h
            repeat' (first | (with_reducible exact hmn) | (with_reducible exact h) | apply And.intro | exact rfl | (intro hx; with_reducible exact absurd hx q0) | (intro hx; with_reducible exact absurd hx q1) | (intro hx; with_reducible exact absurd hx q2) | (intro hx; with_reducible exact absurd hx z3) | (intro hx; with_reducible exact absurd y3 hx) | (intro hx; exact absurd hx (by decide)) | (intro hx; exact absurd (by decide) hx) | decide | intro hx | (refine Exists.intro _ (And.intro rfl ?_)))
            all_goals try first | (with_reducible change am_tI _ _) | (change Ret _ _) | (change Ret _ _ _) | (change Exists _)
            all_goals try dsimp only at *
            all_goals try (with_reducible exact absurd ‹(1000 : Int64) = 0› am_z1000)
            all_goals first | exact h | skip
          · skip
            have y3 : ¬ (60 : Int32) ≤ M.1 35 2 := Int32.not_le.mpr z3
            have e : c_move M l pl y = (1, am_lay (am_radd M 35 36 l pl y) 37 (max (l * 40 + y).toInt 0) (min (l * 40 + 39).toInt ((am_len 37 : Int) - 1)) pl) := by unfold c_move; rw [if_pos z0, if_pos z1, if_pos z2, if_pos z3]
            rw [e] at h
            repeat' (first | (with_reducible exact hmn) | apply And.intro | exact rfl | (intro hx; with_reducible exact absurd hx q0) | (intro hx; with_reducible exact absurd hx q1) | (intro hx; with_reducible exact absurd hx q2) | (intro hx; with_reducible exact absurd hx y3) | (intro hx; with_reducible exact absurd z3 hx) | (intro hx; exact absurd hx (by decide)) | (intro hx; exact absurd (by decide) hx) | decide | intro hx | (refine Exists.intro _ (And.intro rfl ?_)))
            all_goals try first | (with_reducible change am_tI _ _) | (change Ret _ _) | (change Ret _ _ _) | (change Exists _)
            all_goals try dsimp only at *
            all_goals try (with_reducible exact absurd ‹(1000 : Int64) = 0› am_z1000)
            all_goals first | exact h | skip
  · exact h.elim
def rwX7_sell : List dz_r := [(0, .aload_n 0, 1), (1, .iload_n 1, 1), (2, .invokevirtual 135, 3), (5, .ifCond .eq 19, 3), (8, .iload_n 2, 1), (9, .iconst 0, 1), (10, .iconst 3, 1), (11, .invokestatic 55, 3), (14, .ifCond .eq 10, 3), (17, .iload_n 3, 1), (18, .invokestatic 34, 3), (21, .ifCond .ne 6, 3), (24, .bipush (-2), 2), (26, .ireturn, 1), (27, .aload_n 0, 1), (28, .getfield 27, 3), (31, .getfield 122, 3), (34, .iload_n 1, 1), (35, .bipush 6, 2), (37, .invokevirtual 138, 3), (40, .iconst (-1), 1), (41, .if_icmp .eq 6, 3), (44, .bipush (-3), 2), (46, .ireturn, 1), (47, .aload_n 0, 1), (48, .getfield 27, 3), (51, .getfield 122, 3), (54, .iload_n 1, 1), (55, .bipush 6, 2), (57, .iload_n 2, 1), (58, .invokevirtual 128, 3), (61, .aload_n 0, 1), (62, .getfield 27, 3), (65, .getfield 122, 3), (68, .iload_n 1, 1), (69, .bipush 7, 2), (71, .iload_n 3, 1), (72, .invokevirtual 128, 3), (75, .iconst 1, 1), (76, .ireturn, 1)]
theorem dzX7_sell : dz cX7_sell rwX7_sell := dz_all 0 (by decide +kernel)
def kX7_sell (live : am_E) (Ret : am_R) : am_code := [(0, am_aload 0 1), (1, am_iload 1 2), (2, am_callV live 7 1 TX7_isLoan 5), (5, am_if1 (fun x => x = 0) 24 8), (8, am_iload 2 9), (9, am_const (.int 0) 10), (10, am_const (.int 3) 11), (11, am_callS live 3 TX7_within 14), (14, am_if1 (fun x => x = 0) 24 17), (17, am_iload 3 18), (18, am_callS live 1 TX7_isYear 21), (21, am_if1 (fun x => x = 0) 24 27), (24, am_const (.int (-2)) 26), (26, am_retI Ret), (27, am_aload 0 28), (28, am_getR live 7 0 31), (31, am_getR live 0 4 34), (34, am_iload 1 35), (35, am_const (.int 6) 37), (37, am_callV live 3 2 TX3_at 40), (40, am_const (.int (-1)) 41), (41, am_if2 (fun x y => x = y) 47 44), (44, am_const (.int (-3)) 46), (46, am_retI Ret), (47, am_aload 0 48), (48, am_getR live 7 0 51), (51, am_getR live 0 4 54), (54, am_iload 1 55), (55, am_const (.int 6) 57), (57, am_iload 2 58), (58, am_callV live 3 3 TX3_put 61), (61, am_aload 0 62), (62, am_getR live 7 0 65), (65, am_getR live 0 4 68), (68, am_iload 1 69), (69, am_const (.int 7) 71), (71, am_iload 3 72), (72, am_callV live 3 3 TX3_put 75), (75, am_const (.int 1) 76), (76, am_retI Ret)]
theorem koX7_sell (live : am_E) (Ret : am_R) : ∀ q ∈ kX7_sell live Ret, am_ok RX7 cX7_sell 4 (some .int) 1 24 live Ret q.1 q.2 :=
  am_kz dzX7_sell <|
  am_kd (fun d => ak_aload_n d rfl rfl) <|
  am_kd (fun d => ak_iload_n d rfl rfl) <|
  am_kd (fun d => ak_callV (C := RX7) (F := TX7) (N := 4) metX7_isLoan rfl ⟨rfl, hy_X7_isLoan⟩ (am_w5 wd_520 wd_522 wd_2 wd_58 wd_523) (by decide) d rfl) <|
  am_kd (fun d => ak_if_eq d (by decide +kernel) rfl) <|
  am_kd (fun d => ak_iload_n d rfl rfl) <|
  am_kd (fun d => ak_iconst d (by decide +kernel) rfl) <|
  am_kd (fun d => ak_iconst d (by decide +kernel) rfl) <|
  am_kd (fun d => ak_callS metX7_within ⟨rfl, hy_X7_within⟩ (am_w4 wd_418 wd_419 wd_58 wd_420) (by decide) d rfl) <|
  am_kd (fun d => ak_if_eq d (by decide +kernel) rfl) <|
  am_kd (fun d => ak_iload_n d rfl rfl) <|
  am_kd (fun d => ak_callS metX7_isYear ⟨rfl, hy_X7_isYear⟩ (am_w4 wd_407 wd_408 wd_58 wd_409) (by decide) d rfl) <|
  am_kd (fun d => ak_if_ne d (by decide +kernel) rfl) <|
  am_kd (fun d => ak_bipush d (by decide +kernel) rfl) <|
  am_kd (fun d => ak_retI d) <|
  am_kd (fun d => ak_aload_n d rfl rfl) <|
  am_kd (fun d => ak_getR (C := RX7) (T := TX7) (N := 4) rfl inX7w (by decide) rfl rfl rfl wd_390 d rfl) <|
  am_kd (fun d => ak_getR (C := RX0) (T := TX0) (N := 13) rfl inX0w (by decide) rfl rfl rfl wd_207 d rfl) <|
  am_kd (fun d => ak_iload_n d rfl rfl) <|
  am_kd (fun d => ak_bipush d (by decide +kernel) rfl) <|
  am_kd (fun d => ak_callV (C := RX3) (F := TX3) (N := 3) metX3_at rfl ⟨rfl, hy_X3_at⟩ (am_w5 wd_524 wd_503 wd_504 wd_64 wd_505) (by decide) d rfl) <|
  am_kd (fun d => ak_iconst d (by decide +kernel) rfl) <|
  am_kd (fun d => ak_icmp_eq d (by decide +kernel) rfl) <|
  am_kd (fun d => ak_bipush d (by decide +kernel) rfl) <|
  am_kd (fun d => ak_retI d) <|
  am_kd (fun d => ak_aload_n d rfl rfl) <|
  am_kd (fun d => ak_getR (C := RX7) (T := TX7) (N := 4) rfl inX7w (by decide) rfl rfl rfl wd_390 d rfl) <|
  am_kd (fun d => ak_getR (C := RX0) (T := TX0) (N := 13) rfl inX0w (by decide) rfl rfl rfl wd_207 d rfl) <|
  am_kd (fun d => ak_iload_n d rfl rfl) <|
  am_kd (fun d => ak_bipush d (by decide +kernel) rfl) <|
  am_kd (fun d => ak_iload_n d rfl rfl) <|
  am_kd (fun d => ak_callV (C := RX3) (F := TX3) (N := 3) metX3_put rfl ⟨rfl, hy_X3_put⟩ (am_w5 wd_515 wd_485 wd_486 wd_64 wd_487) (by decide) d rfl) <|
  am_kd (fun d => ak_aload_n d rfl rfl) <|
  am_kd (fun d => ak_getR (C := RX7) (T := TX7) (N := 4) rfl inX7w (by decide) rfl rfl rfl wd_390 d rfl) <|
  am_kd (fun d => ak_getR (C := RX0) (T := TX0) (N := 13) rfl inX0w (by decide) rfl rfl rfl wd_207 d rfl) <|
  am_kd (fun d => ak_iload_n d rfl rfl) <|
  am_kd (fun d => ak_bipush d (by decide +kernel) rfl) <|
  am_kd (fun d => ak_iload_n d rfl rfl) <|
  am_kd (fun d => ak_callV (C := RX3) (F := TX3) (N := 3) metX3_put rfl ⟨rfl, hy_X3_put⟩ (am_w5 wd_515 wd_485 wd_486 wd_64 wd_487) (by decide) d rfl) <|
  am_kd (fun d => ak_iconst d (by decide +kernel) rfl) <|
  am_kd (fun d => ak_retI d) <| am_kdn
def c_sell (M : am_M) (l b y : Int32) : Int32 × am_M := if 0 ≤ l ∧ l < M.1 33 2 then (if 0 ≤ b ∧ b ≤ 3 then (if 0 ≤ y ∧ y < 40 then (if am_at (M.1 34) (am_len 34) (l * M.1 33 1 + 6) = -1 then (1, am_rput (am_rput M 33 34 l 6 b) 33 34 l 7 y) else ((-3 : Int32), M)) else ((-2 : Int32), M)) else ((-2 : Int32), M)) else ((-2 : Int32), M)
def TX7_sell : am_T := fun live as M R => match as with
  | [.ref n, .int l, .int b, .int y] => am_mn live ∧ n = 0 ∧ (g_hI M ∧ g_rI M) ∧ R (some (.int (c_sell M l b y).1)) (c_sell M l b y).2
  | _ => False
set_option maxRecDepth 100000 in
set_option maxHeartbeats 4000000 in
theorem metX7_sell : am_Met yX7_sell cX7_sell 4 (some .int) (1) (24) TX7_sell := by
  refine am_met (own := RX7) (by decide +kernel) rfl kX7_sell koX7_sell 150 (fun _ _ _ _ _ => none) (fun live as M Ret h => ?_) (fun _ _ _ _ _ _ _ _ hI => by cases hI)
  unfold TX7_sell at h
  split at h
  · next n l b y =>
    refine ⟨Nat.le_of_ble_eq_true rfl, ?_⟩
    change am_wp _ _ _ _ [(0, Value.ref n), (1, Value.int l), (2, Value.int b), (3, Value.int y)] _ _
    obtain ⟨hmn, rfl, ⟨hH, hR⟩, h⟩ := h
    have hmn2 := hmn
    obtain ⟨i1, i2, rfl⟩ := hmn2
    by_cases z0 : 0 ≤ l ∧ l < M.1 33 2
    rotate_left
    · skip
      have q0 : (if 0 ≤ l ∧ l < M.1 33 2 then (1 : Int32) else 0) = 0 := if_neg z0
      have e : c_sell M l b y = ((-2 : Int32), M) := by unfold c_sell; rw [if_neg z0]
      rw [e] at h
      repeat' (first | (with_reducible exact hmn) | (with_reducible exact h) | apply And.intro | exact rfl | (intro hx; with_reducible exact absurd q0 hx) | (intro hx; exact absurd hx (by decide)) | (intro hx; exact absurd (by decide) hx) | decide | intro hx | (refine Exists.intro _ (And.intro rfl ?_)))
      all_goals try first | (with_reducible change am_tI _ _) | (change Ret _ _) | (change Ret _ _ _) | (change Exists _)
      all_goals try dsimp only at *
      all_goals try (with_reducible exact absurd ‹(1000 : Int64) = 0› am_z1000)
      all_goals first | exact h | skip
    · skip
      have q0 : ¬ ((if 0 ≤ l ∧ l < M.1 33 2 then (1 : Int32) else 0) = 0) := by rw [if_pos z0]; decide
      by_cases z1 : 0 ≤ b ∧ b ≤ 3
      rotate_left
      · skip
        have q1 : (if 0 ≤ b ∧ b ≤ 3 then (1 : Int32) else 0) = 0 := if_neg z1
        have e : c_sell M l b y = ((-2 : Int32), M) := by unfold c_sell; rw [if_pos z0, if_neg z1]
        rw [e] at h
        repeat' (first | (with_reducible exact hmn) | (with_reducible exact h) | apply And.intro | exact rfl | (intro hx; with_reducible exact absurd hx q0) | (intro hx; with_reducible exact absurd q1 hx) | (intro hx; exact absurd hx (by decide)) | (intro hx; exact absurd (by decide) hx) | decide | intro hx | (refine Exists.intro _ (And.intro rfl ?_)))
        all_goals try first | (with_reducible change am_tI _ _) | (change Ret _ _) | (change Ret _ _ _) | (change Exists _)
        all_goals try dsimp only at *
        all_goals try (with_reducible exact absurd ‹(1000 : Int64) = 0› am_z1000)
        all_goals first | exact h | skip
      · skip
        have q1 : ¬ ((if 0 ≤ b ∧ b ≤ 3 then (1 : Int32) else 0) = 0) := by rw [if_pos z1]; decide
        by_cases z2 : 0 ≤ y ∧ y < 40
        rotate_left
        · skip
          have q2 : (if 0 ≤ y ∧ y < 40 then (1 : Int32) else 0) = 0 := if_neg z2
          have e : c_sell M l b y = ((-2 : Int32), M) := by unfold c_sell; rw [if_pos z0, if_pos z1, if_neg z2]
          rw [e] at h
          repeat' (first | (with_reducible exact hmn) | (with_reducible exact h) | apply And.intro | exact rfl | (intro hx; with_reducible exact absurd hx q0) | (intro hx; with_reducible exact absurd hx q1) | (intro hx; with_reducible exact absurd q2 hx) | (intro hx; exact absurd hx (by decide)) | (intro hx; exact absurd (by decide) hx) | decide | intro hx | (refine Exists.intro _ (And.intro rfl ?_)))
          all_goals try first | (with_reducible change am_tI _ _) | (change Ret _ _) | (change Ret _ _ _) | (change Exists _)
          all_goals try dsimp only at *
          all_goals try (with_reducible exact absurd ‹(1000 : Int64) = 0› am_z1000)
          all_goals first | exact h | skip
        · skip
          have q2 : ¬ ((if 0 ≤ y ∧ y < 40 then (1 : Int32) else 0) = 0) := by rw [if_pos z2]; decide
          by_cases z3 : am_at (M.1 34) (am_len 34) (l * M.1 33 1 + 6) = -1
          rotate_left
          · skip
            have e : c_sell M l b y = ((-3 : Int32), M) := by unfold c_sell; rw [if_pos z0, if_pos z1, if_pos z2, if_neg z3]
            rw [e] at h
            repeat' (first | (with_reducible exact hmn) | (with_reducible exact h) | apply And.intro | exact rfl | (intro hx; with_reducible exact absurd hx q0) | (intro hx; with_reducible exact absurd hx q1) | (intro hx; with_reducible exact absurd hx q2) | (intro hx; with_reducible exact absurd hx z3) | (intro hx; exact absurd hx (by decide)) | (intro hx; exact absurd (by decide) hx) | decide | intro hx | (refine Exists.intro _ (And.intro rfl ?_)))
            all_goals try first | (with_reducible change am_tI _ _) | (change Ret _ _) | (change Ret _ _ _) | (change Exists _)
            all_goals try dsimp only at *
            all_goals try (with_reducible exact absurd ‹(1000 : Int64) = 0› am_z1000)
            all_goals first | exact h | skip
          · skip
            have e : c_sell M l b y = (1, am_rput (am_rput M 33 34 l 6 b) 33 34 l 7 y) := by unfold c_sell; rw [if_pos z0, if_pos z1, if_pos z2, if_pos z3]
            rw [e] at h
            repeat' (first | (with_reducible exact hmn) | apply And.intro | exact rfl | (intro hx; with_reducible exact absurd hx q0) | (intro hx; with_reducible exact absurd hx q1) | (intro hx; with_reducible exact absurd hx q2) | (intro hx; with_reducible exact absurd z3 hx) | (intro hx; exact absurd hx (by decide)) | (intro hx; exact absurd (by decide) hx) | decide | intro hx | (refine Exists.intro _ (And.intro rfl ?_)))
            all_goals try first | (with_reducible change am_tI _ _) | (change Ret _ _) | (change Ret _ _ _) | (change Exists _)
            all_goals try dsimp only at *
            all_goals try (with_reducible exact absurd ‹(1000 : Int64) = 0› am_z1000)
            all_goals first | exact h | skip
  · exact h.elim
set_option maxRecDepth 100000 in
theorem wd_738 : Cond.constant "LearnLoans" 189 1000000000 ∈ am_ws := am_wt3 (List.mem_of_getElem? (i := 201) (by rfl)) (by decide +kernel)
set_option maxRecDepth 100000 in
theorem wd_217 : Cond.fieldLink "LearnLoans" 190 "LearnLoans$House" "promises" "LLearnLoans$Rows;" ∈ am_ws := am_wt1 (List.mem_of_getElem? (i := 160) (by rfl)) (by decide +kernel)
def rwX7_promise : List dz_r := [(0, .iload_n 1, 1), (1, .iconst 0, 1), (2, .iconst 3, 1), (3, .invokestatic 55, 3), (6, .ifCond .eq 20, 3), (9, .iload_n 2, 1), (10, .invokestatic 34, 3), (13, .ifCond .eq 13, 3), (16, .iload_n 3, 1), (17, .iconst 1, 1), (18, .ldc 189, 2), (20, .invokestatic 55, 3), (23, .ifCond .ne 6, 3), (26, .bipush (-2), 2), (28, .ireturn, 1), (29, .aload_n 0, 1), (30, .getfield 27, 3), (33, .getfield 190, 3), (36, .getfield 108, 3), (39, .bipush 20, 2), (41, .if_icmp .lt 6, 3), (44, .bipush (-4), 2), (46, .ireturn, 1), (47, .aload_n 0, 1), (48, .getfield 27, 3), (51, .getfield 190, 3), (54, .iload_n 1, 1), (55, .iload_n 2, 1), (56, .iload_n 3, 1), (57, .invokevirtual 125, 3), (60, .iconst 1, 1), (61, .iadd, 1), (62, .ireturn, 1)]
theorem dzX7_promise : dz cX7_promise rwX7_promise := dz_all 0 (by decide +kernel)
def kX7_promise (live : am_E) (Ret : am_R) : am_code := [(0, am_iload 1 1), (1, am_const (.int 0) 2), (2, am_const (.int 3) 3), (3, am_callS live 3 TX7_within 6), (6, am_if1 (fun x => x = 0) 26 9), (9, am_iload 2 10), (10, am_callS live 1 TX7_isYear 13), (13, am_if1 (fun x => x = 0) 26 16), (16, am_iload 3 17), (17, am_const (.int 1) 18), (18, am_const (.int 1000000000) 20), (20, am_callS live 3 TX7_within 23), (23, am_if1 (fun x => x = 0) 26 29), (26, am_const (.int (-2)) 28), (28, am_retI Ret), (29, am_aload 0 30), (30, am_getR live 7 0 33), (33, am_getR live 0 8 36), (36, am_getI live 3 2 39), (39, am_const (.int 20) 41), (41, am_if2 (fun x y => x < y) 47 44), (44, am_const (.int (-4)) 46), (46, am_retI Ret), (47, am_aload 0 48), (48, am_getR live 7 0 51), (51, am_getR live 0 8 54), (54, am_iload 1 55), (55, am_iload 2 56), (56, am_iload 3 57), (57, am_callV live 3 3 TX3_add 60), (60, am_const (.int 1) 61), (61, am_i2 (fun x y => x + y) 62), (62, am_retI Ret)]
theorem koX7_promise (live : am_E) (Ret : am_R) : ∀ q ∈ kX7_promise live Ret, am_ok RX7 cX7_promise 4 (some .int) 2 47 live Ret q.1 q.2 :=
  am_kz dzX7_promise <|
  am_kd (fun d => ak_iload_n d rfl rfl) <|
  am_kd (fun d => ak_iconst d (by decide +kernel) rfl) <|
  am_kd (fun d => ak_iconst d (by decide +kernel) rfl) <|
  am_kd (fun d => ak_callS metX7_within ⟨rfl, hy_X7_within⟩ (am_w4 wd_418 wd_419 wd_58 wd_420) (by decide) d rfl) <|
  am_kd (fun d => ak_if_eq d (by decide +kernel) rfl) <|
  am_kd (fun d => ak_iload_n d rfl rfl) <|
  am_kd (fun d => ak_callS metX7_isYear ⟨rfl, hy_X7_isYear⟩ (am_w4 wd_407 wd_408 wd_58 wd_409) (by decide) d rfl) <|
  am_kd (fun d => ak_if_eq d (by decide +kernel) rfl) <|
  am_kd (fun d => ak_iload_n d rfl rfl) <|
  am_kd (fun d => ak_iconst d (by decide +kernel) rfl) <|
  am_kd (fun d => ak_ldc wd_738 d rfl) <|
  am_kd (fun d => ak_callS metX7_within ⟨rfl, hy_X7_within⟩ (am_w4 wd_418 wd_419 wd_58 wd_420) (by decide) d rfl) <|
  am_kd (fun d => ak_if_ne d (by decide +kernel) rfl) <|
  am_kd (fun d => ak_bipush d (by decide +kernel) rfl) <|
  am_kd (fun d => ak_retI d) <|
  am_kd (fun d => ak_aload_n d rfl rfl) <|
  am_kd (fun d => ak_getR (C := RX7) (T := TX7) (N := 4) rfl inX7w (by decide) rfl rfl rfl wd_390 d rfl) <|
  am_kd (fun d => ak_getR (C := RX0) (T := TX0) (N := 13) rfl inX0w (by decide) rfl rfl rfl wd_217 d rfl) <|
  am_kd (fun d => ak_getI (C := RX3) (T := TX3) (N := 3) rfl inX3w (by decide) rfl rfl rfl wd_152 d rfl) <|
  am_kd (fun d => ak_bipush d (by decide +kernel) rfl) <|
  am_kd (fun d => ak_icmp_lt d (by decide +kernel) rfl) <|
  am_kd (fun d => ak_bipush d (by decide +kernel) rfl) <|
  am_kd (fun d => ak_retI d) <|
  am_kd (fun d => ak_aload_n d rfl rfl) <|
  am_kd (fun d => ak_getR (C := RX7) (T := TX7) (N := 4) rfl inX7w (by decide) rfl rfl rfl wd_390 d rfl) <|
  am_kd (fun d => ak_getR (C := RX0) (T := TX0) (N := 13) rfl inX0w (by decide) rfl rfl rfl wd_217 d rfl) <|
  am_kd (fun d => ak_iload_n d rfl rfl) <|
  am_kd (fun d => ak_iload_n d rfl rfl) <|
  am_kd (fun d => ak_iload_n d rfl rfl) <|
  am_kd (fun d => ak_callV (C := RX3) (F := TX3) (N := 3) metX3_add rfl ⟨rfl, hy_X3_add⟩ (am_w5 wd_514 wd_481 wd_482 wd_64 wd_483) (by decide) d rfl) <|
  am_kd (fun d => ak_iconst d (by decide +kernel) rfl) <|
  am_kd (fun d => ak_iadd d rfl) <|
  am_kd (fun d => ak_retI d) <| am_kdn
def c_promise (M : am_M) (b y c : Int32) : Int32 × am_M := if 0 ≤ b ∧ b ≤ 3 then (if 0 ≤ y ∧ y < 40 then (if 1 ≤ c ∧ c ≤ 1000000000 then (if M.1 54 2 < 20 then (M.1 54 2 + 1 - 1 + 1, am_radd M 54 55 b y c) else ((-4 : Int32), M)) else ((-2 : Int32), M)) else ((-2 : Int32), M)) else ((-2 : Int32), M)
def TX7_promise : am_T := fun live as M R => match as with
  | [.ref n, .int b, .int y, .int c] => am_mn live ∧ n = 0 ∧ (g_hI M ∧ g_rI M) ∧ R (some (.int (c_promise M b y c).1)) (c_promise M b y c).2
  | _ => False
set_option maxRecDepth 100000 in
set_option maxHeartbeats 4000000 in
theorem metX7_promise : am_Met yX7_promise cX7_promise 4 (some .int) (2) (47) TX7_promise := by
  refine am_met (own := RX7) (by decide +kernel) rfl kX7_promise koX7_promise 150 (fun _ _ _ _ _ => none) (fun live as M Ret h => ?_) (fun _ _ _ _ _ _ _ _ hI => by cases hI)
  unfold TX7_promise at h
  split at h
  · next n b y c =>
    refine ⟨Nat.le_of_ble_eq_true rfl, ?_⟩
    change am_wp _ _ _ _ [(0, Value.ref n), (1, Value.int b), (2, Value.int y), (3, Value.int c)] _ _
    obtain ⟨hmn, rfl, ⟨hH, hR⟩, h⟩ := h
    have hmn2 := hmn
    obtain ⟨i1, i2, rfl⟩ := hmn2
    by_cases z0 : 0 ≤ b ∧ b ≤ 3
    rotate_left
    · skip
      have q0 : (if 0 ≤ b ∧ b ≤ 3 then (1 : Int32) else 0) = 0 := if_neg z0
      have e : c_promise M b y c = ((-2 : Int32), M) := by unfold c_promise; rw [if_neg z0]
      rw [e] at h
      repeat' (first | (with_reducible exact hmn) | (with_reducible exact h) | apply And.intro | exact rfl | (intro hx; with_reducible exact absurd q0 hx) | (intro hx; exact absurd hx (by decide)) | (intro hx; exact absurd (by decide) hx) | decide | intro hx | (refine Exists.intro _ (And.intro rfl ?_)))
      all_goals try first | (with_reducible change am_tI _ _) | (change Ret _ _) | (change Ret _ _ _) | (change Exists _)
      all_goals try dsimp only at *
      all_goals try (with_reducible exact absurd ‹(1000 : Int64) = 0› am_z1000)
      all_goals first | exact h | skip
    · skip
      have q0 : ¬ ((if 0 ≤ b ∧ b ≤ 3 then (1 : Int32) else 0) = 0) := by rw [if_pos z0]; decide
      by_cases z1 : 0 ≤ y ∧ y < 40
      rotate_left
      · skip
        have q1 : (if 0 ≤ y ∧ y < 40 then (1 : Int32) else 0) = 0 := if_neg z1
        have e : c_promise M b y c = ((-2 : Int32), M) := by unfold c_promise; rw [if_pos z0, if_neg z1]
        rw [e] at h
        repeat' (first | (with_reducible exact hmn) | (with_reducible exact h) | apply And.intro | exact rfl | (intro hx; with_reducible exact absurd hx q0) | (intro hx; with_reducible exact absurd q1 hx) | (intro hx; exact absurd hx (by decide)) | (intro hx; exact absurd (by decide) hx) | decide | intro hx | (refine Exists.intro _ (And.intro rfl ?_)))
        all_goals try first | (with_reducible change am_tI _ _) | (change Ret _ _) | (change Ret _ _ _) | (change Exists _)
        all_goals try dsimp only at *
        all_goals try (with_reducible exact absurd ‹(1000 : Int64) = 0› am_z1000)
        all_goals first | exact h | skip
      · skip
        have q1 : ¬ ((if 0 ≤ y ∧ y < 40 then (1 : Int32) else 0) = 0) := by rw [if_pos z1]; decide
        by_cases z2 : 1 ≤ c ∧ c ≤ 1000000000
        rotate_left
        · skip
          have q2 : (if 1 ≤ c ∧ c ≤ 1000000000 then (1 : Int32) else 0) = 0 := if_neg z2
          have e : c_promise M b y c = ((-2 : Int32), M) := by unfold c_promise; rw [if_pos z0, if_pos z1, if_neg z2]
          rw [e] at h
          repeat' (first | (with_reducible exact hmn) | (with_reducible exact h) | apply And.intro | exact rfl | (intro hx; with_reducible exact absurd hx q0) | (intro hx; with_reducible exact absurd hx q1) | (intro hx; with_reducible exact absurd q2 hx) | (intro hx; exact absurd hx (by decide)) | (intro hx; exact absurd (by decide) hx) | decide | intro hx | (refine Exists.intro _ (And.intro rfl ?_)))
          all_goals try first | (with_reducible change am_tI _ _) | (change Ret _ _) | (change Ret _ _ _) | (change Exists _)
          all_goals try dsimp only at *
          all_goals try (with_reducible exact absurd ‹(1000 : Int64) = 0› am_z1000)
          all_goals first | exact h | skip
        · skip
          have q2 : ¬ ((if 1 ≤ c ∧ c ≤ 1000000000 then (1 : Int32) else 0) = 0) := by rw [if_pos z2]; decide
          by_cases z3 : M.1 54 2 < 20
          rotate_left
          · skip
            have y3 : (20 : Int32) ≤ M.1 54 2 := Int32.not_lt.mp z3
            have e : c_promise M b y c = ((-4 : Int32), M) := by unfold c_promise; rw [if_pos z0, if_pos z1, if_pos z2, if_neg z3]
            rw [e] at h
            repeat' (first | (with_reducible exact hmn) | (with_reducible exact h) | apply And.intro | exact rfl | (intro hx; with_reducible exact absurd hx q0) | (intro hx; with_reducible exact absurd hx q1) | (intro hx; with_reducible exact absurd hx q2) | (intro hx; with_reducible exact absurd hx z3) | (intro hx; with_reducible exact absurd y3 hx) | (intro hx; exact absurd hx (by decide)) | (intro hx; exact absurd (by decide) hx) | decide | intro hx | (refine Exists.intro _ (And.intro rfl ?_)))
            all_goals try first | (with_reducible change am_tI _ _) | (change Ret _ _) | (change Ret _ _ _) | (change Exists _)
            all_goals try dsimp only at *
            all_goals try (with_reducible exact absurd ‹(1000 : Int64) = 0› am_z1000)
            all_goals first | exact h | skip
          · skip
            have y3 : ¬ (20 : Int32) ≤ M.1 54 2 := Int32.not_le.mpr z3
            have e : c_promise M b y c = (M.1 54 2 + 1 - 1 + 1, am_radd M 54 55 b y c) := by unfold c_promise; rw [if_pos z0, if_pos z1, if_pos z2, if_pos z3]
            rw [e] at h
            repeat' (first | (with_reducible exact hmn) | apply And.intro | exact rfl | (intro hx; with_reducible exact absurd hx q0) | (intro hx; with_reducible exact absurd hx q1) | (intro hx; with_reducible exact absurd hx q2) | (intro hx; with_reducible exact absurd hx y3) | (intro hx; with_reducible exact absurd z3 hx) | (intro hx; exact absurd hx (by decide)) | (intro hx; exact absurd (by decide) hx) | decide | intro hx | (refine Exists.intro _ (And.intro rfl ?_)))
            all_goals try first | (with_reducible change am_tI _ _) | (change Ret _ _) | (change Ret _ _ _) | (change Exists _)
            all_goals try dsimp only at *
            all_goals try (with_reducible exact absurd ‹(1000 : Int64) = 0› am_z1000)
            all_goals first | exact h | skip
  · exact h.elim
set_option maxRecDepth 100000 in
theorem wd_220 : Cond.fieldLink "LearnLoans" 206 "LearnLoans$House" "lives" "[I" ∈ am_ws := am_wt1 (List.mem_of_getElem? (i := 163) (by rfl)) (by decide +kernel)
def rwX7_live : List dz_r := [(0, .iload_n 1, 1), (1, .iconst 0, 1), (2, .iconst 3, 1), (3, .invokestatic 55, 3), (6, .ifCond .eq 19, 3), (9, .iload_n 2, 1), (10, .iload_n 3, 1), (11, .invokestatic 59, 3), (14, .ifCond .eq 11, 3), (17, .iload 4, 2), (19, .invokestatic 79, 3), (22, .ifCond .ne 6, 3), (25, .bipush (-2), 2), (27, .ireturn, 1), (28, .aload_n 0, 1), (29, .getfield 27, 3), (32, .getfield 206, 3), (35, .iload_n 1, 1), (36, .bipush 40, 2), (38, .imul, 1), (39, .iload_n 2, 1), (40, .iadd, 1), (41, .iload_n 1, 1), (42, .bipush 40, 2), (44, .imul, 1), (45, .iload_n 3, 1), (46, .iadd, 1), (47, .iload 4, 2), (49, .invokestatic 66, 3), (52, .iconst 1, 1), (53, .ireturn, 1)]
theorem dzX7_live : dz cX7_live rwX7_live := dz_all 0 (by decide +kernel)
def kX7_live (live : am_E) (Ret : am_R) : am_code := [(0, am_iload 1 1), (1, am_const (.int 0) 2), (2, am_const (.int 3) 3), (3, am_callS live 3 TX7_within 6), (6, am_if1 (fun x => x = 0) 25 9), (9, am_iload 2 10), (10, am_iload 3 11), (11, am_callS live 2 TX7_isSpan 14), (14, am_if1 (fun x => x = 0) 25 17), (17, am_iload 4 19), (19, am_callS live 1 TX7_isPence 22), (22, am_if1 (fun x => x = 0) 25 28), (25, am_const (.int (-2)) 27), (27, am_retI Ret), (28, am_aload 0 29), (29, am_getR live 7 0 32), (32, am_getR live 0 9 35), (35, am_iload 1 36), (36, am_const (.int 40) 38), (38, am_i2 (fun x y => x * y) 39), (39, am_iload 2 40), (40, am_i2 (fun x y => x + y) 41), (41, am_iload 1 42), (42, am_const (.int 40) 44), (44, am_i2 (fun x y => x * y) 45), (45, am_iload 3 46), (46, am_i2 (fun x y => x + y) 47), (47, am_iload 4 49), (49, am_callS live 4 TX7_lay 52), (52, am_const (.int 1) 53), (53, am_retI Ret)]
theorem koX7_live (live : am_E) (Ret : am_R) : ∀ q ∈ kX7_live live Ret, am_ok RX7 cX7_live 5 (some .int) 2 47 live Ret q.1 q.2 :=
  am_kz dzX7_live <|
  am_kd (fun d => ak_iload_n d rfl rfl) <|
  am_kd (fun d => ak_iconst d (by decide +kernel) rfl) <|
  am_kd (fun d => ak_iconst d (by decide +kernel) rfl) <|
  am_kd (fun d => ak_callS metX7_within ⟨rfl, hy_X7_within⟩ (am_w4 wd_418 wd_419 wd_58 wd_420) (by decide) d rfl) <|
  am_kd (fun d => ak_if_eq d (by decide +kernel) rfl) <|
  am_kd (fun d => ak_iload_n d rfl rfl) <|
  am_kd (fun d => ak_iload_n d rfl rfl) <|
  am_kd (fun d => ak_callS metX7_isSpan ⟨rfl, hy_X7_isSpan⟩ (am_w4 wd_421 wd_422 wd_58 wd_423) (by decide) d rfl) <|
  am_kd (fun d => ak_if_eq d (by decide +kernel) rfl) <|
  am_kd (fun d => ak_iload d rfl) <|
  am_kd (fun d => ak_callS metX7_isPence ⟨rfl, hy_X7_isPence⟩ (am_w4 wd_446 wd_447 wd_58 wd_448) (by decide) d rfl) <|
  am_kd (fun d => ak_if_ne d (by decide +kernel) rfl) <|
  am_kd (fun d => ak_bipush d (by decide +kernel) rfl) <|
  am_kd (fun d => ak_retI d) <|
  am_kd (fun d => ak_aload_n d rfl rfl) <|
  am_kd (fun d => ak_getR (C := RX7) (T := TX7) (N := 4) rfl inX7w (by decide) rfl rfl rfl wd_390 d rfl) <|
  am_kd (fun d => ak_getR (C := RX0) (T := TX0) (N := 13) rfl inX0w (by decide) rfl rfl rfl wd_220 d rfl) <|
  am_kd (fun d => ak_iload_n d rfl rfl) <|
  am_kd (fun d => ak_bipush d (by decide +kernel) rfl) <|
  am_kd (fun d => ak_imul d rfl) <|
  am_kd (fun d => ak_iload_n d rfl rfl) <|
  am_kd (fun d => ak_iadd d rfl) <|
  am_kd (fun d => ak_iload_n d rfl rfl) <|
  am_kd (fun d => ak_bipush d (by decide +kernel) rfl) <|
  am_kd (fun d => ak_imul d rfl) <|
  am_kd (fun d => ak_iload_n d rfl rfl) <|
  am_kd (fun d => ak_iadd d rfl) <|
  am_kd (fun d => ak_iload d rfl) <|
  am_kd (fun d => ak_callS metX7_lay ⟨rfl, hy_X7_lay⟩ (am_w4 wd_424 wd_425 wd_58 wd_426) (by decide) d rfl) <|
  am_kd (fun d => ak_iconst d (by decide +kernel) rfl) <|
  am_kd (fun d => ak_retI d) <| am_kdn
def c_live (M : am_M) (l f t c : Int32) : Int32 × am_M := if 0 ≤ l ∧ l ≤ 3 then (if 0 ≤ f ∧ f ≤ t ∧ t < 40 then (if 0 ≤ c ∧ c ≤ 10000000 then (1, am_lay M 56 (max (l * 40 + f).toInt 0) (min (l * 40 + t).toInt ((am_len 56 : Int) - 1)) c) else ((-2 : Int32), M)) else ((-2 : Int32), M)) else ((-2 : Int32), M)
def TX7_live : am_T := fun live as M R => match as with
  | [.ref n, .int l, .int f, .int t, .int c] => am_mn live ∧ n = 0 ∧ (g_hI M ∧ g_rI M) ∧ R (some (.int (c_live M l f t c).1)) (c_live M l f t c).2
  | _ => False
set_option maxRecDepth 100000 in
set_option maxHeartbeats 4000000 in
theorem metX7_live : am_Met yX7_live cX7_live 5 (some .int) (2) (47) TX7_live := by
  refine am_met (own := RX7) (by decide +kernel) rfl kX7_live koX7_live 150 (fun _ _ _ _ _ => none) (fun live as M Ret h => ?_) (fun _ _ _ _ _ _ _ _ hI => by cases hI)
  unfold TX7_live at h
  split at h
  · next n l f t c =>
    refine ⟨Nat.le_of_ble_eq_true rfl, ?_⟩
    change am_wp _ _ _ _ [(0, Value.ref n), (1, Value.int l), (2, Value.int f), (3, Value.int t), (4, Value.int c)] _ _
    obtain ⟨hmn, rfl, ⟨hH, hR⟩, h⟩ := h
    have hmn2 := hmn
    obtain ⟨i1, i2, rfl⟩ := hmn2
    by_cases z0 : 0 ≤ l ∧ l ≤ 3
    rotate_left
    · skip
      have q0 : (if 0 ≤ l ∧ l ≤ 3 then (1 : Int32) else 0) = 0 := if_neg z0
      have e : c_live M l f t c = ((-2 : Int32), M) := by unfold c_live; rw [if_neg z0]
      rw [e] at h
      repeat' (first | (with_reducible exact hmn) | (with_reducible exact h) | apply And.intro | exact rfl | (intro hx; with_reducible exact absurd q0 hx) | (intro hx; exact absurd hx (by decide)) | (intro hx; exact absurd (by decide) hx) | decide | intro hx | (refine Exists.intro _ (And.intro rfl ?_)))
      all_goals try first | (with_reducible change am_tI _ _) | (change Ret _ _) | (change Ret _ _ _) | (change Exists _)
      all_goals try dsimp only at *
      all_goals try (with_reducible exact absurd ‹(1000 : Int64) = 0› am_z1000)
      all_goals first | exact h | skip
    · skip
      have q0 : ¬ ((if 0 ≤ l ∧ l ≤ 3 then (1 : Int32) else 0) = 0) := by rw [if_pos z0]; decide
      by_cases z1 : 0 ≤ f ∧ f ≤ t ∧ t < 40
      rotate_left
      · skip
        have q1 : (if 0 ≤ f ∧ f ≤ t ∧ t < 40 then (1 : Int32) else 0) = 0 := if_neg z1
        have e : c_live M l f t c = ((-2 : Int32), M) := by unfold c_live; rw [if_pos z0, if_neg z1]
        rw [e] at h
        repeat' (first | (with_reducible exact hmn) | (with_reducible exact h) | apply And.intro | exact rfl | (intro hx; with_reducible exact absurd hx q0) | (intro hx; with_reducible exact absurd q1 hx) | (intro hx; exact absurd hx (by decide)) | (intro hx; exact absurd (by decide) hx) | decide | intro hx | (refine Exists.intro _ (And.intro rfl ?_)))
        all_goals try first | (with_reducible change am_tI _ _) | (change Ret _ _) | (change Ret _ _ _) | (change Exists _)
        all_goals try dsimp only at *
        all_goals try (with_reducible exact absurd ‹(1000 : Int64) = 0› am_z1000)
        all_goals first | exact h | skip
      · skip
        have q1 : ¬ ((if 0 ≤ f ∧ f ≤ t ∧ t < 40 then (1 : Int32) else 0) = 0) := by rw [if_pos z1]; decide
        by_cases z2 : 0 ≤ c ∧ c ≤ 10000000
        rotate_left
        · skip
          have q2 : (if 0 ≤ c ∧ c ≤ 10000000 then (1 : Int32) else 0) = 0 := if_neg z2
          have e : c_live M l f t c = ((-2 : Int32), M) := by unfold c_live; rw [if_pos z0, if_pos z1, if_neg z2]
          rw [e] at h
          repeat' (first | (with_reducible exact hmn) | (with_reducible exact h) | apply And.intro | exact rfl | (intro hx; with_reducible exact absurd hx q0) | (intro hx; with_reducible exact absurd hx q1) | (intro hx; with_reducible exact absurd q2 hx) | (intro hx; exact absurd hx (by decide)) | (intro hx; exact absurd (by decide) hx) | decide | intro hx | (refine Exists.intro _ (And.intro rfl ?_)))
          all_goals try first | (with_reducible change am_tI _ _) | (change Ret _ _) | (change Ret _ _ _) | (change Exists _)
          all_goals try dsimp only at *
          all_goals try (with_reducible exact absurd ‹(1000 : Int64) = 0› am_z1000)
          all_goals first | exact h | skip
        · skip
          have q2 : ¬ ((if 0 ≤ c ∧ c ≤ 10000000 then (1 : Int32) else 0) = 0) := by rw [if_pos z2]; decide
          have e : c_live M l f t c = (1, am_lay M 56 (max (l * 40 + f).toInt 0) (min (l * 40 + t).toInt ((am_len 56 : Int) - 1)) c) := by unfold c_live; rw [if_pos z0, if_pos z1, if_pos z2]
          rw [e] at h
          repeat' (first | (with_reducible exact hmn) | apply And.intro | exact rfl | (intro hx; with_reducible exact absurd hx q0) | (intro hx; with_reducible exact absurd hx q1) | (intro hx; with_reducible exact absurd hx q2) | (intro hx; exact absurd hx (by decide)) | (intro hx; exact absurd (by decide) hx) | decide | intro hx | (refine Exists.intro _ (And.intro rfl ?_)))
          all_goals try first | (with_reducible change am_tI _ _) | (change Ret _ _) | (change Ret _ _ _) | (change Exists _)
          all_goals try dsimp only at *
          all_goals try (with_reducible exact absurd ‹(1000 : Int64) = 0› am_z1000)
          all_goals first | exact h | skip
  · exact h.elim
set_option maxRecDepth 100000 in
theorem wd_227 : Cond.fieldLink "LearnLoans" 243 "LearnLoans$House" "toldSize" "I" ∈ am_ws := am_wt1 (List.mem_of_getElem? (i := 170) (by rfl)) (by decide +kernel)
set_option maxRecDepth 100000 in
theorem wd_225 : Cond.fieldLink "LearnLoans" 246 "LearnLoans$House" "told" "[I" ∈ am_ws := am_wt1 (List.mem_of_getElem? (i := 168) (by rfl)) (by decide +kernel)
def rwX7_tell : List dz_r := [(0, .iload_n 1, 1), (1, .invokestatic 79, 3), (4, .ifCond .ne 6, 3), (7, .bipush (-2), 2), (9, .ireturn, 1), (10, .aload_n 0, 1), (11, .getfield 27, 3), (14, .getfield 243, 3), (17, .bipush 9, 2), (19, .if_icmp .lt 6, 3), (22, .bipush (-4), 2), (24, .ireturn, 1), (25, .aload_n 0, 1), (26, .getfield 27, 3), (29, .getfield 246, 3), (32, .aload_n 0, 1), (33, .getfield 27, 3), (36, .getfield 243, 3), (39, .iload_n 1, 1), (40, .iastore, 1), (41, .aload_n 0, 1), (42, .getfield 27, 3), (45, .dup, 1), (46, .getfield 243, 3), (49, .iconst 1, 1), (50, .iadd, 1), (51, .putfield 243, 3), (54, .aload_n 0, 1), (55, .getfield 27, 3), (58, .getfield 243, 3), (61, .ireturn, 1)]
theorem dzX7_tell : dz cX7_tell rwX7_tell := dz_all 0 (by decide +kernel)
def kX7_tell (live : am_E) (Ret : am_R) : am_code := [(0, am_iload 1 1), (1, am_callS live 1 TX7_isPence 4), (4, am_if1 (fun x => x = 0) 7 10), (7, am_const (.int (-2)) 9), (9, am_retI Ret), (10, am_aload 0 11), (11, am_getR live 7 0 14), (14, am_getI live 0 12 17), (17, am_const (.int 9) 19), (19, am_if2 (fun x y => x < y) 25 22), (22, am_const (.int (-4)) 24), (24, am_retI Ret), (25, am_aload 0 26), (26, am_getR live 7 0 29), (29, am_getR live 0 11 32), (32, am_aload 0 33), (33, am_getR live 7 0 36), (36, am_getI live 0 12 39), (39, am_iload 1 40), (40, am_ast live 0 41), (41, am_aload 0 42), (42, am_getR live 7 0 45), (45, am_dup 46), (46, am_getI live 0 12 49), (49, am_const (.int 1) 50), (50, am_i2 (fun x y => x + y) 51), (51, am_putI live 0 12 54), (54, am_aload 0 55), (55, am_getR live 7 0 58), (58, am_getI live 0 12 61), (61, am_retI Ret)]
theorem koX7_tell (live : am_E) (Ret : am_R) : ∀ q ∈ kX7_tell live Ret, am_ok RX7 cX7_tell 2 (some .int) 1 20 live Ret q.1 q.2 :=
  am_kz dzX7_tell <|
  am_kd (fun d => ak_iload_n d rfl rfl) <|
  am_kd (fun d => ak_callS metX7_isPence ⟨rfl, hy_X7_isPence⟩ (am_w4 wd_446 wd_447 wd_58 wd_448) (by decide) d rfl) <|
  am_kd (fun d => ak_if_ne d (by decide +kernel) rfl) <|
  am_kd (fun d => ak_bipush d (by decide +kernel) rfl) <|
  am_kd (fun d => ak_retI d) <|
  am_kd (fun d => ak_aload_n d rfl rfl) <|
  am_kd (fun d => ak_getR (C := RX7) (T := TX7) (N := 4) rfl inX7w (by decide) rfl rfl rfl wd_390 d rfl) <|
  am_kd (fun d => ak_getI (C := RX0) (T := TX0) (N := 13) rfl inX0w (by decide) rfl rfl rfl wd_227 d rfl) <|
  am_kd (fun d => ak_bipush d (by decide +kernel) rfl) <|
  am_kd (fun d => ak_icmp_lt d (by decide +kernel) rfl) <|
  am_kd (fun d => ak_bipush d (by decide +kernel) rfl) <|
  am_kd (fun d => ak_retI d) <|
  am_kd (fun d => ak_aload_n d rfl rfl) <|
  am_kd (fun d => ak_getR (C := RX7) (T := TX7) (N := 4) rfl inX7w (by decide) rfl rfl rfl wd_390 d rfl) <|
  am_kd (fun d => ak_getR (C := RX0) (T := TX0) (N := 13) rfl inX0w (by decide) rfl rfl rfl wd_225 d rfl) <|
  am_kd (fun d => ak_aload_n d rfl rfl) <|
  am_kd (fun d => ak_getR (C := RX7) (T := TX7) (N := 4) rfl inX7w (by decide) rfl rfl rfl wd_390 d rfl) <|
  am_kd (fun d => ak_getI (C := RX0) (T := TX0) (N := 13) rfl inX0w (by decide) rfl rfl rfl wd_227 d rfl) <|
  am_kd (fun d => ak_iload_n d rfl rfl) <|
  am_kd (fun d => ak_iast (t := 0) (fun _ => rfl) rfl d rfl) <|
  am_kd (fun d => ak_aload_n d rfl rfl) <|
  am_kd (fun d => ak_getR (C := RX7) (T := TX7) (N := 4) rfl inX7w (by decide) rfl rfl rfl wd_390 d rfl) <|
  am_kd (fun d => ak_dup d rfl) <|
  am_kd (fun d => ak_getI (C := RX0) (T := TX0) (N := 13) rfl inX0w (by decide) rfl rfl rfl wd_227 d rfl) <|
  am_kd (fun d => ak_iconst d (by decide +kernel) rfl) <|
  am_kd (fun d => ak_iadd d rfl) <|
  am_kd (fun d => ak_putI (C := RX0) (T := TX0) (N := 13) rfl inX0w tyX0_ok nmX0 (by decide) rfl rfl rfl rfl (by decide +kernel) wd_227 d rfl) <|
  am_kd (fun d => ak_aload_n d rfl rfl) <|
  am_kd (fun d => ak_getR (C := RX7) (T := TX7) (N := 4) rfl inX7w (by decide) rfl rfl rfl wd_390 d rfl) <|
  am_kd (fun d => ak_getI (C := RX0) (T := TX0) (N := 13) rfl inX0w (by decide) rfl rfl rfl wd_227 d rfl) <|
  am_kd (fun d => ak_retI d) <| am_kdn
def c_tell (M : am_M) (v : Int32) : Int32 × am_M := if 0 ≤ v ∧ v ≤ 10000000 then (if M.1 20 12 < 9 then (M.1 20 12 + 1, am_wI (am_wI M 58 (M.1 20 12).toNatClampNeg v) 20 12 (M.1 20 12 + 1)) else ((-4 : Int32), M)) else ((-2 : Int32), M)
def TX7_tell : am_T := fun live as M R => match as with
  | [.ref n, .int v] => am_mn live ∧ n = 0 ∧ (g_hI M ∧ g_rI M) ∧ R (some (.int (c_tell M v).1)) (c_tell M v).2
  | _ => False
set_option maxRecDepth 100000 in
set_option maxHeartbeats 4000000 in
theorem metX7_tell : am_Met yX7_tell cX7_tell 2 (some .int) (1) (20) TX7_tell := by
  refine am_met (own := RX7) (by decide +kernel) rfl kX7_tell koX7_tell 150 (fun _ _ _ _ _ => none) (fun live as M Ret h => ?_) (fun _ _ _ _ _ _ _ _ hI => by cases hI)
  unfold TX7_tell at h
  split at h
  · next n v =>
    refine ⟨Nat.le_of_ble_eq_true rfl, ?_⟩
    change am_wp _ _ _ _ [(0, Value.ref n), (1, Value.int v)] _ _
    obtain ⟨hmn, rfl, ⟨hH, hR⟩, h⟩ := h
    have hmn2 := hmn
    obtain ⟨i1, i2, rfl⟩ := hmn2
    by_cases z0 : 0 ≤ v ∧ v ≤ 10000000
    rotate_left
    · skip
      have q0 : (if 0 ≤ v ∧ v ≤ 10000000 then (1 : Int32) else 0) = 0 := if_neg z0
      have e : c_tell M v = ((-2 : Int32), M) := by unfold c_tell; rw [if_neg z0]
      rw [e] at h
      repeat' (first | (with_reducible exact hmn) | (with_reducible exact h) | apply And.intro | exact rfl | (intro hx; with_reducible exact absurd q0 hx) | (intro hx; exact absurd hx (by decide)) | (intro hx; exact absurd (by decide) hx) | decide | intro hx | (refine Exists.intro _ (And.intro rfl ?_)))
      all_goals try first | (with_reducible change am_tI _ _) | (change Ret _ _) | (change Ret _ _ _) | (change Exists _)
      all_goals try dsimp only at *
      all_goals try (with_reducible exact absurd ‹(1000 : Int64) = 0› am_z1000)
      all_goals first | (with_reducible exact h) | omega | (rw [l58]; omega) | exact h | skip
    · skip
      have q0 : ¬ ((if 0 ≤ v ∧ v ≤ 10000000 then (1 : Int32) else 0) = 0) := by rw [if_pos z0]; decide
      by_cases z1 : M.1 20 12 < 9
      rotate_left
      · skip
        have y1 : (9 : Int32) ≤ M.1 20 12 := Int32.not_lt.mp z1
        have e : c_tell M v = ((-4 : Int32), M) := by unfold c_tell; rw [if_pos z0, if_neg z1]
        rw [e] at h
        repeat' (first | (with_reducible exact hmn) | (with_reducible exact h) | apply And.intro | exact rfl | (intro hx; with_reducible exact absurd hx q0) | (intro hx; with_reducible exact absurd hx z1) | (intro hx; with_reducible exact absurd y1 hx) | (intro hx; exact absurd hx (by decide)) | (intro hx; exact absurd (by decide) hx) | decide | intro hx | (refine Exists.intro _ (And.intro rfl ?_)))
        all_goals try first | (with_reducible change am_tI _ _) | (change Ret _ _) | (change Ret _ _ _) | (change Exists _)
        all_goals try dsimp only at *
        all_goals try (with_reducible exact absurd ‹(1000 : Int64) = 0› am_z1000)
        all_goals first | (with_reducible exact h) | omega | (rw [l58]; omega) | exact h | skip
      · skip
        have y1 : ¬ (9 : Int32) ≤ M.1 20 12 := Int32.not_le.mpr z1
        have l58 : am_len 58 = 9 := rfl
        have q := hH.to
        have zb : (M.1 20 12).toInt < 9 := by have q := z1; simp only [i_lt, Int32.reduceToInt] at q; exact q
        have e : c_tell M v = (M.1 20 12 + 1, am_wI (am_wI M 58 (M.1 20 12).toNatClampNeg v) 20 12 (M.1 20 12 + 1)) := by unfold c_tell; rw [if_pos z0, if_pos z1]
        rw [e] at h
        repeat' (first | (with_reducible exact hmn) | apply And.intro | exact rfl | (intro hx; with_reducible exact absurd hx q0) | (intro hx; with_reducible exact absurd hx y1) | (intro hx; with_reducible exact absurd z1 hx) | (intro hx; exact absurd hx (by decide)) | (intro hx; exact absurd (by decide) hx) | decide | intro hx | (refine Exists.intro _ (And.intro rfl ?_)))
        all_goals try first | (with_reducible change am_tI _ _) | (change Ret _ _) | (change Ret _ _ _) | (change Exists _)
        all_goals try dsimp only at *
        all_goals try (with_reducible exact absurd ‹(1000 : Int64) = 0› am_z1000)
        all_goals first | (with_reducible exact h) | omega | (rw [l58]; omega) | exact h | skip
  · exact h.elim
def rwX7_untell : List dz_r := [(0, .aload_n 0, 1), (1, .getfield 27, 3), (4, .getfield 243, 3), (7, .istore_n 1, 1), (8, .aload_n 0, 1), (9, .getfield 27, 3), (12, .iconst 0, 1), (13, .putfield 243, 3), (16, .iload_n 1, 1), (17, .ireturn, 1)]
theorem dzX7_untell : dz cX7_untell rwX7_untell := dz_all 0 (by decide +kernel)
def kX7_untell (live : am_E) (Ret : am_R) : am_code := [(0, am_aload 0 1), (1, am_getR live 7 0 4), (4, am_getI live 0 12 7), (7, am_istore 1 2 8), (8, am_aload 0 9), (9, am_getR live 7 0 12), (12, am_const (.int 0) 13), (13, am_putI live 0 12 16), (16, am_iload 1 17), (17, am_retI Ret)]
theorem koX7_untell (live : am_E) (Ret : am_R) : ∀ q ∈ kX7_untell live Ret, am_ok RX7 cX7_untell 2 (some .int) 0 0 live Ret q.1 q.2 :=
  am_kz dzX7_untell <|
  am_kd (fun d => ak_aload_n d rfl rfl) <|
  am_kd (fun d => ak_getR (C := RX7) (T := TX7) (N := 4) rfl inX7w (by decide) rfl rfl rfl wd_390 d rfl) <|
  am_kd (fun d => ak_getI (C := RX0) (T := TX0) (N := 13) rfl inX0w (by decide) rfl rfl rfl wd_227 d rfl) <|
  am_kd (fun d => ak_istore_n d rfl rfl) <|
  am_kd (fun d => ak_aload_n d rfl rfl) <|
  am_kd (fun d => ak_getR (C := RX7) (T := TX7) (N := 4) rfl inX7w (by decide) rfl rfl rfl wd_390 d rfl) <|
  am_kd (fun d => ak_iconst d (by decide +kernel) rfl) <|
  am_kd (fun d => ak_putI (C := RX0) (T := TX0) (N := 13) rfl inX0w tyX0_ok nmX0 (by decide) rfl rfl rfl rfl (by decide +kernel) wd_227 d rfl) <|
  am_kd (fun d => ak_iload_n d rfl rfl) <|
  am_kd (fun d => ak_retI d) <| am_kdn
def c_untell (M : am_M) : Int32 × am_M := (M.1 20 12, am_wI M 20 12 0)
def TX7_untell : am_T := fun live as M R => match as with
  | [.ref n] => am_mn live ∧ n = 0 ∧ (g_hI M ∧ g_rI M) ∧ R (some (.int (c_untell M).1)) (c_untell M).2
  | _ => False
set_option maxRecDepth 100000 in
set_option maxHeartbeats 4000000 in
theorem metX7_untell : am_Met yX7_untell cX7_untell 2 (some .int) (0) (0) TX7_untell := by
  refine am_met (own := RX7) (by decide +kernel) rfl kX7_untell koX7_untell 150 (fun _ _ _ _ _ => none) (fun live as M Ret h => ?_) (fun _ _ _ _ _ _ _ _ hI => by cases hI)
  unfold TX7_untell at h
  split at h
  · next n =>
    refine ⟨Nat.le_of_ble_eq_true rfl, ?_⟩
    change am_wp _ _ _ _ [(0, Value.ref n)] _ _
    obtain ⟨hmn, rfl, ⟨hH, hR⟩, h⟩ := h
    have hmn2 := hmn
    obtain ⟨i1, i2, rfl⟩ := hmn2
    have e : c_untell M = (M.1 20 12, am_wI M 20 12 0) := by rfl
    rw [e] at h
    repeat' (first | (with_reducible exact hmn) | apply And.intro | exact rfl | (intro hx; exact absurd hx (by decide)) | (intro hx; exact absurd (by decide) hx) | decide | intro hx | (refine Exists.intro _ (And.intro rfl ?_)))
    all_goals try first | (with_reducible change am_tI _ _) | (change Ret _ _) | (change Ret _ _ _) | (change Exists _)
    all_goals try dsimp only at *
    all_goals try (with_reducible exact absurd ‹(1000 : Int64) = 0› am_z1000)
    all_goals first | exact h | skip
  · exact h.elim
theorem hy_X7_isChance : yX7_isChance.cls ≠ "java/lang/invoke/MethodHandle" ∧ yX7_isChance.cls ≠ "java/lang/invoke/VarHandle" ∧ (parseMethodDescriptor yX7_isChance.desc).map (fun d => d.parameters.length) = some 1 := ⟨by decide +kernel, by decide +kernel, by decide +kernel⟩
set_option maxRecDepth 100000 in
theorem wd_773 : Cond.methodLink "LearnLoans" 217 yX7_isChance ∈ am_ws := am_wt3 (List.mem_of_getElem? (i := 236) (by rfl)) (by decide +kernel)
set_option maxRecDepth 100000 in
theorem wd_774 : Cond.static yX7_isChance ∈ am_ws := am_wt3 (List.mem_of_getElem? (i := 237) (by rfl)) (by decide +kernel)
set_option maxRecDepth 100000 in
theorem wd_775 : Cond.code yX7_isChance cX7_isChance 1 (some .boolean) ∈ am_ws := am_wt3 (List.mem_of_getElem? (i := 238) (by rfl)) (by decide +kernel)
set_option maxRecDepth 100000 in
theorem wd_223 : Cond.fieldLink "LearnLoans" 220 "LearnLoans$House" "chances" "[I" ∈ am_ws := am_wt1 (List.mem_of_getElem? (i := 166) (by rfl)) (by decide +kernel)
def rwX7_chances : List dz_r := [(0, .iload_n 1, 1), (1, .iconst 0, 1), (2, .iconst 2, 1), (3, .invokestatic 55, 3), (6, .ifCond .eq 17, 3), (9, .iload_n 2, 1), (10, .invokestatic 217, 3), (13, .ifCond .eq 10, 3), (16, .iload_n 3, 1), (17, .invokestatic 217, 3), (20, .ifCond .ne 6, 3), (23, .bipush (-2), 2), (25, .ireturn, 1), (26, .iload 4, 2), (28, .invokestatic 217, 3), (31, .ifCond .eq 25, 3), (34, .iload 5, 2), (36, .invokestatic 217, 3), (39, .ifCond .eq 17, 3), (42, .iload_n 2, 1), (43, .iload_n 3, 1), (44, .iadd, 1), (45, .iload 4, 2), (47, .iadd, 1), (48, .iload 5, 2), (50, .iadd, 1), (51, .bipush 10, 2), (53, .if_icmp .eq 6, 3), (56, .bipush (-2), 2), (58, .ireturn, 1), (59, .iload_n 1, 1), (60, .iconst 4, 1), (61, .imul, 1), (62, .istore 6, 2), (64, .aload_n 0, 1), (65, .getfield 27, 3), (68, .getfield 220, 3), (71, .iload 6, 2), (73, .iconst 0, 1), (74, .iadd, 1), (75, .iload_n 2, 1), (76, .iastore, 1), (77, .aload_n 0, 1), (78, .getfield 27, 3), (81, .getfield 220, 3), (84, .iload 6, 2), (86, .iconst 1, 1), (87, .iadd, 1), (88, .iload_n 3, 1), (89, .iastore, 1), (90, .aload_n 0, 1), (91, .getfield 27, 3), (94, .getfield 220, 3), (97, .iload 6, 2), (99, .iconst 2, 1), (100, .iadd, 1), (101, .iload 4, 2), (103, .iastore, 1), (104, .aload_n 0, 1), (105, .getfield 27, 3), (108, .getfield 220, 3), (111, .iload 6, 2), (113, .iconst 3, 1), (114, .iadd, 1), (115, .iload 5, 2), (117, .iastore, 1), (118, .iconst 1, 1), (119, .ireturn, 1)]
theorem dzX7_chances : dz cX7_chances rwX7_chances := dz_all 0 (by decide +kernel)
def kX7_chances (live : am_E) (Ret : am_R) : am_code := [(0, am_iload 1 1), (1, am_const (.int 0) 2), (2, am_const (.int 2) 3), (3, am_callS live 3 TX7_within 6), (6, am_if1 (fun x => x = 0) 23 9), (9, am_iload 2 10), (10, am_callS live 1 TX7_isChance 13), (13, am_if1 (fun x => x = 0) 23 16), (16, am_iload 3 17), (17, am_callS live 1 TX7_isChance 20), (20, am_if1 (fun x => x = 0) 23 26), (23, am_const (.int (-2)) 25), (25, am_retI Ret), (26, am_iload 4 28), (28, am_callS live 1 TX7_isChance 31), (31, am_if1 (fun x => x = 0) 56 34), (34, am_iload 5 36), (36, am_callS live 1 TX7_isChance 39), (39, am_if1 (fun x => x = 0) 56 42), (42, am_iload 2 43), (43, am_iload 3 44), (44, am_i2 (fun x y => x + y) 45), (45, am_iload 4 47), (47, am_i2 (fun x y => x + y) 48), (48, am_iload 5 50), (50, am_i2 (fun x y => x + y) 51), (51, am_const (.int 10) 53), (53, am_if2 (fun x y => x = y) 59 56), (56, am_const (.int (-2)) 58), (58, am_retI Ret), (59, am_iload 1 60), (60, am_const (.int 4) 61), (61, am_i2 (fun x y => x * y) 62), (62, am_istore 6 7 64), (64, am_aload 0 65), (65, am_getR live 7 0 68), (68, am_getR live 0 10 71), (71, am_iload 6 73), (73, am_const (.int 0) 74), (74, am_i2 (fun x y => x + y) 75), (75, am_iload 2 76), (76, am_ast live 0 77), (77, am_aload 0 78), (78, am_getR live 7 0 81), (81, am_getR live 0 10 84), (84, am_iload 6 86), (86, am_const (.int 1) 87), (87, am_i2 (fun x y => x + y) 88), (88, am_iload 3 89), (89, am_ast live 0 90), (90, am_aload 0 91), (91, am_getR live 7 0 94), (94, am_getR live 0 10 97), (97, am_iload 6 99), (99, am_const (.int 2) 100), (100, am_i2 (fun x y => x + y) 101), (101, am_iload 4 103), (103, am_ast live 0 104), (104, am_aload 0 105), (105, am_getR live 7 0 108), (108, am_getR live 0 10 111), (111, am_iload 6 113), (113, am_const (.int 3) 114), (114, am_i2 (fun x y => x + y) 115), (115, am_iload 5 117), (117, am_ast live 0 118), (118, am_const (.int 1) 119), (119, am_retI Ret)]
theorem koX7_chances (live : am_E) (Ret : am_R) : ∀ q ∈ kX7_chances live Ret, am_ok RX7 cX7_chances 7 (some .int) 1 22 live Ret q.1 q.2 :=
  am_kz dzX7_chances <|
  am_kd (fun d => ak_iload_n d rfl rfl) <|
  am_kd (fun d => ak_iconst d (by decide +kernel) rfl) <|
  am_kd (fun d => ak_iconst d (by decide +kernel) rfl) <|
  am_kd (fun d => ak_callS metX7_within ⟨rfl, hy_X7_within⟩ (am_w4 wd_418 wd_419 wd_58 wd_420) (by decide) d rfl) <|
  am_kd (fun d => ak_if_eq d (by decide +kernel) rfl) <|
  am_kd (fun d => ak_iload_n d rfl rfl) <|
  am_kd (fun d => ak_callS metX7_isChance ⟨rfl, hy_X7_isChance⟩ (am_w4 wd_773 wd_774 wd_58 wd_775) (by decide) d rfl) <|
  am_kd (fun d => ak_if_eq d (by decide +kernel) rfl) <|
  am_kd (fun d => ak_iload_n d rfl rfl) <|
  am_kd (fun d => ak_callS metX7_isChance ⟨rfl, hy_X7_isChance⟩ (am_w4 wd_773 wd_774 wd_58 wd_775) (by decide) d rfl) <|
  am_kd (fun d => ak_if_ne d (by decide +kernel) rfl) <|
  am_kd (fun d => ak_bipush d (by decide +kernel) rfl) <|
  am_kd (fun d => ak_retI d) <|
  am_kd (fun d => ak_iload d rfl) <|
  am_kd (fun d => ak_callS metX7_isChance ⟨rfl, hy_X7_isChance⟩ (am_w4 wd_773 wd_774 wd_58 wd_775) (by decide) d rfl) <|
  am_kd (fun d => ak_if_eq d (by decide +kernel) rfl) <|
  am_kd (fun d => ak_iload d rfl) <|
  am_kd (fun d => ak_callS metX7_isChance ⟨rfl, hy_X7_isChance⟩ (am_w4 wd_773 wd_774 wd_58 wd_775) (by decide) d rfl) <|
  am_kd (fun d => ak_if_eq d (by decide +kernel) rfl) <|
  am_kd (fun d => ak_iload_n d rfl rfl) <|
  am_kd (fun d => ak_iload_n d rfl rfl) <|
  am_kd (fun d => ak_iadd d rfl) <|
  am_kd (fun d => ak_iload d rfl) <|
  am_kd (fun d => ak_iadd d rfl) <|
  am_kd (fun d => ak_iload d rfl) <|
  am_kd (fun d => ak_iadd d rfl) <|
  am_kd (fun d => ak_bipush d (by decide +kernel) rfl) <|
  am_kd (fun d => ak_icmp_eq d (by decide +kernel) rfl) <|
  am_kd (fun d => ak_bipush d (by decide +kernel) rfl) <|
  am_kd (fun d => ak_retI d) <|
  am_kd (fun d => ak_iload_n d rfl rfl) <|
  am_kd (fun d => ak_iconst d (by decide +kernel) rfl) <|
  am_kd (fun d => ak_imul d rfl) <|
  am_kd (fun d => ak_istore d rfl) <|
  am_kd (fun d => ak_aload_n d rfl rfl) <|
  am_kd (fun d => ak_getR (C := RX7) (T := TX7) (N := 4) rfl inX7w (by decide) rfl rfl rfl wd_390 d rfl) <|
  am_kd (fun d => ak_getR (C := RX0) (T := TX0) (N := 13) rfl inX0w (by decide) rfl rfl rfl wd_223 d rfl) <|
  am_kd (fun d => ak_iload d rfl) <|
  am_kd (fun d => ak_iconst d (by decide +kernel) rfl) <|
  am_kd (fun d => ak_iadd d rfl) <|
  am_kd (fun d => ak_iload_n d rfl rfl) <|
  am_kd (fun d => ak_iast (t := 0) (fun _ => rfl) rfl d rfl) <|
  am_kd (fun d => ak_aload_n d rfl rfl) <|
  am_kd (fun d => ak_getR (C := RX7) (T := TX7) (N := 4) rfl inX7w (by decide) rfl rfl rfl wd_390 d rfl) <|
  am_kd (fun d => ak_getR (C := RX0) (T := TX0) (N := 13) rfl inX0w (by decide) rfl rfl rfl wd_223 d rfl) <|
  am_kd (fun d => ak_iload d rfl) <|
  am_kd (fun d => ak_iconst d (by decide +kernel) rfl) <|
  am_kd (fun d => ak_iadd d rfl) <|
  am_kd (fun d => ak_iload_n d rfl rfl) <|
  am_kd (fun d => ak_iast (t := 0) (fun _ => rfl) rfl d rfl) <|
  am_kd (fun d => ak_aload_n d rfl rfl) <|
  am_kd (fun d => ak_getR (C := RX7) (T := TX7) (N := 4) rfl inX7w (by decide) rfl rfl rfl wd_390 d rfl) <|
  am_kd (fun d => ak_getR (C := RX0) (T := TX0) (N := 13) rfl inX0w (by decide) rfl rfl rfl wd_223 d rfl) <|
  am_kd (fun d => ak_iload d rfl) <|
  am_kd (fun d => ak_iconst d (by decide +kernel) rfl) <|
  am_kd (fun d => ak_iadd d rfl) <|
  am_kd (fun d => ak_iload d rfl) <|
  am_kd (fun d => ak_iast (t := 0) (fun _ => rfl) rfl d rfl) <|
  am_kd (fun d => ak_aload_n d rfl rfl) <|
  am_kd (fun d => ak_getR (C := RX7) (T := TX7) (N := 4) rfl inX7w (by decide) rfl rfl rfl wd_390 d rfl) <|
  am_kd (fun d => ak_getR (C := RX0) (T := TX0) (N := 13) rfl inX0w (by decide) rfl rfl rfl wd_223 d rfl) <|
  am_kd (fun d => ak_iload d rfl) <|
  am_kd (fun d => ak_iconst d (by decide +kernel) rfl) <|
  am_kd (fun d => ak_iadd d rfl) <|
  am_kd (fun d => ak_iload d rfl) <|
  am_kd (fun d => ak_iast (t := 0) (fun _ => rfl) rfl d rfl) <|
  am_kd (fun d => ak_iconst d (by decide +kernel) rfl) <|
  am_kd (fun d => ak_retI d) <| am_kdn
def c_chances (M : am_M) (s w g a d : Int32) : Int32 × am_M := if 0 ≤ s ∧ s ≤ 2 then (if 0 ≤ w ∧ w ≤ 10 then (if 0 ≤ g ∧ g ≤ 10 then (if 0 ≤ a ∧ a ≤ 10 then (if 0 ≤ d ∧ d ≤ 10 then (if w + g + a + d = 10 then (1, am_wI (am_wI (am_wI (am_wI M 57 (s * 4 + 0).toNatClampNeg w) 57 (s * 4 + 1).toNatClampNeg g) 57 (s * 4 + 2).toNatClampNeg a) 57 (s * 4 + 3).toNatClampNeg d) else ((-2 : Int32), M)) else ((-2 : Int32), M)) else ((-2 : Int32), M)) else ((-2 : Int32), M)) else ((-2 : Int32), M)) else ((-2 : Int32), M)
def TX7_chances : am_T := fun live as M R => match as with
  | [.ref n, .int s, .int w, .int g, .int a, .int d] => am_mn live ∧ n = 0 ∧ (g_hI M ∧ g_rI M) ∧ R (some (.int (c_chances M s w g a d).1)) (c_chances M s w g a d).2
  | _ => False
set_option maxRecDepth 100000 in
set_option maxHeartbeats 4000000 in
theorem metX7_chances : am_Met yX7_chances cX7_chances 7 (some .int) (1) (22) TX7_chances := by
  refine am_met (own := RX7) (by decide +kernel) rfl kX7_chances koX7_chances 150 (fun _ _ _ _ _ => none) (fun live as M Ret h => ?_) (fun _ _ _ _ _ _ _ _ hI => by cases hI)
  unfold TX7_chances at h
  split at h
  · next n s w g a d =>
    refine ⟨Nat.le_of_ble_eq_true rfl, ?_⟩
    change am_wp _ _ _ _ [(0, Value.ref n), (1, Value.int s), (2, Value.int w), (3, Value.int g), (4, Value.int a), (5, Value.int d)] _ _
    obtain ⟨hmn, rfl, ⟨hH, hR⟩, h⟩ := h
    have hmn2 := hmn
    obtain ⟨i1, i2, rfl⟩ := hmn2
    by_cases z0 : 0 ≤ s ∧ s ≤ 2
    rotate_left
    · skip
      have q0 : (if 0 ≤ s ∧ s ≤ 2 then (1 : Int32) else 0) = 0 := if_neg z0
      have e : c_chances M s w g a d = ((-2 : Int32), M) := by unfold c_chances; rw [if_neg z0]
      rw [e] at h
      repeat' (first | (with_reducible exact hmn) | (with_reducible exact h) | apply And.intro | exact rfl | (intro hx; with_reducible exact absurd q0 hx) | (intro hx; exact absurd hx (by decide)) | (intro hx; exact absurd (by decide) hx) | decide | intro hx | (refine Exists.intro _ (And.intro rfl ?_)))
      all_goals try first | (with_reducible change am_tI _ _) | (change Ret _ _) | (change Ret _ _ _) | (change Exists _)
      all_goals try dsimp only at *
      all_goals try (with_reducible exact absurd ‹(1000 : Int64) = 0› am_z1000)
      all_goals first | (with_reducible exact h) | (simp only [e40, e41, e42, e43, e4, l57, Int32.reduceToInt]; omega) | exact h | skip
    · skip
      have q0 : ¬ ((if 0 ≤ s ∧ s ≤ 2 then (1 : Int32) else 0) = 0) := by rw [if_pos z0]; decide
      by_cases z1 : 0 ≤ w ∧ w ≤ 10
      rotate_left
      · skip
        have q1 : (if 0 ≤ w ∧ w ≤ 10 then (1 : Int32) else 0) = 0 := if_neg z1
        have e : c_chances M s w g a d = ((-2 : Int32), M) := by unfold c_chances; rw [if_pos z0, if_neg z1]
        rw [e] at h
        repeat' (first | (with_reducible exact hmn) | (with_reducible exact h) | apply And.intro | exact rfl | (intro hx; with_reducible exact absurd hx q0) | (intro hx; with_reducible exact absurd q1 hx) | (intro hx; exact absurd hx (by decide)) | (intro hx; exact absurd (by decide) hx) | decide | intro hx | (refine Exists.intro _ (And.intro rfl ?_)))
        all_goals try first | (with_reducible change am_tI _ _) | (change Ret _ _) | (change Ret _ _ _) | (change Exists _)
        all_goals try dsimp only at *
        all_goals try (with_reducible exact absurd ‹(1000 : Int64) = 0› am_z1000)
        all_goals first | (with_reducible exact h) | (simp only [e40, e41, e42, e43, e4, l57, Int32.reduceToInt]; omega) | exact h | skip
      · skip
        have q1 : ¬ ((if 0 ≤ w ∧ w ≤ 10 then (1 : Int32) else 0) = 0) := by rw [if_pos z1]; decide
        by_cases z2 : 0 ≤ g ∧ g ≤ 10
        rotate_left
        · skip
          have q2 : (if 0 ≤ g ∧ g ≤ 10 then (1 : Int32) else 0) = 0 := if_neg z2
          have e : c_chances M s w g a d = ((-2 : Int32), M) := by unfold c_chances; rw [if_pos z0, if_pos z1, if_neg z2]
          rw [e] at h
          repeat' (first | (with_reducible exact hmn) | (with_reducible exact h) | apply And.intro | exact rfl | (intro hx; with_reducible exact absurd hx q0) | (intro hx; with_reducible exact absurd hx q1) | (intro hx; with_reducible exact absurd q2 hx) | (intro hx; exact absurd hx (by decide)) | (intro hx; exact absurd (by decide) hx) | decide | intro hx | (refine Exists.intro _ (And.intro rfl ?_)))
          all_goals try first | (with_reducible change am_tI _ _) | (change Ret _ _) | (change Ret _ _ _) | (change Exists _)
          all_goals try dsimp only at *
          all_goals try (with_reducible exact absurd ‹(1000 : Int64) = 0› am_z1000)
          all_goals first | (with_reducible exact h) | (simp only [e40, e41, e42, e43, e4, l57, Int32.reduceToInt]; omega) | exact h | skip
        · skip
          have q2 : ¬ ((if 0 ≤ g ∧ g ≤ 10 then (1 : Int32) else 0) = 0) := by rw [if_pos z2]; decide
          by_cases z3 : 0 ≤ a ∧ a ≤ 10
          rotate_left
          · skip
            have q3 : (if 0 ≤ a ∧ a ≤ 10 then (1 : Int32) else 0) = 0 := if_neg z3
            have e : c_chances M s w g a d = ((-2 : Int32), M) := by unfold c_chances; rw [if_pos z0, if_pos z1, if_pos z2, if_neg z3]
            rw [e] at h
            repeat' (first | (with_reducible exact hmn) | (with_reducible exact h) | apply And.intro | exact rfl | (intro hx; with_reducible exact absurd hx q0) | (intro hx; with_reducible exact absurd hx q1) | (intro hx; with_reducible exact absurd hx q2) | (intro hx; with_reducible exact absurd q3 hx) | (intro hx; exact absurd hx (by decide)) | (intro hx; exact absurd (by decide) hx) | decide | intro hx | (refine Exists.intro _ (And.intro rfl ?_)))
            all_goals try first | (with_reducible change am_tI _ _) | (change Ret _ _) | (change Ret _ _ _) | (change Exists _)
            all_goals try dsimp only at *
            all_goals try (with_reducible exact absurd ‹(1000 : Int64) = 0› am_z1000)
            all_goals first | (with_reducible exact h) | (simp only [e40, e41, e42, e43, e4, l57, Int32.reduceToInt]; omega) | exact h | skip
          · skip
            have q3 : ¬ ((if 0 ≤ a ∧ a ≤ 10 then (1 : Int32) else 0) = 0) := by rw [if_pos z3]; decide
            by_cases z4 : 0 ≤ d ∧ d ≤ 10
            rotate_left
            · skip
              have q4 : (if 0 ≤ d ∧ d ≤ 10 then (1 : Int32) else 0) = 0 := if_neg z4
              have e : c_chances M s w g a d = ((-2 : Int32), M) := by unfold c_chances; rw [if_pos z0, if_pos z1, if_pos z2, if_pos z3, if_neg z4]
              rw [e] at h
              repeat' (first | (with_reducible exact hmn) | (with_reducible exact h) | apply And.intro | exact rfl | (intro hx; with_reducible exact absurd hx q0) | (intro hx; with_reducible exact absurd hx q1) | (intro hx; with_reducible exact absurd hx q2) | (intro hx; with_reducible exact absurd hx q3) | (intro hx; with_reducible exact absurd q4 hx) | (intro hx; exact absurd hx (by decide)) | (intro hx; exact absurd (by decide) hx) | decide | intro hx | (refine Exists.intro _ (And.intro rfl ?_)))
              all_goals try first | (with_reducible change am_tI _ _) | (change Ret _ _) | (change Ret _ _ _) | (change Exists _)
              all_goals try dsimp only at *
              all_goals try (with_reducible exact absurd ‹(1000 : Int64) = 0› am_z1000)
              all_goals first | (with_reducible exact h) | (simp only [e40, e41, e42, e43, e4, l57, Int32.reduceToInt]; omega) | exact h | skip
            · skip
              have q4 : ¬ ((if 0 ≤ d ∧ d ≤ 10 then (1 : Int32) else 0) = 0) := by rw [if_pos z4]; decide
              by_cases z5 : w + g + a + d = 10
              rotate_left
              · skip
                have e : c_chances M s w g a d = ((-2 : Int32), M) := by unfold c_chances; rw [if_pos z0, if_pos z1, if_pos z2, if_pos z3, if_pos z4, if_neg z5]
                rw [e] at h
                repeat' (first | (with_reducible exact hmn) | (with_reducible exact h) | apply And.intro | exact rfl | (intro hx; with_reducible exact absurd hx q0) | (intro hx; with_reducible exact absurd hx q1) | (intro hx; with_reducible exact absurd hx q2) | (intro hx; with_reducible exact absurd hx q3) | (intro hx; with_reducible exact absurd hx q4) | (intro hx; with_reducible exact absurd hx z5) | (intro hx; exact absurd hx (by decide)) | (intro hx; exact absurd (by decide) hx) | decide | intro hx | (refine Exists.intro _ (And.intro rfl ?_)))
                all_goals try first | (with_reducible change am_tI _ _) | (change Ret _ _) | (change Ret _ _ _) | (change Exists _)
                all_goals try dsimp only at *
                all_goals try (with_reducible exact absurd ‹(1000 : Int64) = 0› am_z1000)
                all_goals first | (with_reducible exact h) | (simp only [e40, e41, e42, e43, e4, l57, Int32.reduceToInt]; omega) | exact h | skip
              · skip
                have l57 : am_len 57 = 16 := rfl
                have hs : am_in s 3 := ⟨by have q := z0.1; simp only [i_le, Int32.reduceToInt] at q; omega, by have q := z0.2; simp only [i_le, Int32.reduceToInt] at q; omega⟩
                have e4 := i_mul (x := s) (y := 4) (by simp only [Int32.reduceToInt]; have := hs.1; have := hs.2; omega) (by simp only [Int32.reduceToInt]; have := hs.1; have := hs.2; omega)
                have hs1 := hs.1
                have hs2 := hs.2
                have e40 := i_add (x := s * 4) (y := 0) (by rw [e4]; simp only [Int32.reduceToInt]; omega) (by rw [e4]; simp only [Int32.reduceToInt]; omega)
                have e41 := i_add (x := s * 4) (y := 1) (by rw [e4]; simp only [Int32.reduceToInt]; omega) (by rw [e4]; simp only [Int32.reduceToInt]; omega)
                have e42 := i_add (x := s * 4) (y := 2) (by rw [e4]; simp only [Int32.reduceToInt]; omega) (by rw [e4]; simp only [Int32.reduceToInt]; omega)
                have e43 := i_add (x := s * 4) (y := 3) (by rw [e4]; simp only [Int32.reduceToInt]; omega) (by rw [e4]; simp only [Int32.reduceToInt]; omega)
                have e : c_chances M s w g a d = (1, am_wI (am_wI (am_wI (am_wI M 57 (s * 4 + 0).toNatClampNeg w) 57 (s * 4 + 1).toNatClampNeg g) 57 (s * 4 + 2).toNatClampNeg a) 57 (s * 4 + 3).toNatClampNeg d) := by unfold c_chances; rw [if_pos z0, if_pos z1, if_pos z2, if_pos z3, if_pos z4, if_pos z5]
                rw [e] at h
                repeat' (first | (with_reducible exact hmn) | apply And.intro | exact rfl | (intro hx; with_reducible exact absurd hx q0) | (intro hx; with_reducible exact absurd hx q1) | (intro hx; with_reducible exact absurd hx q2) | (intro hx; with_reducible exact absurd hx q3) | (intro hx; with_reducible exact absurd hx q4) | (intro hx; with_reducible exact absurd z5 hx) | (intro hx; exact absurd hx (by decide)) | (intro hx; exact absurd (by decide) hx) | decide | intro hx | (refine Exists.intro _ (And.intro rfl ?_)))
                all_goals try first | (with_reducible change am_tI _ _) | (change Ret _ _) | (change Ret _ _ _) | (change Exists _)
                all_goals try dsimp only at *
                all_goals try (with_reducible exact absurd ‹(1000 : Int64) = 0› am_z1000)
                all_goals first | (with_reducible exact h) | (simp only [e40, e41, e42, e43, e4, l57, Int32.reduceToInt]; omega) | exact h | skip
  · exact h.elim
end
-- part 31.asks.lean.txt
section
/-! general: the calls of the class that ask: safe; loan, texts, counts -/
theorem g_pers {M : am_M} (hH : g_hI M) {l : Int32} (hl : am_in l 30) : am_in (am_at (M.1 34) (am_len 34) (l * M.1 33 1 + 0)) 12 := by
  have e := i_mul (x := l) (y := 8) (by simp only [Int32.reduceToInt]; have := hl.1; have := hl.2; omega) (by simp only [Int32.reduceToInt]; have := hl.1; have := hl.2; omega)
  simp only [Int32.reduceToInt] at e
  have hl1 := hl.1
  have hl2 := hl.2
  rw [hH.lo.1, Int32.add_zero]
  have l34 : am_len 34 = 240 := rfl
  rw [am_at_in (show am_in (l * 8) (am_len 34) from ⟨by omega, by rw [l34]; omega⟩)]
  have e2 := i_clamp (x := l * 8) (by omega)
  have e3 := i_clamp (x := l) hl1
  rw [show (l * 8).toNatClampNeg = 8 * l.toNatClampNeg by omega]
  exact hH.lp (by omega)
set_option maxRecDepth 100000 in
theorem wd_458 : Cond.methodLink "LearnLoans" 94 yX2_earned ∈ am_ws := am_wt2 (List.mem_of_getElem? (i := 161) (by rfl)) (by decide +kernel)
def rwX7_earnings : List dz_r := [(0, .aload_n 0, 1), (1, .iload_n 1, 1), (2, .invokevirtual 52, 3), (5, .ifCond .eq 17, 3), (8, .iload_n 2, 1), (9, .invokestatic 34, 3), (12, .ifCond .eq 10, 3), (15, .iload_n 3, 1), (16, .invokestatic 34, 3), (19, .ifCond .ne 6, 3), (22, .bipush (-2), 2), (24, .ireturn, 1), (25, .aload_n 0, 1), (26, .getfield 27, 3), (29, .getfield 38, 3), (32, .iload_n 1, 1), (33, .iload_n 2, 1), (34, .iload_n 3, 1), (35, .invokevirtual 94, 3), (38, .ireturn, 1)]
theorem dzX7_earnings : dz cX7_earnings rwX7_earnings := dz_all 0 (by decide +kernel)
def kX7_earnings (live : am_E) (Ret : am_R) : am_code := [(0, am_aload 0 1), (1, am_iload 1 2), (2, am_callV live 7 1 TX7_isPerson 5), (5, am_if1 (fun x => x = 0) 22 8), (8, am_iload 2 9), (9, am_callS live 1 TX7_isYear 12), (12, am_if1 (fun x => x = 0) 22 15), (15, am_iload 3 16), (16, am_callS live 1 TX7_isYear 19), (19, am_if1 (fun x => x = 0) 22 25), (22, am_const (.int (-2)) 24), (24, am_retI Ret), (25, am_aload 0 26), (26, am_getR live 7 0 29), (29, am_getR live 0 0 32), (32, am_iload 1 33), (33, am_iload 2 34), (34, am_iload 3 35), (35, am_callV live 2 3 TX2_earned 38), (38, am_retI Ret)]
theorem koX7_earnings (live : am_E) (Ret : am_R) : ∀ q ∈ kX7_earnings live Ret, am_ok RX7 cX7_earnings 4 (some .int) 1 24 live Ret q.1 q.2 :=
  am_kz dzX7_earnings <|
  am_kd (fun d => ak_aload_n d rfl rfl) <|
  am_kd (fun d => ak_iload_n d rfl rfl) <|
  am_kd (fun d => ak_callV (C := RX7) (F := TX7) (N := 4) metX7_isPerson rfl ⟨rfl, hy_X7_isPerson⟩ (am_w5 wd_414 wd_416 wd_0 wd_58 wd_417) (by decide) d rfl) <|
  am_kd (fun d => ak_if_eq d (by decide +kernel) rfl) <|
  am_kd (fun d => ak_iload_n d rfl rfl) <|
  am_kd (fun d => ak_callS metX7_isYear ⟨rfl, hy_X7_isYear⟩ (am_w4 wd_407 wd_408 wd_58 wd_409) (by decide) d rfl) <|
  am_kd (fun d => ak_if_eq d (by decide +kernel) rfl) <|
  am_kd (fun d => ak_iload_n d rfl rfl) <|
  am_kd (fun d => ak_callS metX7_isYear ⟨rfl, hy_X7_isYear⟩ (am_w4 wd_407 wd_408 wd_58 wd_409) (by decide) d rfl) <|
  am_kd (fun d => ak_if_ne d (by decide +kernel) rfl) <|
  am_kd (fun d => ak_bipush d (by decide +kernel) rfl) <|
  am_kd (fun d => ak_retI d) <|
  am_kd (fun d => ak_aload_n d rfl rfl) <|
  am_kd (fun d => ak_getR (C := RX7) (T := TX7) (N := 4) rfl inX7w (by decide) rfl rfl rfl wd_390 d rfl) <|
  am_kd (fun d => ak_getR (C := RX0) (T := TX0) (N := 13) rfl inX0w (by decide) rfl rfl rfl wd_194 d rfl) <|
  am_kd (fun d => ak_iload_n d rfl rfl) <|
  am_kd (fun d => ak_iload_n d rfl rfl) <|
  am_kd (fun d => ak_iload_n d rfl rfl) <|
  am_kd (fun d => ak_callV (C := RX2) (F := TX2) (N := 8) metX2_earned rfl ⟨rfl, hy_X2_earned⟩ (am_w5 wd_458 wd_459 wd_460 wd_62 wd_461) (by decide) d rfl) <|
  am_kd (fun d => ak_retI d) <| am_kdn
def c_earnings (M : am_M) (p y k : Int32) : Int32 × am_M := if 0 ≤ p ∧ p < M.1 21 7 then (if 0 ≤ y ∧ y < 40 then (if 0 ≤ k ∧ k < 40 then (am_earn M (p * 40 + y) k, M) else ((-2 : Int32), M)) else ((-2 : Int32), M)) else ((-2 : Int32), M)
def TX7_earnings : am_T := fun live as M R => match as with
  | [.ref n, .int p, .int y, .int k] => am_mn live ∧ n = 0 ∧ (g_hI M ∧ g_rI M) ∧ R (some (.int (c_earnings M p y k).1)) (c_earnings M p y k).2
  | _ => False
set_option maxRecDepth 100000 in
set_option maxHeartbeats 4000000 in
theorem metX7_earnings : am_Met yX7_earnings cX7_earnings 4 (some .int) (1) (24) TX7_earnings := by
  refine am_met (own := RX7) (by decide +kernel) rfl kX7_earnings koX7_earnings 150 (fun _ _ _ _ _ => none) (fun live as M Ret h => ?_) (fun _ _ _ _ _ _ _ _ hI => by cases hI)
  unfold TX7_earnings at h
  split at h
  · next n p y k =>
    refine ⟨Nat.le_of_ble_eq_true rfl, ?_⟩
    change am_wp _ _ _ _ [(0, Value.ref n), (1, Value.int p), (2, Value.int y), (3, Value.int k)] _ _
    obtain ⟨hmn, rfl, ⟨hH, hR⟩, h⟩ := h
    have hmn2 := hmn
    obtain ⟨i1, i2, rfl⟩ := hmn2
    by_cases z0 : 0 ≤ p ∧ p < M.1 21 7
    rotate_left
    · skip
      have q0 : (if 0 ≤ p ∧ p < M.1 21 7 then (1 : Int32) else 0) = 0 := if_neg z0
      have e : c_earnings M p y k = ((-2 : Int32), M) := by unfold c_earnings; rw [if_neg z0]
      rw [e] at h
      repeat' (first | (with_reducible exact hmn) | (with_reducible exact h) | apply And.intro | exact rfl | (intro hx; with_reducible exact absurd q0 hx) | (intro hx; exact absurd hx (by decide)) | (intro hx; exact absurd (by decide) hx) | decide | intro hx | (refine Exists.intro _ (And.intro rfl ?_)))
      all_goals try first | (with_reducible change am_tI _ _) | (change Ret _ _) | (change Ret _ _ _) | (change Exists _)
      all_goals try dsimp only at *
      all_goals try (with_reducible exact absurd ‹(1000 : Int64) = 0› am_z1000)
      all_goals first | exact h | skip
    · skip
      have q0 : ¬ ((if 0 ≤ p ∧ p < M.1 21 7 then (1 : Int32) else 0) = 0) := by rw [if_pos z0]; decide
      by_cases z1 : 0 ≤ y ∧ y < 40
      rotate_left
      · skip
        have q1 : (if 0 ≤ y ∧ y < 40 then (1 : Int32) else 0) = 0 := if_neg z1
        have e : c_earnings M p y k = ((-2 : Int32), M) := by unfold c_earnings; rw [if_pos z0, if_neg z1]
        rw [e] at h
        repeat' (first | (with_reducible exact hmn) | (with_reducible exact h) | apply And.intro | exact rfl | (intro hx; with_reducible exact absurd hx q0) | (intro hx; with_reducible exact absurd q1 hx) | (intro hx; exact absurd hx (by decide)) | (intro hx; exact absurd (by decide) hx) | decide | intro hx | (refine Exists.intro _ (And.intro rfl ?_)))
        all_goals try first | (with_reducible change am_tI _ _) | (change Ret _ _) | (change Ret _ _ _) | (change Exists _)
        all_goals try dsimp only at *
        all_goals try (with_reducible exact absurd ‹(1000 : Int64) = 0› am_z1000)
        all_goals first | exact h | skip
      · skip
        have q1 : ¬ ((if 0 ≤ y ∧ y < 40 then (1 : Int32) else 0) = 0) := by rw [if_pos z1]; decide
        by_cases z2 : 0 ≤ k ∧ k < 40
        rotate_left
        · skip
          have q2 : (if 0 ≤ k ∧ k < 40 then (1 : Int32) else 0) = 0 := if_neg z2
          have e : c_earnings M p y k = ((-2 : Int32), M) := by unfold c_earnings; rw [if_pos z0, if_pos z1, if_neg z2]
          rw [e] at h
          repeat' (first | (with_reducible exact hmn) | (with_reducible exact h) | apply And.intro | exact rfl | (intro hx; with_reducible exact absurd hx q0) | (intro hx; with_reducible exact absurd hx q1) | (intro hx; with_reducible exact absurd q2 hx) | (intro hx; exact absurd hx (by decide)) | (intro hx; exact absurd (by decide) hx) | decide | intro hx | (refine Exists.intro _ (And.intro rfl ?_)))
          all_goals try first | (with_reducible change am_tI _ _) | (change Ret _ _) | (change Ret _ _ _) | (change Exists _)
          all_goals try dsimp only at *
          all_goals try (with_reducible exact absurd ‹(1000 : Int64) = 0› am_z1000)
          all_goals first | exact h | skip
        · skip
          have q2 : ¬ ((if 0 ≤ k ∧ k < 40 then (1 : Int32) else 0) = 0) := by rw [if_pos z2]; decide
          have e : c_earnings M p y k = (am_earn M (p * 40 + y) k, M) := by unfold c_earnings; rw [if_pos z0, if_pos z1, if_pos z2]
          rw [e] at h
          repeat' (first | (with_reducible exact hmn) | apply And.intro | exact rfl | (intro hx; with_reducible exact absurd hx q0) | (intro hx; with_reducible exact absurd hx q1) | (intro hx; with_reducible exact absurd hx q2) | (intro hx; exact absurd hx (by decide)) | (intro hx; exact absurd (by decide) hx) | decide | intro hx | (refine Exists.intro _ (And.intro rfl ?_)))
          all_goals try first | (with_reducible change am_tI _ _) | (change Ret _ _) | (change Ret _ _ _) | (change Exists _)
          all_goals try dsimp only at *
          all_goals try (with_reducible exact absurd ‹(1000 : Int64) = 0› am_z1000)
          all_goals first | exact h | skip
  · exact h.elim
def rwX7_planOf : List dz_r := [(0, .aload_n 0, 1), (1, .iload_n 1, 1), (2, .invokevirtual 135, 3), (5, .ifCond .eq 10, 3), (8, .iload_n 2, 1), (9, .invokestatic 34, 3), (12, .ifCond .ne 6, 3), (15, .bipush (-2), 2), (17, .ireturn, 1), (18, .aload_n 0, 1), (19, .getfield 27, 3), (22, .getfield 132, 3), (25, .iload_n 1, 1), (26, .bipush 40, 2), (28, .imul, 1), (29, .iload_n 2, 1), (30, .iadd, 1), (31, .iaload, 1), (32, .ireturn, 1)]
theorem dzX7_planOf : dz cX7_planOf rwX7_planOf := dz_all 0 (by decide +kernel)
def kX7_planOf (live : am_E) (Ret : am_R) : am_code := [(0, am_aload 0 1), (1, am_iload 1 2), (2, am_callV live 7 1 TX7_isLoan 5), (5, am_if1 (fun x => x = 0) 15 8), (8, am_iload 2 9), (9, am_callS live 1 TX7_isYear 12), (12, am_if1 (fun x => x = 0) 15 18), (15, am_const (.int (-2)) 17), (17, am_retI Ret), (18, am_aload 0 19), (19, am_getR live 7 0 22), (22, am_getR live 0 6 25), (25, am_iload 1 26), (26, am_const (.int 40) 28), (28, am_i2 (fun x y => x * y) 29), (29, am_iload 2 30), (30, am_i2 (fun x y => x + y) 31), (31, am_ald live 0 32), (32, am_retI Ret)]
theorem koX7_planOf (live : am_E) (Ret : am_R) : ∀ q ∈ kX7_planOf live Ret, am_ok RX7 cX7_planOf 3 (some .int) 1 21 live Ret q.1 q.2 :=
  am_kz dzX7_planOf <|
  am_kd (fun d => ak_aload_n d rfl rfl) <|
  am_kd (fun d => ak_iload_n d rfl rfl) <|
  am_kd (fun d => ak_callV (C := RX7) (F := TX7) (N := 4) metX7_isLoan rfl ⟨rfl, hy_X7_isLoan⟩ (am_w5 wd_520 wd_522 wd_2 wd_58 wd_523) (by decide) d rfl) <|
  am_kd (fun d => ak_if_eq d (by decide +kernel) rfl) <|
  am_kd (fun d => ak_iload_n d rfl rfl) <|
  am_kd (fun d => ak_callS metX7_isYear ⟨rfl, hy_X7_isYear⟩ (am_w4 wd_407 wd_408 wd_58 wd_409) (by decide) d rfl) <|
  am_kd (fun d => ak_if_ne d (by decide +kernel) rfl) <|
  am_kd (fun d => ak_bipush d (by decide +kernel) rfl) <|
  am_kd (fun d => ak_retI d) <|
  am_kd (fun d => ak_aload_n d rfl rfl) <|
  am_kd (fun d => ak_getR (C := RX7) (T := TX7) (N := 4) rfl inX7w (by decide) rfl rfl rfl wd_390 d rfl) <|
  am_kd (fun d => ak_getR (C := RX0) (T := TX0) (N := 13) rfl inX0w (by decide) rfl rfl rfl wd_211 d rfl) <|
  am_kd (fun d => ak_iload_n d rfl rfl) <|
  am_kd (fun d => ak_bipush d (by decide +kernel) rfl) <|
  am_kd (fun d => ak_imul d rfl) <|
  am_kd (fun d => ak_iload_n d rfl rfl) <|
  am_kd (fun d => ak_iadd d rfl) <|
  am_kd (fun d => ak_iald (t := 0) (fun _ => rfl) rfl d rfl) <|
  am_kd (fun d => ak_retI d) <| am_kdn
def c_planOf (M : am_M) (l y : Int32) : Int32 × am_M := if 0 ≤ l ∧ l < M.1 33 2 then (if 0 ≤ y ∧ y < 40 then (M.1 37 (l * 40 + y).toNatClampNeg, M) else ((-2 : Int32), M)) else ((-2 : Int32), M)
def TX7_planOf : am_T := fun live as M R => match as with
  | [.ref n, .int l, .int y] => am_mn live ∧ n = 0 ∧ (g_hI M ∧ g_rI M) ∧ R (some (.int (c_planOf M l y).1)) (c_planOf M l y).2
  | _ => False
set_option maxRecDepth 100000 in
set_option maxHeartbeats 4000000 in
theorem metX7_planOf : am_Met yX7_planOf cX7_planOf 3 (some .int) (1) (21) TX7_planOf := by
  refine am_met (own := RX7) (by decide +kernel) rfl kX7_planOf koX7_planOf 150 (fun _ _ _ _ _ => none) (fun live as M Ret h => ?_) (fun _ _ _ _ _ _ _ _ hI => by cases hI)
  unfold TX7_planOf at h
  split at h
  · next n l y =>
    refine ⟨Nat.le_of_ble_eq_true rfl, ?_⟩
    change am_wp _ _ _ _ [(0, Value.ref n), (1, Value.int l), (2, Value.int y)] _ _
    obtain ⟨hmn, rfl, ⟨hH, hR⟩, h⟩ := h
    have hmn2 := hmn
    obtain ⟨i1, i2, rfl⟩ := hmn2
    by_cases z0 : 0 ≤ l ∧ l < M.1 33 2
    rotate_left
    · skip
      have q0 : (if 0 ≤ l ∧ l < M.1 33 2 then (1 : Int32) else 0) = 0 := if_neg z0
      have e : c_planOf M l y = ((-2 : Int32), M) := by unfold c_planOf; rw [if_neg z0]
      rw [e] at h
      repeat' (first | (with_reducible exact hmn) | (with_reducible exact h) | apply And.intro | exact rfl | (intro hx; with_reducible exact absurd q0 hx) | (intro hx; exact absurd hx (by decide)) | (intro hx; exact absurd (by decide) hx) | decide | intro hx | (refine Exists.intro _ (And.intro rfl ?_)))
      all_goals try first | (with_reducible change am_tI _ _) | (change Ret _ _) | (change Ret _ _ _) | (change Exists _)
      all_goals try dsimp only at *
      all_goals try (with_reducible exact absurd ‹(1000 : Int64) = 0› am_z1000)
      all_goals first | (with_reducible exact h) | omega | (rw [l37]; omega) | exact h | skip
    · skip
      have q0 : ¬ ((if 0 ≤ l ∧ l < M.1 33 2 then (1 : Int32) else 0) = 0) := by rw [if_pos z0]; decide
      by_cases z1 : 0 ≤ y ∧ y < 40
      rotate_left
      · skip
        have q1 : (if 0 ≤ y ∧ y < 40 then (1 : Int32) else 0) = 0 := if_neg z1
        have e : c_planOf M l y = ((-2 : Int32), M) := by unfold c_planOf; rw [if_pos z0, if_neg z1]
        rw [e] at h
        repeat' (first | (with_reducible exact hmn) | (with_reducible exact h) | apply And.intro | exact rfl | (intro hx; with_reducible exact absurd hx q0) | (intro hx; with_reducible exact absurd q1 hx) | (intro hx; exact absurd hx (by decide)) | (intro hx; exact absurd (by decide) hx) | decide | intro hx | (refine Exists.intro _ (And.intro rfl ?_)))
        all_goals try first | (with_reducible change am_tI _ _) | (change Ret _ _) | (change Ret _ _ _) | (change Exists _)
        all_goals try dsimp only at *
        all_goals try (with_reducible exact absurd ‹(1000 : Int64) = 0› am_z1000)
        all_goals first | (with_reducible exact h) | omega | (rw [l37]; omega) | exact h | skip
      · skip
        have q1 : ¬ ((if 0 ≤ y ∧ y < 40 then (1 : Int32) else 0) = 0) := by rw [if_pos z1]; decide
        have l37 : am_len 37 = 1200 := rfl
        have hl : am_in l 30 := ⟨by have q := z0.1; simp only [i_le, Int32.reduceToInt] at q; omega, by have q := z0.2; have q2 := hH.lo.2; simp only [i_lt] at q; omega⟩
        have hy : am_in y 40 := ⟨by have q := z1.1; simp only [i_le, Int32.reduceToInt] at q; omega, by have q := z1.2; simp only [i_lt, Int32.reduceToInt] at q; omega⟩
        have el := am_lny hl hy
        have a1 := hl.1
        have a2 := hl.2
        have b1 := hy.1
        have b2 := hy.2
        have e : c_planOf M l y = (M.1 37 (l * 40 + y).toNatClampNeg, M) := by unfold c_planOf; rw [if_pos z0, if_pos z1]
        rw [e] at h
        repeat' (first | (with_reducible exact hmn) | apply And.intro | exact rfl | (intro hx; with_reducible exact absurd hx q0) | (intro hx; with_reducible exact absurd hx q1) | (intro hx; exact absurd hx (by decide)) | (intro hx; exact absurd (by decide) hx) | decide | intro hx | (refine Exists.intro _ (And.intro rfl ?_)))
        all_goals try first | (with_reducible change am_tI _ _) | (change Ret _ _) | (change Ret _ _ _) | (change Exists _)
        all_goals try dsimp only at *
        all_goals try (with_reducible exact absurd ‹(1000 : Int64) = 0› am_z1000)
        all_goals first | (with_reducible exact h) | omega | (rw [l37]; omega) | exact h | skip
  · exact h.elim
set_option maxRecDepth 100000 in
theorem wd_215 : Cond.fieldLink "LearnLoans" 174 "LearnLoans$House" "texts" "[LLearnLoans$Text;" ∈ am_ws := am_wt1 (List.mem_of_getElem? (i := 158) (by rfl)) (by decide +kernel)
set_option maxRecDepth 100000 in
theorem wd_177 : Cond.fieldLink "LearnLoans" 186 "LearnLoans$Text" "wrong" "I" ∈ am_ws := am_wt1 (List.mem_of_getElem? (i := 120) (by rfl)) (by decide +kernel)
def rwX7_fault : List dz_r := [(0, .iload_n 1, 1), (1, .invokestatic 98, 3), (4, .ifCond .eq 18, 3), (7, .aload_n 0, 1), (8, .getfield 27, 3), (11, .getfield 174, 3), (14, .iload_n 1, 1), (15, .aaload, 1), (16, .getfield 186, 3), (19, .goto 5, 3), (22, .bipush (-2), 2), (24, .ireturn, 1)]
theorem dzX7_fault : dz cX7_fault rwX7_fault := dz_all 0 (by decide +kernel)
def kX7_fault (live : am_E) (Ret : am_R) : am_code := [(0, am_iload 1 1), (1, am_callS live 1 TX7_isPlan 4), (4, am_if1 (fun x => x = 0) 22 7), (7, am_aload 0 8), (8, am_getR live 7 0 11), (11, am_getR live 0 7 14), (14, am_iload 1 15), (15, am_aald live 3 16), (16, am_getI live 5 6 19), (19, am_goto 24), (22, am_const (.int (-2)) 24), (24, am_retI Ret)]
theorem koX7_fault (live : am_E) (Ret : am_R) : ∀ q ∈ kX7_fault live Ret, am_ok RX7 cX7_fault 2 (some .int) 1 20 live Ret q.1 q.2 :=
  am_kz dzX7_fault <|
  am_kd (fun d => ak_iload_n d rfl rfl) <|
  am_kd (fun d => ak_callS metX7_isPlan ⟨rfl, hy_X7_isPlan⟩ (am_w4 wd_466 wd_467 wd_58 wd_468) (by decide) d rfl) <|
  am_kd (fun d => ak_if_eq d (by decide +kernel) rfl) <|
  am_kd (fun d => ak_aload_n d rfl rfl) <|
  am_kd (fun d => ak_getR (C := RX7) (T := TX7) (N := 4) rfl inX7w (by decide) rfl rfl rfl wd_390 d rfl) <|
  am_kd (fun d => ak_getR (C := RX0) (T := TX0) (N := 13) rfl inX0w (by decide) rfl rfl rfl wd_215 d rfl) <|
  am_kd (fun d => ak_iload_n d rfl rfl) <|
  am_kd (fun d => ak_aald (t := 3) (fun _ => rfl) rfl d rfl) <|
  am_kd (fun d => ak_getI (C := RX5) (T := TX5) (N := 7) rfl inX5w (by decide) rfl rfl rfl wd_177 d rfl) <|
  am_kd (fun d => ak_goto d (by decide +kernel)) <|
  am_kd (fun d => ak_bipush d (by decide +kernel) rfl) <|
  am_kd (fun d => ak_retI d) <| am_kdn
def c_fault (M : am_M) (pl : Int32) : Int32 × am_M := if 0 ≤ pl ∧ pl < 5 then (M.1 (39 + 3 * pl.toNatClampNeg) 6, M) else (-2, M)
def TX7_fault : am_T := fun live as M R => match as with
  | [.ref n, .int pl] => am_mn live ∧ n = 0 ∧ (g_hI M ∧ g_rI M) ∧ R (some (.int (c_fault M pl).1)) (c_fault M pl).2
  | _ => False
set_option maxRecDepth 100000 in
set_option maxHeartbeats 4000000 in
theorem metX7_fault : am_Met yX7_fault cX7_fault 2 (some .int) (1) (20) TX7_fault := by
  refine am_met (own := RX7) (by decide +kernel) rfl kX7_fault koX7_fault 100 (fun _ _ _ _ _ => none) (fun live as M Ret h => ?_) (fun _ _ _ _ _ _ _ _ hI => by cases hI)
  unfold TX7_fault at h
  split at h
  · next n pl =>
    refine ⟨Nat.le_of_ble_eq_true rfl, ?_⟩
    change am_wp _ _ _ _ [(0, Value.ref n), (1, Value.int pl)] _ _
    obtain ⟨hmn, rfl, ⟨hH, hR⟩, h⟩ := h
    by_cases z0 : 0 ≤ pl ∧ pl < 5
    · have q0 : ¬ ((if 0 ≤ pl ∧ pl < 5 then (1 : Int32) else 0) = 0) := by rw [if_pos z0]; decide
      have e : c_fault M pl = (M.1 (39 + 3 * pl.toNatClampNeg) 6, M) := if_pos z0
      rw [e] at h
      have hp : am_in pl 5 := ⟨by have q := z0.1; simp only [i_le, Int32.reduceToInt] at q; omega, by have q := z0.2; simp only [i_lt, Int32.reduceToInt] at q; omega⟩
      obtain ⟨t, s, c, h2, k1, k2, k3, h1, ht, et, es, ec, k4⟩ := g_txt hmn hp
      obtain ⟨i1, i2, rfl⟩ := hmn
      rw [← et] at h
      have l38 : am_len 38 = 5 := rfl
      repeat' (first | (with_reducible exact h) | (with_reducible exact h1) | (with_reducible exact h2) | (refine Exists.intro _ (And.intro h2 ?_)) | apply And.intro | exact rfl | (intro hx; with_reducible exact absurd hx q0) | intro hx | (refine Exists.intro _ (And.intro rfl ?_)) | ((with_reducible change _ = true); simp only [h1, h2, Bool.true_and]; rfl))
      all_goals try first | (with_reducible change am_tI _ _) | (change Ret _ _) | (change Ret _ _ _) | (change Exists _)
      all_goals try dsimp only at *
      all_goals try (with_reducible exact absurd ‹(1000 : Int64) = 0› am_z1000)
      all_goals first
        | (with_reducible exact hp.1)
        | (rw [l38]; exact hp.2)
        | (with_reducible exact h)
        | exact hp.1
        | exact h
    · have q0 : (if 0 ≤ pl ∧ pl < 5 then (1 : Int32) else 0) = 0 := if_neg z0
      have e : c_fault M pl = (-2, M) := if_neg z0
      rw [e] at h
      obtain ⟨i1, i2, rfl⟩ := hmn
      repeat' (first | (with_reducible exact h) | apply And.intro | exact rfl | (intro hx; with_reducible exact absurd q0 hx) | intro hx | (refine Exists.intro _ (And.intro rfl ?_)))
      all_goals try first | (with_reducible change am_tI _ _) | (change Ret _ _) | (change Ret _ _ _) | (change Exists _)
      all_goals try dsimp only at *
      all_goals try (with_reducible exact absurd ‹(1000 : Int64) = 0› am_z1000)
      all_goals exact h
  · exact h.elim
set_option maxRecDepth 100000 in
theorem wd_174 : Cond.fieldLink "LearnLoans" 178 "LearnLoans$Text" "size" "I" ∈ am_ws := am_wt1 (List.mem_of_getElem? (i := 117) (by rfl)) (by decide +kernel)
theorem hy_X5_clear : yX5_clear.cls ≠ "java/lang/invoke/MethodHandle" ∧ yX5_clear.cls ≠ "java/lang/invoke/VarHandle" ∧ (parseMethodDescriptor yX5_clear.desc).map (fun d => d.parameters.length) = some 0 := ⟨by decide +kernel, by decide +kernel, by decide +kernel⟩
set_option maxRecDepth 100000 in
theorem wd_722 : Cond.methodLink "LearnLoans" 183 yX5_clear ∈ am_ws := am_wt3 (List.mem_of_getElem? (i := 185) (by rfl)) (by decide +kernel)
set_option maxRecDepth 100000 in
theorem wd_723 : Cond.instanceMethod yX5_clear ∈ am_ws := am_wt3 (List.mem_of_getElem? (i := 186) (by rfl)) (by decide +kernel)
set_option maxRecDepth 100000 in
theorem wd_724 : Cond.selects "LearnLoans$Text" yX5_clear yX5_clear ∈ am_ws := am_wt3 (List.mem_of_getElem? (i := 187) (by rfl)) (by decide +kernel)
set_option maxRecDepth 100000 in
theorem wd_725 : Cond.code yX5_clear cX5_clear 1 none ∈ am_ws := am_wt3 (List.mem_of_getElem? (i := 188) (by rfl)) (by decide +kernel)
def rwX7_erase : List dz_r := [(0, .iload_n 1, 1), (1, .invokestatic 98, 3), (4, .ifCond .ne 6, 3), (7, .bipush (-2), 2), (9, .ireturn, 1), (10, .aload_n 0, 1), (11, .getfield 27, 3), (14, .getfield 174, 3), (17, .iload_n 1, 1), (18, .aaload, 1), (19, .astore_n 2, 1), (20, .aload_n 2, 1), (21, .getfield 178, 3), (24, .istore_n 3, 1), (25, .aload_n 2, 1), (26, .invokevirtual 183, 3), (29, .iload_n 3, 1), (30, .ireturn, 1)]
theorem dzX7_erase : dz cX7_erase rwX7_erase := dz_all 0 (by decide +kernel)
def kX7_erase (live : am_E) (Ret : am_R) : am_code := [(0, am_iload 1 1), (1, am_callS live 1 TX7_isPlan 4), (4, am_if1 (fun x => x = 0) 7 10), (7, am_const (.int (-2)) 9), (9, am_retI Ret), (10, am_aload 0 11), (11, am_getR live 7 0 14), (14, am_getR live 0 7 17), (17, am_iload 1 18), (18, am_aald live 3 19), (19, am_astore 2 4 20), (20, am_aload 2 21), (21, am_getI live 5 5 24), (24, am_istore 3 4 25), (25, am_aload 2 26), (26, am_callV live 5 0 TX5_clear 29), (29, am_iload 3 30), (30, am_retI Ret)]
theorem koX7_erase (live : am_E) (Ret : am_R) : ∀ q ∈ kX7_erase live Ret, am_ok RX7 cX7_erase 4 (some .int) 1 20 live Ret q.1 q.2 :=
  am_kz dzX7_erase <|
  am_kd (fun d => ak_iload_n d rfl rfl) <|
  am_kd (fun d => ak_callS metX7_isPlan ⟨rfl, hy_X7_isPlan⟩ (am_w4 wd_466 wd_467 wd_58 wd_468) (by decide) d rfl) <|
  am_kd (fun d => ak_if_ne d (by decide +kernel) rfl) <|
  am_kd (fun d => ak_bipush d (by decide +kernel) rfl) <|
  am_kd (fun d => ak_retI d) <|
  am_kd (fun d => ak_aload_n d rfl rfl) <|
  am_kd (fun d => ak_getR (C := RX7) (T := TX7) (N := 4) rfl inX7w (by decide) rfl rfl rfl wd_390 d rfl) <|
  am_kd (fun d => ak_getR (C := RX0) (T := TX0) (N := 13) rfl inX0w (by decide) rfl rfl rfl wd_215 d rfl) <|
  am_kd (fun d => ak_iload_n d rfl rfl) <|
  am_kd (fun d => ak_aald (t := 3) (fun _ => rfl) rfl d rfl) <|
  am_kd (fun d => ak_astore_n d rfl rfl) <|
  am_kd (fun d => ak_aload_n d rfl rfl) <|
  am_kd (fun d => ak_getI (C := RX5) (T := TX5) (N := 7) rfl inX5w (by decide) rfl rfl rfl wd_174 d rfl) <|
  am_kd (fun d => ak_istore_n d rfl rfl) <|
  am_kd (fun d => ak_aload_n d rfl rfl) <|
  am_kd (fun d => ak_callV (C := RX5) (F := TX5) (N := 7) metX5_clear rfl ⟨rfl, hy_X5_clear⟩ (am_w5 wd_722 wd_723 wd_724 wd_65 wd_725) (by decide) d rfl) <|
  am_kd (fun d => ak_iload_n d rfl rfl) <|
  am_kd (fun d => ak_retI d) <| am_kdn
def c_erase (M : am_M) (pl : Int32) : Int32 × am_M := if 0 ≤ pl ∧ pl < 5 then (M.1 (39 + 3 * pl.toNatClampNeg) 5, am_wI (am_wI (am_wI M (39 + 3 * pl.toNatClampNeg) 5 0) (39 + 3 * pl.toNatClampNeg) 2 0) (39 + 3 * pl.toNatClampNeg) 6 1) else (-2, M)
def TX7_erase : am_T := fun live as M R => match as with
  | [.ref n, .int pl] => am_mn live ∧ n = 0 ∧ (g_hI M ∧ g_rI M) ∧ R (some (.int (c_erase M pl).1)) (c_erase M pl).2
  | _ => False
set_option maxRecDepth 100000 in
set_option maxHeartbeats 4000000 in
theorem metX7_erase : am_Met yX7_erase cX7_erase 4 (some .int) (1) (20) TX7_erase := by
  refine am_met (own := RX7) (by decide +kernel) rfl kX7_erase koX7_erase 100 (fun _ _ _ _ _ => none) (fun live as M Ret h => ?_) (fun _ _ _ _ _ _ _ _ hI => by cases hI)
  unfold TX7_erase at h
  split at h
  · next n pl =>
    refine ⟨Nat.le_of_ble_eq_true rfl, ?_⟩
    change am_wp _ _ _ _ [(0, Value.ref n), (1, Value.int pl)] _ _
    obtain ⟨hmn, rfl, ⟨hH, hR⟩, h⟩ := h
    by_cases z0 : 0 ≤ pl ∧ pl < 5
    · have q0 : ¬ ((if 0 ≤ pl ∧ pl < 5 then (1 : Int32) else 0) = 0) := by rw [if_pos z0]; decide
      have e : c_erase M pl = (M.1 (39 + 3 * pl.toNatClampNeg) 5, am_wI (am_wI (am_wI M (39 + 3 * pl.toNatClampNeg) 5 0) (39 + 3 * pl.toNatClampNeg) 2 0) (39 + 3 * pl.toNatClampNeg) 6 1) := if_pos z0
      rw [e] at h
      have hp : am_in pl 5 := ⟨by have q := z0.1; simp only [i_le, Int32.reduceToInt] at q; omega, by have q := z0.2; simp only [i_lt, Int32.reduceToInt] at q; omega⟩
      obtain ⟨t, s, c, h2, k1, k2, k3, h1, ht, et, es, ec, k4⟩ := g_txt hmn hp
      obtain ⟨i1, i2, rfl⟩ := hmn
      rw [← et] at h
      have l38 : am_len 38 = 5 := rfl
      repeat' (first | (with_reducible exact h) | (with_reducible exact h1) | (with_reducible exact h2) | (refine Exists.intro _ (And.intro h2 ?_)) | apply And.intro | exact rfl | (intro hx; with_reducible exact absurd hx q0) | intro hx | (refine Exists.intro _ (And.intro rfl ?_)) | ((with_reducible change _ = true); simp only [h1, h2, Bool.true_and]; rfl))
      all_goals try first | (with_reducible change am_tI _ _) | (change Ret _ _) | (change Ret _ _ _) | (change Exists _)
      all_goals try dsimp only at *
      all_goals try (with_reducible exact absurd ‹(1000 : Int64) = 0› am_z1000)
      all_goals first
        | (with_reducible exact hp.1)
        | (rw [l38]; exact hp.2)
        | (with_reducible exact h)
        | exact hp.1
        | exact h
    · have q0 : (if 0 ≤ pl ∧ pl < 5 then (1 : Int32) else 0) = 0 := if_neg z0
      have e : c_erase M pl = (-2, M) := if_neg z0
      rw [e] at h
      obtain ⟨i1, i2, rfl⟩ := hmn
      repeat' (first | (with_reducible exact h) | apply And.intro | exact rfl | (intro hx; with_reducible exact absurd q0 hx) | intro hx | (refine Exists.intro _ (And.intro rfl ?_)))
      all_goals try first | (with_reducible change am_tI _ _) | (change Ret _ _) | (change Ret _ _ _) | (change Exists _)
      all_goals try dsimp only at *
      all_goals try (with_reducible exact absurd ‹(1000 : Int64) = 0› am_z1000)
      all_goals exact h
  · exact h.elim
theorem hy_X5_add : yX5_add.cls ≠ "java/lang/invoke/MethodHandle" ∧ yX5_add.cls ≠ "java/lang/invoke/VarHandle" ∧ (parseMethodDescriptor yX5_add.desc).map (fun d => d.parameters.length) = some 1 := ⟨by decide +kernel, by decide +kernel, by decide +kernel⟩
set_option maxRecDepth 100000 in
theorem wd_668 : Cond.methodLink "LearnLoans" 181 yX5_add ∈ am_ws := am_wt3 (List.mem_of_getElem? (i := 131) (by rfl)) (by decide +kernel)
set_option maxRecDepth 100000 in
theorem wd_669 : Cond.instanceMethod yX5_add ∈ am_ws := am_wt3 (List.mem_of_getElem? (i := 132) (by rfl)) (by decide +kernel)
set_option maxRecDepth 100000 in
theorem wd_670 : Cond.selects "LearnLoans$Text" yX5_add yX5_add ∈ am_ws := am_wt3 (List.mem_of_getElem? (i := 133) (by rfl)) (by decide +kernel)
set_option maxRecDepth 100000 in
theorem wd_671 : Cond.code yX5_add cX5_add 2 none ∈ am_ws := am_wt3 (List.mem_of_getElem? (i := 134) (by rfl)) (by decide +kernel)
def rwX7_write : List dz_r := [(0, .iload_n 1, 1), (1, .invokestatic 98, 3), (4, .ifCond .eq 13, 3), (7, .iload_n 2, 1), (8, .iconst 0, 1), (9, .bipush 127, 2), (11, .invokestatic 55, 3), (14, .ifCond .ne 6, 3), (17, .bipush (-2), 2), (19, .ireturn, 1), (20, .aload_n 0, 1), (21, .getfield 27, 3), (24, .getfield 174, 3), (27, .iload_n 1, 1), (28, .aaload, 1), (29, .astore_n 3, 1), (30, .aload_n 3, 1), (31, .getfield 178, 3), (34, .bipush 50, 2), (36, .if_icmp .lt 6, 3), (39, .bipush (-4), 2), (41, .ireturn, 1), (42, .aload_n 3, 1), (43, .iload_n 2, 1), (44, .invokevirtual 181, 3), (47, .aload_n 3, 1), (48, .getfield 178, 3), (51, .ireturn, 1)]
theorem dzX7_write : dz cX7_write rwX7_write := dz_all 0 (by decide +kernel)
def kX7_write (live : am_E) (Ret : am_R) : am_code := [(0, am_iload 1 1), (1, am_callS live 1 TX7_isPlan 4), (4, am_if1 (fun x => x = 0) 17 7), (7, am_iload 2 8), (8, am_const (.int 0) 9), (9, am_const (.int 127) 11), (11, am_callS live 3 TX7_within 14), (14, am_if1 (fun x => x = 0) 17 20), (17, am_const (.int (-2)) 19), (19, am_retI Ret), (20, am_aload 0 21), (21, am_getR live 7 0 24), (24, am_getR live 0 7 27), (27, am_iload 1 28), (28, am_aald live 3 29), (29, am_astore 3 4 30), (30, am_aload 3 31), (31, am_getI live 5 5 34), (34, am_const (.int 50) 36), (36, am_if2 (fun x y => x < y) 42 39), (39, am_const (.int (-4)) 41), (41, am_retI Ret), (42, am_aload 3 43), (43, am_iload 2 44), (44, am_callV live 5 1 TX5_add 47), (47, am_aload 3 48), (48, am_getI live 5 5 51), (51, am_retI Ret)]
theorem koX7_write (live : am_E) (Ret : am_R) : ∀ q ∈ kX7_write live Ret, am_ok RX7 cX7_write 4 (some .int) 334 8442 live Ret q.1 q.2 :=
  am_kz dzX7_write <|
  am_kd (fun d => ak_iload_n d rfl rfl) <|
  am_kd (fun d => ak_callS metX7_isPlan ⟨rfl, hy_X7_isPlan⟩ (am_w4 wd_466 wd_467 wd_58 wd_468) (by decide) d rfl) <|
  am_kd (fun d => ak_if_eq d (by decide +kernel) rfl) <|
  am_kd (fun d => ak_iload_n d rfl rfl) <|
  am_kd (fun d => ak_iconst d (by decide +kernel) rfl) <|
  am_kd (fun d => ak_bipush d (by decide +kernel) rfl) <|
  am_kd (fun d => ak_callS metX7_within ⟨rfl, hy_X7_within⟩ (am_w4 wd_418 wd_419 wd_58 wd_420) (by decide) d rfl) <|
  am_kd (fun d => ak_if_ne d (by decide +kernel) rfl) <|
  am_kd (fun d => ak_bipush d (by decide +kernel) rfl) <|
  am_kd (fun d => ak_retI d) <|
  am_kd (fun d => ak_aload_n d rfl rfl) <|
  am_kd (fun d => ak_getR (C := RX7) (T := TX7) (N := 4) rfl inX7w (by decide) rfl rfl rfl wd_390 d rfl) <|
  am_kd (fun d => ak_getR (C := RX0) (T := TX0) (N := 13) rfl inX0w (by decide) rfl rfl rfl wd_215 d rfl) <|
  am_kd (fun d => ak_iload_n d rfl rfl) <|
  am_kd (fun d => ak_aald (t := 3) (fun _ => rfl) rfl d rfl) <|
  am_kd (fun d => ak_astore_n d rfl rfl) <|
  am_kd (fun d => ak_aload_n d rfl rfl) <|
  am_kd (fun d => ak_getI (C := RX5) (T := TX5) (N := 7) rfl inX5w (by decide) rfl rfl rfl wd_174 d rfl) <|
  am_kd (fun d => ak_bipush d (by decide +kernel) rfl) <|
  am_kd (fun d => ak_icmp_lt d (by decide +kernel) rfl) <|
  am_kd (fun d => ak_bipush d (by decide +kernel) rfl) <|
  am_kd (fun d => ak_retI d) <|
  am_kd (fun d => ak_aload_n d rfl rfl) <|
  am_kd (fun d => ak_iload_n d rfl rfl) <|
  am_kd (fun d => ak_callV (C := RX5) (F := TX5) (N := 7) metX5_add rfl ⟨rfl, hy_X5_add⟩ (am_w5 wd_668 wd_669 wd_670 wd_65 wd_671) (by decide) d rfl) <|
  am_kd (fun d => ak_aload_n d rfl rfl) <|
  am_kd (fun d => ak_getI (C := RX5) (T := TX5) (N := 7) rfl inX5w (by decide) rfl rfl rfl wd_174 d rfl) <|
  am_kd (fun d => ak_retI d) <| am_kdn
def TX7_write : am_T := fun live as M R => match as with
  | [.ref n, .int pl, .int g] => am_mn live ∧ n = 0 ∧ (g_hI M ∧ g_rI M) ∧ (¬ ((0 ≤ pl ∧ pl < 5) ∧ (0 ≤ g ∧ g ≤ 127)) → R (some (.int (-2))) M) ∧ ((0 ≤ pl ∧ pl < 5) ∧ (0 ≤ g ∧ g ≤ 127) → ∀ t, t = 39 + 3 * pl.toNatClampNeg → (50 ≤ M.1 t 5 → R (some (.int (-4))) M) ∧ (M.1 t 5 < 50 → ∀ M', am_ch (am_tS t (t + 2)) (am_wI (am_wI M (t + 1) (M.1 t 5).toNatClampNeg g) t 5 (M.1 t 5 + 1)) M' → am_t0 M' t → R (some (.int (M'.1 t 5))) M'))
  | _ => False
set_option maxRecDepth 100000 in
set_option maxHeartbeats 4000000 in
theorem metX7_write : am_Met yX7_write cX7_write 4 (some .int) (334) (8442) TX7_write := by
  refine am_met (own := RX7) (by decide +kernel) rfl kX7_write koX7_write 100 (fun _ _ _ _ _ => none) (fun live as M Ret h => ?_) (fun _ _ _ _ _ _ _ _ hI => by cases hI)
  unfold TX7_write at h
  split at h
  · next n pl g =>
    refine ⟨Nat.le_of_ble_eq_true rfl, ?_⟩
    change am_wp _ _ _ _ [(0, Value.ref n), (1, Value.int pl), (2, Value.int g)] _ _
    obtain ⟨hmn, rfl, ⟨hH, hR⟩, hb, hg⟩ := h
    by_cases z0 : 0 ≤ pl ∧ pl < 5
    · have q0 : ¬ ((if 0 ≤ pl ∧ pl < 5 then (1 : Int32) else 0) = 0) := by rw [if_pos z0]; decide
      by_cases z1 : 0 ≤ g ∧ g ≤ 127
      · have q1 : ¬ ((if 0 ≤ g ∧ g ≤ 127 then (1 : Int32) else 0) = 0) := by rw [if_pos z1]; decide
        have hp : am_in pl 5 := ⟨by have q := z0.1; simp only [i_le, Int32.reduceToInt] at q; omega, by have q := z0.2; simp only [i_lt, Int32.reduceToInt] at q; omega⟩
        obtain ⟨t, s, c, h2, k1, k2, k3, h1, ht, et, es, ec, k4⟩ := g_txt hmn hp
        obtain ⟨i1, i2, rfl⟩ := hmn
        have h := hg ⟨z0, z1⟩ t et
        have es2 : t + 1 = s := by omega
        have ec2 : t + 2 = c := by omega
        rw [es2, ec2] at h
        have l38 : am_len 38 = 5 := rfl
        by_cases z2 : M.1 t 5 < 50
        · have h := h.2 z2
          have hz : (M.1 t 5).toInt < 50 := by have q := z2; simp only [i_lt, Int32.reduceToInt] at q; exact q
          repeat' (first | (with_reducible exact h1) | (with_reducible exact h2) | (refine Exists.intro _ (And.intro h2 ?_)) | apply And.intro | exact rfl | (intro hx; with_reducible exact absurd hx q0) | (intro hx; with_reducible exact absurd hx q1) | (intro hx; with_reducible exact absurd z2 hx) | intro hx | (refine Exists.intro _ (And.intro rfl ?_)) | (refine am_tP_in k1 k2 k3 ?_) | ((with_reducible change _ = true); simp only [h1, h2, Bool.true_and]; rfl))
          all_goals try first | (with_reducible change am_tI _ _) | (change Ret _ _) | (change Ret _ _ _) | (change Exists _)
          all_goals try dsimp only at *
          all_goals try (with_reducible exact absurd ‹(1000 : Int64) = 0› am_z1000)
          all_goals first
            | (with_reducible exact hp.1)
            | (rw [l38]; exact hp.2)
            | (with_reducible exact k4 _ hR.t)
            | exact h _ (by with_reducible assumption) (by with_reducible assumption)
            | (exfalso; omega)
            | exact hp.1
            | exact k4 _ hR.t
        · have h := h.1 (Int32.not_lt.mp z2)
          repeat' (first | (with_reducible exact h1) | (with_reducible exact h2) | (refine Exists.intro _ (And.intro h2 ?_)) | apply And.intro | exact rfl | (intro hx; with_reducible exact absurd hx q0) | (intro hx; with_reducible exact absurd hx q1) | (intro hx; with_reducible exact absurd hx z2) | intro hx | (refine Exists.intro _ (And.intro rfl ?_)) | (refine am_tP_in k1 k2 k3 ?_) | ((with_reducible change _ = true); simp only [h1, h2, Bool.true_and]; rfl))
          all_goals try first | (with_reducible change am_tI _ _) | (change Ret _ _) | (change Ret _ _ _) | (change Exists _)
          all_goals try dsimp only at *
          all_goals try (with_reducible exact absurd ‹(1000 : Int64) = 0› am_z1000)
          all_goals first
            | (with_reducible exact hp.1)
            | (rw [l38]; exact hp.2)
            | (with_reducible exact h)
            | exact hp.1
            | exact h
      · have q1 : (if 0 ≤ g ∧ g ≤ 127 then (1 : Int32) else 0) = 0 := if_neg z1
        obtain ⟨i1, i2, rfl⟩ := hmn
        have h := hb (fun q => z1 q.2)
        repeat' (first | (with_reducible exact h) | apply And.intro | exact rfl | (intro hx; with_reducible exact absurd hx q0) | (intro hx; with_reducible exact absurd q1 hx) | intro hx | (refine Exists.intro _ (And.intro rfl ?_)))
        all_goals try first | (with_reducible change am_tI _ _) | (change Ret _ _) | (change Ret _ _ _) | (change Exists _)
        all_goals try dsimp only at *
        all_goals try (with_reducible exact absurd ‹(1000 : Int64) = 0› am_z1000)
        all_goals exact h
    · have q0 : (if 0 ≤ pl ∧ pl < 5 then (1 : Int32) else 0) = 0 := if_neg z0
      obtain ⟨i1, i2, rfl⟩ := hmn
      have h := hb (fun q => z0 q.1)
      repeat' (first | (with_reducible exact h) | apply And.intro | exact rfl | (intro hx; with_reducible exact absurd q0 hx) | intro hx | (refine Exists.intro _ (And.intro rfl ?_)))
      all_goals try first | (with_reducible change am_tI _ _) | (change Ret _ _) | (change Ret _ _ _) | (change Exists _)
      all_goals try dsimp only at *
      all_goals try (with_reducible exact absurd ‹(1000 : Int64) = 0› am_z1000)
      all_goals exact h
  · exact h.elim
theorem dX7_count_0 : decode cX7_count 0 = .ok (.iload_n 1, 1) := by decide +kernel
theorem dX7_count_1 : decode cX7_count 1 = .ok (.tableswitch 102 0 5 #[39, 50, 61, 72, 83, 94], 39) := by decide +kernel
theorem dX7_count_40 : decode cX7_count 40 = .ok (.aload_n 0, 1) := by decide +kernel
theorem dX7_count_41 : decode cX7_count 41 = .ok (.getfield 27, 3) := by decide +kernel
theorem dX7_count_44 : decode cX7_count 44 = .ok (.getfield 38, 3) := by decide +kernel
theorem dX7_count_47 : decode cX7_count 47 = .ok (.getfield 42, 3) := by decide +kernel
theorem dX7_count_50 : decode cX7_count 50 = .ok (.ireturn, 1) := by decide +kernel
theorem dX7_count_51 : decode cX7_count 51 = .ok (.aload_n 0, 1) := by decide +kernel
theorem dX7_count_52 : decode cX7_count 52 = .ok (.getfield 27, 3) := by decide +kernel
theorem dX7_count_55 : decode cX7_count 55 = .ok (.getfield 122, 3) := by decide +kernel
theorem dX7_count_58 : decode cX7_count 58 = .ok (.getfield 108, 3) := by decide +kernel
theorem dX7_count_61 : decode cX7_count 61 = .ok (.ireturn, 1) := by decide +kernel
theorem dX7_count_62 : decode cX7_count 62 = .ok (.aload_n 0, 1) := by decide +kernel
theorem dX7_count_63 : decode cX7_count 63 = .ok (.getfield 27, 3) := by decide +kernel
theorem dX7_count_66 : decode cX7_count 66 = .ok (.getfield 104, 3) := by decide +kernel
theorem dX7_count_69 : decode cX7_count 69 = .ok (.getfield 108, 3) := by decide +kernel
theorem dX7_count_72 : decode cX7_count 72 = .ok (.ireturn, 1) := by decide +kernel
theorem dX7_count_73 : decode cX7_count 73 = .ok (.aload_n 0, 1) := by decide +kernel
theorem dX7_count_74 : decode cX7_count 74 = .ok (.getfield 27, 3) := by decide +kernel
theorem dX7_count_77 : decode cX7_count 77 = .ok (.getfield 146, 3) := by decide +kernel
theorem dX7_count_80 : decode cX7_count 80 = .ok (.getfield 108, 3) := by decide +kernel
theorem dX7_count_83 : decode cX7_count 83 = .ok (.ireturn, 1) := by decide +kernel
theorem dX7_count_84 : decode cX7_count 84 = .ok (.aload_n 0, 1) := by decide +kernel
theorem dX7_count_85 : decode cX7_count 85 = .ok (.getfield 27, 3) := by decide +kernel
theorem dX7_count_88 : decode cX7_count 88 = .ok (.getfield 190, 3) := by decide +kernel
theorem dX7_count_91 : decode cX7_count 91 = .ok (.getfield 108, 3) := by decide +kernel
theorem dX7_count_94 : decode cX7_count 94 = .ok (.ireturn, 1) := by decide +kernel
theorem dX7_count_95 : decode cX7_count 95 = .ok (.aload_n 0, 1) := by decide +kernel
theorem dX7_count_96 : decode cX7_count 96 = .ok (.getfield 27, 3) := by decide +kernel
theorem dX7_count_99 : decode cX7_count 99 = .ok (.getfield 243, 3) := by decide +kernel
theorem dX7_count_102 : decode cX7_count 102 = .ok (.ireturn, 1) := by decide +kernel
theorem dX7_count_103 : decode cX7_count 103 = .ok (.bipush (-2), 2) := by decide +kernel
theorem dX7_count_105 : decode cX7_count 105 = .ok (.ireturn, 1) := by decide +kernel
def kX7_count (live : am_E) (Ret : am_R) : am_code := [(0, am_iload 1 1), (1, am_switch [(0, 40), (1, 51), (2, 62), (3, 73), (4, 84), (5, 95)] 103), (40, am_aload 0 41), (41, am_getR live 7 0 44), (44, am_getR live 0 0 47), (47, am_getI live 2 7 50), (50, am_retI Ret), (51, am_aload 0 52), (52, am_getR live 7 0 55), (55, am_getR live 0 4 58), (58, am_getI live 3 2 61), (61, am_retI Ret), (62, am_aload 0 63), (63, am_getR live 7 0 66), (66, am_getR live 0 3 69), (69, am_getI live 3 2 72), (72, am_retI Ret), (73, am_aload 0 74), (74, am_getR live 7 0 77), (77, am_getR live 0 5 80), (80, am_getI live 3 2 83), (83, am_retI Ret), (84, am_aload 0 85), (85, am_getR live 7 0 88), (88, am_getR live 0 8 91), (91, am_getI live 3 2 94), (94, am_retI Ret), (95, am_aload 0 96), (96, am_getR live 7 0 99), (99, am_getI live 0 12 102), (102, am_retI Ret), (103, am_const (.int (-2)) 105), (105, am_retI Ret)]
theorem koX7_count (live : am_E) (Ret : am_R) : ∀ q ∈ kX7_count live Ret, am_ok RX7 cX7_count 2 (some .int) 0 0 live Ret q.1 q.2 :=
  am_kc (ak_iload_n dX7_count_0 rfl rfl) <|
  am_kc (ak_tswitch dX7_count_1 (by decide +kernel) (by decide +kernel) (by decide +kernel) (by decide +kernel) (by decide +kernel) (by decide +kernel)) <|
  am_kc (ak_aload_n dX7_count_40 rfl rfl) <|
  am_kc (ak_getR (C := RX7) (T := TX7) (N := 4) rfl inX7w (by decide) rfl rfl rfl wd_390 dX7_count_41 rfl) <|
  am_kc (ak_getR (C := RX0) (T := TX0) (N := 13) rfl inX0w (by decide) rfl rfl rfl wd_194 dX7_count_44 rfl) <|
  am_kc (ak_getI (C := RX2) (T := TX2) (N := 8) rfl inX2w (by decide) rfl rfl rfl wd_121 dX7_count_47 rfl) <|
  am_kc (ak_retI dX7_count_50) <|
  am_kc (ak_aload_n dX7_count_51 rfl rfl) <|
  am_kc (ak_getR (C := RX7) (T := TX7) (N := 4) rfl inX7w (by decide) rfl rfl rfl wd_390 dX7_count_52 rfl) <|
  am_kc (ak_getR (C := RX0) (T := TX0) (N := 13) rfl inX0w (by decide) rfl rfl rfl wd_207 dX7_count_55 rfl) <|
  am_kc (ak_getI (C := RX3) (T := TX3) (N := 3) rfl inX3w (by decide) rfl rfl rfl wd_152 dX7_count_58 rfl) <|
  am_kc (ak_retI dX7_count_61) <|
  am_kc (ak_aload_n dX7_count_62 rfl rfl) <|
  am_kc (ak_getR (C := RX7) (T := TX7) (N := 4) rfl inX7w (by decide) rfl rfl rfl wd_390 dX7_count_63 rfl) <|
  am_kc (ak_getR (C := RX0) (T := TX0) (N := 13) rfl inX0w (by decide) rfl rfl rfl wd_204 dX7_count_66 rfl) <|
  am_kc (ak_getI (C := RX3) (T := TX3) (N := 3) rfl inX3w (by decide) rfl rfl rfl wd_152 dX7_count_69 rfl) <|
  am_kc (ak_retI dX7_count_72) <|
  am_kc (ak_aload_n dX7_count_73 rfl rfl) <|
  am_kc (ak_getR (C := RX7) (T := TX7) (N := 4) rfl inX7w (by decide) rfl rfl rfl wd_390 dX7_count_74 rfl) <|
  am_kc (ak_getR (C := RX0) (T := TX0) (N := 13) rfl inX0w (by decide) rfl rfl rfl wd_209 dX7_count_77 rfl) <|
  am_kc (ak_getI (C := RX3) (T := TX3) (N := 3) rfl inX3w (by decide) rfl rfl rfl wd_152 dX7_count_80 rfl) <|
  am_kc (ak_retI dX7_count_83) <|
  am_kc (ak_aload_n dX7_count_84 rfl rfl) <|
  am_kc (ak_getR (C := RX7) (T := TX7) (N := 4) rfl inX7w (by decide) rfl rfl rfl wd_390 dX7_count_85 rfl) <|
  am_kc (ak_getR (C := RX0) (T := TX0) (N := 13) rfl inX0w (by decide) rfl rfl rfl wd_217 dX7_count_88 rfl) <|
  am_kc (ak_getI (C := RX3) (T := TX3) (N := 3) rfl inX3w (by decide) rfl rfl rfl wd_152 dX7_count_91 rfl) <|
  am_kc (ak_retI dX7_count_94) <|
  am_kc (ak_aload_n dX7_count_95 rfl rfl) <|
  am_kc (ak_getR (C := RX7) (T := TX7) (N := 4) rfl inX7w (by decide) rfl rfl rfl wd_390 dX7_count_96 rfl) <|
  am_kc (ak_getI (C := RX0) (T := TX0) (N := 13) rfl inX0w (by decide) rfl rfl rfl wd_227 dX7_count_99 rfl) <|
  am_kc (ak_retI dX7_count_102) <|
  am_kc (ak_bipush dX7_count_103 (by decide +kernel) rfl) <|
  am_kc (ak_retI dX7_count_105) <| am_kn
def c_count (M : am_M) (w : Int32) : Int32 := if w = 0 then M.1 21 7 else if w = 1 then M.1 33 2 else if w = 2 then M.1 31 2 else if w = 3 then M.1 35 2 else if w = 4 then M.1 54 2 else if w = 5 then M.1 20 12 else -2
def TX7_count : am_T := fun live as M R => match as with
  | [.ref n, .int w] => am_mn live ∧ n = 0 ∧ R (some (.int (c_count M w))) M
  | _ => False
set_option maxRecDepth 100000 in
set_option maxHeartbeats 4000000 in
theorem metX7_count : am_Met yX7_count cX7_count 2 (some .int) (0) (0) TX7_count := by
  refine am_met (own := RX7) (by decide +kernel) rfl kX7_count koX7_count 100 (fun _ _ _ _ _ => none) (fun live as M Ret h => ?_) (fun _ _ _ _ _ _ _ _ hI => by cases hI)
  unfold TX7_count at h
  split at h
  · next n w =>
    refine ⟨Nat.le_of_ble_eq_true rfl, ?_⟩
    change am_wp _ _ _ _ [(0, Value.ref n), (1, Value.int w)] _ _
    obtain ⟨⟨i1, i2, rfl⟩, rfl, h⟩ := h
    by_cases z0 : w = 0
    · subst z0; rw [show c_count M 0 = M.1 21 7 from rfl] at h
      repeat' (first | (with_reducible exact h) | apply And.intro | exact rfl | (intro hx; exact absurd hx (by decide)) | (intro hx; exact absurd (by decide) hx) | decide | intro hx | (refine Exists.intro _ (And.intro rfl ?_)))
      all_goals try first | (with_reducible change am_tI _ _) | (change Ret _ _) | (change Ret _ _ _) | (change Exists _)
      all_goals try dsimp only at *
      all_goals try (with_reducible exact absurd ‹(1000 : Int64) = 0› am_z1000)
      all_goals exact h
    by_cases z1 : w = 1
    · subst z1; rw [show c_count M 1 = M.1 33 2 from rfl] at h
      repeat' (first | (with_reducible exact h) | apply And.intro | exact rfl | (intro hx; exact absurd hx (by decide)) | (intro hx; exact absurd (by decide) hx) | decide | intro hx | (refine Exists.intro _ (And.intro rfl ?_)))
      all_goals try first | (with_reducible change am_tI _ _) | (change Ret _ _) | (change Ret _ _ _) | (change Exists _)
      all_goals try dsimp only at *
      all_goals try (with_reducible exact absurd ‹(1000 : Int64) = 0› am_z1000)
      all_goals exact h
    by_cases z2 : w = 2
    · subst z2; rw [show c_count M 2 = M.1 31 2 from rfl] at h
      repeat' (first | (with_reducible exact h) | apply And.intro | exact rfl | (intro hx; exact absurd hx (by decide)) | (intro hx; exact absurd (by decide) hx) | decide | intro hx | (refine Exists.intro _ (And.intro rfl ?_)))
      all_goals try first | (with_reducible change am_tI _ _) | (change Ret _ _) | (change Ret _ _ _) | (change Exists _)
      all_goals try dsimp only at *
      all_goals try (with_reducible exact absurd ‹(1000 : Int64) = 0› am_z1000)
      all_goals exact h
    by_cases z3 : w = 3
    · subst z3; rw [show c_count M 3 = M.1 35 2 from rfl] at h
      repeat' (first | (with_reducible exact h) | apply And.intro | exact rfl | (intro hx; exact absurd hx (by decide)) | (intro hx; exact absurd (by decide) hx) | decide | intro hx | (refine Exists.intro _ (And.intro rfl ?_)))
      all_goals try first | (with_reducible change am_tI _ _) | (change Ret _ _) | (change Ret _ _ _) | (change Exists _)
      all_goals try dsimp only at *
      all_goals try (with_reducible exact absurd ‹(1000 : Int64) = 0› am_z1000)
      all_goals exact h
    by_cases z4 : w = 4
    · subst z4; rw [show c_count M 4 = M.1 54 2 from rfl] at h
      repeat' (first | (with_reducible exact h) | apply And.intro | exact rfl | (intro hx; exact absurd hx (by decide)) | (intro hx; exact absurd (by decide) hx) | decide | intro hx | (refine Exists.intro _ (And.intro rfl ?_)))
      all_goals try first | (with_reducible change am_tI _ _) | (change Ret _ _) | (change Ret _ _ _) | (change Exists _)
      all_goals try dsimp only at *
      all_goals try (with_reducible exact absurd ‹(1000 : Int64) = 0› am_z1000)
      all_goals exact h
    by_cases z5 : w = 5
    · subst z5; rw [show c_count M 5 = M.1 20 12 from rfl] at h
      repeat' (first | (with_reducible exact h) | apply And.intro | exact rfl | (intro hx; exact absurd hx (by decide)) | (intro hx; exact absurd (by decide) hx) | decide | intro hx | (refine Exists.intro _ (And.intro rfl ?_)))
      all_goals try first | (with_reducible change am_tI _ _) | (change Ret _ _) | (change Ret _ _ _) | (change Exists _)
      all_goals try dsimp only at *
      all_goals try (with_reducible exact absurd ‹(1000 : Int64) = 0› am_z1000)
      all_goals exact h
    rw [show c_count M w = -2 by unfold c_count; rw [if_neg z0, if_neg z1, if_neg z2, if_neg z3, if_neg z4, if_neg z5]] at h
    repeat' (first | (with_reducible exact h) | apply And.intro | exact rfl | (intro hx; with_reducible exact absurd hx z0) | (intro hx; with_reducible exact absurd hx z1) | (intro hx; with_reducible exact absurd hx z2) | (intro hx; with_reducible exact absurd hx z3) | (intro hx; with_reducible exact absurd hx z4) | (intro hx; with_reducible exact absurd hx z5) | intro hx | (refine Exists.intro _ (And.intro rfl ?_)))
    all_goals try first | (with_reducible change am_tI _ _) | (change Ret _ _) | (change Ret _ _ _) | (change Exists _)
    all_goals try dsimp only at *
    all_goals try (with_reducible exact absurd ‹(1000 : Int64) = 0› am_z1000)
    all_goals exact h
  · exact h.elim
set_option maxRecDepth 100000 in
theorem wd_493 : Cond.methodLink "LearnLoans" 115 yX4_layNumbers ∈ am_ws := am_wt2 (List.mem_of_getElem? (i := 196) (by rfl)) (by decide +kernel)
set_option maxRecDepth 100000 in
theorem wd_295 : Cond.fieldLink "LearnLoans" 119 "LearnLoans$Run" "numbers" "[I" ∈ am_ws := am_wt1 (List.mem_of_getElem? (i := 238) (by rfl)) (by decide +kernel)
def rwX7_force : List dz_r := [(0, .iload_n 1, 1), (1, .invokestatic 98, 3), (4, .ifCond .eq 28, 3), (7, .iload_n 2, 1), (8, .iconst 0, 1), (9, .iconst 5, 1), (10, .invokestatic 55, 3), (13, .ifCond .eq 19, 3), (16, .aload_n 0, 1), (17, .iload_n 3, 1), (18, .invokevirtual 52, 3), (21, .ifCond .eq 11, 3), (24, .iload 4, 2), (26, .invokestatic 34, 3), (29, .ifCond .ne 6, 3), (32, .bipush (-2), 2), (34, .ireturn, 1), (35, .aload_n 0, 1), (36, .getfield 20, 3), (39, .iload_n 3, 1), (40, .invokevirtual 115, 3), (43, .aload_n 0, 1), (44, .getfield 20, 3), (47, .getfield 119, 3), (50, .iload 4, 2), (52, .iconst 5, 1), (53, .imul, 1), (54, .iload_n 1, 1), (55, .iadd, 1), (56, .bipush 6, 2), (58, .imul, 1), (59, .iload_n 2, 1), (60, .iadd, 1), (61, .iaload, 1), (62, .ireturn, 1)]
theorem dzX7_force : dz cX7_force rwX7_force := dz_all 0 (by decide +kernel)
def kX7_force (live : am_E) (Ret : am_R) : am_code := [(0, am_iload 1 1), (1, am_callS live 1 TX7_isPlan 4), (4, am_if1 (fun x => x = 0) 32 7), (7, am_iload 2 8), (8, am_const (.int 0) 9), (9, am_const (.int 5) 10), (10, am_callS live 3 TX7_within 13), (13, am_if1 (fun x => x = 0) 32 16), (16, am_aload 0 17), (17, am_iload 3 18), (18, am_callV live 7 1 TX7_isPerson 21), (21, am_if1 (fun x => x = 0) 32 24), (24, am_iload 4 26), (26, am_callS live 1 TX7_isYear 29), (29, am_if1 (fun x => x = 0) 32 35), (32, am_const (.int (-2)) 34), (34, am_retI Ret), (35, am_aload 0 36), (36, am_getR live 7 2 39), (39, am_iload 3 40), (40, am_callV live 4 1 TX4_layNumbers 43), (43, am_aload 0 44), (44, am_getR live 7 2 47), (47, am_getR live 4 1 50), (50, am_iload 4 52), (52, am_const (.int 5) 53), (53, am_i2 (fun x y => x * y) 54), (54, am_iload 1 55), (55, am_i2 (fun x y => x + y) 56), (56, am_const (.int 6) 58), (58, am_i2 (fun x y => x * y) 59), (59, am_iload 2 60), (60, am_i2 (fun x y => x + y) 61), (61, am_ald live 0 62), (62, am_retI Ret)]
theorem koX7_force (live : am_E) (Ret : am_R) : ∀ q ∈ kX7_force live Ret, am_ok RX7 cX7_force 5 (some .int) 3 72 live Ret q.1 q.2 :=
  am_kz dzX7_force <|
  am_kd (fun d => ak_iload_n d rfl rfl) <|
  am_kd (fun d => ak_callS metX7_isPlan ⟨rfl, hy_X7_isPlan⟩ (am_w4 wd_466 wd_467 wd_58 wd_468) (by decide) d rfl) <|
  am_kd (fun d => ak_if_eq d (by decide +kernel) rfl) <|
  am_kd (fun d => ak_iload_n d rfl rfl) <|
  am_kd (fun d => ak_iconst d (by decide +kernel) rfl) <|
  am_kd (fun d => ak_iconst d (by decide +kernel) rfl) <|
  am_kd (fun d => ak_callS metX7_within ⟨rfl, hy_X7_within⟩ (am_w4 wd_418 wd_419 wd_58 wd_420) (by decide) d rfl) <|
  am_kd (fun d => ak_if_eq d (by decide +kernel) rfl) <|
  am_kd (fun d => ak_aload_n d rfl rfl) <|
  am_kd (fun d => ak_iload_n d rfl rfl) <|
  am_kd (fun d => ak_callV (C := RX7) (F := TX7) (N := 4) metX7_isPerson rfl ⟨rfl, hy_X7_isPerson⟩ (am_w5 wd_414 wd_416 wd_0 wd_58 wd_417) (by decide) d rfl) <|
  am_kd (fun d => ak_if_eq d (by decide +kernel) rfl) <|
  am_kd (fun d => ak_iload d rfl) <|
  am_kd (fun d => ak_callS metX7_isYear ⟨rfl, hy_X7_isYear⟩ (am_w4 wd_407 wd_408 wd_58 wd_409) (by decide) d rfl) <|
  am_kd (fun d => ak_if_ne d (by decide +kernel) rfl) <|
  am_kd (fun d => ak_bipush d (by decide +kernel) rfl) <|
  am_kd (fun d => ak_retI d) <|
  am_kd (fun d => ak_aload_n d rfl rfl) <|
  am_kd (fun d => ak_getR (C := RX7) (T := TX7) (N := 4) rfl inX7w (by decide) rfl rfl rfl wd_392 d rfl) <|
  am_kd (fun d => ak_iload_n d rfl rfl) <|
  am_kd (fun d => ak_callV (C := RX4) (F := TX4) (N := 19) metX4_layNumbers rfl ⟨rfl, hy_X4_layNumbers⟩ (am_w5 wd_493 wd_494 wd_495 wd_60 wd_496) (by decide) d rfl) <|
  am_kd (fun d => ak_aload_n d rfl rfl) <|
  am_kd (fun d => ak_getR (C := RX7) (T := TX7) (N := 4) rfl inX7w (by decide) rfl rfl rfl wd_392 d rfl) <|
  am_kd (fun d => ak_getR (C := RX4) (T := TX4) (N := 19) rfl inX4w (by decide) rfl rfl rfl wd_295 d rfl) <|
  am_kd (fun d => ak_iload d rfl) <|
  am_kd (fun d => ak_iconst d (by decide +kernel) rfl) <|
  am_kd (fun d => ak_imul d rfl) <|
  am_kd (fun d => ak_iload_n d rfl rfl) <|
  am_kd (fun d => ak_iadd d rfl) <|
  am_kd (fun d => ak_bipush d (by decide +kernel) rfl) <|
  am_kd (fun d => ak_imul d rfl) <|
  am_kd (fun d => ak_iload_n d rfl rfl) <|
  am_kd (fun d => ak_iadd d rfl) <|
  am_kd (fun d => ak_iald (t := 0) (fun _ => rfl) rfl d rfl) <|
  am_kd (fun d => ak_retI d) <| am_kdn
def TX7_force : am_T := fun live as M R => match as with
  | [.ref n, .int pl, .int w, .int p, .int y] => am_mn live ∧ n = 0 ∧ (g_hI M ∧ g_rI M) ∧ ∀ v M', g_sc M M' → g_rI M' → R (some (.int v)) M'
  | _ => False
set_option maxRecDepth 100000 in
set_option maxHeartbeats 4000000 in
theorem metX7_force : am_Met yX7_force cX7_force 5 (some .int) (3) (72) TX7_force := by
  refine am_met (own := RX7) (by decide +kernel) rfl kX7_force koX7_force 150 (fun _ _ _ _ _ => none) (fun live as M Ret h => ?_) (fun _ _ _ _ _ _ _ _ hI => by cases hI)
  unfold TX7_force at h
  split at h
  · next n pl w p y =>
    refine ⟨Nat.le_of_ble_eq_true rfl, ?_⟩
    change am_wp _ _ _ _ [(0, Value.ref n), (1, Value.int pl), (2, Value.int w), (3, Value.int p), (4, Value.int y)] _ _
    obtain ⟨hmn, rfl, ⟨hH, hR⟩, h⟩ := h
    have hmn2 := hmn
    obtain ⟨i1, i2, rfl⟩ := hmn2
    by_cases z0 : 0 ≤ pl ∧ pl < 5
    rotate_left
    · skip
      have q0 : (if 0 ≤ pl ∧ pl < 5 then (1 : Int32) else 0) = 0 := if_neg z0
      repeat' (first | (with_reducible exact hmn) | apply And.intro | exact rfl | (intro hx; with_reducible exact absurd q0 hx) | (intro hx; exact absurd hx (by decide)) | (intro hx; exact absurd (by decide) hx) | decide | intro hx | (refine Exists.intro _ (And.intro rfl ?_)))
      all_goals try first | (with_reducible change am_tI _ _) | (change Ret _ _) | (change Ret _ _ _) | (change Exists _)
      all_goals try dsimp only at *
      all_goals try (with_reducible exact absurd ‹(1000 : Int64) = 0› am_z1000)
      all_goals exact h _ _ g_sc.rf hR
    · skip
      have q0 : ¬ ((if 0 ≤ pl ∧ pl < 5 then (1 : Int32) else 0) = 0) := by rw [if_pos z0]; decide
      by_cases z1 : 0 ≤ w ∧ w ≤ 5
      rotate_left
      · skip
        have q1 : (if 0 ≤ w ∧ w ≤ 5 then (1 : Int32) else 0) = 0 := if_neg z1
        repeat' (first | (with_reducible exact hmn) | apply And.intro | exact rfl | (intro hx; with_reducible exact absurd hx q0) | (intro hx; with_reducible exact absurd q1 hx) | (intro hx; exact absurd hx (by decide)) | (intro hx; exact absurd (by decide) hx) | decide | intro hx | (refine Exists.intro _ (And.intro rfl ?_)))
        all_goals try first | (with_reducible change am_tI _ _) | (change Ret _ _) | (change Ret _ _ _) | (change Exists _)
        all_goals try dsimp only at *
        all_goals try (with_reducible exact absurd ‹(1000 : Int64) = 0› am_z1000)
        all_goals exact h _ _ g_sc.rf hR
      · skip
        have q1 : ¬ ((if 0 ≤ w ∧ w ≤ 5 then (1 : Int32) else 0) = 0) := by rw [if_pos z1]; decide
        by_cases z2 : 0 ≤ p ∧ p < M.1 21 7
        rotate_left
        · skip
          have q2 : (if 0 ≤ p ∧ p < M.1 21 7 then (1 : Int32) else 0) = 0 := if_neg z2
          repeat' (first | (with_reducible exact hmn) | apply And.intro | exact rfl | (intro hx; with_reducible exact absurd hx q0) | (intro hx; with_reducible exact absurd hx q1) | (intro hx; with_reducible exact absurd q2 hx) | (intro hx; exact absurd hx (by decide)) | (intro hx; exact absurd (by decide) hx) | decide | intro hx | (refine Exists.intro _ (And.intro rfl ?_)))
          all_goals try first | (with_reducible change am_tI _ _) | (change Ret _ _) | (change Ret _ _ _) | (change Exists _)
          all_goals try dsimp only at *
          all_goals try (with_reducible exact absurd ‹(1000 : Int64) = 0› am_z1000)
          all_goals exact h _ _ g_sc.rf hR
        · skip
          have q2 : ¬ ((if 0 ≤ p ∧ p < M.1 21 7 then (1 : Int32) else 0) = 0) := by rw [if_pos z2]; decide
          by_cases z3 : 0 ≤ y ∧ y < 40
          rotate_left
          · skip
            have q3 : (if 0 ≤ y ∧ y < 40 then (1 : Int32) else 0) = 0 := if_neg z3
            repeat' (first | (with_reducible exact hmn) | apply And.intro | exact rfl | (intro hx; with_reducible exact absurd hx q0) | (intro hx; with_reducible exact absurd hx q1) | (intro hx; with_reducible exact absurd hx q2) | (intro hx; with_reducible exact absurd q3 hx) | (intro hx; exact absurd hx (by decide)) | (intro hx; exact absurd (by decide) hx) | decide | intro hx | (refine Exists.intro _ (And.intro rfl ?_)))
            all_goals try first | (with_reducible change am_tI _ _) | (change Ret _ _) | (change Ret _ _ _) | (change Exists _)
            all_goals try dsimp only at *
            all_goals try (with_reducible exact absurd ‹(1000 : Int64) = 0› am_z1000)
            all_goals exact h _ _ g_sc.rf hR
          · skip
            have q3 : ¬ ((if 0 ≤ y ∧ y < 40 then (1 : Int32) else 0) = 0) := by rw [if_pos z3]; decide
            have l5 : am_len 5 = 1200 := rfl
            have hp : am_in p 12 := ⟨by have q := z2.1; simp only [i_le, Int32.reduceToInt] at q; omega, by have q := z2.2; have q2 := hH.pe; simp only [i_lt] at q; omega⟩
            have hy : am_in y 40 := ⟨by have q := z3.1; simp only [i_le, Int32.reduceToInt] at q; omega, by have q := z3.2; simp only [i_lt, Int32.reduceToInt] at q; omega⟩
            have hpl : am_in pl 5 := ⟨by have q := z0.1; simp only [i_le, Int32.reduceToInt] at q; omega, by have q := z0.2; simp only [i_lt, Int32.reduceToInt] at q; omega⟩
            have hw : am_in w 6 := ⟨by have q := z1.1; simp only [i_le, Int32.reduceToInt] at q; omega, by have q := z1.2; simp only [i_le, Int32.reduceToInt] at q; omega⟩
            have ec := am_celly hy hpl hw
            have a1 := hpl.1
            have a2 := hpl.2
            have b1 := hy.1
            have b2 := hy.2
            have c1 := hw.1
            have c2 := hw.2
            repeat' (first | (with_reducible exact hmn) | (with_reducible exact hR) | (with_reducible exact hp) | apply And.intro | exact rfl | (intro hx; with_reducible exact absurd hx q0) | (intro hx; with_reducible exact absurd hx q1) | (intro hx; with_reducible exact absurd hx q2) | (intro hx; with_reducible exact absurd hx q3) | ((with_reducible change g_rI _); (with_reducible assumption)) | (intro hx; exact absurd hx (by decide)) | (intro hx; exact absurd (by decide) hx) | decide | intro hx | (refine Exists.intro _ (And.intro rfl ?_)))
            all_goals try first | (with_reducible change am_tI _ _) | (change Ret _ _) | (change Ret _ _ _) | (change Exists _)
            all_goals try dsimp only at *
            all_goals try (with_reducible exact absurd ‹(1000 : Int64) = 0› am_z1000)
            all_goals first | omega | (rw [l5, ec]; omega) | (rw [ec]; omega) | ((with_reducible change Ret _ _); exact h _ _ (by (repeat' (first | (with_reducible exact g_sc.rf) | (with_reducible assumption) | ((with_reducible change g_sc _ (am_wI _ _ _ _)); refine g_sc.wI ?_ rfl) | ((with_reducible change g_sc _ (am_wJ _ _ _ _)); refine g_sc.wJ ?_ rfl) | ((with_reducible change g_sc _ (am_cI _ _ _)); refine g_sc.cI ?_ rfl) | ((with_reducible change g_sc _ (am_cJ _ _ _)); refine g_sc.cJ ?_ rfl) | (refine g_sc.tr ?_ (by with_reducible assumption)) | (refine g_sc.st ?_ (by with_reducible assumption))))) (by (repeat' (first | (with_reducible assumption) | ((with_reducible change g_rI (am_wJ _ _ _ _)); refine g_rI.wJ ?_) | ((with_reducible change g_rI (am_cJ _ _ _)); refine g_rI.cJ ?_) | ((with_reducible change g_rI (am_wI _ 5 _ _)); refine g_rI.w5 ?_) | ((with_reducible change g_rI (am_wI _ _ _ _)); refine g_rI.wF ?_ rfl) | (refine g_rI.st ?_ (by with_reducible assumption)) | (refine g_rI.we ?_ (by with_reducible assumption)))))) | skip
  · exact h.elim
set_option maxRecDepth 100000 in
theorem wd_545 : Cond.constantLong "LearnLoans" 149 (-2) ∈ am_ws := am_wt3 (List.mem_of_getElem? (i := 8) (by rfl)) (by decide +kernel)
set_option maxRecDepth 100000 in
theorem wd_298 : Cond.fieldLink "LearnLoans" 158 "LearnLoans$Run" "sums" "[J" ∈ am_ws := am_wt2 (List.mem_of_getElem? (i := 1) (by rfl)) (by decide +kernel)
def rwX7_owes : List dz_r := [(0, .aload_n 0, 1), (1, .iload_n 1, 1), (2, .invokevirtual 135, 3), (5, .ifCond .eq 27, 3), (8, .iload_n 2, 1), (9, .invokestatic 34, 3), (12, .ifCond .eq 20, 3), (15, .iload_n 3, 1), (16, .invokestatic 34, 3), (19, .ifCond .eq 13, 3), (22, .iload 4, 2), (24, .iconst 0, 1), (25, .iconst 4, 1), (26, .invokestatic 55, 3), (29, .ifCond .ne 7, 3), (32, .ldc2_w 149, 3), (35, .lreturn, 1), (36, .aload_n 0, 1), (37, .getfield 20, 3), (40, .aload_n 0, 1), (41, .getfield 27, 3), (44, .getfield 122, 3), (47, .iload_n 1, 1), (48, .iconst 0, 1), (49, .invokevirtual 138, 3), (52, .iload_n 3, 1), (53, .invokevirtual 151, 3), (56, .aload_n 0, 1), (57, .getfield 20, 3), (60, .iload_n 2, 1), (61, .invokevirtual 155, 3), (64, .aload_n 0, 1), (65, .getfield 20, 3), (68, .getfield 158, 3), (71, .iload 4, 2), (73, .bipush 30, 2), (75, .imul, 1), (76, .iload_n 1, 1), (77, .iadd, 1), (78, .laload, 1), (79, .lreturn, 1)]
theorem dzX7_owes : dz cX7_owes rwX7_owes := dz_all 0 (by decide +kernel)
def kX7_owes (live : am_E) (Ret : am_R) : am_code := [(0, am_aload 0 1), (1, am_iload 1 2), (2, am_callV live 7 1 TX7_isLoan 5), (5, am_if1 (fun x => x = 0) 32 8), (8, am_iload 2 9), (9, am_callS live 1 TX7_isYear 12), (12, am_if1 (fun x => x = 0) 32 15), (15, am_iload 3 16), (16, am_callS live 1 TX7_isYear 19), (19, am_if1 (fun x => x = 0) 32 22), (22, am_iload 4 24), (24, am_const (.int 0) 25), (25, am_const (.int 4) 26), (26, am_callS live 3 TX7_within 29), (29, am_if1 (fun x => x = 0) 32 36), (32, am_const (.long (-2)) 35), (35, am_retL Ret), (36, am_aload 0 37), (37, am_getR live 7 2 40), (40, am_aload 0 41), (41, am_getR live 7 0 44), (44, am_getR live 0 4 47), (47, am_iload 1 48), (48, am_const (.int 0) 49), (49, am_callV live 3 2 TX3_at 52), (52, am_iload 3 53), (53, am_callV live 4 2 TX4_begin 56), (56, am_aload 0 57), (57, am_getR live 7 2 60), (60, am_iload 2 61), (61, am_callV live 4 1 TX4_go 64), (64, am_aload 0 65), (65, am_getR live 7 2 68), (68, am_getR live 4 2 71), (71, am_iload 4 73), (73, am_const (.int 30) 75), (75, am_i2 (fun x y => x * y) 76), (76, am_iload 1 77), (77, am_i2 (fun x y => x + y) 78), (78, am_lald live 1 79), (79, am_retL Ret)]
theorem koX7_owes (live : am_E) (Ret : am_R) : ∀ q ∈ kX7_owes live Ret, am_ok RX7 cX7_owes 5 (some .long) 5 124 live Ret q.1 q.2 :=
  am_kz dzX7_owes <|
  am_kd (fun d => ak_aload_n d rfl rfl) <|
  am_kd (fun d => ak_iload_n d rfl rfl) <|
  am_kd (fun d => ak_callV (C := RX7) (F := TX7) (N := 4) metX7_isLoan rfl ⟨rfl, hy_X7_isLoan⟩ (am_w5 wd_520 wd_522 wd_2 wd_58 wd_523) (by decide) d rfl) <|
  am_kd (fun d => ak_if_eq d (by decide +kernel) rfl) <|
  am_kd (fun d => ak_iload_n d rfl rfl) <|
  am_kd (fun d => ak_callS metX7_isYear ⟨rfl, hy_X7_isYear⟩ (am_w4 wd_407 wd_408 wd_58 wd_409) (by decide) d rfl) <|
  am_kd (fun d => ak_if_eq d (by decide +kernel) rfl) <|
  am_kd (fun d => ak_iload_n d rfl rfl) <|
  am_kd (fun d => ak_callS metX7_isYear ⟨rfl, hy_X7_isYear⟩ (am_w4 wd_407 wd_408 wd_58 wd_409) (by decide) d rfl) <|
  am_kd (fun d => ak_if_eq d (by decide +kernel) rfl) <|
  am_kd (fun d => ak_iload d rfl) <|
  am_kd (fun d => ak_iconst d (by decide +kernel) rfl) <|
  am_kd (fun d => ak_iconst d (by decide +kernel) rfl) <|
  am_kd (fun d => ak_callS metX7_within ⟨rfl, hy_X7_within⟩ (am_w4 wd_418 wd_419 wd_58 wd_420) (by decide) d rfl) <|
  am_kd (fun d => ak_if_ne d (by decide +kernel) rfl) <|
  am_kd (fun d => ak_ldc2 wd_545 d rfl) <|
  am_kd (fun d => ak_retL d) <|
  am_kd (fun d => ak_aload_n d rfl rfl) <|
  am_kd (fun d => ak_getR (C := RX7) (T := TX7) (N := 4) rfl inX7w (by decide) rfl rfl rfl wd_392 d rfl) <|
  am_kd (fun d => ak_aload_n d rfl rfl) <|
  am_kd (fun d => ak_getR (C := RX7) (T := TX7) (N := 4) rfl inX7w (by decide) rfl rfl rfl wd_390 d rfl) <|
  am_kd (fun d => ak_getR (C := RX0) (T := TX0) (N := 13) rfl inX0w (by decide) rfl rfl rfl wd_207 d rfl) <|
  am_kd (fun d => ak_iload_n d rfl rfl) <|
  am_kd (fun d => ak_iconst d (by decide +kernel) rfl) <|
  am_kd (fun d => ak_callV (C := RX3) (F := TX3) (N := 3) metX3_at rfl ⟨rfl, hy_X3_at⟩ (am_w5 wd_524 wd_503 wd_504 wd_64 wd_505) (by decide) d rfl) <|
  am_kd (fun d => ak_iload_n d rfl rfl) <|
  am_kd (fun d => ak_callV (C := RX4) (F := TX4) (N := 19) metX4_begin rfl ⟨rfl, hy_X4_begin⟩ (am_w5 wd_546 wd_547 wd_548 wd_60 wd_549) (by decide) d rfl) <|
  am_kd (fun d => ak_aload_n d rfl rfl) <|
  am_kd (fun d => ak_getR (C := RX7) (T := TX7) (N := 4) rfl inX7w (by decide) rfl rfl rfl wd_392 d rfl) <|
  am_kd (fun d => ak_iload_n d rfl rfl) <|
  am_kd (fun d => ak_callV (C := RX4) (F := TX4) (N := 19) metX4_go rfl ⟨rfl, hy_X4_go⟩ (am_w5 wd_559 wd_560 wd_561 wd_60 wd_562) (by decide) d rfl) <|
  am_kd (fun d => ak_aload_n d rfl rfl) <|
  am_kd (fun d => ak_getR (C := RX7) (T := TX7) (N := 4) rfl inX7w (by decide) rfl rfl rfl wd_392 d rfl) <|
  am_kd (fun d => ak_getR (C := RX4) (T := TX4) (N := 19) rfl inX4w (by decide) rfl rfl rfl wd_298 d rfl) <|
  am_kd (fun d => ak_iload d rfl) <|
  am_kd (fun d => ak_bipush d (by decide +kernel) rfl) <|
  am_kd (fun d => ak_imul d rfl) <|
  am_kd (fun d => ak_iload_n d rfl rfl) <|
  am_kd (fun d => ak_iadd d rfl) <|
  am_kd (fun d => ak_lald (t := 1) (fun _ => rfl) rfl d rfl) <|
  am_kd (fun d => ak_retL d) <| am_kdn
def TX7_owes : am_T := fun live as M R => match as with
  | [.ref n, .int l, .int y, .int k, .int w] => am_mn live ∧ n = 0 ∧ (g_hI M ∧ g_rI M) ∧ ∀ v M', g_sc M M' → g_rI M' → R (some (.long v)) M'
  | _ => False
set_option maxRecDepth 100000 in
set_option maxHeartbeats 4000000 in
theorem metX7_owes : am_Met yX7_owes cX7_owes 5 (some .long) (5) (124) TX7_owes := by
  refine am_met (own := RX7) (by decide +kernel) rfl kX7_owes koX7_owes 150 (fun _ _ _ _ _ => none) (fun live as M Ret h => ?_) (fun _ _ _ _ _ _ _ _ hI => by cases hI)
  unfold TX7_owes at h
  split at h
  · next n l y k w =>
    refine ⟨Nat.le_of_ble_eq_true rfl, ?_⟩
    change am_wp _ _ _ _ [(0, Value.ref n), (1, Value.int l), (2, Value.int y), (3, Value.int k), (4, Value.int w)] _ _
    obtain ⟨hmn, rfl, ⟨hH, hR⟩, h⟩ := h
    have hmn2 := hmn
    obtain ⟨i1, i2, rfl⟩ := hmn2
    by_cases z0 : 0 ≤ l ∧ l < M.1 33 2
    rotate_left
    · skip
      have q0 : (if 0 ≤ l ∧ l < M.1 33 2 then (1 : Int32) else 0) = 0 := if_neg z0
      repeat' (first | (with_reducible exact hmn) | apply And.intro | exact rfl | (intro hx; with_reducible exact absurd q0 hx) | (intro hx; exact absurd hx (by decide)) | (intro hx; exact absurd (by decide) hx) | decide | intro hx | (refine Exists.intro _ (And.intro rfl ?_)))
      all_goals try first | (with_reducible change am_tI _ _) | (change Ret _ _) | (change Ret _ _ _) | (change Exists _)
      all_goals try dsimp only at *
      all_goals try (with_reducible exact absurd ‹(1000 : Int64) = 0› am_z1000)
      all_goals exact h _ _ g_sc.rf hR
    · skip
      have q0 : ¬ ((if 0 ≤ l ∧ l < M.1 33 2 then (1 : Int32) else 0) = 0) := by rw [if_pos z0]; decide
      by_cases z1 : 0 ≤ y ∧ y < 40
      rotate_left
      · skip
        have q1 : (if 0 ≤ y ∧ y < 40 then (1 : Int32) else 0) = 0 := if_neg z1
        repeat' (first | (with_reducible exact hmn) | apply And.intro | exact rfl | (intro hx; with_reducible exact absurd hx q0) | (intro hx; with_reducible exact absurd q1 hx) | (intro hx; exact absurd hx (by decide)) | (intro hx; exact absurd (by decide) hx) | decide | intro hx | (refine Exists.intro _ (And.intro rfl ?_)))
        all_goals try first | (with_reducible change am_tI _ _) | (change Ret _ _) | (change Ret _ _ _) | (change Exists _)
        all_goals try dsimp only at *
        all_goals try (with_reducible exact absurd ‹(1000 : Int64) = 0› am_z1000)
        all_goals exact h _ _ g_sc.rf hR
      · skip
        have q1 : ¬ ((if 0 ≤ y ∧ y < 40 then (1 : Int32) else 0) = 0) := by rw [if_pos z1]; decide
        by_cases z2 : 0 ≤ k ∧ k < 40
        rotate_left
        · skip
          have q2 : (if 0 ≤ k ∧ k < 40 then (1 : Int32) else 0) = 0 := if_neg z2
          repeat' (first | (with_reducible exact hmn) | apply And.intro | exact rfl | (intro hx; with_reducible exact absurd hx q0) | (intro hx; with_reducible exact absurd hx q1) | (intro hx; with_reducible exact absurd q2 hx) | (intro hx; exact absurd hx (by decide)) | (intro hx; exact absurd (by decide) hx) | decide | intro hx | (refine Exists.intro _ (And.intro rfl ?_)))
          all_goals try first | (with_reducible change am_tI _ _) | (change Ret _ _) | (change Ret _ _ _) | (change Exists _)
          all_goals try dsimp only at *
          all_goals try (with_reducible exact absurd ‹(1000 : Int64) = 0› am_z1000)
          all_goals exact h _ _ g_sc.rf hR
        · skip
          have q2 : ¬ ((if 0 ≤ k ∧ k < 40 then (1 : Int32) else 0) = 0) := by rw [if_pos z2]; decide
          by_cases z3 : 0 ≤ w ∧ w ≤ 4
          rotate_left
          · skip
            have q3 : (if 0 ≤ w ∧ w ≤ 4 then (1 : Int32) else 0) = 0 := if_neg z3
            repeat' (first | (with_reducible exact hmn) | apply And.intro | exact rfl | (intro hx; with_reducible exact absurd hx q0) | (intro hx; with_reducible exact absurd hx q1) | (intro hx; with_reducible exact absurd hx q2) | (intro hx; with_reducible exact absurd q3 hx) | (intro hx; exact absurd hx (by decide)) | (intro hx; exact absurd (by decide) hx) | decide | intro hx | (refine Exists.intro _ (And.intro rfl ?_)))
            all_goals try first | (with_reducible change am_tI _ _) | (change Ret _ _) | (change Ret _ _ _) | (change Exists _)
            all_goals try dsimp only at *
            all_goals try (with_reducible exact absurd ‹(1000 : Int64) = 0› am_z1000)
            all_goals exact h _ _ g_sc.rf hR
          · skip
            have q3 : ¬ ((if 0 ≤ w ∧ w ≤ 4 then (1 : Int32) else 0) = 0) := by rw [if_pos z3]; decide
            have l6 : am_len 6 = 180 := rfl
            have hl : am_in l 30 := ⟨by have q := z0.1; simp only [i_le, Int32.reduceToInt] at q; omega, by have q := z0.2; have q2 := hH.lo.2; simp only [i_lt] at q; omega⟩
            have hp := g_pers hH hl
            have hw : am_in w 5 := ⟨by have q := z3.1; simp only [i_le, Int32.reduceToInt] at q; omega, by have q := z3.2; simp only [i_le, Int32.reduceToInt] at q; omega⟩
            have a1 := hl.1
            have a2 := hl.2
            have c1 := hw.1
            have c2 := hw.2
            have e30 := i_mul (x := w) (y := 30) (by simp only [Int32.reduceToInt]; omega) (by simp only [Int32.reduceToInt]; omega)
            simp only [Int32.reduceToInt] at e30
            have ew := i_add (x := w * 30) (y := l) (by rw [e30]; omega) (by rw [e30]; omega)
            repeat' (first | (with_reducible exact hmn) | (with_reducible exact hR) | (with_reducible exact hp) | apply And.intro | exact rfl | (intro hx; with_reducible exact absurd hx q0) | (intro hx; with_reducible exact absurd hx q1) | (intro hx; with_reducible exact absurd hx q2) | (intro hx; with_reducible exact absurd hx q3) | ((with_reducible change g_rI _); (with_reducible assumption)) | (intro hx; exact absurd hx (by decide)) | (intro hx; exact absurd (by decide) hx) | decide | intro hx | (refine Exists.intro _ (And.intro rfl ?_)))
            all_goals try first | (with_reducible change am_tI _ _) | (change Ret _ _) | (change Ret _ _ _) | (change Exists _)
            all_goals try dsimp only at *
            all_goals try (with_reducible exact absurd ‹(1000 : Int64) = 0› am_z1000)
            all_goals first | omega | (rw [l6]; omega) | ((with_reducible change Ret _ _); exact h _ _ (by (repeat' (first | (with_reducible exact g_sc.rf) | (with_reducible assumption) | ((with_reducible change g_sc _ (am_wI _ _ _ _)); refine g_sc.wI ?_ rfl) | ((with_reducible change g_sc _ (am_wJ _ _ _ _)); refine g_sc.wJ ?_ rfl) | ((with_reducible change g_sc _ (am_cI _ _ _)); refine g_sc.cI ?_ rfl) | ((with_reducible change g_sc _ (am_cJ _ _ _)); refine g_sc.cJ ?_ rfl) | (refine g_sc.tr ?_ (by with_reducible assumption)) | (refine g_sc.st ?_ (by with_reducible assumption))))) (by (repeat' (first | (with_reducible assumption) | ((with_reducible change g_rI (am_wJ _ _ _ _)); refine g_rI.wJ ?_) | ((with_reducible change g_rI (am_cJ _ _ _)); refine g_rI.cJ ?_) | ((with_reducible change g_rI (am_wI _ 5 _ _)); refine g_rI.w5 ?_) | ((with_reducible change g_rI (am_wI _ _ _ _)); refine g_rI.wF ?_ rfl) | (refine g_rI.st ?_ (by with_reducible assumption)) | (refine g_rI.we ?_ (by with_reducible assumption)))))) | skip
  · exact h.elim
theorem hy_X7_together : yX7_together.cls ≠ "java/lang/invoke/MethodHandle" ∧ yX7_together.cls ≠ "java/lang/invoke/VarHandle" ∧ (parseMethodDescriptor yX7_together.desc).map (fun d => d.parameters.length) = some 4 := ⟨by decide +kernel, by decide +kernel, by decide +kernel⟩
set_option maxRecDepth 100000 in
theorem wd_645 : Cond.methodLink "LearnLoans" 162 yX7_together ∈ am_ws := am_wt3 (List.mem_of_getElem? (i := 108) (by rfl)) (by decide +kernel)
set_option maxRecDepth 100000 in
theorem wd_647 : Cond.instanceMethod yX7_together ∈ am_ws := am_wt3 (List.mem_of_getElem? (i := 110) (by rfl)) (by decide +kernel)
set_option maxRecDepth 100000 in
theorem wd_12 : Cond.selects "LearnLoans" yX7_together yX7_together ∈ am_ws := am_wsi (List.mem_of_getElem? (i := 12) (by rfl)) (by decide +kernel)
set_option maxRecDepth 100000 in
theorem wd_648 : Cond.code yX7_together cX7_together 5 (some .long) ∈ am_ws := am_wt3 (List.mem_of_getElem? (i := 111) (by rfl)) (by decide +kernel)
def rwX7_all : List dz_r := [(0, .aload_n 0, 1), (1, .iload_n 1, 1), (2, .invokevirtual 52, 3), (5, .ifCond .eq 27, 3), (8, .iload_n 2, 1), (9, .invokestatic 34, 3), (12, .ifCond .eq 20, 3), (15, .iload_n 3, 1), (16, .invokestatic 34, 3), (19, .ifCond .eq 13, 3), (22, .iload 4, 2), (24, .iconst 0, 1), (25, .iconst 4, 1), (26, .invokestatic 55, 3), (29, .ifCond .ne 7, 3), (32, .ldc2_w 149, 3), (35, .lreturn, 1), (36, .aload_n 0, 1), (37, .iload_n 1, 1), (38, .iload_n 2, 1), (39, .iload_n 3, 1), (40, .iload 4, 2), (42, .invokevirtual 162, 3), (45, .lreturn, 1)]
theorem dzX7_all : dz cX7_all rwX7_all := dz_all 0 (by decide +kernel)
def kX7_all (live : am_E) (Ret : am_R) : am_code := [(0, am_aload 0 1), (1, am_iload 1 2), (2, am_callV live 7 1 TX7_isPerson 5), (5, am_if1 (fun x => x = 0) 32 8), (8, am_iload 2 9), (9, am_callS live 1 TX7_isYear 12), (12, am_if1 (fun x => x = 0) 32 15), (15, am_iload 3 16), (16, am_callS live 1 TX7_isYear 19), (19, am_if1 (fun x => x = 0) 32 22), (22, am_iload 4 24), (24, am_const (.int 0) 25), (25, am_const (.int 4) 26), (26, am_callS live 3 TX7_within 29), (29, am_if1 (fun x => x = 0) 32 36), (32, am_const (.long (-2)) 35), (35, am_retL Ret), (36, am_aload 0 37), (37, am_iload 1 38), (38, am_iload 2 39), (39, am_iload 3 40), (40, am_iload 4 42), (42, am_callV live 7 4 TX7_together 45), (45, am_retL Ret)]
theorem koX7_all (live : am_E) (Ret : am_R) : ∀ q ∈ kX7_all live Ret, am_ok RX7 cX7_all 5 (some .long) 6 148 live Ret q.1 q.2 :=
  am_kz dzX7_all <|
  am_kd (fun d => ak_aload_n d rfl rfl) <|
  am_kd (fun d => ak_iload_n d rfl rfl) <|
  am_kd (fun d => ak_callV (C := RX7) (F := TX7) (N := 4) metX7_isPerson rfl ⟨rfl, hy_X7_isPerson⟩ (am_w5 wd_414 wd_416 wd_0 wd_58 wd_417) (by decide) d rfl) <|
  am_kd (fun d => ak_if_eq d (by decide +kernel) rfl) <|
  am_kd (fun d => ak_iload_n d rfl rfl) <|
  am_kd (fun d => ak_callS metX7_isYear ⟨rfl, hy_X7_isYear⟩ (am_w4 wd_407 wd_408 wd_58 wd_409) (by decide) d rfl) <|
  am_kd (fun d => ak_if_eq d (by decide +kernel) rfl) <|
  am_kd (fun d => ak_iload_n d rfl rfl) <|
  am_kd (fun d => ak_callS metX7_isYear ⟨rfl, hy_X7_isYear⟩ (am_w4 wd_407 wd_408 wd_58 wd_409) (by decide) d rfl) <|
  am_kd (fun d => ak_if_eq d (by decide +kernel) rfl) <|
  am_kd (fun d => ak_iload d rfl) <|
  am_kd (fun d => ak_iconst d (by decide +kernel) rfl) <|
  am_kd (fun d => ak_iconst d (by decide +kernel) rfl) <|
  am_kd (fun d => ak_callS metX7_within ⟨rfl, hy_X7_within⟩ (am_w4 wd_418 wd_419 wd_58 wd_420) (by decide) d rfl) <|
  am_kd (fun d => ak_if_ne d (by decide +kernel) rfl) <|
  am_kd (fun d => ak_ldc2 wd_545 d rfl) <|
  am_kd (fun d => ak_retL d) <|
  am_kd (fun d => ak_aload_n d rfl rfl) <|
  am_kd (fun d => ak_iload_n d rfl rfl) <|
  am_kd (fun d => ak_iload_n d rfl rfl) <|
  am_kd (fun d => ak_iload_n d rfl rfl) <|
  am_kd (fun d => ak_iload d rfl) <|
  am_kd (fun d => ak_callV (C := RX7) (F := TX7) (N := 4) metX7_together rfl ⟨rfl, hy_X7_together⟩ (am_w5 wd_645 wd_647 wd_12 wd_58 wd_648) (by decide) d rfl) <|
  am_kd (fun d => ak_retL d) <| am_kdn
def TX7_all : am_T := fun live as M R => match as with
  | [.ref n, .int p, .int y, .int k, .int w] => am_mn live ∧ n = 0 ∧ (g_hI M ∧ g_rI M) ∧ ∀ v M', g_sc M M' → g_rI M' → R (some (.long v)) M'
  | _ => False
set_option maxRecDepth 100000 in
set_option maxHeartbeats 4000000 in
theorem metX7_all : am_Met yX7_all cX7_all 5 (some .long) (6) (148) TX7_all := by
  refine am_met (own := RX7) (by decide +kernel) rfl kX7_all koX7_all 150 (fun _ _ _ _ _ => none) (fun live as M Ret h => ?_) (fun _ _ _ _ _ _ _ _ hI => by cases hI)
  unfold TX7_all at h
  split at h
  · next n p y k w =>
    refine ⟨Nat.le_of_ble_eq_true rfl, ?_⟩
    change am_wp _ _ _ _ [(0, Value.ref n), (1, Value.int p), (2, Value.int y), (3, Value.int k), (4, Value.int w)] _ _
    obtain ⟨hmn, rfl, ⟨hH, hR⟩, h⟩ := h
    have hmn2 := hmn
    obtain ⟨i1, i2, rfl⟩ := hmn2
    by_cases z0 : 0 ≤ p ∧ p < M.1 21 7
    rotate_left
    · skip
      have q0 : (if 0 ≤ p ∧ p < M.1 21 7 then (1 : Int32) else 0) = 0 := if_neg z0
      repeat' (first | (with_reducible exact hmn) | apply And.intro | exact rfl | (intro hx; with_reducible exact absurd q0 hx) | (intro hx; exact absurd hx (by decide)) | (intro hx; exact absurd (by decide) hx) | decide | intro hx | (refine Exists.intro _ (And.intro rfl ?_)))
      all_goals try first | (with_reducible change am_tI _ _) | (change Ret _ _) | (change Ret _ _ _) | (change Exists _)
      all_goals try dsimp only at *
      all_goals try (with_reducible exact absurd ‹(1000 : Int64) = 0› am_z1000)
      all_goals exact h _ _ g_sc.rf hR
    · skip
      have q0 : ¬ ((if 0 ≤ p ∧ p < M.1 21 7 then (1 : Int32) else 0) = 0) := by rw [if_pos z0]; decide
      by_cases z1 : 0 ≤ y ∧ y < 40
      rotate_left
      · skip
        have q1 : (if 0 ≤ y ∧ y < 40 then (1 : Int32) else 0) = 0 := if_neg z1
        repeat' (first | (with_reducible exact hmn) | apply And.intro | exact rfl | (intro hx; with_reducible exact absurd hx q0) | (intro hx; with_reducible exact absurd q1 hx) | (intro hx; exact absurd hx (by decide)) | (intro hx; exact absurd (by decide) hx) | decide | intro hx | (refine Exists.intro _ (And.intro rfl ?_)))
        all_goals try first | (with_reducible change am_tI _ _) | (change Ret _ _) | (change Ret _ _ _) | (change Exists _)
        all_goals try dsimp only at *
        all_goals try (with_reducible exact absurd ‹(1000 : Int64) = 0› am_z1000)
        all_goals exact h _ _ g_sc.rf hR
      · skip
        have q1 : ¬ ((if 0 ≤ y ∧ y < 40 then (1 : Int32) else 0) = 0) := by rw [if_pos z1]; decide
        by_cases z2 : 0 ≤ k ∧ k < 40
        rotate_left
        · skip
          have q2 : (if 0 ≤ k ∧ k < 40 then (1 : Int32) else 0) = 0 := if_neg z2
          repeat' (first | (with_reducible exact hmn) | apply And.intro | exact rfl | (intro hx; with_reducible exact absurd hx q0) | (intro hx; with_reducible exact absurd hx q1) | (intro hx; with_reducible exact absurd q2 hx) | (intro hx; exact absurd hx (by decide)) | (intro hx; exact absurd (by decide) hx) | decide | intro hx | (refine Exists.intro _ (And.intro rfl ?_)))
          all_goals try first | (with_reducible change am_tI _ _) | (change Ret _ _) | (change Ret _ _ _) | (change Exists _)
          all_goals try dsimp only at *
          all_goals try (with_reducible exact absurd ‹(1000 : Int64) = 0› am_z1000)
          all_goals exact h _ _ g_sc.rf hR
        · skip
          have q2 : ¬ ((if 0 ≤ k ∧ k < 40 then (1 : Int32) else 0) = 0) := by rw [if_pos z2]; decide
          by_cases z3 : 0 ≤ w ∧ w ≤ 4
          rotate_left
          · skip
            have q3 : (if 0 ≤ w ∧ w ≤ 4 then (1 : Int32) else 0) = 0 := if_neg z3
            repeat' (first | (with_reducible exact hmn) | apply And.intro | exact rfl | (intro hx; with_reducible exact absurd hx q0) | (intro hx; with_reducible exact absurd hx q1) | (intro hx; with_reducible exact absurd hx q2) | (intro hx; with_reducible exact absurd q3 hx) | (intro hx; exact absurd hx (by decide)) | (intro hx; exact absurd (by decide) hx) | decide | intro hx | (refine Exists.intro _ (And.intro rfl ?_)))
            all_goals try first | (with_reducible change am_tI _ _) | (change Ret _ _) | (change Ret _ _ _) | (change Exists _)
            all_goals try dsimp only at *
            all_goals try (with_reducible exact absurd ‹(1000 : Int64) = 0› am_z1000)
            all_goals exact h _ _ g_sc.rf hR
          · skip
            have q3 : ¬ ((if 0 ≤ w ∧ w ≤ 4 then (1 : Int32) else 0) = 0) := by rw [if_pos z3]; decide
            have hp : am_in p 12 := ⟨by have q := z0.1; simp only [i_le, Int32.reduceToInt] at q; omega, by have q := z0.2; have q2 := hH.pe; simp only [i_lt] at q; omega⟩
            have hw : am_in w 6 := ⟨by have q := z3.1; simp only [i_le, Int32.reduceToInt] at q; omega, by have q := z3.2; simp only [i_le, Int32.reduceToInt] at q; omega⟩
            repeat' (first | (with_reducible exact hmn) | (with_reducible exact hR) | (with_reducible exact hp) | (with_reducible exact hw) | apply And.intro | exact rfl | (intro hx; with_reducible exact absurd hx q0) | (intro hx; with_reducible exact absurd hx q1) | (intro hx; with_reducible exact absurd hx q2) | (intro hx; with_reducible exact absurd hx q3) | ((with_reducible change g_rI _); (with_reducible assumption)) | (intro hx; exact absurd hx (by decide)) | (intro hx; exact absurd (by decide) hx) | decide | intro hx | (refine Exists.intro _ (And.intro rfl ?_)))
            all_goals try first | (with_reducible change am_tI _ _) | (change Ret _ _) | (change Ret _ _ _) | (change Exists _)
            all_goals try dsimp only at *
            all_goals try (with_reducible exact absurd ‹(1000 : Int64) = 0› am_z1000)
            all_goals first | ((with_reducible change Ret _ _); exact h _ _ (by (repeat' (first | (with_reducible exact g_sc.rf) | (with_reducible assumption) | ((with_reducible change g_sc _ (am_wI _ _ _ _)); refine g_sc.wI ?_ rfl) | ((with_reducible change g_sc _ (am_wJ _ _ _ _)); refine g_sc.wJ ?_ rfl) | ((with_reducible change g_sc _ (am_cI _ _ _)); refine g_sc.cI ?_ rfl) | ((with_reducible change g_sc _ (am_cJ _ _ _)); refine g_sc.cJ ?_ rfl) | (refine g_sc.tr ?_ (by with_reducible assumption)) | (refine g_sc.st ?_ (by with_reducible assumption))))) (by (repeat' (first | (with_reducible assumption) | ((with_reducible change g_rI (am_wJ _ _ _ _)); refine g_rI.wJ ?_) | ((with_reducible change g_rI (am_cJ _ _ _)); refine g_rI.cJ ?_) | ((with_reducible change g_rI (am_wI _ 5 _ _)); refine g_rI.w5 ?_) | ((with_reducible change g_rI (am_wI _ _ _ _)); refine g_rI.wF ?_ rfl) | (refine g_rI.st ?_ (by with_reducible assumption)) | (refine g_rI.we ?_ (by with_reducible assumption)))))) | skip
  · exact h.elim
set_option maxRecDepth 100000 in
theorem wd_657 : Cond.methodLink "LearnLoans" 166 yX4_look ∈ am_ws := am_wt3 (List.mem_of_getElem? (i := 120) (by rfl)) (by decide +kernel)
set_option maxRecDepth 100000 in
theorem wd_658 : Cond.methodLink "LearnLoans" 169 yX4_rateOf ∈ am_ws := am_wt3 (List.mem_of_getElem? (i := 121) (by rfl)) (by decide +kernel)
def rwX7_rate : List dz_r := [(0, .aload_n 0, 1), (1, .iload_n 1, 1), (2, .invokevirtual 135, 3), (5, .ifCond .eq 17, 3), (8, .iload_n 2, 1), (9, .invokestatic 34, 3), (12, .ifCond .eq 10, 3), (15, .iload_n 3, 1), (16, .invokestatic 34, 3), (19, .ifCond .ne 6, 3), (22, .bipush (-2), 2), (24, .ireturn, 1), (25, .aload_n 0, 1), (26, .getfield 20, 3), (29, .aload_n 0, 1), (30, .getfield 27, 3), (33, .getfield 122, 3), (36, .iload_n 1, 1), (37, .iconst 0, 1), (38, .invokevirtual 138, 3), (41, .iload_n 3, 1), (42, .invokevirtual 151, 3), (45, .aload_n 0, 1), (46, .getfield 20, 3), (49, .iload_n 2, 1), (50, .iconst 1, 1), (51, .isub, 1), (52, .invokevirtual 155, 3), (55, .aload_n 0, 1), (56, .getfield 20, 3), (59, .iload_n 2, 1), (60, .invokevirtual 166, 3), (63, .aload_n 0, 1), (64, .getfield 20, 3), (67, .iload_n 1, 1), (68, .iload_n 2, 1), (69, .invokevirtual 169, 3), (72, .ireturn, 1)]
theorem dzX7_rate : dz cX7_rate rwX7_rate := dz_all 0 (by decide +kernel)
def kX7_rate (live : am_E) (Ret : am_R) : am_code := [(0, am_aload 0 1), (1, am_iload 1 2), (2, am_callV live 7 1 TX7_isLoan 5), (5, am_if1 (fun x => x = 0) 22 8), (8, am_iload 2 9), (9, am_callS live 1 TX7_isYear 12), (12, am_if1 (fun x => x = 0) 22 15), (15, am_iload 3 16), (16, am_callS live 1 TX7_isYear 19), (19, am_if1 (fun x => x = 0) 22 25), (22, am_const (.int (-2)) 24), (24, am_retI Ret), (25, am_aload 0 26), (26, am_getR live 7 2 29), (29, am_aload 0 30), (30, am_getR live 7 0 33), (33, am_getR live 0 4 36), (36, am_iload 1 37), (37, am_const (.int 0) 38), (38, am_callV live 3 2 TX3_at 41), (41, am_iload 3 42), (42, am_callV live 4 2 TX4_begin 45), (45, am_aload 0 46), (46, am_getR live 7 2 49), (49, am_iload 2 50), (50, am_const (.int 1) 51), (51, am_i2 (fun x y => x - y) 52), (52, am_callV live 4 1 TX4_go 55), (55, am_aload 0 56), (56, am_getR live 7 2 59), (59, am_iload 2 60), (60, am_callV live 4 1 TX4_look 63), (63, am_aload 0 64), (64, am_getR live 7 2 67), (67, am_iload 1 68), (68, am_iload 2 69), (69, am_callV live 4 2 TX4_rateOf 72), (72, am_retI Ret)]
theorem koX7_rate (live : am_E) (Ret : am_R) : ∀ q ∈ kX7_rate live Ret, am_ok RX7 cX7_rate 4 (some .int) 5 124 live Ret q.1 q.2 :=
  am_kz dzX7_rate <|
  am_kd (fun d => ak_aload_n d rfl rfl) <|
  am_kd (fun d => ak_iload_n d rfl rfl) <|
  am_kd (fun d => ak_callV (C := RX7) (F := TX7) (N := 4) metX7_isLoan rfl ⟨rfl, hy_X7_isLoan⟩ (am_w5 wd_520 wd_522 wd_2 wd_58 wd_523) (by decide) d rfl) <|
  am_kd (fun d => ak_if_eq d (by decide +kernel) rfl) <|
  am_kd (fun d => ak_iload_n d rfl rfl) <|
  am_kd (fun d => ak_callS metX7_isYear ⟨rfl, hy_X7_isYear⟩ (am_w4 wd_407 wd_408 wd_58 wd_409) (by decide) d rfl) <|
  am_kd (fun d => ak_if_eq d (by decide +kernel) rfl) <|
  am_kd (fun d => ak_iload_n d rfl rfl) <|
  am_kd (fun d => ak_callS metX7_isYear ⟨rfl, hy_X7_isYear⟩ (am_w4 wd_407 wd_408 wd_58 wd_409) (by decide) d rfl) <|
  am_kd (fun d => ak_if_ne d (by decide +kernel) rfl) <|
  am_kd (fun d => ak_bipush d (by decide +kernel) rfl) <|
  am_kd (fun d => ak_retI d) <|
  am_kd (fun d => ak_aload_n d rfl rfl) <|
  am_kd (fun d => ak_getR (C := RX7) (T := TX7) (N := 4) rfl inX7w (by decide) rfl rfl rfl wd_392 d rfl) <|
  am_kd (fun d => ak_aload_n d rfl rfl) <|
  am_kd (fun d => ak_getR (C := RX7) (T := TX7) (N := 4) rfl inX7w (by decide) rfl rfl rfl wd_390 d rfl) <|
  am_kd (fun d => ak_getR (C := RX0) (T := TX0) (N := 13) rfl inX0w (by decide) rfl rfl rfl wd_207 d rfl) <|
  am_kd (fun d => ak_iload_n d rfl rfl) <|
  am_kd (fun d => ak_iconst d (by decide +kernel) rfl) <|
  am_kd (fun d => ak_callV (C := RX3) (F := TX3) (N := 3) metX3_at rfl ⟨rfl, hy_X3_at⟩ (am_w5 wd_524 wd_503 wd_504 wd_64 wd_505) (by decide) d rfl) <|
  am_kd (fun d => ak_iload_n d rfl rfl) <|
  am_kd (fun d => ak_callV (C := RX4) (F := TX4) (N := 19) metX4_begin rfl ⟨rfl, hy_X4_begin⟩ (am_w5 wd_546 wd_547 wd_548 wd_60 wd_549) (by decide) d rfl) <|
  am_kd (fun d => ak_aload_n d rfl rfl) <|
  am_kd (fun d => ak_getR (C := RX7) (T := TX7) (N := 4) rfl inX7w (by decide) rfl rfl rfl wd_392 d rfl) <|
  am_kd (fun d => ak_iload_n d rfl rfl) <|
  am_kd (fun d => ak_iconst d (by decide +kernel) rfl) <|
  am_kd (fun d => ak_isub d rfl) <|
  am_kd (fun d => ak_callV (C := RX4) (F := TX4) (N := 19) metX4_go rfl ⟨rfl, hy_X4_go⟩ (am_w5 wd_559 wd_560 wd_561 wd_60 wd_562) (by decide) d rfl) <|
  am_kd (fun d => ak_aload_n d rfl rfl) <|
  am_kd (fun d => ak_getR (C := RX7) (T := TX7) (N := 4) rfl inX7w (by decide) rfl rfl rfl wd_392 d rfl) <|
  am_kd (fun d => ak_iload_n d rfl rfl) <|
  am_kd (fun d => ak_callV (C := RX4) (F := TX4) (N := 19) metX4_look rfl ⟨rfl, hy_X4_look⟩ (am_w5 wd_657 wd_564 wd_565 wd_60 wd_566) (by decide) d rfl) <|
  am_kd (fun d => ak_aload_n d rfl rfl) <|
  am_kd (fun d => ak_getR (C := RX7) (T := TX7) (N := 4) rfl inX7w (by decide) rfl rfl rfl wd_392 d rfl) <|
  am_kd (fun d => ak_iload_n d rfl rfl) <|
  am_kd (fun d => ak_iload_n d rfl rfl) <|
  am_kd (fun d => ak_callV (C := RX4) (F := TX4) (N := 19) metX4_rateOf rfl ⟨rfl, hy_X4_rateOf⟩ (am_w5 wd_658 wd_589 wd_590 wd_60 wd_591) (by decide) d rfl) <|
  am_kd (fun d => ak_retI d) <| am_kdn
def TX7_rate : am_T := fun live as M R => match as with
  | [.ref n, .int l, .int y, .int k] => am_mn live ∧ n = 0 ∧ (g_hI M ∧ g_rI M) ∧ ∀ v M', g_sc M M' → g_rI M' → R (some (.int v)) M'
  | _ => False
set_option maxRecDepth 100000 in
set_option maxHeartbeats 4000000 in
theorem metX7_rate : am_Met yX7_rate cX7_rate 4 (some .int) (5) (124) TX7_rate := by
  refine am_met (own := RX7) (by decide +kernel) rfl kX7_rate koX7_rate 150 (fun _ _ _ _ _ => none) (fun live as M Ret h => ?_) (fun _ _ _ _ _ _ _ _ hI => by cases hI)
  unfold TX7_rate at h
  split at h
  · next n l y k =>
    refine ⟨Nat.le_of_ble_eq_true rfl, ?_⟩
    change am_wp _ _ _ _ [(0, Value.ref n), (1, Value.int l), (2, Value.int y), (3, Value.int k)] _ _
    obtain ⟨hmn, rfl, ⟨hH, hR⟩, h⟩ := h
    have hmn2 := hmn
    obtain ⟨i1, i2, rfl⟩ := hmn2
    by_cases z0 : 0 ≤ l ∧ l < M.1 33 2
    rotate_left
    · skip
      have q0 : (if 0 ≤ l ∧ l < M.1 33 2 then (1 : Int32) else 0) = 0 := if_neg z0
      repeat' (first | (with_reducible exact hmn) | apply And.intro | exact rfl | (intro hx; with_reducible exact absurd q0 hx) | (intro hx; exact absurd hx (by decide)) | (intro hx; exact absurd (by decide) hx) | decide | intro hx | (refine Exists.intro _ (And.intro rfl ?_)))
      all_goals try first | (with_reducible change am_tI _ _) | (change Ret _ _) | (change Ret _ _ _) | (change Exists _)
      all_goals try dsimp only at *
      all_goals try (with_reducible exact absurd ‹(1000 : Int64) = 0› am_z1000)
      all_goals exact h _ _ g_sc.rf hR
    · skip
      have q0 : ¬ ((if 0 ≤ l ∧ l < M.1 33 2 then (1 : Int32) else 0) = 0) := by rw [if_pos z0]; decide
      by_cases z1 : 0 ≤ y ∧ y < 40
      rotate_left
      · skip
        have q1 : (if 0 ≤ y ∧ y < 40 then (1 : Int32) else 0) = 0 := if_neg z1
        repeat' (first | (with_reducible exact hmn) | apply And.intro | exact rfl | (intro hx; with_reducible exact absurd hx q0) | (intro hx; with_reducible exact absurd q1 hx) | (intro hx; exact absurd hx (by decide)) | (intro hx; exact absurd (by decide) hx) | decide | intro hx | (refine Exists.intro _ (And.intro rfl ?_)))
        all_goals try first | (with_reducible change am_tI _ _) | (change Ret _ _) | (change Ret _ _ _) | (change Exists _)
        all_goals try dsimp only at *
        all_goals try (with_reducible exact absurd ‹(1000 : Int64) = 0› am_z1000)
        all_goals exact h _ _ g_sc.rf hR
      · skip
        have q1 : ¬ ((if 0 ≤ y ∧ y < 40 then (1 : Int32) else 0) = 0) := by rw [if_pos z1]; decide
        by_cases z2 : 0 ≤ k ∧ k < 40
        rotate_left
        · skip
          have q2 : (if 0 ≤ k ∧ k < 40 then (1 : Int32) else 0) = 0 := if_neg z2
          repeat' (first | (with_reducible exact hmn) | apply And.intro | exact rfl | (intro hx; with_reducible exact absurd hx q0) | (intro hx; with_reducible exact absurd hx q1) | (intro hx; with_reducible exact absurd q2 hx) | (intro hx; exact absurd hx (by decide)) | (intro hx; exact absurd (by decide) hx) | decide | intro hx | (refine Exists.intro _ (And.intro rfl ?_)))
          all_goals try first | (with_reducible change am_tI _ _) | (change Ret _ _) | (change Ret _ _ _) | (change Exists _)
          all_goals try dsimp only at *
          all_goals try (with_reducible exact absurd ‹(1000 : Int64) = 0› am_z1000)
          all_goals exact h _ _ g_sc.rf hR
        · skip
          have q2 : ¬ ((if 0 ≤ k ∧ k < 40 then (1 : Int32) else 0) = 0) := by rw [if_pos z2]; decide
          have hl : am_in l 30 := ⟨by have q := z0.1; simp only [i_le, Int32.reduceToInt] at q; omega, by have q := z0.2; have q2 := hH.lo.2; simp only [i_lt] at q; omega⟩
          have hp := g_pers hH hl
          have hy : am_in y 40 := ⟨by have q := z1.1; simp only [i_le, Int32.reduceToInt] at q; omega, by have q := z1.2; simp only [i_lt, Int32.reduceToInt] at q; omega⟩
          repeat' (first | (with_reducible exact hmn) | (with_reducible exact hR) | (with_reducible exact hp) | (with_reducible exact hl) | (with_reducible exact hy) | apply And.intro | exact rfl | (intro hx; with_reducible exact absurd hx q0) | (intro hx; with_reducible exact absurd hx q1) | (intro hx; with_reducible exact absurd hx q2) | ((with_reducible change g_rI _); (with_reducible assumption)) | (intro hx; exact absurd hx (by decide)) | (intro hx; exact absurd (by decide) hx) | decide | intro hx | (refine Exists.intro _ (And.intro rfl ?_)))
          all_goals try first | (with_reducible change am_tI _ _) | (change Ret _ _) | (change Ret _ _ _) | (change Exists _)
          all_goals try dsimp only at *
          all_goals try (with_reducible exact absurd ‹(1000 : Int64) = 0› am_z1000)
          all_goals first | ((with_reducible change Ret _ _); exact h _ _ (by (repeat' (first | (with_reducible exact g_sc.rf) | (with_reducible assumption) | ((with_reducible change g_sc _ (am_wI _ _ _ _)); refine g_sc.wI ?_ rfl) | ((with_reducible change g_sc _ (am_wJ _ _ _ _)); refine g_sc.wJ ?_ rfl) | ((with_reducible change g_sc _ (am_cI _ _ _)); refine g_sc.cI ?_ rfl) | ((with_reducible change g_sc _ (am_cJ _ _ _)); refine g_sc.cJ ?_ rfl) | (refine g_sc.tr ?_ (by with_reducible assumption)) | (refine g_sc.st ?_ (by with_reducible assumption))))) (by (repeat' (first | (with_reducible assumption) | ((with_reducible change g_rI (am_wJ _ _ _ _)); refine g_rI.wJ ?_) | ((with_reducible change g_rI (am_cJ _ _ _)); refine g_rI.cJ ?_) | ((with_reducible change g_rI (am_wI _ 5 _ _)); refine g_rI.w5 ?_) | ((with_reducible change g_rI (am_wI _ _ _ _)); refine g_rI.wF ?_ rfl) | (refine g_rI.st ?_ (by with_reducible assumption)) | (refine g_rI.we ?_ (by with_reducible assumption)))))) | skip
  · exact h.elim
set_option maxRecDepth 100000 in
theorem wd_663 : Cond.constantLong "LearnLoans" 172 (-1000000000000000) ∈ am_ws := am_wt3 (List.mem_of_getElem? (i := 126) (by rfl)) (by decide +kernel)
def rwX7_over : List dz_r := [(0, .aload_n 0, 1), (1, .iload_n 1, 1), (2, .invokevirtual 52, 3), (5, .ifCond .eq 17, 3), (8, .iload_n 2, 1), (9, .invokestatic 34, 3), (12, .ifCond .eq 10, 3), (15, .iload_n 3, 1), (16, .invokestatic 34, 3), (19, .ifCond .ne 7, 3), (22, .ldc2_w 172, 3), (25, .lreturn, 1), (26, .aload_n 0, 1), (27, .iload_n 1, 1), (28, .iload_n 2, 1), (29, .iload_n 2, 1), (30, .iconst 1, 1), (31, .invokevirtual 162, 3), (34, .aload_n 0, 1), (35, .iload_n 1, 1), (36, .iload_n 2, 1), (37, .iload_n 3, 1), (38, .iconst 1, 1), (39, .invokevirtual 162, 3), (42, .lsub, 1), (43, .lreturn, 1)]
theorem dzX7_over : dz cX7_over rwX7_over := dz_all 0 (by decide +kernel)
def kX7_over (live : am_E) (Ret : am_R) : am_code := [(0, am_aload 0 1), (1, am_iload 1 2), (2, am_callV live 7 1 TX7_isPerson 5), (5, am_if1 (fun x => x = 0) 22 8), (8, am_iload 2 9), (9, am_callS live 1 TX7_isYear 12), (12, am_if1 (fun x => x = 0) 22 15), (15, am_iload 3 16), (16, am_callS live 1 TX7_isYear 19), (19, am_if1 (fun x => x = 0) 22 26), (22, am_const (.long (-1000000000000000)) 25), (25, am_retL Ret), (26, am_aload 0 27), (27, am_iload 1 28), (28, am_iload 2 29), (29, am_iload 2 30), (30, am_const (.int 1) 31), (31, am_callV live 7 4 TX7_together 34), (34, am_aload 0 35), (35, am_iload 1 36), (36, am_iload 2 37), (37, am_iload 3 38), (38, am_const (.int 1) 39), (39, am_callV live 7 4 TX7_together 42), (42, am_l2 (fun x y => x - y) 43), (43, am_retL Ret)]
theorem koX7_over (live : am_E) (Ret : am_R) : ∀ q ∈ kX7_over live Ret, am_ok RX7 cX7_over 4 (some .long) 6 148 live Ret q.1 q.2 :=
  am_kz dzX7_over <|
  am_kd (fun d => ak_aload_n d rfl rfl) <|
  am_kd (fun d => ak_iload_n d rfl rfl) <|
  am_kd (fun d => ak_callV (C := RX7) (F := TX7) (N := 4) metX7_isPerson rfl ⟨rfl, hy_X7_isPerson⟩ (am_w5 wd_414 wd_416 wd_0 wd_58 wd_417) (by decide) d rfl) <|
  am_kd (fun d => ak_if_eq d (by decide +kernel) rfl) <|
  am_kd (fun d => ak_iload_n d rfl rfl) <|
  am_kd (fun d => ak_callS metX7_isYear ⟨rfl, hy_X7_isYear⟩ (am_w4 wd_407 wd_408 wd_58 wd_409) (by decide) d rfl) <|
  am_kd (fun d => ak_if_eq d (by decide +kernel) rfl) <|
  am_kd (fun d => ak_iload_n d rfl rfl) <|
  am_kd (fun d => ak_callS metX7_isYear ⟨rfl, hy_X7_isYear⟩ (am_w4 wd_407 wd_408 wd_58 wd_409) (by decide) d rfl) <|
  am_kd (fun d => ak_if_ne d (by decide +kernel) rfl) <|
  am_kd (fun d => ak_ldc2 wd_663 d rfl) <|
  am_kd (fun d => ak_retL d) <|
  am_kd (fun d => ak_aload_n d rfl rfl) <|
  am_kd (fun d => ak_iload_n d rfl rfl) <|
  am_kd (fun d => ak_iload_n d rfl rfl) <|
  am_kd (fun d => ak_iload_n d rfl rfl) <|
  am_kd (fun d => ak_iconst d (by decide +kernel) rfl) <|
  am_kd (fun d => ak_callV (C := RX7) (F := TX7) (N := 4) metX7_together rfl ⟨rfl, hy_X7_together⟩ (am_w5 wd_645 wd_647 wd_12 wd_58 wd_648) (by decide) d rfl) <|
  am_kd (fun d => ak_aload_n d rfl rfl) <|
  am_kd (fun d => ak_iload_n d rfl rfl) <|
  am_kd (fun d => ak_iload_n d rfl rfl) <|
  am_kd (fun d => ak_iload_n d rfl rfl) <|
  am_kd (fun d => ak_iconst d (by decide +kernel) rfl) <|
  am_kd (fun d => ak_callV (C := RX7) (F := TX7) (N := 4) metX7_together rfl ⟨rfl, hy_X7_together⟩ (am_w5 wd_645 wd_647 wd_12 wd_58 wd_648) (by decide) d rfl) <|
  am_kd (fun d => ak_lsub d rfl) <|
  am_kd (fun d => ak_retL d) <| am_kdn
def TX7_over : am_T := fun live as M R => match as with
  | [.ref n, .int p, .int y, .int k] => am_mn live ∧ n = 0 ∧ (g_hI M ∧ g_rI M) ∧ ∀ v M', g_sc M M' → g_rI M' → R (some (.long v)) M'
  | _ => False
set_option maxRecDepth 100000 in
set_option maxHeartbeats 4000000 in
theorem metX7_over : am_Met yX7_over cX7_over 4 (some .long) (6) (148) TX7_over := by
  refine am_met (own := RX7) (by decide +kernel) rfl kX7_over koX7_over 150 (fun _ _ _ _ _ => none) (fun live as M Ret h => ?_) (fun _ _ _ _ _ _ _ _ hI => by cases hI)
  unfold TX7_over at h
  split at h
  · next n p y k =>
    refine ⟨Nat.le_of_ble_eq_true rfl, ?_⟩
    change am_wp _ _ _ _ [(0, Value.ref n), (1, Value.int p), (2, Value.int y), (3, Value.int k)] _ _
    obtain ⟨hmn, rfl, ⟨hH, hR⟩, h⟩ := h
    have hmn2 := hmn
    obtain ⟨i1, i2, rfl⟩ := hmn2
    by_cases z0 : 0 ≤ p ∧ p < M.1 21 7
    rotate_left
    · skip
      have q0 : (if 0 ≤ p ∧ p < M.1 21 7 then (1 : Int32) else 0) = 0 := if_neg z0
      repeat' (first | (with_reducible exact hmn) | apply And.intro | exact rfl | (intro hx; with_reducible exact absurd q0 hx) | (intro hx; exact absurd hx (by decide)) | (intro hx; exact absurd (by decide) hx) | decide | intro hx | (refine Exists.intro _ (And.intro rfl ?_)))
      all_goals try first | (with_reducible change am_tI _ _) | (change Ret _ _) | (change Ret _ _ _) | (change Exists _)
      all_goals try dsimp only at *
      all_goals try (with_reducible exact absurd ‹(1000 : Int64) = 0› am_z1000)
      all_goals exact h _ _ g_sc.rf hR
    · skip
      have q0 : ¬ ((if 0 ≤ p ∧ p < M.1 21 7 then (1 : Int32) else 0) = 0) := by rw [if_pos z0]; decide
      by_cases z1 : 0 ≤ y ∧ y < 40
      rotate_left
      · skip
        have q1 : (if 0 ≤ y ∧ y < 40 then (1 : Int32) else 0) = 0 := if_neg z1
        repeat' (first | (with_reducible exact hmn) | apply And.intro | exact rfl | (intro hx; with_reducible exact absurd hx q0) | (intro hx; with_reducible exact absurd q1 hx) | (intro hx; exact absurd hx (by decide)) | (intro hx; exact absurd (by decide) hx) | decide | intro hx | (refine Exists.intro _ (And.intro rfl ?_)))
        all_goals try first | (with_reducible change am_tI _ _) | (change Ret _ _) | (change Ret _ _ _) | (change Exists _)
        all_goals try dsimp only at *
        all_goals try (with_reducible exact absurd ‹(1000 : Int64) = 0› am_z1000)
        all_goals exact h _ _ g_sc.rf hR
      · skip
        have q1 : ¬ ((if 0 ≤ y ∧ y < 40 then (1 : Int32) else 0) = 0) := by rw [if_pos z1]; decide
        by_cases z2 : 0 ≤ k ∧ k < 40
        rotate_left
        · skip
          have q2 : (if 0 ≤ k ∧ k < 40 then (1 : Int32) else 0) = 0 := if_neg z2
          repeat' (first | (with_reducible exact hmn) | apply And.intro | exact rfl | (intro hx; with_reducible exact absurd hx q0) | (intro hx; with_reducible exact absurd hx q1) | (intro hx; with_reducible exact absurd q2 hx) | (intro hx; exact absurd hx (by decide)) | (intro hx; exact absurd (by decide) hx) | decide | intro hx | (refine Exists.intro _ (And.intro rfl ?_)))
          all_goals try first | (with_reducible change am_tI _ _) | (change Ret _ _) | (change Ret _ _ _) | (change Exists _)
          all_goals try dsimp only at *
          all_goals try (with_reducible exact absurd ‹(1000 : Int64) = 0› am_z1000)
          all_goals exact h _ _ g_sc.rf hR
        · skip
          have q2 : ¬ ((if 0 ≤ k ∧ k < 40 then (1 : Int32) else 0) = 0) := by rw [if_pos z2]; decide
          have hp : am_in p 12 := ⟨by have q := z0.1; simp only [i_le, Int32.reduceToInt] at q; omega, by have q := z0.2; have q2 := hH.pe; simp only [i_lt] at q; omega⟩
          have w1 : am_in (1 : Int32) 6 := ⟨by decide, by decide⟩
          repeat' (first | (with_reducible exact hmn) | (with_reducible exact hR) | (with_reducible exact hp) | (with_reducible exact w1) | apply And.intro | exact rfl | (intro hx; with_reducible exact absurd hx q0) | (intro hx; with_reducible exact absurd hx q1) | (intro hx; with_reducible exact absurd hx q2) | ((with_reducible change g_rI _); (with_reducible assumption)) | (intro hx; exact absurd hx (by decide)) | (intro hx; exact absurd (by decide) hx) | decide | intro hx | (refine Exists.intro _ (And.intro rfl ?_)))
          all_goals try first | (with_reducible change am_tI _ _) | (change Ret _ _) | (change Ret _ _ _) | (change Exists _)
          all_goals try dsimp only at *
          all_goals try (with_reducible exact absurd ‹(1000 : Int64) = 0› am_z1000)
          all_goals first | ((with_reducible change Ret _ _); exact h _ _ (by (repeat' (first | (with_reducible exact g_sc.rf) | (with_reducible assumption) | ((with_reducible change g_sc _ (am_wI _ _ _ _)); refine g_sc.wI ?_ rfl) | ((with_reducible change g_sc _ (am_wJ _ _ _ _)); refine g_sc.wJ ?_ rfl) | ((with_reducible change g_sc _ (am_cI _ _ _)); refine g_sc.cI ?_ rfl) | ((with_reducible change g_sc _ (am_cJ _ _ _)); refine g_sc.cJ ?_ rfl) | (refine g_sc.tr ?_ (by with_reducible assumption)) | (refine g_sc.st ?_ (by with_reducible assumption))))) (by (repeat' (first | (with_reducible assumption) | ((with_reducible change g_rI (am_wJ _ _ _ _)); refine g_rI.wJ ?_) | ((with_reducible change g_rI (am_cJ _ _ _)); refine g_rI.cJ ?_) | ((with_reducible change g_rI (am_wI _ 5 _ _)); refine g_rI.w5 ?_) | ((with_reducible change g_rI (am_wI _ _ _ _)); refine g_rI.wF ?_ rfl) | (refine g_rI.st ?_ (by with_reducible assumption)) | (refine g_rI.we ?_ (by with_reducible assumption)))))) | skip
  · exact h.elim
theorem hy_X7_takenByLife : yX7_takenByLife.cls ≠ "java/lang/invoke/MethodHandle" ∧ yX7_takenByLife.cls ≠ "java/lang/invoke/VarHandle" ∧ (parseMethodDescriptor yX7_takenByLife.desc).map (fun d => d.parameters.length) = some 6 := ⟨by decide +kernel, by decide +kernel, by decide +kernel⟩
set_option maxRecDepth 100000 in
theorem wd_760 : Cond.methodLink "LearnLoans" 209 yX7_takenByLife ∈ am_ws := am_wt3 (List.mem_of_getElem? (i := 223) (by rfl)) (by decide +kernel)
set_option maxRecDepth 100000 in
theorem wd_762 : Cond.instanceMethod yX7_takenByLife ∈ am_ws := am_wt3 (List.mem_of_getElem? (i := 225) (by rfl)) (by decide +kernel)
set_option maxRecDepth 100000 in
theorem wd_24 : Cond.selects "LearnLoans" yX7_takenByLife yX7_takenByLife ∈ am_ws := am_wsi (List.mem_of_getElem? (i := 24) (by rfl)) (by decide +kernel)
set_option maxRecDepth 100000 in
theorem wd_763 : Cond.code yX7_takenByLife cX7_takenByLife 9 (some .long) ∈ am_ws := am_wt3 (List.mem_of_getElem? (i := 226) (by rfl)) (by decide +kernel)
def rwX7_choice : List dz_r := [(0, .aload_n 0, 1), (1, .iload_n 1, 1), (2, .invokevirtual 52, 3), (5, .ifCond .eq 24, 3), (8, .iload_n 2, 1), (9, .invokestatic 98, 3), (12, .ifCond .ne 8, 3), (15, .iload_n 2, 1), (16, .iconst (-1), 1), (17, .if_icmp .ne 12, 3), (20, .iload_n 3, 1), (21, .iconst 0, 1), (22, .iconst 3, 1), (23, .invokestatic 55, 3), (26, .ifCond .ne 7, 3), (29, .ldc2_w 149, 3), (32, .lreturn, 1), (33, .iload 4, 2), (35, .invokestatic 34, 3), (38, .ifCond .eq 11, 3), (41, .iload 5, 2), (43, .invokestatic 34, 3), (46, .ifCond .ne 7, 3), (49, .ldc2_w 149, 3), (52, .lreturn, 1), (53, .aload_n 0, 1), (54, .iload_n 1, 1), (55, .iload_n 2, 1), (56, .iload_n 3, 1), (57, .iload 4, 2), (59, .iload 5, 2), (61, .iconst 0, 1), (62, .invokevirtual 209, 3), (65, .lreturn, 1)]
theorem dzX7_choice : dz cX7_choice rwX7_choice := dz_all 0 (by decide +kernel)
def kX7_choice (live : am_E) (Ret : am_R) : am_code := [(0, am_aload 0 1), (1, am_iload 1 2), (2, am_callV live 7 1 TX7_isPerson 5), (5, am_if1 (fun x => x = 0) 29 8), (8, am_iload 2 9), (9, am_callS live 1 TX7_isPlan 12), (12, am_if1 (fun x => x = 0) 15 20), (15, am_iload 2 16), (16, am_const (.int (-1)) 17), (17, am_if2 (fun x y => x = y) 20 29), (20, am_iload 3 21), (21, am_const (.int 0) 22), (22, am_const (.int 3) 23), (23, am_callS live 3 TX7_within 26), (26, am_if1 (fun x => x = 0) 29 33), (29, am_const (.long (-2)) 32), (32, am_retL Ret), (33, am_iload 4 35), (35, am_callS live 1 TX7_isYear 38), (38, am_if1 (fun x => x = 0) 49 41), (41, am_iload 5 43), (43, am_callS live 1 TX7_isYear 46), (46, am_if1 (fun x => x = 0) 49 53), (49, am_const (.long (-2)) 52), (52, am_retL Ret), (53, am_aload 0 54), (54, am_iload 1 55), (55, am_iload 2 56), (56, am_iload 3 57), (57, am_iload 4 59), (59, am_iload 5 61), (61, am_const (.int 0) 62), (62, am_callV live 7 6 TX7_takenByLife 65), (65, am_retL Ret)]
theorem koX7_choice (live : am_E) (Ret : am_R) : ∀ q ∈ kX7_choice live Ret, am_ok RX7 cX7_choice 6 (some .long) 6 152 live Ret q.1 q.2 :=
  am_kz dzX7_choice <|
  am_kd (fun d => ak_aload_n d rfl rfl) <|
  am_kd (fun d => ak_iload_n d rfl rfl) <|
  am_kd (fun d => ak_callV (C := RX7) (F := TX7) (N := 4) metX7_isPerson rfl ⟨rfl, hy_X7_isPerson⟩ (am_w5 wd_414 wd_416 wd_0 wd_58 wd_417) (by decide) d rfl) <|
  am_kd (fun d => ak_if_eq d (by decide +kernel) rfl) <|
  am_kd (fun d => ak_iload_n d rfl rfl) <|
  am_kd (fun d => ak_callS metX7_isPlan ⟨rfl, hy_X7_isPlan⟩ (am_w4 wd_466 wd_467 wd_58 wd_468) (by decide) d rfl) <|
  am_kd (fun d => ak_if_ne d (by decide +kernel) rfl) <|
  am_kd (fun d => ak_iload_n d rfl rfl) <|
  am_kd (fun d => ak_iconst d (by decide +kernel) rfl) <|
  am_kd (fun d => ak_icmp_ne d (by decide +kernel) rfl) <|
  am_kd (fun d => ak_iload_n d rfl rfl) <|
  am_kd (fun d => ak_iconst d (by decide +kernel) rfl) <|
  am_kd (fun d => ak_iconst d (by decide +kernel) rfl) <|
  am_kd (fun d => ak_callS metX7_within ⟨rfl, hy_X7_within⟩ (am_w4 wd_418 wd_419 wd_58 wd_420) (by decide) d rfl) <|
  am_kd (fun d => ak_if_ne d (by decide +kernel) rfl) <|
  am_kd (fun d => ak_ldc2 wd_545 d rfl) <|
  am_kd (fun d => ak_retL d) <|
  am_kd (fun d => ak_iload d rfl) <|
  am_kd (fun d => ak_callS metX7_isYear ⟨rfl, hy_X7_isYear⟩ (am_w4 wd_407 wd_408 wd_58 wd_409) (by decide) d rfl) <|
  am_kd (fun d => ak_if_eq d (by decide +kernel) rfl) <|
  am_kd (fun d => ak_iload d rfl) <|
  am_kd (fun d => ak_callS metX7_isYear ⟨rfl, hy_X7_isYear⟩ (am_w4 wd_407 wd_408 wd_58 wd_409) (by decide) d rfl) <|
  am_kd (fun d => ak_if_ne d (by decide +kernel) rfl) <|
  am_kd (fun d => ak_ldc2 wd_545 d rfl) <|
  am_kd (fun d => ak_retL d) <|
  am_kd (fun d => ak_aload_n d rfl rfl) <|
  am_kd (fun d => ak_iload_n d rfl rfl) <|
  am_kd (fun d => ak_iload_n d rfl rfl) <|
  am_kd (fun d => ak_iload_n d rfl rfl) <|
  am_kd (fun d => ak_iload d rfl) <|
  am_kd (fun d => ak_iload d rfl) <|
  am_kd (fun d => ak_iconst d (by decide +kernel) rfl) <|
  am_kd (fun d => ak_callV (C := RX7) (F := TX7) (N := 4) metX7_takenByLife rfl ⟨rfl, hy_X7_takenByLife⟩ (am_w5 wd_760 wd_762 wd_24 wd_58 wd_763) (by decide) d rfl) <|
  am_kd (fun d => ak_retL d) <| am_kdn
def TX7_choice : am_T := fun live as M R => match as with
  | [.ref n, .int p, .int q, .int l, .int y, .int k] => am_mn live ∧ n = 0 ∧ (g_hI M ∧ g_rI M) ∧ ∀ v M', g_sc M M' → g_rI M' → R (some (.long v)) M'
  | _ => False
set_option maxRecDepth 100000 in
set_option maxHeartbeats 4000000 in
theorem metX7_choice : am_Met yX7_choice cX7_choice 6 (some .long) (6) (152) TX7_choice := by
  refine am_met (own := RX7) (by decide +kernel) rfl kX7_choice koX7_choice 150 (fun _ _ _ _ _ => none) (fun live as M Ret h => ?_) (fun _ _ _ _ _ _ _ _ hI => by cases hI)
  unfold TX7_choice at h
  split at h
  · next n p q l y k =>
    refine ⟨Nat.le_of_ble_eq_true rfl, ?_⟩
    change am_wp _ _ _ _ [(0, Value.ref n), (1, Value.int p), (2, Value.int q), (3, Value.int l), (4, Value.int y), (5, Value.int k)] _ _
    obtain ⟨hmn, rfl, ⟨hH, hR⟩, h⟩ := h
    have hmn2 := hmn
    obtain ⟨i1, i2, rfl⟩ := hmn2
    by_cases z0 : 0 ≤ p ∧ p < M.1 21 7
    rotate_left
    · skip
      have q0 : (if 0 ≤ p ∧ p < M.1 21 7 then (1 : Int32) else 0) = 0 := if_neg z0
      repeat' (first | (with_reducible exact hmn) | apply And.intro | exact rfl | (intro hx; with_reducible exact absurd q0 hx) | (intro hx; exact absurd hx (by decide)) | (intro hx; exact absurd (by decide) hx) | decide | intro hx | (refine Exists.intro _ (And.intro rfl ?_)))
      all_goals try first | (with_reducible change am_tI _ _) | (change Ret _ _) | (change Ret _ _ _) | (change Exists _)
      all_goals try dsimp only at *
      all_goals try (with_reducible exact absurd ‹(1000 : Int64) = 0› am_z1000)
      all_goals exact h _ _ g_sc.rf hR
    · skip
      have q0 : ¬ ((if 0 ≤ p ∧ p < M.1 21 7 then (1 : Int32) else 0) = 0) := by rw [if_pos z0]; decide
      by_cases zz : (0 ≤ q ∧ q < 5) ∨ q = -1
      rotate_left
      · have q9 : (if 0 ≤ q ∧ q < 5 then (1 : Int32) else 0) = 0 := if_neg (fun z => zz (Or.inl z))
        have q8 : ¬ q = -1 := fun z => zz (Or.inr z)
        repeat' (first | (with_reducible exact hmn) | apply And.intro | exact rfl | (intro hx; with_reducible exact absurd hx q0) | (intro hx; with_reducible exact absurd hx q8) | (intro hx; with_reducible exact absurd q9 hx) | (intro hx; exact absurd hx (by decide)) | (intro hx; exact absurd (by decide) hx) | decide | intro hx | (refine Exists.intro _ (And.intro rfl ?_)))
        all_goals try first | (with_reducible change am_tI _ _) | (change Ret _ _) | (change Ret _ _ _) | (change Exists _)
        all_goals try dsimp only at *
        all_goals try (with_reducible exact absurd ‹(1000 : Int64) = 0› am_z1000)
        all_goals exact h _ _ g_sc.rf hR
      have hq : q = -1 ∨ am_in q 5 := zz.elim (fun z => Or.inr ⟨by have q := z.1; simp only [i_le, Int32.reduceToInt] at q; omega, by have q := z.2; simp only [i_lt, Int32.reduceToInt] at q; omega⟩) (fun z => Or.inl z)
      by_cases z1 : 0 ≤ l ∧ l ≤ 3
      rotate_left
      · skip
        have q1 : (if 0 ≤ l ∧ l ≤ 3 then (1 : Int32) else 0) = 0 := if_neg z1
        repeat' (first | (with_reducible exact hmn) | apply And.intro | exact rfl | (intro hx; with_reducible exact absurd hx q0) | (intro hx; with_reducible exact absurd q1 hx) | (intro hx; exact absurd hx (by decide)) | (intro hx; exact absurd (by decide) hx) | decide | intro hx | (refine Exists.intro _ (And.intro rfl ?_)))
        all_goals try first | (with_reducible change am_tI _ _) | (change Ret _ _) | (change Ret _ _ _) | (change Exists _)
        all_goals try dsimp only at *
        all_goals try (with_reducible exact absurd ‹(1000 : Int64) = 0› am_z1000)
        all_goals exact h _ _ g_sc.rf hR
      · skip
        have q1 : ¬ ((if 0 ≤ l ∧ l ≤ 3 then (1 : Int32) else 0) = 0) := by rw [if_pos z1]; decide
        by_cases z2 : 0 ≤ y ∧ y < 40
        rotate_left
        · skip
          have q2 : (if 0 ≤ y ∧ y < 40 then (1 : Int32) else 0) = 0 := if_neg z2
          repeat' (first | (with_reducible exact hmn) | apply And.intro | exact rfl | (intro hx; with_reducible exact absurd hx q0) | (intro hx; with_reducible exact absurd hx q1) | (intro hx; with_reducible exact absurd q2 hx) | (intro hx; exact absurd hx (by decide)) | (intro hx; exact absurd (by decide) hx) | decide | intro hx | (refine Exists.intro _ (And.intro rfl ?_)))
          all_goals try first | (with_reducible change am_tI _ _) | (change Ret _ _) | (change Ret _ _ _) | (change Exists _)
          all_goals try dsimp only at *
          all_goals try (with_reducible exact absurd ‹(1000 : Int64) = 0› am_z1000)
          all_goals exact h _ _ g_sc.rf hR
        · skip
          have q2 : ¬ ((if 0 ≤ y ∧ y < 40 then (1 : Int32) else 0) = 0) := by rw [if_pos z2]; decide
          by_cases z3 : 0 ≤ k ∧ k < 40
          rotate_left
          · skip
            have q3 : (if 0 ≤ k ∧ k < 40 then (1 : Int32) else 0) = 0 := if_neg z3
            repeat' (first | (with_reducible exact hmn) | apply And.intro | exact rfl | (intro hx; with_reducible exact absurd hx q0) | (intro hx; with_reducible exact absurd hx q1) | (intro hx; with_reducible exact absurd hx q2) | (intro hx; with_reducible exact absurd q3 hx) | (intro hx; exact absurd hx (by decide)) | (intro hx; exact absurd (by decide) hx) | decide | intro hx | (refine Exists.intro _ (And.intro rfl ?_)))
            all_goals try first | (with_reducible change am_tI _ _) | (change Ret _ _) | (change Ret _ _ _) | (change Exists _)
            all_goals try dsimp only at *
            all_goals try (with_reducible exact absurd ‹(1000 : Int64) = 0› am_z1000)
            all_goals exact h _ _ g_sc.rf hR
          · skip
            have q3 : ¬ ((if 0 ≤ k ∧ k < 40 then (1 : Int32) else 0) = 0) := by rw [if_pos z3]; decide
            have hp : am_in p 12 := ⟨by have q := z0.1; simp only [i_le, Int32.reduceToInt] at q; omega, by have q := z0.2; have q2 := hH.pe; simp only [i_lt] at q; omega⟩
            have hl : am_in l 4 := ⟨by have q := z1.1; simp only [i_le, Int32.reduceToInt] at q; omega, by have q := z1.2; simp only [i_le, Int32.reduceToInt] at q; omega⟩
            repeat' (first | (with_reducible exact hmn) | (with_reducible exact hR) | (with_reducible exact hp) | (with_reducible exact hq) | (with_reducible exact hl) | apply And.intro | exact rfl | (intro hx; with_reducible exact absurd hx q0) | (intro hx; with_reducible exact absurd hx q1) | (intro hx; with_reducible exact absurd hx q2) | (intro hx; with_reducible exact absurd hx q3) | ((with_reducible change g_rI _); (with_reducible assumption)) | (intro hx; exact absurd hx (by decide)) | (intro hx; exact absurd (by decide) hx) | decide | intro hx | (refine Exists.intro _ (And.intro rfl ?_)))
            all_goals try first | (with_reducible change am_tI _ _) | (change Ret _ _) | (change Ret _ _ _) | (change Exists _)
            all_goals try dsimp only at *
            all_goals try (with_reducible exact absurd ‹(1000 : Int64) = 0› am_z1000)
            all_goals first | ((with_reducible change Ret _ _); exact h _ _ (by (repeat' (first | (with_reducible exact g_sc.rf) | (with_reducible assumption) | ((with_reducible change g_sc _ (am_wI _ _ _ _)); refine g_sc.wI ?_ rfl) | ((with_reducible change g_sc _ (am_wJ _ _ _ _)); refine g_sc.wJ ?_ rfl) | ((with_reducible change g_sc _ (am_cI _ _ _)); refine g_sc.cI ?_ rfl) | ((with_reducible change g_sc _ (am_cJ _ _ _)); refine g_sc.cJ ?_ rfl) | (refine g_sc.tr ?_ (by with_reducible assumption)) | (refine g_sc.st ?_ (by with_reducible assumption))))) (by (repeat' (first | (with_reducible assumption) | ((with_reducible change g_rI (am_wJ _ _ _ _)); refine g_rI.wJ ?_) | ((with_reducible change g_rI (am_cJ _ _ _)); refine g_rI.cJ ?_) | ((with_reducible change g_rI (am_wI _ 5 _ _)); refine g_rI.w5 ?_) | ((with_reducible change g_rI (am_wI _ _ _ _)); refine g_rI.wF ?_ rfl) | (refine g_rI.st ?_ (by with_reducible assumption)) | (refine g_rI.we ?_ (by with_reducible assumption)))))) | skip
  · exact h.elim
set_option maxRecDepth 100000 in
theorem wd_393 : Cond.fieldLink "LearnLoans" 12 "LearnLoans" "ways" "LLearnLoans$Ways;" ∈ am_ws := am_wt2 (List.mem_of_getElem? (i := 96) (by rfl)) (by decide +kernel)
theorem hy_X6_follow : yX6_follow.cls ≠ "java/lang/invoke/MethodHandle" ∧ yX6_follow.cls ≠ "java/lang/invoke/VarHandle" ∧ (parseMethodDescriptor yX6_follow.desc).map (fun d => d.parameters.length) = some 5 := ⟨by decide +kernel, by decide +kernel, by decide +kernel⟩
set_option maxRecDepth 100000 in
theorem wd_780 : Cond.methodLink "LearnLoans" 223 yX6_follow ∈ am_ws := am_wt4 (List.mem_of_getElem? (i := 3) (by rfl)) (by decide +kernel)
set_option maxRecDepth 100000 in
theorem wd_781 : Cond.instanceMethod yX6_follow ∈ am_ws := am_wt4 (List.mem_of_getElem? (i := 4) (by rfl)) (by decide +kernel)
set_option maxRecDepth 100000 in
theorem wd_782 : Cond.selects "LearnLoans$Ways" yX6_follow yX6_follow ∈ am_ws := am_wt4 (List.mem_of_getElem? (i := 5) (by rfl)) (by decide +kernel)
set_option maxRecDepth 100000 in
theorem wd_783 : Cond.code yX6_follow cX6_follow 6 none ∈ am_ws := am_wt4 (List.mem_of_getElem? (i := 6) (by rfl)) (by decide +kernel)
set_option maxRecDepth 100000 in
theorem wd_362 : Cond.fieldLink "LearnLoans" 227 "LearnLoans$Ways" "mean" "J" ∈ am_ws := am_wt2 (List.mem_of_getElem? (i := 65) (by rfl)) (by decide +kernel)
set_option maxRecDepth 100000 in
theorem wd_364 : Cond.fieldLink "LearnLoans" 230 "LearnLoans$Ways" "least" "J" ∈ am_ws := am_wt2 (List.mem_of_getElem? (i := 67) (by rfl)) (by decide +kernel)
set_option maxRecDepth 100000 in
theorem wd_366 : Cond.fieldLink "LearnLoans" 233 "LearnLoans$Ways" "greatest" "J" ∈ am_ws := am_wt2 (List.mem_of_getElem? (i := 69) (by rfl)) (by decide +kernel)
set_option maxRecDepth 100000 in
theorem wd_368 : Cond.fieldLink "LearnLoans" 236 "LearnLoans$Ways" "neve\x72" "J" ∈ am_ws := am_wt2 (List.mem_of_getElem? (i := 71) (by rfl)) (by decide +kernel)
theorem dX7_foretold_0 : decode cX7_foretold 0 = .ok (.aload_n 0, 1) := by decide +kernel
theorem dX7_foretold_1 : decode cX7_foretold 1 = .ok (.iload_n 1, 1) := by decide +kernel
theorem dX7_foretold_2 : decode cX7_foretold 2 = .ok (.invokevirtual 52, 3) := by decide +kernel
theorem dX7_foretold_5 : decode cX7_foretold 5 = .ok (.ifCond .eq 19, 3) := by decide +kernel
theorem dX7_foretold_8 : decode cX7_foretold 8 = .ok (.iload_n 2, 1) := by decide +kernel
theorem dX7_foretold_9 : decode cX7_foretold 9 = .ok (.iconst 0, 1) := by decide +kernel
theorem dX7_foretold_10 : decode cX7_foretold 10 = .ok (.iconst 3, 1) := by decide +kernel
theorem dX7_foretold_11 : decode cX7_foretold 11 = .ok (.invokestatic 55, 3) := by decide +kernel
theorem dX7_foretold_14 : decode cX7_foretold 14 = .ok (.ifCond .eq 10, 3) := by decide +kernel
theorem dX7_foretold_17 : decode cX7_foretold 17 = .ok (.iload_n 3, 1) := by decide +kernel
theorem dX7_foretold_18 : decode cX7_foretold 18 = .ok (.invokestatic 79, 3) := by decide +kernel
theorem dX7_foretold_21 : decode cX7_foretold 21 = .ok (.ifCond .ne 7, 3) := by decide +kernel
theorem dX7_foretold_24 : decode cX7_foretold 24 = .ok (.ldc2_w 149, 3) := by decide +kernel
theorem dX7_foretold_27 : decode cX7_foretold 27 = .ok (.lreturn, 1) := by decide +kernel
theorem dX7_foretold_28 : decode cX7_foretold 28 = .ok (.iload 4, 2) := by decide +kernel
theorem dX7_foretold_30 : decode cX7_foretold 30 = .ok (.invokestatic 34, 3) := by decide +kernel
theorem dX7_foretold_33 : decode cX7_foretold 33 = .ok (.ifCond .eq 33, 3) := by decide +kernel
theorem dX7_foretold_36 : decode cX7_foretold 36 = .ok (.iload 5, 2) := by decide +kernel
theorem dX7_foretold_38 : decode cX7_foretold 38 = .ok (.iconst 1, 1) := by decide +kernel
theorem dX7_foretold_39 : decode cX7_foretold 39 = .ok (.iconst 5, 1) := by decide +kernel
theorem dX7_foretold_40 : decode cX7_foretold 40 = .ok (.invokestatic 55, 3) := by decide +kernel
theorem dX7_foretold_43 : decode cX7_foretold 43 = .ok (.ifCond .eq 23, 3) := by decide +kernel
theorem dX7_foretold_46 : decode cX7_foretold 46 = .ok (.iload 4, 2) := by decide +kernel
theorem dX7_foretold_48 : decode cX7_foretold 48 = .ok (.iload 5, 2) := by decide +kernel
theorem dX7_foretold_50 : decode cX7_foretold 50 = .ok (.iadd, 1) := by decide +kernel
theorem dX7_foretold_51 : decode cX7_foretold 51 = .ok (.bipush 40, 2) := by decide +kernel
theorem dX7_foretold_53 : decode cX7_foretold 53 = .ok (.if_icmp .gt 13, 3) := by decide +kernel
theorem dX7_foretold_56 : decode cX7_foretold 56 = .ok (.iload 6, 2) := by decide +kernel
theorem dX7_foretold_58 : decode cX7_foretold 58 = .ok (.iconst 0, 1) := by decide +kernel
theorem dX7_foretold_59 : decode cX7_foretold 59 = .ok (.iconst 3, 1) := by decide +kernel
theorem dX7_foretold_60 : decode cX7_foretold 60 = .ok (.invokestatic 55, 3) := by decide +kernel
theorem dX7_foretold_63 : decode cX7_foretold 63 = .ok (.ifCond .ne 7, 3) := by decide +kernel
theorem dX7_foretold_66 : decode cX7_foretold 66 = .ok (.ldc2_w 149, 3) := by decide +kernel
theorem dX7_foretold_69 : decode cX7_foretold 69 = .ok (.lreturn, 1) := by decide +kernel
theorem dX7_foretold_70 : decode cX7_foretold 70 = .ok (.aload_n 0, 1) := by decide +kernel
theorem dX7_foretold_71 : decode cX7_foretold 71 = .ok (.getfield 12, 3) := by decide +kernel
theorem dX7_foretold_74 : decode cX7_foretold 74 = .ok (.iload_n 1, 1) := by decide +kernel
theorem dX7_foretold_75 : decode cX7_foretold 75 = .ok (.iload_n 2, 1) := by decide +kernel
theorem dX7_foretold_76 : decode cX7_foretold 76 = .ok (.iload_n 3, 1) := by decide +kernel
theorem dX7_foretold_77 : decode cX7_foretold 77 = .ok (.iload 4, 2) := by decide +kernel
theorem dX7_foretold_79 : decode cX7_foretold 79 = .ok (.iload 5, 2) := by decide +kernel
theorem dX7_foretold_81 : decode cX7_foretold 81 = .ok (.invokevirtual 223, 3) := by decide +kernel
theorem dX7_foretold_84 : decode cX7_foretold 84 = .ok (.iload 6, 2) := by decide +kernel
theorem dX7_foretold_86 : decode cX7_foretold 86 = .ok (.tableswitch 50 0 2 #[26, 34, 42], 26) := by decide +kernel
theorem dX7_foretold_112 : decode cX7_foretold 112 = .ok (.aload_n 0, 1) := by decide +kernel
theorem dX7_foretold_113 : decode cX7_foretold 113 = .ok (.getfield 12, 3) := by decide +kernel
theorem dX7_foretold_116 : decode cX7_foretold 116 = .ok (.getfield 227, 3) := by decide +kernel
theorem dX7_foretold_119 : decode cX7_foretold 119 = .ok (.lreturn, 1) := by decide +kernel
theorem dX7_foretold_120 : decode cX7_foretold 120 = .ok (.aload_n 0, 1) := by decide +kernel
theorem dX7_foretold_121 : decode cX7_foretold 121 = .ok (.getfield 12, 3) := by decide +kernel
theorem dX7_foretold_124 : decode cX7_foretold 124 = .ok (.getfield 230, 3) := by decide +kernel
theorem dX7_foretold_127 : decode cX7_foretold 127 = .ok (.lreturn, 1) := by decide +kernel
theorem dX7_foretold_128 : decode cX7_foretold 128 = .ok (.aload_n 0, 1) := by decide +kernel
theorem dX7_foretold_129 : decode cX7_foretold 129 = .ok (.getfield 12, 3) := by decide +kernel
theorem dX7_foretold_132 : decode cX7_foretold 132 = .ok (.getfield 233, 3) := by decide +kernel
theorem dX7_foretold_135 : decode cX7_foretold 135 = .ok (.lreturn, 1) := by decide +kernel
theorem dX7_foretold_136 : decode cX7_foretold 136 = .ok (.aload_n 0, 1) := by decide +kernel
theorem dX7_foretold_137 : decode cX7_foretold 137 = .ok (.getfield 12, 3) := by decide +kernel
theorem dX7_foretold_140 : decode cX7_foretold 140 = .ok (.getfield 236, 3) := by decide +kernel
theorem dX7_foretold_143 : decode cX7_foretold 143 = .ok (.lreturn, 1) := by decide +kernel
def kX7_foretold (live : am_E) (Ret : am_R) : am_code := [(0, am_aload 0 1), (1, am_iload 1 2), (2, am_callV live 7 1 TX7_isPerson 5), (5, am_if1 (fun x => x = 0) 24 8), (8, am_iload 2 9), (9, am_const (.int 0) 10), (10, am_const (.int 3) 11), (11, am_callS live 3 TX7_within 14), (14, am_if1 (fun x => x = 0) 24 17), (17, am_iload 3 18), (18, am_callS live 1 TX7_isPence 21), (21, am_if1 (fun x => x = 0) 24 28), (24, am_const (.long (-2)) 27), (27, am_retL Ret), (28, am_iload 4 30), (30, am_callS live 1 TX7_isYear 33), (33, am_if1 (fun x => x = 0) 66 36), (36, am_iload 5 38), (38, am_const (.int 1) 39), (39, am_const (.int 5) 40), (40, am_callS live 3 TX7_within 43), (43, am_if1 (fun x => x = 0) 66 46), (46, am_iload 4 48), (48, am_iload 5 50), (50, am_i2 (fun x y => x + y) 51), (51, am_const (.int 40) 53), (53, am_if2 (fun x y => y < x) 66 56), (56, am_iload 6 58), (58, am_const (.int 0) 59), (59, am_const (.int 3) 60), (60, am_callS live 3 TX7_within 63), (63, am_if1 (fun x => x = 0) 66 70), (66, am_const (.long (-2)) 69), (69, am_retL Ret), (70, am_aload 0 71), (71, am_getR live 7 3 74), (74, am_iload 1 75), (75, am_iload 2 76), (76, am_iload 3 77), (77, am_iload 4 79), (79, am_iload 5 81), (81, am_callV live 6 5 TX6_follow 84), (84, am_iload 6 86), (86, am_switch [(0, 112), (1, 120), (2, 128)] 136), (112, am_aload 0 113), (113, am_getR live 7 3 116), (116, am_getJ live 6 5 119), (119, am_retL Ret), (120, am_aload 0 121), (121, am_getR live 7 3 124), (124, am_getJ live 6 6 127), (127, am_retL Ret), (128, am_aload 0 129), (129, am_getR live 7 3 132), (132, am_getJ live 6 7 135), (135, am_retL Ret), (136, am_aload 0 137), (137, am_getR live 7 3 140), (140, am_getJ live 6 8 143), (143, am_retL Ret)]
theorem koX7_foretold (live : am_E) (Ret : am_R) : ∀ q ∈ kX7_foretold live Ret, am_ok RX7 cX7_foretold 7 (some .long) 11 368 live Ret q.1 q.2 :=
  am_kc (ak_aload_n dX7_foretold_0 rfl rfl) <|
  am_kc (ak_iload_n dX7_foretold_1 rfl rfl) <|
  am_kc (ak_callV (C := RX7) (F := TX7) (N := 4) metX7_isPerson rfl ⟨rfl, hy_X7_isPerson⟩ (am_w5 wd_414 wd_416 wd_0 wd_58 wd_417) (by decide) dX7_foretold_2 rfl) <|
  am_kc (ak_if_eq dX7_foretold_5 (by decide +kernel) rfl) <|
  am_kc (ak_iload_n dX7_foretold_8 rfl rfl) <|
  am_kc (ak_iconst dX7_foretold_9 (by decide +kernel) rfl) <|
  am_kc (ak_iconst dX7_foretold_10 (by decide +kernel) rfl) <|
  am_kc (ak_callS metX7_within ⟨rfl, hy_X7_within⟩ (am_w4 wd_418 wd_419 wd_58 wd_420) (by decide) dX7_foretold_11 rfl) <|
  am_kc (ak_if_eq dX7_foretold_14 (by decide +kernel) rfl) <|
  am_kc (ak_iload_n dX7_foretold_17 rfl rfl) <|
  am_kc (ak_callS metX7_isPence ⟨rfl, hy_X7_isPence⟩ (am_w4 wd_446 wd_447 wd_58 wd_448) (by decide) dX7_foretold_18 rfl) <|
  am_kc (ak_if_ne dX7_foretold_21 (by decide +kernel) rfl) <|
  am_kc (ak_ldc2 wd_545 dX7_foretold_24 rfl) <|
  am_kc (ak_retL dX7_foretold_27) <|
  am_kc (ak_iload dX7_foretold_28 rfl) <|
  am_kc (ak_callS metX7_isYear ⟨rfl, hy_X7_isYear⟩ (am_w4 wd_407 wd_408 wd_58 wd_409) (by decide) dX7_foretold_30 rfl) <|
  am_kc (ak_if_eq dX7_foretold_33 (by decide +kernel) rfl) <|
  am_kc (ak_iload dX7_foretold_36 rfl) <|
  am_kc (ak_iconst dX7_foretold_38 (by decide +kernel) rfl) <|
  am_kc (ak_iconst dX7_foretold_39 (by decide +kernel) rfl) <|
  am_kc (ak_callS metX7_within ⟨rfl, hy_X7_within⟩ (am_w4 wd_418 wd_419 wd_58 wd_420) (by decide) dX7_foretold_40 rfl) <|
  am_kc (ak_if_eq dX7_foretold_43 (by decide +kernel) rfl) <|
  am_kc (ak_iload dX7_foretold_46 rfl) <|
  am_kc (ak_iload dX7_foretold_48 rfl) <|
  am_kc (ak_iadd dX7_foretold_50 rfl) <|
  am_kc (ak_bipush dX7_foretold_51 (by decide +kernel) rfl) <|
  am_kc (ak_icmp_gt dX7_foretold_53 (by decide +kernel) rfl) <|
  am_kc (ak_iload dX7_foretold_56 rfl) <|
  am_kc (ak_iconst dX7_foretold_58 (by decide +kernel) rfl) <|
  am_kc (ak_iconst dX7_foretold_59 (by decide +kernel) rfl) <|
  am_kc (ak_callS metX7_within ⟨rfl, hy_X7_within⟩ (am_w4 wd_418 wd_419 wd_58 wd_420) (by decide) dX7_foretold_60 rfl) <|
  am_kc (ak_if_ne dX7_foretold_63 (by decide +kernel) rfl) <|
  am_kc (ak_ldc2 wd_545 dX7_foretold_66 rfl) <|
  am_kc (ak_retL dX7_foretold_69) <|
  am_kc (ak_aload_n dX7_foretold_70 rfl rfl) <|
  am_kc (ak_getR (C := RX7) (T := TX7) (N := 4) rfl inX7w (by decide) rfl rfl rfl wd_393 dX7_foretold_71 rfl) <|
  am_kc (ak_iload_n dX7_foretold_74 rfl rfl) <|
  am_kc (ak_iload_n dX7_foretold_75 rfl rfl) <|
  am_kc (ak_iload_n dX7_foretold_76 rfl rfl) <|
  am_kc (ak_iload dX7_foretold_77 rfl) <|
  am_kc (ak_iload dX7_foretold_79 rfl) <|
  am_kc (ak_callV (C := RX6) (F := TX6) (N := 9) metX6_follow rfl ⟨rfl, hy_X6_follow⟩ (am_w5 wd_780 wd_781 wd_782 wd_59 wd_783) (by decide) dX7_foretold_81 rfl) <|
  am_kc (ak_iload dX7_foretold_84 rfl) <|
  am_kc (ak_tswitch dX7_foretold_86 (by decide +kernel) (by decide +kernel) (by decide +kernel) (by decide +kernel) (by decide +kernel) (by decide +kernel)) <|
  am_kc (ak_aload_n dX7_foretold_112 rfl rfl) <|
  am_kc (ak_getR (C := RX7) (T := TX7) (N := 4) rfl inX7w (by decide) rfl rfl rfl wd_393 dX7_foretold_113 rfl) <|
  am_kc (ak_getJ (C := RX6) (T := TX6) (N := 9) rfl inX6w (by decide) rfl rfl rfl wd_362 dX7_foretold_116 rfl) <|
  am_kc (ak_retL dX7_foretold_119) <|
  am_kc (ak_aload_n dX7_foretold_120 rfl rfl) <|
  am_kc (ak_getR (C := RX7) (T := TX7) (N := 4) rfl inX7w (by decide) rfl rfl rfl wd_393 dX7_foretold_121 rfl) <|
  am_kc (ak_getJ (C := RX6) (T := TX6) (N := 9) rfl inX6w (by decide) rfl rfl rfl wd_364 dX7_foretold_124 rfl) <|
  am_kc (ak_retL dX7_foretold_127) <|
  am_kc (ak_aload_n dX7_foretold_128 rfl rfl) <|
  am_kc (ak_getR (C := RX7) (T := TX7) (N := 4) rfl inX7w (by decide) rfl rfl rfl wd_393 dX7_foretold_129 rfl) <|
  am_kc (ak_getJ (C := RX6) (T := TX6) (N := 9) rfl inX6w (by decide) rfl rfl rfl wd_366 dX7_foretold_132 rfl) <|
  am_kc (ak_retL dX7_foretold_135) <|
  am_kc (ak_aload_n dX7_foretold_136 rfl rfl) <|
  am_kc (ak_getR (C := RX7) (T := TX7) (N := 4) rfl inX7w (by decide) rfl rfl rfl wd_393 dX7_foretold_137 rfl) <|
  am_kc (ak_getJ (C := RX6) (T := TX6) (N := 9) rfl inX6w (by decide) rfl rfl rfl wd_368 dX7_foretold_140 rfl) <|
  am_kc (ak_retL dX7_foretold_143) <| am_kn
def TX7_foretold : am_T := fun live as M R => match as with
  | [.ref n, .int p, .int s, .int c, .int y, .int w, .int k] => am_mn live ∧ n = 0 ∧ (g_hI M ∧ g_rI M) ∧ ∀ v M', g_sv M M' → g_rI M' → R (some (.long v)) M'
  | _ => False
set_option maxRecDepth 100000 in
set_option maxHeartbeats 4000000 in
theorem metX7_foretold : am_Met yX7_foretold cX7_foretold 7 (some .long) (11) (368) TX7_foretold := by
  refine am_met (own := RX7) (by decide +kernel) rfl kX7_foretold koX7_foretold 150 (fun _ _ _ _ _ => none) (fun live as M Ret h => ?_) (fun _ _ _ _ _ _ _ _ hI => by cases hI)
  unfold TX7_foretold at h
  split at h
  · next n p s c y w k =>
    refine ⟨Nat.le_of_ble_eq_true rfl, ?_⟩
    change am_wp _ _ _ _ [(0, Value.ref n), (1, Value.int p), (2, Value.int s), (3, Value.int c), (4, Value.int y), (5, Value.int w), (6, Value.int k)] _ _
    obtain ⟨hmn, rfl, ⟨hH, hR⟩, h⟩ := h
    have hmn2 := hmn
    obtain ⟨i1, i2, rfl⟩ := hmn2
    by_cases z0 : 0 ≤ p ∧ p < M.1 21 7
    rotate_left
    · skip
      have q0 : (if 0 ≤ p ∧ p < M.1 21 7 then (1 : Int32) else 0) = 0 := if_neg z0
      repeat' (first | (with_reducible exact hmn) | apply And.intro | exact rfl | (intro hx; with_reducible exact absurd q0 hx) | (intro hx; exact absurd hx (by decide)) | (intro hx; exact absurd (by decide) hx) | decide | intro hx | (refine Exists.intro _ (And.intro rfl ?_)))
      all_goals try first | (with_reducible change am_tI _ _) | (change Ret _ _) | (change Ret _ _ _) | (change Exists _)
      all_goals try dsimp only at *
      all_goals try (with_reducible exact absurd ‹(1000 : Int64) = 0› am_z1000)
      all_goals exact h _ _ g_sv.rf hR
    · skip
      have q0 : ¬ ((if 0 ≤ p ∧ p < M.1 21 7 then (1 : Int32) else 0) = 0) := by rw [if_pos z0]; decide
      by_cases z1 : 0 ≤ s ∧ s ≤ 3
      rotate_left
      · skip
        have q1 : (if 0 ≤ s ∧ s ≤ 3 then (1 : Int32) else 0) = 0 := if_neg z1
        repeat' (first | (with_reducible exact hmn) | apply And.intro | exact rfl | (intro hx; with_reducible exact absurd hx q0) | (intro hx; with_reducible exact absurd q1 hx) | (intro hx; exact absurd hx (by decide)) | (intro hx; exact absurd (by decide) hx) | decide | intro hx | (refine Exists.intro _ (And.intro rfl ?_)))
        all_goals try first | (with_reducible change am_tI _ _) | (change Ret _ _) | (change Ret _ _ _) | (change Exists _)
        all_goals try dsimp only at *
        all_goals try (with_reducible exact absurd ‹(1000 : Int64) = 0› am_z1000)
        all_goals exact h _ _ g_sv.rf hR
      · skip
        have q1 : ¬ ((if 0 ≤ s ∧ s ≤ 3 then (1 : Int32) else 0) = 0) := by rw [if_pos z1]; decide
        by_cases z2 : 0 ≤ c ∧ c ≤ 10000000
        rotate_left
        · skip
          have q2 : (if 0 ≤ c ∧ c ≤ 10000000 then (1 : Int32) else 0) = 0 := if_neg z2
          repeat' (first | (with_reducible exact hmn) | apply And.intro | exact rfl | (intro hx; with_reducible exact absurd hx q0) | (intro hx; with_reducible exact absurd hx q1) | (intro hx; with_reducible exact absurd q2 hx) | (intro hx; exact absurd hx (by decide)) | (intro hx; exact absurd (by decide) hx) | decide | intro hx | (refine Exists.intro _ (And.intro rfl ?_)))
          all_goals try first | (with_reducible change am_tI _ _) | (change Ret _ _) | (change Ret _ _ _) | (change Exists _)
          all_goals try dsimp only at *
          all_goals try (with_reducible exact absurd ‹(1000 : Int64) = 0› am_z1000)
          all_goals exact h _ _ g_sv.rf hR
        · skip
          have q2 : ¬ ((if 0 ≤ c ∧ c ≤ 10000000 then (1 : Int32) else 0) = 0) := by rw [if_pos z2]; decide
          by_cases z3 : 0 ≤ y ∧ y < 40
          rotate_left
          · skip
            have q3 : (if 0 ≤ y ∧ y < 40 then (1 : Int32) else 0) = 0 := if_neg z3
            repeat' (first | (with_reducible exact hmn) | apply And.intro | exact rfl | (intro hx; with_reducible exact absurd hx q0) | (intro hx; with_reducible exact absurd hx q1) | (intro hx; with_reducible exact absurd hx q2) | (intro hx; with_reducible exact absurd q3 hx) | (intro hx; exact absurd hx (by decide)) | (intro hx; exact absurd (by decide) hx) | decide | intro hx | (refine Exists.intro _ (And.intro rfl ?_)))
            all_goals try first | (with_reducible change am_tI _ _) | (change Ret _ _) | (change Ret _ _ _) | (change Exists _)
            all_goals try dsimp only at *
            all_goals try (with_reducible exact absurd ‹(1000 : Int64) = 0› am_z1000)
            all_goals exact h _ _ g_sv.rf hR
          · skip
            have q3 : ¬ ((if 0 ≤ y ∧ y < 40 then (1 : Int32) else 0) = 0) := by rw [if_pos z3]; decide
            by_cases z4 : 1 ≤ w ∧ w ≤ 5
            rotate_left
            · skip
              have q4 : (if 1 ≤ w ∧ w ≤ 5 then (1 : Int32) else 0) = 0 := if_neg z4
              repeat' (first | (with_reducible exact hmn) | apply And.intro | exact rfl | (intro hx; with_reducible exact absurd hx q0) | (intro hx; with_reducible exact absurd hx q1) | (intro hx; with_reducible exact absurd hx q2) | (intro hx; with_reducible exact absurd hx q3) | (intro hx; with_reducible exact absurd q4 hx) | (intro hx; exact absurd hx (by decide)) | (intro hx; exact absurd (by decide) hx) | decide | intro hx | (refine Exists.intro _ (And.intro rfl ?_)))
              all_goals try first | (with_reducible change am_tI _ _) | (change Ret _ _) | (change Ret _ _ _) | (change Exists _)
              all_goals try dsimp only at *
              all_goals try (with_reducible exact absurd ‹(1000 : Int64) = 0› am_z1000)
              all_goals exact h _ _ g_sv.rf hR
            · skip
              have q4 : ¬ ((if 1 ≤ w ∧ w ≤ 5 then (1 : Int32) else 0) = 0) := by rw [if_pos z4]; decide
              have hy2 : 0 ≤ y.toInt ∧ y.toInt < 40 := ⟨by have q := z3.1; simp only [i_le, Int32.reduceToInt] at q; omega, by have q := z3.2; simp only [i_lt, Int32.reduceToInt] at q; omega⟩
              have hw2 : 1 ≤ w.toInt ∧ w.toInt ≤ 5 := ⟨by have q := z4.1; simp only [i_le, Int32.reduceToInt] at q; omega, by have q := z4.2; simp only [i_le, Int32.reduceToInt] at q; omega⟩
              have eyw := i_add (x := y) (y := w) (by omega) (by omega)
              by_cases z5 : y + w ≤ 40
              rotate_left
              · skip
                have y5 : (40 : Int32) < y + w := Int32.not_le.mp z5
                repeat' (first | (with_reducible exact hmn) | apply And.intro | exact rfl | (intro hx; with_reducible exact absurd hx q0) | (intro hx; with_reducible exact absurd hx q1) | (intro hx; with_reducible exact absurd hx q2) | (intro hx; with_reducible exact absurd hx q3) | (intro hx; with_reducible exact absurd hx q4) | (intro hx; with_reducible exact absurd hx z5) | (intro hx; with_reducible exact absurd y5 hx) | (intro hx; exact absurd hx (by decide)) | (intro hx; exact absurd (by decide) hx) | decide | intro hx | (refine Exists.intro _ (And.intro rfl ?_)))
                all_goals try first | (with_reducible change am_tI _ _) | (change Ret _ _) | (change Ret _ _ _) | (change Exists _)
                all_goals try dsimp only at *
                all_goals try (with_reducible exact absurd ‹(1000 : Int64) = 0› am_z1000)
                all_goals exact h _ _ g_sv.rf hR
              · skip
                have y5 : ¬ (40 : Int32) < y + w := Int32.not_lt.mpr z5
                by_cases z6 : 0 ≤ k ∧ k ≤ 3
                rotate_left
                · skip
                  have q6 : (if 0 ≤ k ∧ k ≤ 3 then (1 : Int32) else 0) = 0 := if_neg z6
                  repeat' (first | (with_reducible exact hmn) | apply And.intro | exact rfl | (intro hx; with_reducible exact absurd hx q0) | (intro hx; with_reducible exact absurd hx q1) | (intro hx; with_reducible exact absurd hx q2) | (intro hx; with_reducible exact absurd hx q3) | (intro hx; with_reducible exact absurd hx q4) | (intro hx; with_reducible exact absurd hx y5) | (intro hx; with_reducible exact absurd z5 hx) | (intro hx; with_reducible exact absurd q6 hx) | (intro hx; exact absurd hx (by decide)) | (intro hx; exact absurd (by decide) hx) | decide | intro hx | (refine Exists.intro _ (And.intro rfl ?_)))
                  all_goals try first | (with_reducible change am_tI _ _) | (change Ret _ _) | (change Ret _ _ _) | (change Exists _)
                  all_goals try dsimp only at *
                  all_goals try (with_reducible exact absurd ‹(1000 : Int64) = 0› am_z1000)
                  all_goals exact h _ _ g_sv.rf hR
                · skip
                  have q6 : ¬ ((if 0 ≤ k ∧ k ≤ 3 then (1 : Int32) else 0) = 0) := by rw [if_pos z6]; decide
                  have hp : am_in p 12 := ⟨by have q := z0.1; simp only [i_le, Int32.reduceToInt] at q; omega, by have q := z0.2; have q2 := hH.pe; simp only [i_lt] at q; omega⟩
                  have hs : am_in s 4 := ⟨by have q := z1.1; simp only [i_le, Int32.reduceToInt] at q; omega, by have q := z1.2; simp only [i_le, Int32.reduceToInt] at q; omega⟩
                  have hyw : y.toInt + w.toInt ≤ 40 := by have q := z5; simp only [i_le, Int32.reduceToInt] at q; omega
                  repeat' (first | (with_reducible exact hmn) | (with_reducible exact hR) | (with_reducible exact hp) | (with_reducible exact hs) | apply And.intro | exact rfl | (intro hx; with_reducible exact absurd hx q0) | (intro hx; with_reducible exact absurd hx q1) | (intro hx; with_reducible exact absurd hx q2) | (intro hx; with_reducible exact absurd hx q3) | (intro hx; with_reducible exact absurd hx q4) | (intro hx; with_reducible exact absurd hx y5) | (intro hx; with_reducible exact absurd hx q6) | (intro hx; with_reducible exact absurd z5 hx) | (intro hx; exact absurd hx (by decide)) | (intro hx; exact absurd (by decide) hx) | decide | intro hx | (refine Exists.intro _ (And.intro rfl ?_)))
                  all_goals try first | (with_reducible change am_tI _ _) | (change Ret _ _) | (change Ret _ _ _) | (change Exists _)
                  all_goals try dsimp only at *
                  all_goals try (with_reducible exact absurd ‹(1000 : Int64) = 0› am_z1000)
                  all_goals first | (with_reducible exact hy2.1) | (with_reducible exact hw2.1) | (with_reducible exact hw2.2) | (with_reducible exact hyw) | exact h _ _ (by with_reducible assumption) (by with_reducible assumption) | exact hy2.1 | exact hw2.1 | exact hw2.2 | exact hyw | skip
  · exact h.elim
theorem hy_X7_takenIf : yX7_takenIf.cls ≠ "java/lang/invoke/MethodHandle" ∧ yX7_takenIf.cls ≠ "java/lang/invoke/VarHandle" ∧ (parseMethodDescriptor yX7_takenIf.desc).map (fun d => d.parameters.length) = some 5 := ⟨by decide +kernel, by decide +kernel, by decide +kernel⟩
set_option maxRecDepth 100000 in
theorem wd_804 : Cond.methodLink "LearnLoans" 239 yX7_takenIf ∈ am_ws := am_wt4 (List.mem_of_getElem? (i := 27) (by rfl)) (by decide +kernel)
set_option maxRecDepth 100000 in
theorem wd_806 : Cond.instanceMethod yX7_takenIf ∈ am_ws := am_wt4 (List.mem_of_getElem? (i := 29) (by rfl)) (by decide +kernel)
set_option maxRecDepth 100000 in
theorem wd_26 : Cond.selects "LearnLoans" yX7_takenIf yX7_takenIf ∈ am_ws := am_wsi (List.mem_of_getElem? (i := 26) (by rfl)) (by decide +kernel)
set_option maxRecDepth 100000 in
theorem wd_807 : Cond.code yX7_takenIf cX7_takenIf 9 (some .long) ∈ am_ws := am_wt4 (List.mem_of_getElem? (i := 30) (by rfl)) (by decide +kernel)
def rwX7_tried : List dz_r := [(0, .iload_n 1, 1), (1, .invokestatic 98, 3), (4, .ifCond .eq 27, 3), (7, .iload_n 2, 1), (8, .iload_n 3, 1), (9, .invokestatic 101, 3), (12, .ifCond .eq 19, 3), (15, .iload 4, 2), (17, .invokestatic 34, 3), (20, .ifCond .eq 11, 3), (23, .iload 5, 2), (25, .invokestatic 34, 3), (28, .ifCond .ne 7, 3), (31, .ldc2_w 149, 3), (34, .lreturn, 1), (35, .aload_n 0, 1), (36, .iload_n 1, 1), (37, .iload_n 2, 1), (38, .iload_n 3, 1), (39, .iload 4, 2), (41, .iload 5, 2), (43, .invokevirtual 239, 3), (46, .lreturn, 1)]
theorem dzX7_tried : dz cX7_tried rwX7_tried := dz_all 0 (by decide +kernel)
def kX7_tried (live : am_E) (Ret : am_R) : am_code := [(0, am_iload 1 1), (1, am_callS live 1 TX7_isPlan 4), (4, am_if1 (fun x => x = 0) 31 7), (7, am_iload 2 8), (8, am_iload 3 9), (9, am_callS live 2 TX7_isNumber 12), (12, am_if1 (fun x => x = 0) 31 15), (15, am_iload 4 17), (17, am_callS live 1 TX7_isYear 20), (20, am_if1 (fun x => x = 0) 31 23), (23, am_iload 5 25), (25, am_callS live 1 TX7_isYear 28), (28, am_if1 (fun x => x = 0) 31 35), (31, am_const (.long (-2)) 34), (34, am_retL Ret), (35, am_aload 0 36), (36, am_iload 1 37), (37, am_iload 2 38), (38, am_iload 3 39), (39, am_iload 4 41), (41, am_iload 5 43), (43, am_callV live 7 5 TX7_takenIf 46), (46, am_retL Ret)]
theorem koX7_tried (live : am_E) (Ret : am_R) : ∀ q ∈ kX7_tried live Ret, am_ok RX7 cX7_tried 6 (some .long) 6 152 live Ret q.1 q.2 :=
  am_kz dzX7_tried <|
  am_kd (fun d => ak_iload_n d rfl rfl) <|
  am_kd (fun d => ak_callS metX7_isPlan ⟨rfl, hy_X7_isPlan⟩ (am_w4 wd_466 wd_467 wd_58 wd_468) (by decide) d rfl) <|
  am_kd (fun d => ak_if_eq d (by decide +kernel) rfl) <|
  am_kd (fun d => ak_iload_n d rfl rfl) <|
  am_kd (fun d => ak_iload_n d rfl rfl) <|
  am_kd (fun d => ak_callS metX7_isNumber ⟨rfl, hy_X7_isNumber⟩ (am_w4 wd_469 wd_470 wd_58 wd_471) (by decide) d rfl) <|
  am_kd (fun d => ak_if_eq d (by decide +kernel) rfl) <|
  am_kd (fun d => ak_iload d rfl) <|
  am_kd (fun d => ak_callS metX7_isYear ⟨rfl, hy_X7_isYear⟩ (am_w4 wd_407 wd_408 wd_58 wd_409) (by decide) d rfl) <|
  am_kd (fun d => ak_if_eq d (by decide +kernel) rfl) <|
  am_kd (fun d => ak_iload d rfl) <|
  am_kd (fun d => ak_callS metX7_isYear ⟨rfl, hy_X7_isYear⟩ (am_w4 wd_407 wd_408 wd_58 wd_409) (by decide) d rfl) <|
  am_kd (fun d => ak_if_ne d (by decide +kernel) rfl) <|
  am_kd (fun d => ak_ldc2 wd_545 d rfl) <|
  am_kd (fun d => ak_retL d) <|
  am_kd (fun d => ak_aload_n d rfl rfl) <|
  am_kd (fun d => ak_iload_n d rfl rfl) <|
  am_kd (fun d => ak_iload_n d rfl rfl) <|
  am_kd (fun d => ak_iload_n d rfl rfl) <|
  am_kd (fun d => ak_iload d rfl) <|
  am_kd (fun d => ak_iload d rfl) <|
  am_kd (fun d => ak_callV (C := RX7) (F := TX7) (N := 4) metX7_takenIf rfl ⟨rfl, hy_X7_takenIf⟩ (am_w5 wd_804 wd_806 wd_26 wd_58 wd_807) (by decide) d rfl) <|
  am_kd (fun d => ak_retL d) <| am_kdn
def TX7_tried : am_T := fun live as M R => match as with
  | [.ref n, .int pl, .int w, .int v, .int f, .int y] => am_mn live ∧ n = 0 ∧ (g_hI M ∧ g_rI M) ∧ ∀ v M', g_sa M M' → g_rI M' → R (some (.long v)) M'
  | _ => False
set_option maxRecDepth 100000 in
set_option maxHeartbeats 4000000 in
theorem metX7_tried : am_Met yX7_tried cX7_tried 6 (some .long) (6) (152) TX7_tried := by
  refine am_met (own := RX7) (by decide +kernel) rfl kX7_tried koX7_tried 150 (fun _ _ _ _ _ => none) (fun live as M Ret h => ?_) (fun _ _ _ _ _ _ _ _ hI => by cases hI)
  unfold TX7_tried at h
  split at h
  · next n pl w v f y =>
    refine ⟨Nat.le_of_ble_eq_true rfl, ?_⟩
    change am_wp _ _ _ _ [(0, Value.ref n), (1, Value.int pl), (2, Value.int w), (3, Value.int v), (4, Value.int f), (5, Value.int y)] _ _
    obtain ⟨hmn, rfl, ⟨hH, hR⟩, h⟩ := h
    have hmn2 := hmn
    obtain ⟨i1, i2, rfl⟩ := hmn2
    by_cases z0 : 0 ≤ pl ∧ pl < 5
    rotate_left
    · skip
      have q0 : (if 0 ≤ pl ∧ pl < 5 then (1 : Int32) else 0) = 0 := if_neg z0
      repeat' (first | (with_reducible exact hmn) | apply And.intro | exact rfl | (intro hx; with_reducible exact absurd q0 hx) | (intro hx; exact absurd hx (by decide)) | (intro hx; exact absurd (by decide) hx) | decide | intro hx | (refine Exists.intro _ (And.intro rfl ?_)))
      all_goals try first | (with_reducible change am_tI _ _) | (change Ret _ _) | (change Ret _ _ _) | (change Exists _)
      all_goals try dsimp only at *
      all_goals try (with_reducible exact absurd ‹(1000 : Int64) = 0› am_z1000)
      all_goals exact h _ _ g_sv.rf.a hR
    · skip
      have q0 : ¬ ((if 0 ≤ pl ∧ pl < 5 then (1 : Int32) else 0) = 0) := by rw [if_pos z0]; decide
      by_cases z1 : (0 ≤ w ∧ w < 6) ∧ am_sf 1 w.toNatClampNeg ≤ v ∧ v ≤ am_sf 2 w.toNatClampNeg
      rotate_left
      · skip
        have q1 : ¬ am_isNum w v := z1
        repeat' (first | (with_reducible exact hmn) | apply And.intro | exact rfl | (intro hx; with_reducible exact absurd hx q0) | (intro hx; with_reducible exact absurd hx q1) | (intro hx; exact absurd hx (by decide)) | (intro hx; exact absurd (by decide) hx) | decide | intro hx | (refine Exists.intro _ (And.intro rfl ?_)))
        all_goals try first | (with_reducible change am_tI _ _) | (change Ret _ _) | (change Ret _ _ _) | (change Exists _)
        all_goals try dsimp only at *
        all_goals try (with_reducible exact absurd ‹(1000 : Int64) = 0› am_z1000)
        all_goals exact h _ _ g_sv.rf.a hR
      · skip
        have q1 : am_isNum w v := z1
        by_cases z2 : 0 ≤ f ∧ f < 40
        rotate_left
        · skip
          have q2 : (if 0 ≤ f ∧ f < 40 then (1 : Int32) else 0) = 0 := if_neg z2
          repeat' (first | (with_reducible exact hmn) | apply And.intro | exact rfl | (intro hx; with_reducible exact absurd hx q0) | (intro hx; with_reducible exact absurd q1 hx) | (intro hx; with_reducible exact absurd q2 hx) | (intro hx; exact absurd hx (by decide)) | (intro hx; exact absurd (by decide) hx) | decide | intro hx | (refine Exists.intro _ (And.intro rfl ?_)))
          all_goals try first | (with_reducible change am_tI _ _) | (change Ret _ _) | (change Ret _ _ _) | (change Exists _)
          all_goals try dsimp only at *
          all_goals try (with_reducible exact absurd ‹(1000 : Int64) = 0› am_z1000)
          all_goals exact h _ _ g_sv.rf.a hR
        · skip
          have q2 : ¬ ((if 0 ≤ f ∧ f < 40 then (1 : Int32) else 0) = 0) := by rw [if_pos z2]; decide
          by_cases z3 : 0 ≤ y ∧ y < 40
          rotate_left
          · skip
            have q3 : (if 0 ≤ y ∧ y < 40 then (1 : Int32) else 0) = 0 := if_neg z3
            repeat' (first | (with_reducible exact hmn) | apply And.intro | exact rfl | (intro hx; with_reducible exact absurd hx q0) | (intro hx; with_reducible exact absurd hx q2) | (intro hx; with_reducible exact absurd q1 hx) | (intro hx; with_reducible exact absurd q3 hx) | (intro hx; exact absurd hx (by decide)) | (intro hx; exact absurd (by decide) hx) | decide | intro hx | (refine Exists.intro _ (And.intro rfl ?_)))
            all_goals try first | (with_reducible change am_tI _ _) | (change Ret _ _) | (change Ret _ _ _) | (change Exists _)
            all_goals try dsimp only at *
            all_goals try (with_reducible exact absurd ‹(1000 : Int64) = 0› am_z1000)
            all_goals exact h _ _ g_sv.rf.a hR
          · skip
            have q3 : ¬ ((if 0 ≤ y ∧ y < 40 then (1 : Int32) else 0) = 0) := by rw [if_pos z3]; decide
            repeat' (first | (with_reducible exact hmn) | (with_reducible exact hR) | (with_reducible exact hH) | apply And.intro | exact rfl | (intro hx; with_reducible exact absurd hx q0) | (intro hx; with_reducible exact absurd hx q2) | (intro hx; with_reducible exact absurd hx q3) | (intro hx; with_reducible exact absurd q1 hx) | (intro hx; exact absurd hx (by decide)) | (intro hx; exact absurd (by decide) hx) | decide | intro hx | (refine Exists.intro _ (And.intro rfl ?_)))
            all_goals try first | (with_reducible change am_tI _ _) | (change Ret _ _) | (change Ret _ _ _) | (change Exists _)
            all_goals try dsimp only at *
            all_goals try (with_reducible exact absurd ‹(1000 : Int64) = 0› am_z1000)
            all_goals first | exact h _ _ (by with_reducible assumption) (by with_reducible assumption) | skip
  · exact h.elim
end
