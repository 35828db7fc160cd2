/-! general: the calls of the class that tell: each answers c_NAME, and leaves what it says -/
set_option maxRecDepth 100000 in
theorem wd_407 : Cond.methodLink "LearnLoans" 34 yX7_isYear ∈ am_ws := am_wsi (List.mem_of_getElem? (i := 407) (by rfl)) (by decide +kernel)
set_option maxRecDepth 100000 in
theorem wd_408 : Cond.static yX7_isYear ∈ am_ws := am_wsi (List.mem_of_getElem? (i := 408) (by rfl)) (by decide +kernel)
set_option maxRecDepth 100000 in
theorem wd_58 : Cond.initialized "LearnLoans" ∈ am_ws := am_wsi (List.mem_of_getElem? (i := 58) (by rfl)) (by decide +kernel)
set_option maxRecDepth 100000 in
theorem wd_409 : Cond.code yX7_isYear cX7_isYear 1 (some .boolean) ∈ am_ws := am_wsi (List.mem_of_getElem? (i := 409) (by rfl)) (by decide +kernel)
set_option maxRecDepth 100000 in
theorem wd_106 : Cond.fieldLink "LearnLoans" 48 "LearnLoans$People" "began" "[I" ∈ am_ws := am_wsi (List.mem_of_getElem? (i := 106) (by rfl)) (by decide +kernel)
theorem dX7_person_0 : decode cX7_person 0 = .ok (.iload_n 1, 1) := by decide +kernel
theorem dX7_person_1 : decode cX7_person 1 = .ok (.invokestatic 34, 3) := by decide +kernel
theorem dX7_person_4 : decode cX7_person 4 = .ok (.ifCond .ne 6, 3) := by decide +kernel
theorem dX7_person_7 : decode cX7_person 7 = .ok (.bipush (-2), 2) := by decide +kernel
theorem dX7_person_9 : decode cX7_person 9 = .ok (.ireturn, 1) := by decide +kernel
theorem dX7_person_10 : decode cX7_person 10 = .ok (.aload_n 0, 1) := by decide +kernel
theorem dX7_person_11 : decode cX7_person 11 = .ok (.getfield 27, 3) := by decide +kernel
theorem dX7_person_14 : decode cX7_person 14 = .ok (.getfield 38, 3) := by decide +kernel
theorem dX7_person_17 : decode cX7_person 17 = .ok (.astore_n 2, 1) := by decide +kernel
theorem dX7_person_18 : decode cX7_person 18 = .ok (.aload_n 2, 1) := by decide +kernel
theorem dX7_person_19 : decode cX7_person 19 = .ok (.getfield 42, 3) := by decide +kernel
theorem dX7_person_22 : decode cX7_person 22 = .ok (.bipush 12, 2) := by decide +kernel
theorem dX7_person_24 : decode cX7_person 24 = .ok (.if_icmp .lt 6, 3) := by decide +kernel
theorem dX7_person_27 : decode cX7_person 27 = .ok (.bipush (-4), 2) := by decide +kernel
theorem dX7_person_29 : decode cX7_person 29 = .ok (.ireturn, 1) := by decide +kernel
theorem dX7_person_30 : decode cX7_person 30 = .ok (.aload_n 2, 1) := by decide +kernel
theorem dX7_person_31 : decode cX7_person 31 = .ok (.getfield 48, 3) := by decide +kernel
theorem dX7_person_34 : decode cX7_person 34 = .ok (.aload_n 2, 1) := by decide +kernel
theorem dX7_person_35 : decode cX7_person 35 = .ok (.getfield 42, 3) := by decide +kernel
theorem dX7_person_38 : decode cX7_person 38 = .ok (.iload_n 1, 1) := by decide +kernel
theorem dX7_person_39 : decode cX7_person 39 = .ok (.iastore, 1) := by decide +kernel
theorem dX7_person_40 : decode cX7_person 40 = .ok (.aload_n 2, 1) := by decide +kernel
theorem dX7_person_41 : decode cX7_person 41 = .ok (.dup, 1) := by decide +kernel
theorem dX7_person_42 : decode cX7_person 42 = .ok (.getfield 42, 3) := by decide +kernel
theorem dX7_person_45 : decode cX7_person 45 = .ok (.iconst 1, 1) := by decide +kernel
theorem dX7_person_46 : decode cX7_person 46 = .ok (.iadd, 1) := by decide +kernel
theorem dX7_person_47 : decode cX7_person 47 = .ok (.putfield 42, 3) := by decide +kernel
theorem dX7_person_50 : decode cX7_person 50 = .ok (.aload_n 2, 1) := by decide +kernel
theorem dX7_person_51 : decode cX7_person 51 = .ok (.getfield 42, 3) := by decide +kernel
theorem dX7_person_54 : decode cX7_person 54 = .ok (.iconst 1, 1) := by decide +kernel
theorem dX7_person_55 : decode cX7_person 55 = .ok (.isub, 1) := by decide +kernel
theorem dX7_person_56 : decode cX7_person 56 = .ok (.ireturn, 1) := by decide +kernel
def kX7_person (live : am_E) (Ret : am_R) : am_code := [(0, am_iload 1 1), (1, am_callS live 1 TX7_isYear 4), (4, am_if1 (fun x => x = 0) 7 10), (7, am_const (.int (-2)) 9), (9, am_retI Ret), (10, am_aload 0 11), (11, am_getR live 7 0 14), (14, am_getR live 0 0 17), (17, am_astore 2 3 18), (18, am_aload 2 19), (19, am_getI live 2 7 22), (22, am_const (.int 12) 24), (24, am_if2 (fun x y => x < y) 30 27), (27, am_const (.int (-4)) 29), (29, am_retI Ret), (30, am_aload 2 31), (31, am_getR live 2 0 34), (34, am_aload 2 35), (35, am_getI live 2 7 38), (38, am_iload 1 39), (39, am_ast live 0 40), (40, am_aload 2 41), (41, am_dup 42), (42, am_getI live 2 7 45), (45, am_const (.int 1) 46), (46, am_i2 (fun x y => x + y) 47), (47, am_putI live 2 7 50), (50, am_aload 2 51), (51, am_getI live 2 7 54), (54, am_const (.int 1) 55), (55, am_i2 (fun x y => x - y) 56), (56, am_retI Ret)]
theorem koX7_person (live : am_E) (Ret : am_R) : ∀ q ∈ kX7_person live Ret, am_ok RX7 cX7_person 3 (some .int) 1 20 live Ret q.1 q.2 :=
  am_kc (ak_iload_n dX7_person_0 rfl rfl) <|
  am_kc (ak_callS metX7_isYear ⟨rfl, by decide +kernel, by decide +kernel, by decide +kernel⟩ (am_w4 wd_407 wd_408 wd_58 wd_409) (by decide) dX7_person_1 rfl) <|
  am_kc (ak_if_ne dX7_person_4 (by decide +kernel) rfl) <|
  am_kc (ak_bipush dX7_person_7 (by decide +kernel) rfl) <|
  am_kc (ak_retI dX7_person_9) <|
  am_kc (ak_aload_n dX7_person_10 rfl rfl) <|
  am_kc (ak_getR (C := RX7) (T := TX7) (N := 4) rfl inX7w (by decide) rfl rfl rfl wd_390 dX7_person_11 rfl) <|
  am_kc (ak_getR (C := RX0) (T := TX0) (N := 13) rfl inX0w (by decide) rfl rfl rfl wd_194 dX7_person_14 rfl) <|
  am_kc (ak_astore_n dX7_person_17 rfl rfl) <|
  am_kc (ak_aload_n dX7_person_18 rfl rfl) <|
  am_kc (ak_getI (C := RX2) (T := TX2) (N := 8) rfl inX2w (by decide) rfl rfl rfl wd_121 dX7_person_19 rfl) <|
  am_kc (ak_bipush dX7_person_22 (by decide +kernel) rfl) <|
  am_kc (ak_icmp_lt dX7_person_24 (by decide +kernel) rfl) <|
  am_kc (ak_bipush dX7_person_27 (by decide +kernel) rfl) <|
  am_kc (ak_retI dX7_person_29) <|
  am_kc (ak_aload_n dX7_person_30 rfl rfl) <|
  am_kc (ak_getR (C := RX2) (T := TX2) (N := 8) rfl inX2w (by decide) rfl rfl rfl wd_106 dX7_person_31 rfl) <|
  am_kc (ak_aload_n dX7_person_34 rfl rfl) <|
  am_kc (ak_getI (C := RX2) (T := TX2) (N := 8) rfl inX2w (by decide) rfl rfl rfl wd_121 dX7_person_35 rfl) <|
  am_kc (ak_iload_n dX7_person_38 rfl rfl) <|
  am_kc (ak_iast (t := 0) (fun _ => rfl) rfl dX7_person_39 rfl) <|
  am_kc (ak_aload_n dX7_person_40 rfl rfl) <|
  am_kc (ak_dup dX7_person_41 rfl) <|
  am_kc (ak_getI (C := RX2) (T := TX2) (N := 8) rfl inX2w (by decide) rfl rfl rfl wd_121 dX7_person_42 rfl) <|
  am_kc (ak_iconst dX7_person_45 (by decide +kernel) rfl) <|
  am_kc (ak_iadd dX7_person_46 rfl) <|
  am_kc (ak_putI (C := RX2) (T := TX2) (N := 8) rfl inX2w tyX2_ok nmX2 (by decide) rfl rfl rfl rfl (by decide +kernel) wd_121 dX7_person_47 rfl) <|
  am_kc (ak_aload_n dX7_person_50 rfl rfl) <|
  am_kc (ak_getI (C := RX2) (T := TX2) (N := 8) rfl inX2w (by decide) rfl rfl rfl wd_121 dX7_person_51 rfl) <|
  am_kc (ak_iconst dX7_person_54 (by decide +kernel) rfl) <|
  am_kc (ak_isub dX7_person_55 rfl) <|
  am_kc (ak_retI dX7_person_56) <| am_kn
def c_person (M : am_M) (b : Int32) : Int32 × am_M := if 0 ≤ b ∧ b < 40 then (if M.1 21 7 < 12 then (M.1 21 7 + 1 - 1, am_wI (am_wI M 22 (M.1 21 7).toNatClampNeg b) 21 7 (M.1 21 7 + 1)) else ((-4 : Int32), M)) else ((-2 : Int32), M)
def TX7_person : am_T := fun live as M R => match as with
  | [.ref n, .int b] => am_mn live ∧ n = 0 ∧ (g_hI M ∧ g_rI M) ∧ R (some (.int (c_person M b).1)) (c_person M b).2
  | _ => False
set_option maxRecDepth 100000 in
set_option maxHeartbeats 4000000 in
theorem metX7_person : am_Met yX7_person cX7_person 3 (some .int) (1) (20) TX7_person := by
  refine am_met (own := RX7) (by decide +kernel) rfl kX7_person koX7_person 150 (fun _ _ _ _ _ => none) (fun live as M Ret h => ?_) (fun _ _ _ _ _ _ _ _ hI => by cases hI)
  unfold TX7_person at h
  split at h
  · next n b =>
    refine ⟨Nat.le_of_ble_eq_true rfl, ?_⟩
    change am_wp _ _ _ _ [(0, Value.ref n), (1, Value.int b)] _ _
    obtain ⟨hmn, rfl, ⟨hH, hR⟩, h⟩ := h
    have hmn2 := hmn
    obtain ⟨i1, i2, rfl⟩ := hmn2
    by_cases z0 : 0 ≤ b ∧ b < 40
    rotate_left
    · skip
      have q0 : (if 0 ≤ b ∧ b < 40 then (1 : Int32) else 0) = 0 := if_neg z0
      have e : c_person M b = ((-2 : Int32), M) := by unfold c_person; rw [if_neg z0]
      rw [e] at h
      repeat' (first | (with_reducible exact hmn) | (with_reducible exact h) | apply And.intro | exact rfl | (intro hx; with_reducible exact absurd q0 hx) | (intro hx; exact absurd hx (by decide)) | (intro hx; exact absurd (by decide) hx) | decide | intro hx | (refine Exists.intro _ (And.intro rfl ?_)))
      all_goals try first | (with_reducible change am_tI _ _) | (change Ret _ _) | (change Ret _ _ _) | (change Exists _)
      all_goals try dsimp only at *
      all_goals try exact absurd ‹(1000 : Int64) = 0› (by decide)
      all_goals first | exact h | omega | (rw [l22]; omega) | skip
    · skip
      have q0 : ¬ ((if 0 ≤ b ∧ b < 40 then (1 : Int32) else 0) = 0) := by rw [if_pos z0]; decide
      by_cases z1 : M.1 21 7 < 12
      rotate_left
      · skip
        have y1 : (12 : Int32) ≤ M.1 21 7 := Int32.not_lt.mp z1
        have e : c_person M b = ((-4 : Int32), M) := by unfold c_person; rw [if_pos z0, if_neg z1]
        rw [e] at h
        repeat' (first | (with_reducible exact hmn) | (with_reducible exact h) | apply And.intro | exact rfl | (intro hx; with_reducible exact absurd hx q0) | (intro hx; with_reducible exact absurd hx z1) | (intro hx; with_reducible exact absurd y1 hx) | (intro hx; exact absurd hx (by decide)) | (intro hx; exact absurd (by decide) hx) | decide | intro hx | (refine Exists.intro _ (And.intro rfl ?_)))
        all_goals try first | (with_reducible change am_tI _ _) | (change Ret _ _) | (change Ret _ _ _) | (change Exists _)
        all_goals try dsimp only at *
        all_goals try exact absurd ‹(1000 : Int64) = 0› (by decide)
        all_goals first | exact h | omega | (rw [l22]; omega) | skip
      · skip
        have y1 : ¬ (12 : Int32) ≤ M.1 21 7 := Int32.not_le.mpr z1
        have l22 : am_len 22 = 12 := rfl
        have q := hH.pe
        have zb : (M.1 21 7).toInt < 12 := by have q := z1; simp only [i_lt, Int32.reduceToInt] at q; exact q
        have e : c_person M b = (M.1 21 7 + 1 - 1, am_wI (am_wI M 22 (M.1 21 7).toNatClampNeg b) 21 7 (M.1 21 7 + 1)) := by unfold c_person; rw [if_pos z0, if_pos z1]
        rw [e] at h
        repeat' (first | (with_reducible exact hmn) | apply And.intro | exact rfl | (intro hx; with_reducible exact absurd hx q0) | (intro hx; with_reducible exact absurd hx y1) | (intro hx; with_reducible exact absurd z1 hx) | (intro hx; exact absurd hx (by decide)) | (intro hx; exact absurd (by decide) hx) | decide | intro hx | (refine Exists.intro _ (And.intro rfl ?_)))
        all_goals try first | (with_reducible change am_tI _ _) | (change Ret _ _) | (change Ret _ _ _) | (change Exists _)
        all_goals try dsimp only at *
        all_goals try exact absurd ‹(1000 : Int64) = 0› (by decide)
        all_goals first | exact h | omega | (rw [l22]; omega) | skip
  · exact h.elim
set_option maxRecDepth 100000 in
theorem wd_414 : Cond.methodLink "LearnLoans" 52 yX7_isPerson ∈ am_ws := am_wsi (List.mem_of_getElem? (i := 414) (by rfl)) (by decide +kernel)
set_option maxRecDepth 100000 in
theorem wd_416 : Cond.instanceMethod yX7_isPerson ∈ am_ws := am_wsi (List.mem_of_getElem? (i := 416) (by rfl)) (by decide +kernel)
set_option maxRecDepth 100000 in
theorem wd_0 : Cond.selects "LearnLoans" yX7_isPerson yX7_isPerson ∈ am_ws := am_wsi (List.mem_of_getElem? (i := 0) (by rfl)) (by decide +kernel)
set_option maxRecDepth 100000 in
theorem wd_417 : Cond.code yX7_isPerson cX7_isPerson 2 (some .boolean) ∈ am_ws := am_wsi (List.mem_of_getElem? (i := 417) (by rfl)) (by decide +kernel)
set_option maxRecDepth 100000 in
theorem wd_418 : Cond.methodLink "LearnLoans" 55 yX7_within ∈ am_ws := am_wsi (List.mem_of_getElem? (i := 418) (by rfl)) (by decide +kernel)
set_option maxRecDepth 100000 in
theorem wd_419 : Cond.static yX7_within ∈ am_ws := am_wsi (List.mem_of_getElem? (i := 419) (by rfl)) (by decide +kernel)
set_option maxRecDepth 100000 in
theorem wd_420 : Cond.code yX7_within cX7_within 3 (some .boolean) ∈ am_ws := am_wsi (List.mem_of_getElem? (i := 420) (by rfl)) (by decide +kernel)
set_option maxRecDepth 100000 in
theorem wd_421 : Cond.methodLink "LearnLoans" 59 yX7_isSpan ∈ am_ws := am_wsi (List.mem_of_getElem? (i := 421) (by rfl)) (by decide +kernel)
set_option maxRecDepth 100000 in
theorem wd_422 : Cond.static yX7_isSpan ∈ am_ws := am_wsi (List.mem_of_getElem? (i := 422) (by rfl)) (by decide +kernel)
set_option maxRecDepth 100000 in
theorem wd_423 : Cond.code yX7_isSpan cX7_isSpan 2 (some .boolean) ∈ am_ws := am_wsi (List.mem_of_getElem? (i := 423) (by rfl)) (by decide +kernel)
set_option maxRecDepth 100000 in
theorem wd_111 : Cond.fieldLink "LearnLoans" 63 "LearnLoans$People" "lands" "[I" ∈ am_ws := am_wsi (List.mem_of_getElem? (i := 111) (by rfl)) (by decide +kernel)
set_option maxRecDepth 100000 in
theorem wd_424 : Cond.methodLink "LearnLoans" 66 yX7_lay ∈ am_ws := am_wsi (List.mem_of_getElem? (i := 424) (by rfl)) (by decide +kernel)
set_option maxRecDepth 100000 in
theorem wd_425 : Cond.static yX7_lay ∈ am_ws := am_wsi (List.mem_of_getElem? (i := 425) (by rfl)) (by decide +kernel)
set_option maxRecDepth 100000 in
theorem wd_426 : Cond.code yX7_lay cX7_lay 5 none ∈ am_ws := am_wsi (List.mem_of_getElem? (i := 426) (by rfl)) (by decide +kernel)
theorem dX7_land_0 : decode cX7_land 0 = .ok (.aload_n 0, 1) := by decide +kernel
theorem dX7_land_1 : decode cX7_land 1 = .ok (.iload_n 1, 1) := by decide +kernel
theorem dX7_land_2 : decode cX7_land 2 = .ok (.invokevirtual 52, 3) := by decide +kernel
theorem dX7_land_5 : decode cX7_land 5 = .ok (.ifCond .eq 21, 3) := by decide +kernel
theorem dX7_land_8 : decode cX7_land 8 = .ok (.iload_n 2, 1) := by decide +kernel
theorem dX7_land_9 : decode cX7_land 9 = .ok (.iconst 0, 1) := by decide +kernel
theorem dX7_land_10 : decode cX7_land 10 = .ok (.iconst 3, 1) := by decide +kernel
theorem dX7_land_11 : decode cX7_land 11 = .ok (.invokestatic 55, 3) := by decide +kernel
theorem dX7_land_14 : decode cX7_land 14 = .ok (.ifCond .eq 12, 3) := by decide +kernel
theorem dX7_land_17 : decode cX7_land 17 = .ok (.iload_n 3, 1) := by decide +kernel
theorem dX7_land_18 : decode cX7_land 18 = .ok (.iload 4, 2) := by decide +kernel
theorem dX7_land_20 : decode cX7_land 20 = .ok (.invokestatic 59, 3) := by decide +kernel
theorem dX7_land_23 : decode cX7_land 23 = .ok (.ifCond .ne 6, 3) := by decide +kernel
theorem dX7_land_26 : decode cX7_land 26 = .ok (.bipush (-2), 2) := by decide +kernel
theorem dX7_land_28 : decode cX7_land 28 = .ok (.ireturn, 1) := by decide +kernel
theorem dX7_land_29 : decode cX7_land 29 = .ok (.aload_n 0, 1) := by decide +kernel
theorem dX7_land_30 : decode cX7_land 30 = .ok (.getfield 27, 3) := by decide +kernel
theorem dX7_land_33 : decode cX7_land 33 = .ok (.getfield 38, 3) := by decide +kernel
theorem dX7_land_36 : decode cX7_land 36 = .ok (.getfield 63, 3) := by decide +kernel
theorem dX7_land_39 : decode cX7_land 39 = .ok (.iload_n 1, 1) := by decide +kernel
theorem dX7_land_40 : decode cX7_land 40 = .ok (.bipush 40, 2) := by decide +kernel
theorem dX7_land_42 : decode cX7_land 42 = .ok (.imul, 1) := by decide +kernel
theorem dX7_land_43 : decode cX7_land 43 = .ok (.iload_n 3, 1) := by decide +kernel
theorem dX7_land_44 : decode cX7_land 44 = .ok (.iadd, 1) := by decide +kernel
theorem dX7_land_45 : decode cX7_land 45 = .ok (.iload_n 1, 1) := by decide +kernel
theorem dX7_land_46 : decode cX7_land 46 = .ok (.bipush 40, 2) := by decide +kernel
theorem dX7_land_48 : decode cX7_land 48 = .ok (.imul, 1) := by decide +kernel
theorem dX7_land_49 : decode cX7_land 49 = .ok (.iload 4, 2) := by decide +kernel
theorem dX7_land_51 : decode cX7_land 51 = .ok (.iadd, 1) := by decide +kernel
theorem dX7_land_52 : decode cX7_land 52 = .ok (.iload_n 2, 1) := by decide +kernel
theorem dX7_land_53 : decode cX7_land 53 = .ok (.invokestatic 66, 3) := by decide +kernel
theorem dX7_land_56 : decode cX7_land 56 = .ok (.iconst 1, 1) := by decide +kernel
theorem dX7_land_57 : decode cX7_land 57 = .ok (.ireturn, 1) := by decide +kernel
def kX7_land (live : am_E) (Ret : am_R) : am_code := [(0, am_aload 0 1), (1, am_iload 1 2), (2, am_callV live 7 1 TX7_isPerson 5), (5, am_if1 (fun x => x = 0) 26 8), (8, am_iload 2 9), (9, am_const (.int 0) 10), (10, am_const (.int 3) 11), (11, am_callS live 3 TX7_within 14), (14, am_if1 (fun x => x = 0) 26 17), (17, am_iload 3 18), (18, am_iload 4 20), (20, am_callS live 2 TX7_isSpan 23), (23, am_if1 (fun x => x = 0) 26 29), (26, am_const (.int (-2)) 28), (28, am_retI Ret), (29, am_aload 0 30), (30, am_getR live 7 0 33), (33, am_getR live 0 0 36), (36, am_getR live 2 2 39), (39, am_iload 1 40), (40, am_const (.int 40) 42), (42, am_i2 (fun x y => x * y) 43), (43, am_iload 3 44), (44, am_i2 (fun x y => x + y) 45), (45, am_iload 1 46), (46, am_const (.int 40) 48), (48, am_i2 (fun x y => x * y) 49), (49, am_iload 4 51), (51, am_i2 (fun x y => x + y) 52), (52, am_iload 2 53), (53, am_callS live 4 TX7_lay 56), (56, am_const (.int 1) 57), (57, am_retI Ret)]
theorem koX7_land (live : am_E) (Ret : am_R) : ∀ q ∈ kX7_land live Ret, am_ok RX7 cX7_land 5 (some .int) 2 47 live Ret q.1 q.2 :=
  am_kc (ak_aload_n dX7_land_0 rfl rfl) <|
  am_kc (ak_iload_n dX7_land_1 rfl rfl) <|
  am_kc (ak_callV (C := RX7) (F := TX7) (N := 4) metX7_isPerson rfl ⟨rfl, by decide +kernel, by decide +kernel, by decide +kernel⟩ (am_w5 wd_414 wd_416 wd_0 wd_58 wd_417) (by decide) dX7_land_2 rfl) <|
  am_kc (ak_if_eq dX7_land_5 (by decide +kernel) rfl) <|
  am_kc (ak_iload_n dX7_land_8 rfl rfl) <|
  am_kc (ak_iconst dX7_land_9 (by decide +kernel) rfl) <|
  am_kc (ak_iconst dX7_land_10 (by decide +kernel) rfl) <|
  am_kc (ak_callS metX7_within ⟨rfl, by decide +kernel, by decide +kernel, by decide +kernel⟩ (am_w4 wd_418 wd_419 wd_58 wd_420) (by decide) dX7_land_11 rfl) <|
  am_kc (ak_if_eq dX7_land_14 (by decide +kernel) rfl) <|
  am_kc (ak_iload_n dX7_land_17 rfl rfl) <|
  am_kc (ak_iload dX7_land_18 rfl) <|
  am_kc (ak_callS metX7_isSpan ⟨rfl, by decide +kernel, by decide +kernel, by decide +kernel⟩ (am_w4 wd_421 wd_422 wd_58 wd_423) (by decide) dX7_land_20 rfl) <|
  am_kc (ak_if_ne dX7_land_23 (by decide +kernel) rfl) <|
  am_kc (ak_bipush dX7_land_26 (by decide +kernel) rfl) <|
  am_kc (ak_retI dX7_land_28) <|
  am_kc (ak_aload_n dX7_land_29 rfl rfl) <|
  am_kc (ak_getR (C := RX7) (T := TX7) (N := 4) rfl inX7w (by decide) rfl rfl rfl wd_390 dX7_land_30 rfl) <|
  am_kc (ak_getR (C := RX0) (T := TX0) (N := 13) rfl inX0w (by decide) rfl rfl rfl wd_194 dX7_land_33 rfl) <|
  am_kc (ak_getR (C := RX2) (T := TX2) (N := 8) rfl inX2w (by decide) rfl rfl rfl wd_111 dX7_land_36 rfl) <|
  am_kc (ak_iload_n dX7_land_39 rfl rfl) <|
  am_kc (ak_bipush dX7_land_40 (by decide +kernel) rfl) <|
  am_kc (ak_imul dX7_land_42 rfl) <|
  am_kc (ak_iload_n dX7_land_43 rfl rfl) <|
  am_kc (ak_iadd dX7_land_44 rfl) <|
  am_kc (ak_iload_n dX7_land_45 rfl rfl) <|
  am_kc (ak_bipush dX7_land_46 (by decide +kernel) rfl) <|
  am_kc (ak_imul dX7_land_48 rfl) <|
  am_kc (ak_iload dX7_land_49 rfl) <|
  am_kc (ak_iadd dX7_land_51 rfl) <|
  am_kc (ak_iload_n dX7_land_52 rfl rfl) <|
  am_kc (ak_callS metX7_lay ⟨rfl, by decide +kernel, by decide +kernel, by decide +kernel⟩ (am_w4 wd_424 wd_425 wd_58 wd_426) (by decide) dX7_land_53 rfl) <|
  am_kc (ak_iconst dX7_land_56 (by decide +kernel) rfl) <|
  am_kc (ak_retI dX7_land_57) <| am_kn
def c_land (M : am_M) (p l f t : Int32) : Int32 × am_M := if 0 ≤ p ∧ p < M.1 21 7 then (if 0 ≤ l ∧ l ≤ 3 then (if 0 ≤ f ∧ f ≤ t ∧ t < 40 then (1, am_lay M 24 (max (p * 40 + f).toInt 0) (min (p * 40 + t).toInt ((am_len 24 : Int) - 1)) l) else ((-2 : Int32), M)) else ((-2 : Int32), M)) else ((-2 : Int32), M)
def TX7_land : am_T := fun live as M R => match as with
  | [.ref n, .int p, .int l, .int f, .int t] => am_mn live ∧ n = 0 ∧ (g_hI M ∧ g_rI M) ∧ R (some (.int (c_land M p l f t).1)) (c_land M p l f t).2
  | _ => False
set_option maxRecDepth 100000 in
set_option maxHeartbeats 4000000 in
theorem metX7_land : am_Met yX7_land cX7_land 5 (some .int) (2) (47) TX7_land := by
  refine am_met (own := RX7) (by decide +kernel) rfl kX7_land koX7_land 150 (fun _ _ _ _ _ => none) (fun live as M Ret h => ?_) (fun _ _ _ _ _ _ _ _ hI => by cases hI)
  unfold TX7_land at h
  split at h
  · next n p l f t =>
    refine ⟨Nat.le_of_ble_eq_true rfl, ?_⟩
    change am_wp _ _ _ _ [(0, Value.ref n), (1, Value.int p), (2, Value.int l), (3, Value.int f), (4, Value.int t)] _ _
    obtain ⟨hmn, rfl, ⟨hH, hR⟩, h⟩ := h
    have hmn2 := hmn
    obtain ⟨i1, i2, rfl⟩ := hmn2
    by_cases z0 : 0 ≤ p ∧ p < M.1 21 7
    rotate_left
    · skip
      have q0 : (if 0 ≤ p ∧ p < M.1 21 7 then (1 : Int32) else 0) = 0 := if_neg z0
      have e : c_land M p l f t = ((-2 : Int32), M) := by unfold c_land; rw [if_neg z0]
      rw [e] at h
      repeat' (first | (with_reducible exact hmn) | (with_reducible exact h) | apply And.intro | exact rfl | (intro hx; with_reducible exact absurd q0 hx) | (intro hx; exact absurd hx (by decide)) | (intro hx; exact absurd (by decide) hx) | decide | intro hx | (refine Exists.intro _ (And.intro rfl ?_)))
      all_goals try first | (with_reducible change am_tI _ _) | (change Ret _ _) | (change Ret _ _ _) | (change Exists _)
      all_goals try dsimp only at *
      all_goals try exact absurd ‹(1000 : Int64) = 0› (by decide)
      all_goals first | exact h | skip
    · skip
      have q0 : ¬ ((if 0 ≤ p ∧ p < M.1 21 7 then (1 : Int32) else 0) = 0) := by rw [if_pos z0]; decide
      by_cases z1 : 0 ≤ l ∧ l ≤ 3
      rotate_left
      · skip
        have q1 : (if 0 ≤ l ∧ l ≤ 3 then (1 : Int32) else 0) = 0 := if_neg z1
        have e : c_land M p l f t = ((-2 : Int32), M) := by unfold c_land; rw [if_pos z0, if_neg z1]
        rw [e] at h
        repeat' (first | (with_reducible exact hmn) | (with_reducible exact h) | apply And.intro | exact rfl | (intro hx; with_reducible exact absurd hx q0) | (intro hx; with_reducible exact absurd q1 hx) | (intro hx; exact absurd hx (by decide)) | (intro hx; exact absurd (by decide) hx) | decide | intro hx | (refine Exists.intro _ (And.intro rfl ?_)))
        all_goals try first | (with_reducible change am_tI _ _) | (change Ret _ _) | (change Ret _ _ _) | (change Exists _)
        all_goals try dsimp only at *
        all_goals try exact absurd ‹(1000 : Int64) = 0› (by decide)
        all_goals first | exact h | skip
      · skip
        have q1 : ¬ ((if 0 ≤ l ∧ l ≤ 3 then (1 : Int32) else 0) = 0) := by rw [if_pos z1]; decide
        by_cases z2 : 0 ≤ f ∧ f ≤ t ∧ t < 40
        rotate_left
        · skip
          have q2 : (if 0 ≤ f ∧ f ≤ t ∧ t < 40 then (1 : Int32) else 0) = 0 := if_neg z2
          have e : c_land M p l f t = ((-2 : Int32), M) := by unfold c_land; rw [if_pos z0, if_pos z1, if_neg z2]
          rw [e] at h
          repeat' (first | (with_reducible exact hmn) | (with_reducible exact h) | apply And.intro | exact rfl | (intro hx; with_reducible exact absurd hx q0) | (intro hx; with_reducible exact absurd hx q1) | (intro hx; with_reducible exact absurd q2 hx) | (intro hx; exact absurd hx (by decide)) | (intro hx; exact absurd (by decide) hx) | decide | intro hx | (refine Exists.intro _ (And.intro rfl ?_)))
          all_goals try first | (with_reducible change am_tI _ _) | (change Ret _ _) | (change Ret _ _ _) | (change Exists _)
          all_goals try dsimp only at *
          all_goals try exact absurd ‹(1000 : Int64) = 0› (by decide)
          all_goals first | exact h | skip
        · skip
          have q2 : ¬ ((if 0 ≤ f ∧ f ≤ t ∧ t < 40 then (1 : Int32) else 0) = 0) := by rw [if_pos z2]; decide
          have e : c_land M p l f t = (1, am_lay M 24 (max (p * 40 + f).toInt 0) (min (p * 40 + t).toInt ((am_len 24 : Int) - 1)) l) := by unfold c_land; rw [if_pos z0, if_pos z1, if_pos z2]
          rw [e] at h
          repeat' (first | (with_reducible exact hmn) | apply And.intro | exact rfl | (intro hx; with_reducible exact absurd hx q0) | (intro hx; with_reducible exact absurd hx q1) | (intro hx; with_reducible exact absurd hx q2) | (intro hx; exact absurd hx (by decide)) | (intro hx; exact absurd (by decide) hx) | decide | intro hx | (refine Exists.intro _ (And.intro rfl ?_)))
          all_goals try first | (with_reducible change am_tI _ _) | (change Ret _ _) | (change Ret _ _ _) | (change Exists _)
          all_goals try dsimp only at *
          all_goals try exact absurd ‹(1000 : Int64) = 0› (by decide)
          all_goals first | exact h | skip
  · exact h.elim
set_option maxRecDepth 100000 in
theorem wd_197 : Cond.fieldLink "LearnLoans" 70 "LearnLoans$House" "scales" "[I" ∈ am_ws := am_wsi (List.mem_of_getElem? (i := 197) (by rfl)) (by decide +kernel)
theorem dX7_scale_0 : decode cX7_scale 0 = .ok (.iload_n 1, 1) := by decide +kernel
theorem dX7_scale_1 : decode cX7_scale 1 = .ok (.iconst 0, 1) := by decide +kernel
theorem dX7_scale_2 : decode cX7_scale 2 = .ok (.iconst 3, 1) := by decide +kernel
theorem dX7_scale_3 : decode cX7_scale 3 = .ok (.invokestatic 55, 3) := by decide +kernel
theorem dX7_scale_6 : decode cX7_scale 6 = .ok (.ifCond .eq 14, 3) := by decide +kernel
theorem dX7_scale_9 : decode cX7_scale 9 = .ok (.iload_n 2, 1) := by decide +kernel
theorem dX7_scale_10 : decode cX7_scale 10 = .ok (.iconst 1, 1) := by decide +kernel
theorem dX7_scale_11 : decode cX7_scale 11 = .ok (.sipush 5000, 3) := by decide +kernel
theorem dX7_scale_14 : decode cX7_scale 14 = .ok (.invokestatic 55, 3) := by decide +kernel
theorem dX7_scale_17 : decode cX7_scale 17 = .ok (.ifCond .ne 6, 3) := by decide +kernel
theorem dX7_scale_20 : decode cX7_scale 20 = .ok (.bipush (-2), 2) := by decide +kernel
theorem dX7_scale_22 : decode cX7_scale 22 = .ok (.ireturn, 1) := by decide +kernel
theorem dX7_scale_23 : decode cX7_scale 23 = .ok (.aload_n 0, 1) := by decide +kernel
theorem dX7_scale_24 : decode cX7_scale 24 = .ok (.getfield 27, 3) := by decide +kernel
theorem dX7_scale_27 : decode cX7_scale 27 = .ok (.getfield 70, 3) := by decide +kernel
theorem dX7_scale_30 : decode cX7_scale 30 = .ok (.iload_n 1, 1) := by decide +kernel
theorem dX7_scale_31 : decode cX7_scale 31 = .ok (.iaload, 1) := by decide +kernel
theorem dX7_scale_32 : decode cX7_scale 32 = .ok (.istore_n 3, 1) := by decide +kernel
theorem dX7_scale_33 : decode cX7_scale 33 = .ok (.aload_n 0, 1) := by decide +kernel
theorem dX7_scale_34 : decode cX7_scale 34 = .ok (.getfield 27, 3) := by decide +kernel
theorem dX7_scale_37 : decode cX7_scale 37 = .ok (.getfield 70, 3) := by decide +kernel
theorem dX7_scale_40 : decode cX7_scale 40 = .ok (.iload_n 1, 1) := by decide +kernel
theorem dX7_scale_41 : decode cX7_scale 41 = .ok (.iload_n 2, 1) := by decide +kernel
theorem dX7_scale_42 : decode cX7_scale 42 = .ok (.iastore, 1) := by decide +kernel
theorem dX7_scale_43 : decode cX7_scale 43 = .ok (.iload_n 3, 1) := by decide +kernel
theorem dX7_scale_44 : decode cX7_scale 44 = .ok (.ireturn, 1) := by decide +kernel
def kX7_scale (live : am_E) (Ret : am_R) : am_code := [(0, am_iload 1 1), (1, am_const (.int 0) 2), (2, am_const (.int 3) 3), (3, am_callS live 3 TX7_within 6), (6, am_if1 (fun x => x = 0) 20 9), (9, am_iload 2 10), (10, am_const (.int 1) 11), (11, am_const (.int 5000) 14), (14, am_callS live 3 TX7_within 17), (17, am_if1 (fun x => x = 0) 20 23), (20, am_const (.int (-2)) 22), (22, am_retI Ret), (23, am_aload 0 24), (24, am_getR live 7 0 27), (27, am_getR live 0 1 30), (30, am_iload 1 31), (31, am_ald live 0 32), (32, am_istore 3 4 33), (33, am_aload 0 34), (34, am_getR live 7 0 37), (37, am_getR live 0 1 40), (40, am_iload 1 41), (41, am_iload 2 42), (42, am_ast live 0 43), (43, am_iload 3 44), (44, am_retI Ret)]
theorem koX7_scale (live : am_E) (Ret : am_R) : ∀ q ∈ kX7_scale live Ret, am_ok RX7 cX7_scale 4 (some .int) 1 22 live Ret q.1 q.2 :=
  am_kc (ak_iload_n dX7_scale_0 rfl rfl) <|
  am_kc (ak_iconst dX7_scale_1 (by decide +kernel) rfl) <|
  am_kc (ak_iconst dX7_scale_2 (by decide +kernel) rfl) <|
  am_kc (ak_callS metX7_within ⟨rfl, by decide +kernel, by decide +kernel, by decide +kernel⟩ (am_w4 wd_418 wd_419 wd_58 wd_420) (by decide) dX7_scale_3 rfl) <|
  am_kc (ak_if_eq dX7_scale_6 (by decide +kernel) rfl) <|
  am_kc (ak_iload_n dX7_scale_9 rfl rfl) <|
  am_kc (ak_iconst dX7_scale_10 (by decide +kernel) rfl) <|
  am_kc (ak_sipush dX7_scale_11 (by decide +kernel) rfl) <|
  am_kc (ak_callS metX7_within ⟨rfl, by decide +kernel, by decide +kernel, by decide +kernel⟩ (am_w4 wd_418 wd_419 wd_58 wd_420) (by decide) dX7_scale_14 rfl) <|
  am_kc (ak_if_ne dX7_scale_17 (by decide +kernel) rfl) <|
  am_kc (ak_bipush dX7_scale_20 (by decide +kernel) rfl) <|
  am_kc (ak_retI dX7_scale_22) <|
  am_kc (ak_aload_n dX7_scale_23 rfl rfl) <|
  am_kc (ak_getR (C := RX7) (T := TX7) (N := 4) rfl inX7w (by decide) rfl rfl rfl wd_390 dX7_scale_24 rfl) <|
  am_kc (ak_getR (C := RX0) (T := TX0) (N := 13) rfl inX0w (by decide) rfl rfl rfl wd_197 dX7_scale_27 rfl) <|
  am_kc (ak_iload_n dX7_scale_30 rfl rfl) <|
  am_kc (ak_iald (t := 0) (fun _ => rfl) rfl dX7_scale_31 rfl) <|
  am_kc (ak_istore_n dX7_scale_32 rfl rfl) <|
  am_kc (ak_aload_n dX7_scale_33 rfl rfl) <|
  am_kc (ak_getR (C := RX7) (T := TX7) (N := 4) rfl inX7w (by decide) rfl rfl rfl wd_390 dX7_scale_34 rfl) <|
  am_kc (ak_getR (C := RX0) (T := TX0) (N := 13) rfl inX0w (by decide) rfl rfl rfl wd_197 dX7_scale_37 rfl) <|
  am_kc (ak_iload_n dX7_scale_40 rfl rfl) <|
  am_kc (ak_iload_n dX7_scale_41 rfl rfl) <|
  am_kc (ak_iast (t := 0) (fun _ => rfl) rfl dX7_scale_42 rfl) <|
  am_kc (ak_iload_n dX7_scale_43 rfl rfl) <|
  am_kc (ak_retI dX7_scale_44) <| am_kn
def c_scale (M : am_M) (l v : Int32) : Int32 × am_M := if 0 ≤ l ∧ l ≤ 3 then (if 1 ≤ v ∧ v ≤ 5000 then (M.1 29 l.toNatClampNeg, am_wI M 29 l.toNatClampNeg v) else ((-2 : Int32), M)) else ((-2 : Int32), M)
def TX7_scale : am_T := fun live as M R => match as with
  | [.ref n, .int l, .int v] => am_mn live ∧ n = 0 ∧ (g_hI M ∧ g_rI M) ∧ R (some (.int (c_scale M l v).1)) (c_scale M l v).2
  | _ => False
set_option maxRecDepth 100000 in
set_option maxHeartbeats 4000000 in
theorem metX7_scale : am_Met yX7_scale cX7_scale 4 (some .int) (1) (22) TX7_scale := by
  refine am_met (own := RX7) (by decide +kernel) rfl kX7_scale koX7_scale 150 (fun _ _ _ _ _ => none) (fun live as M Ret h => ?_) (fun _ _ _ _ _ _ _ _ hI => by cases hI)
  unfold TX7_scale at h
  split at h
  · next n l v =>
    refine ⟨Nat.le_of_ble_eq_true rfl, ?_⟩
    change am_wp _ _ _ _ [(0, Value.ref n), (1, Value.int l), (2, Value.int v)] _ _
    obtain ⟨hmn, rfl, ⟨hH, hR⟩, h⟩ := h
    have hmn2 := hmn
    obtain ⟨i1, i2, rfl⟩ := hmn2
    by_cases z0 : 0 ≤ l ∧ l ≤ 3
    rotate_left
    · skip
      have q0 : (if 0 ≤ l ∧ l ≤ 3 then (1 : Int32) else 0) = 0 := if_neg z0
      have e : c_scale M l v = ((-2 : Int32), M) := by unfold c_scale; rw [if_neg z0]
      rw [e] at h
      repeat' (first | (with_reducible exact hmn) | (with_reducible exact h) | apply And.intro | exact rfl | (intro hx; with_reducible exact absurd q0 hx) | (intro hx; exact absurd hx (by decide)) | (intro hx; exact absurd (by decide) hx) | decide | intro hx | (refine Exists.intro _ (And.intro rfl ?_)))
      all_goals try first | (with_reducible change am_tI _ _) | (change Ret _ _) | (change Ret _ _ _) | (change Exists _)
      all_goals try dsimp only at *
      all_goals try exact absurd ‹(1000 : Int64) = 0› (by decide)
      all_goals first | exact h | exact hl.1 | (rw [l29]; exact hl.2) | skip
    · skip
      have q0 : ¬ ((if 0 ≤ l ∧ l ≤ 3 then (1 : Int32) else 0) = 0) := by rw [if_pos z0]; decide
      by_cases z1 : 1 ≤ v ∧ v ≤ 5000
      rotate_left
      · skip
        have q1 : (if 1 ≤ v ∧ v ≤ 5000 then (1 : Int32) else 0) = 0 := if_neg z1
        have e : c_scale M l v = ((-2 : Int32), M) := by unfold c_scale; rw [if_pos z0, if_neg z1]
        rw [e] at h
        repeat' (first | (with_reducible exact hmn) | (with_reducible exact h) | apply And.intro | exact rfl | (intro hx; with_reducible exact absurd hx q0) | (intro hx; with_reducible exact absurd q1 hx) | (intro hx; exact absurd hx (by decide)) | (intro hx; exact absurd (by decide) hx) | decide | intro hx | (refine Exists.intro _ (And.intro rfl ?_)))
        all_goals try first | (with_reducible change am_tI _ _) | (change Ret _ _) | (change Ret _ _ _) | (change Exists _)
        all_goals try dsimp only at *
        all_goals try exact absurd ‹(1000 : Int64) = 0› (by decide)
        all_goals first | exact h | exact hl.1 | (rw [l29]; exact hl.2) | skip
      · skip
        have q1 : ¬ ((if 1 ≤ v ∧ v ≤ 5000 then (1 : Int32) else 0) = 0) := by rw [if_pos z1]; decide
        have l29 : am_len 29 = 4 := rfl
        have hl : am_in l 4 := ⟨by have q := z0.1; simp only [i_le, Int32.reduceToInt] at q; omega, by have q := z0.2; simp only [i_le, Int32.reduceToInt] at q; omega⟩
        have e : c_scale M l v = (M.1 29 l.toNatClampNeg, am_wI M 29 l.toNatClampNeg v) := by unfold c_scale; rw [if_pos z0, if_pos z1]
        rw [e] at h
        repeat' (first | (with_reducible exact hmn) | apply And.intro | exact rfl | (intro hx; with_reducible exact absurd hx q0) | (intro hx; with_reducible exact absurd hx q1) | (intro hx; exact absurd hx (by decide)) | (intro hx; exact absurd (by decide) hx) | decide | intro hx | (refine Exists.intro _ (And.intro rfl ?_)))
        all_goals try first | (with_reducible change am_tI _ _) | (change Ret _ _) | (change Ret _ _ _) | (change Exists _)
        all_goals try dsimp only at *
        all_goals try exact absurd ‹(1000 : Int64) = 0› (by decide)
        all_goals first | exact h | exact hl.1 | (rw [l29]; exact hl.2) | skip
  · exact h.elim
set_option maxRecDepth 100000 in
theorem wd_200 : Cond.fieldLink "LearnLoans" 73 "LearnLoans$House" "prices" "[I" ∈ am_ws := am_wsi (List.mem_of_getElem? (i := 200) (by rfl)) (by decide +kernel)
theorem dX7_prices_0 : decode cX7_prices 0 = .ok (.iload_n 1, 1) := by decide +kernel
theorem dX7_prices_1 : decode cX7_prices 1 = .ok (.invokestatic 34, 3) := by decide +kernel
theorem dX7_prices_4 : decode cX7_prices 4 = .ok (.ifCond .eq 15, 3) := by decide +kernel
theorem dX7_prices_7 : decode cX7_prices 7 = .ok (.iload_n 2, 1) := by decide +kernel
theorem dX7_prices_8 : decode cX7_prices 8 = .ok (.bipush (-100), 2) := by decide +kernel
theorem dX7_prices_10 : decode cX7_prices 10 = .ok (.sipush 500, 3) := by decide +kernel
theorem dX7_prices_13 : decode cX7_prices 13 = .ok (.invokestatic 55, 3) := by decide +kernel
theorem dX7_prices_16 : decode cX7_prices 16 = .ok (.ifCond .ne 7, 3) := by decide +kernel
theorem dX7_prices_19 : decode cX7_prices 19 = .ok (.sipush (-1000), 3) := by decide +kernel
theorem dX7_prices_22 : decode cX7_prices 22 = .ok (.ireturn, 1) := by decide +kernel
theorem dX7_prices_23 : decode cX7_prices 23 = .ok (.aload_n 0, 1) := by decide +kernel
theorem dX7_prices_24 : decode cX7_prices 24 = .ok (.getfield 27, 3) := by decide +kernel
theorem dX7_prices_27 : decode cX7_prices 27 = .ok (.getfield 73, 3) := by decide +kernel
theorem dX7_prices_30 : decode cX7_prices 30 = .ok (.iload_n 1, 1) := by decide +kernel
theorem dX7_prices_31 : decode cX7_prices 31 = .ok (.iaload, 1) := by decide +kernel
theorem dX7_prices_32 : decode cX7_prices 32 = .ok (.istore_n 3, 1) := by decide +kernel
theorem dX7_prices_33 : decode cX7_prices 33 = .ok (.aload_n 0, 1) := by decide +kernel
theorem dX7_prices_34 : decode cX7_prices 34 = .ok (.getfield 27, 3) := by decide +kernel
theorem dX7_prices_37 : decode cX7_prices 37 = .ok (.getfield 73, 3) := by decide +kernel
theorem dX7_prices_40 : decode cX7_prices 40 = .ok (.iload_n 1, 1) := by decide +kernel
theorem dX7_prices_41 : decode cX7_prices 41 = .ok (.iload_n 2, 1) := by decide +kernel
theorem dX7_prices_42 : decode cX7_prices 42 = .ok (.iastore, 1) := by decide +kernel
theorem dX7_prices_43 : decode cX7_prices 43 = .ok (.iload_n 3, 1) := by decide +kernel
theorem dX7_prices_44 : decode cX7_prices 44 = .ok (.ireturn, 1) := by decide +kernel
def kX7_prices (live : am_E) (Ret : am_R) : am_code := [(0, am_iload 1 1), (1, am_callS live 1 TX7_isYear 4), (4, am_if1 (fun x => x = 0) 19 7), (7, am_iload 2 8), (8, am_const (.int (-100)) 10), (10, am_const (.int 500) 13), (13, am_callS live 3 TX7_within 16), (16, am_if1 (fun x => x = 0) 19 23), (19, am_const (.int (-1000)) 22), (22, am_retI Ret), (23, am_aload 0 24), (24, am_getR live 7 0 27), (27, am_getR live 0 2 30), (30, am_iload 1 31), (31, am_ald live 0 32), (32, am_istore 3 4 33), (33, am_aload 0 34), (34, am_getR live 7 0 37), (37, am_getR live 0 2 40), (40, am_iload 1 41), (41, am_iload 2 42), (42, am_ast live 0 43), (43, am_iload 3 44), (44, am_retI Ret)]
theorem koX7_prices (live : am_E) (Ret : am_R) : ∀ q ∈ kX7_prices live Ret, am_ok RX7 cX7_prices 4 (some .int) 1 22 live Ret q.1 q.2 :=
  am_kc (ak_iload_n dX7_prices_0 rfl rfl) <|
  am_kc (ak_callS metX7_isYear ⟨rfl, by decide +kernel, by decide +kernel, by decide +kernel⟩ (am_w4 wd_407 wd_408 wd_58 wd_409) (by decide) dX7_prices_1 rfl) <|
  am_kc (ak_if_eq dX7_prices_4 (by decide +kernel) rfl) <|
  am_kc (ak_iload_n dX7_prices_7 rfl rfl) <|
  am_kc (ak_bipush dX7_prices_8 (by decide +kernel) rfl) <|
  am_kc (ak_sipush dX7_prices_10 (by decide +kernel) rfl) <|
  am_kc (ak_callS metX7_within ⟨rfl, by decide +kernel, by decide +kernel, by decide +kernel⟩ (am_w4 wd_418 wd_419 wd_58 wd_420) (by decide) dX7_prices_13 rfl) <|
  am_kc (ak_if_ne dX7_prices_16 (by decide +kernel) rfl) <|
  am_kc (ak_sipush dX7_prices_19 (by decide +kernel) rfl) <|
  am_kc (ak_retI dX7_prices_22) <|
  am_kc (ak_aload_n dX7_prices_23 rfl rfl) <|
  am_kc (ak_getR (C := RX7) (T := TX7) (N := 4) rfl inX7w (by decide) rfl rfl rfl wd_390 dX7_prices_24 rfl) <|
  am_kc (ak_getR (C := RX0) (T := TX0) (N := 13) rfl inX0w (by decide) rfl rfl rfl wd_200 dX7_prices_27 rfl) <|
  am_kc (ak_iload_n dX7_prices_30 rfl rfl) <|
  am_kc (ak_iald (t := 0) (fun _ => rfl) rfl dX7_prices_31 rfl) <|
  am_kc (ak_istore_n dX7_prices_32 rfl rfl) <|
  am_kc (ak_aload_n dX7_prices_33 rfl rfl) <|
  am_kc (ak_getR (C := RX7) (T := TX7) (N := 4) rfl inX7w (by decide) rfl rfl rfl wd_390 dX7_prices_34 rfl) <|
  am_kc (ak_getR (C := RX0) (T := TX0) (N := 13) rfl inX0w (by decide) rfl rfl rfl wd_200 dX7_prices_37 rfl) <|
  am_kc (ak_iload_n dX7_prices_40 rfl rfl) <|
  am_kc (ak_iload_n dX7_prices_41 rfl rfl) <|
  am_kc (ak_iast (t := 0) (fun _ => rfl) rfl dX7_prices_42 rfl) <|
  am_kc (ak_iload_n dX7_prices_43 rfl rfl) <|
  am_kc (ak_retI dX7_prices_44) <| am_kn
def c_prices (M : am_M) (y v : Int32) : Int32 × am_M := if 0 ≤ y ∧ y < 40 then (if -100 ≤ v ∧ v ≤ 500 then (M.1 30 y.toNatClampNeg, am_wI M 30 y.toNatClampNeg v) else ((-1000 : Int32), M)) else ((-1000 : Int32), M)
def TX7_prices : am_T := fun live as M R => match as with
  | [.ref n, .int y, .int v] => am_mn live ∧ n = 0 ∧ (g_hI M ∧ g_rI M) ∧ R (some (.int (c_prices M y v).1)) (c_prices M y v).2
  | _ => False
set_option maxRecDepth 100000 in
set_option maxHeartbeats 4000000 in
theorem metX7_prices : am_Met yX7_prices cX7_prices 4 (some .int) (1) (22) TX7_prices := by
  refine am_met (own := RX7) (by decide +kernel) rfl kX7_prices koX7_prices 150 (fun _ _ _ _ _ => none) (fun live as M Ret h => ?_) (fun _ _ _ _ _ _ _ _ hI => by cases hI)
  unfold TX7_prices at h
  split at h
  · next n y v =>
    refine ⟨Nat.le_of_ble_eq_true rfl, ?_⟩
    change am_wp _ _ _ _ [(0, Value.ref n), (1, Value.int y), (2, Value.int v)] _ _
    obtain ⟨hmn, rfl, ⟨hH, hR⟩, h⟩ := h
    have hmn2 := hmn
    obtain ⟨i1, i2, rfl⟩ := hmn2
    by_cases z0 : 0 ≤ y ∧ y < 40
    rotate_left
    · skip
      have q0 : (if 0 ≤ y ∧ y < 40 then (1 : Int32) else 0) = 0 := if_neg z0
      have e : c_prices M y v = ((-1000 : Int32), M) := by unfold c_prices; rw [if_neg z0]
      rw [e] at h
      repeat' (first | (with_reducible exact hmn) | (with_reducible exact h) | apply And.intro | exact rfl | (intro hx; with_reducible exact absurd q0 hx) | (intro hx; exact absurd hx (by decide)) | (intro hx; exact absurd (by decide) hx) | decide | intro hx | (refine Exists.intro _ (And.intro rfl ?_)))
      all_goals try first | (with_reducible change am_tI _ _) | (change Ret _ _) | (change Ret _ _ _) | (change Exists _)
      all_goals try dsimp only at *
      all_goals try exact absurd ‹(1000 : Int64) = 0› (by decide)
      all_goals first | exact h | exact hy.1 | (rw [l30]; exact hy.2) | skip
    · skip
      have q0 : ¬ ((if 0 ≤ y ∧ y < 40 then (1 : Int32) else 0) = 0) := by rw [if_pos z0]; decide
      by_cases z1 : -100 ≤ v ∧ v ≤ 500
      rotate_left
      · skip
        have q1 : (if -100 ≤ v ∧ v ≤ 500 then (1 : Int32) else 0) = 0 := if_neg z1
        have e : c_prices M y v = ((-1000 : Int32), M) := by unfold c_prices; rw [if_pos z0, if_neg z1]
        rw [e] at h
        repeat' (first | (with_reducible exact hmn) | (with_reducible exact h) | apply And.intro | exact rfl | (intro hx; with_reducible exact absurd hx q0) | (intro hx; with_reducible exact absurd q1 hx) | (intro hx; exact absurd hx (by decide)) | (intro hx; exact absurd (by decide) hx) | decide | intro hx | (refine Exists.intro _ (And.intro rfl ?_)))
        all_goals try first | (with_reducible change am_tI _ _) | (change Ret _ _) | (change Ret _ _ _) | (change Exists _)
        all_goals try dsimp only at *
        all_goals try exact absurd ‹(1000 : Int64) = 0› (by decide)
        all_goals first | exact h | exact hy.1 | (rw [l30]; exact hy.2) | skip
      · skip
        have q1 : ¬ ((if -100 ≤ v ∧ v ≤ 500 then (1 : Int32) else 0) = 0) := by rw [if_pos z1]; decide
        have l30 : am_len 30 = 40 := rfl
        have hy : am_in y 40 := ⟨by have q := z0.1; simp only [i_le, Int32.reduceToInt] at q; omega, by have q := z0.2; simp only [i_lt, Int32.reduceToInt] at q; omega⟩
        have e : c_prices M y v = (M.1 30 y.toNatClampNeg, am_wI M 30 y.toNatClampNeg v) := by unfold c_prices; rw [if_pos z0, if_pos z1]
        rw [e] at h
        repeat' (first | (with_reducible exact hmn) | apply And.intro | exact rfl | (intro hx; with_reducible exact absurd hx q0) | (intro hx; with_reducible exact absurd hx q1) | (intro hx; exact absurd hx (by decide)) | (intro hx; exact absurd (by decide) hx) | decide | intro hx | (refine Exists.intro _ (And.intro rfl ?_)))
        all_goals try first | (with_reducible change am_tI _ _) | (change Ret _ _) | (change Ret _ _ _) | (change Exists _)
        all_goals try dsimp only at *
        all_goals try exact absurd ‹(1000 : Int64) = 0› (by decide)
        all_goals first | exact h | exact hy.1 | (rw [l30]; exact hy.2) | skip
  · exact h.elim
set_option maxRecDepth 100000 in
theorem wd_109 : Cond.fieldLink "LearnLoans" 76 "LearnLoans$People" "died" "[I" ∈ am_ws := am_wsi (List.mem_of_getElem? (i := 109) (by rfl)) (by decide +kernel)
theorem dX7_dies_0 : decode cX7_dies 0 = .ok (.aload_n 0, 1) := by decide +kernel
theorem dX7_dies_1 : decode cX7_dies 1 = .ok (.iload_n 1, 1) := by decide +kernel
theorem dX7_dies_2 : decode cX7_dies 2 = .ok (.invokevirtual 52, 3) := by decide +kernel
theorem dX7_dies_5 : decode cX7_dies 5 = .ok (.ifCond .eq 10, 3) := by decide +kernel
theorem dX7_dies_8 : decode cX7_dies 8 = .ok (.iload_n 2, 1) := by decide +kernel
theorem dX7_dies_9 : decode cX7_dies 9 = .ok (.invokestatic 34, 3) := by decide +kernel
theorem dX7_dies_12 : decode cX7_dies 12 = .ok (.ifCond .ne 6, 3) := by decide +kernel
theorem dX7_dies_15 : decode cX7_dies 15 = .ok (.bipush (-2), 2) := by decide +kernel
theorem dX7_dies_17 : decode cX7_dies 17 = .ok (.ireturn, 1) := by decide +kernel
theorem dX7_dies_18 : decode cX7_dies 18 = .ok (.aload_n 0, 1) := by decide +kernel
theorem dX7_dies_19 : decode cX7_dies 19 = .ok (.getfield 27, 3) := by decide +kernel
theorem dX7_dies_22 : decode cX7_dies 22 = .ok (.getfield 38, 3) := by decide +kernel
theorem dX7_dies_25 : decode cX7_dies 25 = .ok (.getfield 76, 3) := by decide +kernel
theorem dX7_dies_28 : decode cX7_dies 28 = .ok (.iload_n 1, 1) := by decide +kernel
theorem dX7_dies_29 : decode cX7_dies 29 = .ok (.iaload, 1) := by decide +kernel
theorem dX7_dies_30 : decode cX7_dies 30 = .ok (.iconst (-1), 1) := by decide +kernel
theorem dX7_dies_31 : decode cX7_dies 31 = .ok (.if_icmp .eq 6, 3) := by decide +kernel
theorem dX7_dies_34 : decode cX7_dies 34 = .ok (.bipush (-3), 2) := by decide +kernel
theorem dX7_dies_36 : decode cX7_dies 36 = .ok (.ireturn, 1) := by decide +kernel
theorem dX7_dies_37 : decode cX7_dies 37 = .ok (.aload_n 0, 1) := by decide +kernel
theorem dX7_dies_38 : decode cX7_dies 38 = .ok (.getfield 27, 3) := by decide +kernel
theorem dX7_dies_41 : decode cX7_dies 41 = .ok (.getfield 38, 3) := by decide +kernel
theorem dX7_dies_44 : decode cX7_dies 44 = .ok (.getfield 76, 3) := by decide +kernel
theorem dX7_dies_47 : decode cX7_dies 47 = .ok (.iload_n 1, 1) := by decide +kernel
theorem dX7_dies_48 : decode cX7_dies 48 = .ok (.iload_n 2, 1) := by decide +kernel
theorem dX7_dies_49 : decode cX7_dies 49 = .ok (.iastore, 1) := by decide +kernel
theorem dX7_dies_50 : decode cX7_dies 50 = .ok (.iconst 1, 1) := by decide +kernel
theorem dX7_dies_51 : decode cX7_dies 51 = .ok (.ireturn, 1) := by decide +kernel
def kX7_dies (live : am_E) (Ret : am_R) : am_code := [(0, am_aload 0 1), (1, am_iload 1 2), (2, am_callV live 7 1 TX7_isPerson 5), (5, am_if1 (fun x => x = 0) 15 8), (8, am_iload 2 9), (9, am_callS live 1 TX7_isYear 12), (12, am_if1 (fun x => x = 0) 15 18), (15, am_const (.int (-2)) 17), (17, am_retI Ret), (18, am_aload 0 19), (19, am_getR live 7 0 22), (22, am_getR live 0 0 25), (25, am_getR live 2 1 28), (28, am_iload 1 29), (29, am_ald live 0 30), (30, am_const (.int (-1)) 31), (31, am_if2 (fun x y => x = y) 37 34), (34, am_const (.int (-3)) 36), (36, am_retI Ret), (37, am_aload 0 38), (38, am_getR live 7 0 41), (41, am_getR live 0 0 44), (44, am_getR live 2 1 47), (47, am_iload 1 48), (48, am_iload 2 49), (49, am_ast live 0 50), (50, am_const (.int 1) 51), (51, am_retI Ret)]
theorem koX7_dies (live : am_E) (Ret : am_R) : ∀ q ∈ kX7_dies live Ret, am_ok RX7 cX7_dies 3 (some .int) 1 21 live Ret q.1 q.2 :=
  am_kc (ak_aload_n dX7_dies_0 rfl rfl) <|
  am_kc (ak_iload_n dX7_dies_1 rfl rfl) <|
  am_kc (ak_callV (C := RX7) (F := TX7) (N := 4) metX7_isPerson rfl ⟨rfl, by decide +kernel, by decide +kernel, by decide +kernel⟩ (am_w5 wd_414 wd_416 wd_0 wd_58 wd_417) (by decide) dX7_dies_2 rfl) <|
  am_kc (ak_if_eq dX7_dies_5 (by decide +kernel) rfl) <|
  am_kc (ak_iload_n dX7_dies_8 rfl rfl) <|
  am_kc (ak_callS metX7_isYear ⟨rfl, by decide +kernel, by decide +kernel, by decide +kernel⟩ (am_w4 wd_407 wd_408 wd_58 wd_409) (by decide) dX7_dies_9 rfl) <|
  am_kc (ak_if_ne dX7_dies_12 (by decide +kernel) rfl) <|
  am_kc (ak_bipush dX7_dies_15 (by decide +kernel) rfl) <|
  am_kc (ak_retI dX7_dies_17) <|
  am_kc (ak_aload_n dX7_dies_18 rfl rfl) <|
  am_kc (ak_getR (C := RX7) (T := TX7) (N := 4) rfl inX7w (by decide) rfl rfl rfl wd_390 dX7_dies_19 rfl) <|
  am_kc (ak_getR (C := RX0) (T := TX0) (N := 13) rfl inX0w (by decide) rfl rfl rfl wd_194 dX7_dies_22 rfl) <|
  am_kc (ak_getR (C := RX2) (T := TX2) (N := 8) rfl inX2w (by decide) rfl rfl rfl wd_109 dX7_dies_25 rfl) <|
  am_kc (ak_iload_n dX7_dies_28 rfl rfl) <|
  am_kc (ak_iald (t := 0) (fun _ => rfl) rfl dX7_dies_29 rfl) <|
  am_kc (ak_iconst dX7_dies_30 (by decide +kernel) rfl) <|
  am_kc (ak_icmp_eq dX7_dies_31 (by decide +kernel) rfl) <|
  am_kc (ak_bipush dX7_dies_34 (by decide +kernel) rfl) <|
  am_kc (ak_retI dX7_dies_36) <|
  am_kc (ak_aload_n dX7_dies_37 rfl rfl) <|
  am_kc (ak_getR (C := RX7) (T := TX7) (N := 4) rfl inX7w (by decide) rfl rfl rfl wd_390 dX7_dies_38 rfl) <|
  am_kc (ak_getR (C := RX0) (T := TX0) (N := 13) rfl inX0w (by decide) rfl rfl rfl wd_194 dX7_dies_41 rfl) <|
  am_kc (ak_getR (C := RX2) (T := TX2) (N := 8) rfl inX2w (by decide) rfl rfl rfl wd_109 dX7_dies_44 rfl) <|
  am_kc (ak_iload_n dX7_dies_47 rfl rfl) <|
  am_kc (ak_iload_n dX7_dies_48 rfl rfl) <|
  am_kc (ak_iast (t := 0) (fun _ => rfl) rfl dX7_dies_49 rfl) <|
  am_kc (ak_iconst dX7_dies_50 (by decide +kernel) rfl) <|
  am_kc (ak_retI dX7_dies_51) <| am_kn
def c_dies (M : am_M) (p y : Int32) : Int32 × am_M := if 0 ≤ p ∧ p < M.1 21 7 then (if 0 ≤ y ∧ y < 40 then (if M.1 23 p.toNatClampNeg = -1 then (1, am_wI M 23 p.toNatClampNeg y) else ((-3 : Int32), M)) else ((-2 : Int32), M)) else ((-2 : Int32), M)
def TX7_dies : am_T := fun live as M R => match as with
  | [.ref n, .int p, .int y] => am_mn live ∧ n = 0 ∧ (g_hI M ∧ g_rI M) ∧ R (some (.int (c_dies M p y).1)) (c_dies M p y).2
  | _ => False
set_option maxRecDepth 100000 in
set_option maxHeartbeats 4000000 in
theorem metX7_dies : am_Met yX7_dies cX7_dies 3 (some .int) (1) (21) TX7_dies := by
  refine am_met (own := RX7) (by decide +kernel) rfl kX7_dies koX7_dies 150 (fun _ _ _ _ _ => none) (fun live as M Ret h => ?_) (fun _ _ _ _ _ _ _ _ hI => by cases hI)
  unfold TX7_dies at h
  split at h
  · next n p y =>
    refine ⟨Nat.le_of_ble_eq_true rfl, ?_⟩
    change am_wp _ _ _ _ [(0, Value.ref n), (1, Value.int p), (2, Value.int y)] _ _
    obtain ⟨hmn, rfl, ⟨hH, hR⟩, h⟩ := h
    have hmn2 := hmn
    obtain ⟨i1, i2, rfl⟩ := hmn2
    by_cases z0 : 0 ≤ p ∧ p < M.1 21 7
    rotate_left
    · skip
      have q0 : (if 0 ≤ p ∧ p < M.1 21 7 then (1 : Int32) else 0) = 0 := if_neg z0
      have e : c_dies M p y = ((-2 : Int32), M) := by unfold c_dies; rw [if_neg z0]
      rw [e] at h
      repeat' (first | (with_reducible exact hmn) | (with_reducible exact h) | apply And.intro | exact rfl | (intro hx; with_reducible exact absurd q0 hx) | (intro hx; exact absurd hx (by decide)) | (intro hx; exact absurd (by decide) hx) | decide | intro hx | (refine Exists.intro _ (And.intro rfl ?_)))
      all_goals try first | (with_reducible change am_tI _ _) | (change Ret _ _) | (change Ret _ _ _) | (change Exists _)
      all_goals try dsimp only at *
      all_goals try exact absurd ‹(1000 : Int64) = 0› (by decide)
      all_goals first | exact h | exact hp.1 | (rw [l23]; exact hp.2) | skip
    · skip
      have q0 : ¬ ((if 0 ≤ p ∧ p < M.1 21 7 then (1 : Int32) else 0) = 0) := by rw [if_pos z0]; decide
      by_cases z1 : 0 ≤ y ∧ y < 40
      rotate_left
      · skip
        have q1 : (if 0 ≤ y ∧ y < 40 then (1 : Int32) else 0) = 0 := if_neg z1
        have e : c_dies M p y = ((-2 : Int32), M) := by unfold c_dies; rw [if_pos z0, if_neg z1]
        rw [e] at h
        repeat' (first | (with_reducible exact hmn) | (with_reducible exact h) | apply And.intro | exact rfl | (intro hx; with_reducible exact absurd hx q0) | (intro hx; with_reducible exact absurd q1 hx) | (intro hx; exact absurd hx (by decide)) | (intro hx; exact absurd (by decide) hx) | decide | intro hx | (refine Exists.intro _ (And.intro rfl ?_)))
        all_goals try first | (with_reducible change am_tI _ _) | (change Ret _ _) | (change Ret _ _ _) | (change Exists _)
        all_goals try dsimp only at *
        all_goals try exact absurd ‹(1000 : Int64) = 0› (by decide)
        all_goals first | exact h | exact hp.1 | (rw [l23]; exact hp.2) | skip
      · skip
        have q1 : ¬ ((if 0 ≤ y ∧ y < 40 then (1 : Int32) else 0) = 0) := by rw [if_pos z1]; decide
        have l23 : am_len 23 = 12 := rfl
        have hp : am_in p 12 := ⟨by have q := z0.1; simp only [i_le, Int32.reduceToInt] at q; omega, by have q := z0.2; have q2 := hH.pe; simp only [i_lt] at q; omega⟩
        by_cases z2 : M.1 23 p.toNatClampNeg = -1
        rotate_left
        · skip
          have e : c_dies M p y = ((-3 : Int32), M) := by unfold c_dies; rw [if_pos z0, if_pos z1, if_neg z2]
          rw [e] at h
          repeat' (first | (with_reducible exact hmn) | (with_reducible exact h) | apply And.intro | exact rfl | (intro hx; with_reducible exact absurd hx q0) | (intro hx; with_reducible exact absurd hx q1) | (intro hx; with_reducible exact absurd hx z2) | (intro hx; exact absurd hx (by decide)) | (intro hx; exact absurd (by decide) hx) | decide | intro hx | (refine Exists.intro _ (And.intro rfl ?_)))
          all_goals try first | (with_reducible change am_tI _ _) | (change Ret _ _) | (change Ret _ _ _) | (change Exists _)
          all_goals try dsimp only at *
          all_goals try exact absurd ‹(1000 : Int64) = 0› (by decide)
          all_goals first | exact h | exact hp.1 | (rw [l23]; exact hp.2) | skip
        · skip
          have e : c_dies M p y = (1, am_wI M 23 p.toNatClampNeg y) := by unfold c_dies; rw [if_pos z0, if_pos z1, if_pos z2]
          rw [e] at h
          repeat' (first | (with_reducible exact hmn) | apply And.intro | exact rfl | (intro hx; with_reducible exact absurd hx q0) | (intro hx; with_reducible exact absurd hx q1) | (intro hx; with_reducible exact absurd z2 hx) | (intro hx; exact absurd hx (by decide)) | (intro hx; exact absurd (by decide) hx) | decide | intro hx | (refine Exists.intro _ (And.intro rfl ?_)))
          all_goals try first | (with_reducible change am_tI _ _) | (change Ret _ _) | (change Ret _ _ _) | (change Exists _)
          all_goals try dsimp only at *
          all_goals try exact absurd ‹(1000 : Int64) = 0› (by decide)
          all_goals first | exact h | exact hp.1 | (rw [l23]; exact hp.2) | skip
  · exact h.elim
set_option maxRecDepth 100000 in
theorem wd_446 : Cond.methodLink "LearnLoans" 79 yX7_isPence ∈ am_ws := am_wsi (List.mem_of_getElem? (i := 446) (by rfl)) (by decide +kernel)
set_option maxRecDepth 100000 in
theorem wd_447 : Cond.static yX7_isPence ∈ am_ws := am_wsi (List.mem_of_getElem? (i := 447) (by rfl)) (by decide +kernel)
set_option maxRecDepth 100000 in
theorem wd_448 : Cond.code yX7_isPence cX7_isPence 1 (some .boolean) ∈ am_ws := am_wsi (List.mem_of_getElem? (i := 448) (by rfl)) (by decide +kernel)
set_option maxRecDepth 100000 in
theorem wd_116 : Cond.fieldLink "LearnLoans" 82 "LearnLoans$People" "firstKnown" "[I" ∈ am_ws := am_wsi (List.mem_of_getElem? (i := 116) (by rfl)) (by decide +kernel)
set_option maxRecDepth 100000 in
theorem wd_114 : Cond.fieldLink "LearnLoans" 85 "LearnLoans$People" "first" "[I" ∈ am_ws := am_wsi (List.mem_of_getElem? (i := 114) (by rfl)) (by decide +kernel)
theorem dX7_earn_0 : decode cX7_earn 0 = .ok (.aload_n 0, 1) := by decide +kernel
theorem dX7_earn_1 : decode cX7_earn 1 = .ok (.iload_n 1, 1) := by decide +kernel
theorem dX7_earn_2 : decode cX7_earn 2 = .ok (.invokevirtual 52, 3) := by decide +kernel
theorem dX7_earn_5 : decode cX7_earn 5 = .ok (.ifCond .eq 19, 3) := by decide +kernel
theorem dX7_earn_8 : decode cX7_earn 8 = .ok (.iload_n 2, 1) := by decide +kernel
theorem dX7_earn_9 : decode cX7_earn 9 = .ok (.iload 4, 2) := by decide +kernel
theorem dX7_earn_11 : decode cX7_earn 11 = .ok (.invokestatic 59, 3) := by decide +kernel
theorem dX7_earn_14 : decode cX7_earn 14 = .ok (.ifCond .eq 10, 3) := by decide +kernel
theorem dX7_earn_17 : decode cX7_earn 17 = .ok (.iload_n 3, 1) := by decide +kernel
theorem dX7_earn_18 : decode cX7_earn 18 = .ok (.invokestatic 79, 3) := by decide +kernel
theorem dX7_earn_21 : decode cX7_earn 21 = .ok (.ifCond .ne 6, 3) := by decide +kernel
theorem dX7_earn_24 : decode cX7_earn 24 = .ok (.bipush (-2), 2) := by decide +kernel
theorem dX7_earn_26 : decode cX7_earn 26 = .ok (.ireturn, 1) := by decide +kernel
theorem dX7_earn_27 : decode cX7_earn 27 = .ok (.aload_n 0, 1) := by decide +kernel
theorem dX7_earn_28 : decode cX7_earn 28 = .ok (.getfield 27, 3) := by decide +kernel
theorem dX7_earn_31 : decode cX7_earn 31 = .ok (.getfield 38, 3) := by decide +kernel
theorem dX7_earn_34 : decode cX7_earn 34 = .ok (.astore 5, 2) := by decide +kernel
theorem dX7_earn_36 : decode cX7_earn 36 = .ok (.iload_n 1, 1) := by decide +kernel
theorem dX7_earn_37 : decode cX7_earn 37 = .ok (.bipush 40, 2) := by decide +kernel
theorem dX7_earn_39 : decode cX7_earn 39 = .ok (.imul, 1) := by decide +kernel
theorem dX7_earn_40 : decode cX7_earn 40 = .ok (.iload_n 2, 1) := by decide +kernel
theorem dX7_earn_41 : decode cX7_earn 41 = .ok (.iadd, 1) := by decide +kernel
theorem dX7_earn_42 : decode cX7_earn 42 = .ok (.istore 6, 2) := by decide +kernel
theorem dX7_earn_44 : decode cX7_earn 44 = .ok (.aload 5, 2) := by decide +kernel
theorem dX7_earn_46 : decode cX7_earn 46 = .ok (.getfield 82, 3) := by decide +kernel
theorem dX7_earn_49 : decode cX7_earn 49 = .ok (.iload 6, 2) := by decide +kernel
theorem dX7_earn_51 : decode cX7_earn 51 = .ok (.iaload, 1) := by decide +kernel
theorem dX7_earn_52 : decode cX7_earn 52 = .ok (.iconst (-1), 1) := by decide +kernel
theorem dX7_earn_53 : decode cX7_earn 53 = .ok (.if_icmp .eq 6, 3) := by decide +kernel
theorem dX7_earn_56 : decode cX7_earn 56 = .ok (.bipush (-3), 2) := by decide +kernel
theorem dX7_earn_58 : decode cX7_earn 58 = .ok (.ireturn, 1) := by decide +kernel
theorem dX7_earn_59 : decode cX7_earn 59 = .ok (.aload 5, 2) := by decide +kernel
theorem dX7_earn_61 : decode cX7_earn 61 = .ok (.getfield 85, 3) := by decide +kernel
theorem dX7_earn_64 : decode cX7_earn 64 = .ok (.iload 6, 2) := by decide +kernel
theorem dX7_earn_66 : decode cX7_earn 66 = .ok (.iload_n 3, 1) := by decide +kernel
theorem dX7_earn_67 : decode cX7_earn 67 = .ok (.iastore, 1) := by decide +kernel
theorem dX7_earn_68 : decode cX7_earn 68 = .ok (.aload 5, 2) := by decide +kernel
theorem dX7_earn_70 : decode cX7_earn 70 = .ok (.getfield 82, 3) := by decide +kernel
theorem dX7_earn_73 : decode cX7_earn 73 = .ok (.iload 6, 2) := by decide +kernel
theorem dX7_earn_75 : decode cX7_earn 75 = .ok (.iload 4, 2) := by decide +kernel
theorem dX7_earn_77 : decode cX7_earn 77 = .ok (.iastore, 1) := by decide +kernel
theorem dX7_earn_78 : decode cX7_earn 78 = .ok (.iconst 1, 1) := by decide +kernel
theorem dX7_earn_79 : decode cX7_earn 79 = .ok (.ireturn, 1) := by decide +kernel
def kX7_earn (live : am_E) (Ret : am_R) : am_code := [(0, am_aload 0 1), (1, am_iload 1 2), (2, am_callV live 7 1 TX7_isPerson 5), (5, am_if1 (fun x => x = 0) 24 8), (8, am_iload 2 9), (9, am_iload 4 11), (11, am_callS live 2 TX7_isSpan 14), (14, am_if1 (fun x => x = 0) 24 17), (17, am_iload 3 18), (18, am_callS live 1 TX7_isPence 21), (21, am_if1 (fun x => x = 0) 24 27), (24, am_const (.int (-2)) 26), (26, am_retI Ret), (27, am_aload 0 28), (28, am_getR live 7 0 31), (31, am_getR live 0 0 34), (34, am_astore 5 7 36), (36, am_iload 1 37), (37, am_const (.int 40) 39), (39, am_i2 (fun x y => x * y) 40), (40, am_iload 2 41), (41, am_i2 (fun x y => x + y) 42), (42, am_istore 6 7 44), (44, am_aload 5 46), (46, am_getR live 2 4 49), (49, am_iload 6 51), (51, am_ald live 0 52), (52, am_const (.int (-1)) 53), (53, am_if2 (fun x y => x = y) 59 56), (56, am_const (.int (-3)) 58), (58, am_retI Ret), (59, am_aload 5 61), (61, am_getR live 2 3 64), (64, am_iload 6 66), (66, am_iload 3 67), (67, am_ast live 0 68), (68, am_aload 5 70), (70, am_getR live 2 4 73), (73, am_iload 6 75), (75, am_iload 4 77), (77, am_ast live 0 78), (78, am_const (.int 1) 79), (79, am_retI Ret)]
theorem koX7_earn (live : am_E) (Ret : am_R) : ∀ q ∈ kX7_earn live Ret, am_ok RX7 cX7_earn 7 (some .int) 1 21 live Ret q.1 q.2 :=
  am_kc (ak_aload_n dX7_earn_0 rfl rfl) <|
  am_kc (ak_iload_n dX7_earn_1 rfl rfl) <|
  am_kc (ak_callV (C := RX7) (F := TX7) (N := 4) metX7_isPerson rfl ⟨rfl, by decide +kernel, by decide +kernel, by decide +kernel⟩ (am_w5 wd_414 wd_416 wd_0 wd_58 wd_417) (by decide) dX7_earn_2 rfl) <|
  am_kc (ak_if_eq dX7_earn_5 (by decide +kernel) rfl) <|
  am_kc (ak_iload_n dX7_earn_8 rfl rfl) <|
  am_kc (ak_iload dX7_earn_9 rfl) <|
  am_kc (ak_callS metX7_isSpan ⟨rfl, by decide +kernel, by decide +kernel, by decide +kernel⟩ (am_w4 wd_421 wd_422 wd_58 wd_423) (by decide) dX7_earn_11 rfl) <|
  am_kc (ak_if_eq dX7_earn_14 (by decide +kernel) rfl) <|
  am_kc (ak_iload_n dX7_earn_17 rfl rfl) <|
  am_kc (ak_callS metX7_isPence ⟨rfl, by decide +kernel, by decide +kernel, by decide +kernel⟩ (am_w4 wd_446 wd_447 wd_58 wd_448) (by decide) dX7_earn_18 rfl) <|
  am_kc (ak_if_ne dX7_earn_21 (by decide +kernel) rfl) <|
  am_kc (ak_bipush dX7_earn_24 (by decide +kernel) rfl) <|
  am_kc (ak_retI dX7_earn_26) <|
  am_kc (ak_aload_n dX7_earn_27 rfl rfl) <|
  am_kc (ak_getR (C := RX7) (T := TX7) (N := 4) rfl inX7w (by decide) rfl rfl rfl wd_390 dX7_earn_28 rfl) <|
  am_kc (ak_getR (C := RX0) (T := TX0) (N := 13) rfl inX0w (by decide) rfl rfl rfl wd_194 dX7_earn_31 rfl) <|
  am_kc (ak_astore dX7_earn_34 rfl) <|
  am_kc (ak_iload_n dX7_earn_36 rfl rfl) <|
  am_kc (ak_bipush dX7_earn_37 (by decide +kernel) rfl) <|
  am_kc (ak_imul dX7_earn_39 rfl) <|
  am_kc (ak_iload_n dX7_earn_40 rfl rfl) <|
  am_kc (ak_iadd dX7_earn_41 rfl) <|
  am_kc (ak_istore dX7_earn_42 rfl) <|
  am_kc (ak_aload dX7_earn_44 rfl) <|
  am_kc (ak_getR (C := RX2) (T := TX2) (N := 8) rfl inX2w (by decide) rfl rfl rfl wd_116 dX7_earn_46 rfl) <|
  am_kc (ak_iload dX7_earn_49 rfl) <|
  am_kc (ak_iald (t := 0) (fun _ => rfl) rfl dX7_earn_51 rfl) <|
  am_kc (ak_iconst dX7_earn_52 (by decide +kernel) rfl) <|
  am_kc (ak_icmp_eq dX7_earn_53 (by decide +kernel) rfl) <|
  am_kc (ak_bipush dX7_earn_56 (by decide +kernel) rfl) <|
  am_kc (ak_retI dX7_earn_58) <|
  am_kc (ak_aload dX7_earn_59 rfl) <|
  am_kc (ak_getR (C := RX2) (T := TX2) (N := 8) rfl inX2w (by decide) rfl rfl rfl wd_114 dX7_earn_61 rfl) <|
  am_kc (ak_iload dX7_earn_64 rfl) <|
  am_kc (ak_iload_n dX7_earn_66 rfl rfl) <|
  am_kc (ak_iast (t := 0) (fun _ => rfl) rfl dX7_earn_67 rfl) <|
  am_kc (ak_aload dX7_earn_68 rfl) <|
  am_kc (ak_getR (C := RX2) (T := TX2) (N := 8) rfl inX2w (by decide) rfl rfl rfl wd_116 dX7_earn_70 rfl) <|
  am_kc (ak_iload dX7_earn_73 rfl) <|
  am_kc (ak_iload dX7_earn_75 rfl) <|
  am_kc (ak_iast (t := 0) (fun _ => rfl) rfl dX7_earn_77 rfl) <|
  am_kc (ak_iconst dX7_earn_78 (by decide +kernel) rfl) <|
  am_kc (ak_retI dX7_earn_79) <| am_kn
def c_earn (M : am_M) (p y c k : Int32) : Int32 × am_M := if 0 ≤ p ∧ p < M.1 21 7 then (if 0 ≤ y ∧ y ≤ k ∧ k < 40 then (if 0 ≤ c ∧ c ≤ 10000000 then (if M.1 26 (p * 40 + y).toNatClampNeg = -1 then (1, am_wI (am_wI M 25 (p * 40 + y).toNatClampNeg c) 26 (p * 40 + y).toNatClampNeg k) else ((-3 : Int32), M)) else ((-2 : Int32), M)) else ((-2 : Int32), M)) else ((-2 : Int32), M)
def TX7_earn : am_T := fun live as M R => match as with
  | [.ref n, .int p, .int y, .int c, .int k] => am_mn live ∧ n = 0 ∧ (g_hI M ∧ g_rI M) ∧ R (some (.int (c_earn M p y c k).1)) (c_earn M p y c k).2
  | _ => False
set_option maxRecDepth 100000 in
set_option maxHeartbeats 4000000 in
theorem metX7_earn : am_Met yX7_earn cX7_earn 7 (some .int) (1) (21) TX7_earn := by
  refine am_met (own := RX7) (by decide +kernel) rfl kX7_earn koX7_earn 150 (fun _ _ _ _ _ => none) (fun live as M Ret h => ?_) (fun _ _ _ _ _ _ _ _ hI => by cases hI)
  unfold TX7_earn at h
  split at h
  · next n p y c k =>
    refine ⟨Nat.le_of_ble_eq_true rfl, ?_⟩
    change am_wp _ _ _ _ [(0, Value.ref n), (1, Value.int p), (2, Value.int y), (3, Value.int c), (4, Value.int k)] _ _
    obtain ⟨hmn, rfl, ⟨hH, hR⟩, h⟩ := h
    have hmn2 := hmn
    obtain ⟨i1, i2, rfl⟩ := hmn2
    by_cases z0 : 0 ≤ p ∧ p < M.1 21 7
    rotate_left
    · skip
      have q0 : (if 0 ≤ p ∧ p < M.1 21 7 then (1 : Int32) else 0) = 0 := if_neg z0
      have e : c_earn M p y c k = ((-2 : Int32), M) := by unfold c_earn; rw [if_neg z0]
      rw [e] at h
      repeat' (first | (with_reducible exact hmn) | (with_reducible exact h) | apply And.intro | exact rfl | (intro hx; with_reducible exact absurd q0 hx) | (intro hx; exact absurd hx (by decide)) | (intro hx; exact absurd (by decide) hx) | decide | intro hx | (refine Exists.intro _ (And.intro rfl ?_)))
      all_goals try first | (with_reducible change am_tI _ _) | (change Ret _ _) | (change Ret _ _ _) | (change Exists _)
      all_goals try dsimp only at *
      all_goals try exact absurd ‹(1000 : Int64) = 0› (by decide)
      all_goals first | exact h | exact hi.1 | (rw [l25]; exact hi.2) | (rw [l26]; exact hi.2) | skip
    · skip
      have q0 : ¬ ((if 0 ≤ p ∧ p < M.1 21 7 then (1 : Int32) else 0) = 0) := by rw [if_pos z0]; decide
      by_cases z1 : 0 ≤ y ∧ y ≤ k ∧ k < 40
      rotate_left
      · skip
        have q1 : (if 0 ≤ y ∧ y ≤ k ∧ k < 40 then (1 : Int32) else 0) = 0 := if_neg z1
        have e : c_earn M p y c k = ((-2 : Int32), M) := by unfold c_earn; rw [if_pos z0, if_neg z1]
        rw [e] at h
        repeat' (first | (with_reducible exact hmn) | (with_reducible exact h) | apply And.intro | exact rfl | (intro hx; with_reducible exact absurd hx q0) | (intro hx; with_reducible exact absurd q1 hx) | (intro hx; exact absurd hx (by decide)) | (intro hx; exact absurd (by decide) hx) | decide | intro hx | (refine Exists.intro _ (And.intro rfl ?_)))
        all_goals try first | (with_reducible change am_tI _ _) | (change Ret _ _) | (change Ret _ _ _) | (change Exists _)
        all_goals try dsimp only at *
        all_goals try exact absurd ‹(1000 : Int64) = 0› (by decide)
        all_goals first | exact h | exact hi.1 | (rw [l25]; exact hi.2) | (rw [l26]; exact hi.2) | skip
      · skip
        have q1 : ¬ ((if 0 ≤ y ∧ y ≤ k ∧ k < 40 then (1 : Int32) else 0) = 0) := by rw [if_pos z1]; decide
        by_cases z2 : 0 ≤ c ∧ c ≤ 10000000
        rotate_left
        · skip
          have q2 : (if 0 ≤ c ∧ c ≤ 10000000 then (1 : Int32) else 0) = 0 := if_neg z2
          have e : c_earn M p y c k = ((-2 : Int32), M) := by unfold c_earn; rw [if_pos z0, if_pos z1, if_neg z2]
          rw [e] at h
          repeat' (first | (with_reducible exact hmn) | (with_reducible exact h) | apply And.intro | exact rfl | (intro hx; with_reducible exact absurd hx q0) | (intro hx; with_reducible exact absurd hx q1) | (intro hx; with_reducible exact absurd q2 hx) | (intro hx; exact absurd hx (by decide)) | (intro hx; exact absurd (by decide) hx) | decide | intro hx | (refine Exists.intro _ (And.intro rfl ?_)))
          all_goals try first | (with_reducible change am_tI _ _) | (change Ret _ _) | (change Ret _ _ _) | (change Exists _)
          all_goals try dsimp only at *
          all_goals try exact absurd ‹(1000 : Int64) = 0› (by decide)
          all_goals first | exact h | exact hi.1 | (rw [l25]; exact hi.2) | (rw [l26]; exact hi.2) | skip
        · skip
          have q2 : ¬ ((if 0 ≤ c ∧ c ≤ 10000000 then (1 : Int32) else 0) = 0) := by rw [if_pos z2]; decide
          have l25 : am_len 25 = 480 := rfl
          have l26 : am_len 26 = 480 := rfl
          have hp : am_in p 12 := ⟨by have q := z0.1; simp only [i_le, Int32.reduceToInt] at q; omega, by have q := z0.2; have q2 := hH.pe; simp only [i_lt] at q; omega⟩
          have hy : am_in y 40 := ⟨by have q := z1.1; simp only [i_le, Int32.reduceToInt] at q; omega, by have q := z1.2.1; have q2 := z1.2.2; simp only [i_le, i_lt, Int32.reduceToInt] at q q2; omega⟩
          have ei := g_40 (by decide) hp hy
          have hi : am_in (p * 40 + y) 480 := ⟨by have q := hp.1; have q2 := hy.1; omega, by have q := hp.2; have q2 := hy.2; omega⟩
          by_cases z3 : M.1 26 (p * 40 + y).toNatClampNeg = -1
          rotate_left
          · skip
            have e : c_earn M p y c k = ((-3 : Int32), M) := by unfold c_earn; rw [if_pos z0, if_pos z1, if_pos z2, if_neg z3]
            rw [e] at h
            repeat' (first | (with_reducible exact hmn) | (with_reducible exact h) | apply And.intro | exact rfl | (intro hx; with_reducible exact absurd hx q0) | (intro hx; with_reducible exact absurd hx q1) | (intro hx; with_reducible exact absurd hx q2) | (intro hx; with_reducible exact absurd hx z3) | (intro hx; exact absurd hx (by decide)) | (intro hx; exact absurd (by decide) hx) | decide | intro hx | (refine Exists.intro _ (And.intro rfl ?_)))
            all_goals try first | (with_reducible change am_tI _ _) | (change Ret _ _) | (change Ret _ _ _) | (change Exists _)
            all_goals try dsimp only at *
            all_goals try exact absurd ‹(1000 : Int64) = 0› (by decide)
            all_goals first | exact h | exact hi.1 | (rw [l25]; exact hi.2) | (rw [l26]; exact hi.2) | skip
          · skip
            have e : c_earn M p y c k = (1, am_wI (am_wI M 25 (p * 40 + y).toNatClampNeg c) 26 (p * 40 + y).toNatClampNeg k) := by unfold c_earn; rw [if_pos z0, if_pos z1, if_pos z2, if_pos z3]
            rw [e] at h
            repeat' (first | (with_reducible exact hmn) | apply And.intro | exact rfl | (intro hx; with_reducible exact absurd hx q0) | (intro hx; with_reducible exact absurd hx q1) | (intro hx; with_reducible exact absurd hx q2) | (intro hx; with_reducible exact absurd z3 hx) | (intro hx; exact absurd hx (by decide)) | (intro hx; exact absurd (by decide) hx) | decide | intro hx | (refine Exists.intro _ (And.intro rfl ?_)))
            all_goals try first | (with_reducible change am_tI _ _) | (change Ret _ _) | (change Ret _ _ _) | (change Exists _)
            all_goals try dsimp only at *
            all_goals try exact absurd ‹(1000 : Int64) = 0› (by decide)
            all_goals first | exact h | exact hi.1 | (rw [l25]; exact hi.2) | (rw [l26]; exact hi.2) | skip
  · exact h.elim
set_option maxRecDepth 100000 in
theorem wd_120 : Cond.fieldLink "LearnLoans" 88 "LearnLoans$People" "secondKnown" "[I" ∈ am_ws := am_wsi (List.mem_of_getElem? (i := 120) (by rfl)) (by decide +kernel)
set_option maxRecDepth 100000 in
theorem wd_118 : Cond.fieldLink "LearnLoans" 91 "LearnLoans$People" "second" "[I" ∈ am_ws := am_wsi (List.mem_of_getElem? (i := 118) (by rfl)) (by decide +kernel)
theorem dX7_right_0 : decode cX7_right 0 = .ok (.aload_n 0, 1) := by decide +kernel
theorem dX7_right_1 : decode cX7_right 1 = .ok (.iload_n 1, 1) := by decide +kernel
theorem dX7_right_2 : decode cX7_right 2 = .ok (.invokevirtual 52, 3) := by decide +kernel
theorem dX7_right_5 : decode cX7_right 5 = .ok (.ifCond .eq 25, 3) := by decide +kernel
theorem dX7_right_8 : decode cX7_right 8 = .ok (.iload_n 2, 1) := by decide +kernel
theorem dX7_right_9 : decode cX7_right 9 = .ok (.invokestatic 34, 3) := by decide +kernel
theorem dX7_right_12 : decode cX7_right 12 = .ok (.ifCond .eq 18, 3) := by decide +kernel
theorem dX7_right_15 : decode cX7_right 15 = .ok (.iload_n 3, 1) := by decide +kernel
theorem dX7_right_16 : decode cX7_right 16 = .ok (.invokestatic 79, 3) := by decide +kernel
theorem dX7_right_19 : decode cX7_right 19 = .ok (.ifCond .eq 11, 3) := by decide +kernel
theorem dX7_right_22 : decode cX7_right 22 = .ok (.iload 4, 2) := by decide +kernel
theorem dX7_right_24 : decode cX7_right 24 = .ok (.invokestatic 34, 3) := by decide +kernel
theorem dX7_right_27 : decode cX7_right 27 = .ok (.ifCond .ne 6, 3) := by decide +kernel
theorem dX7_right_30 : decode cX7_right 30 = .ok (.bipush (-2), 2) := by decide +kernel
theorem dX7_right_32 : decode cX7_right 32 = .ok (.ireturn, 1) := by decide +kernel
theorem dX7_right_33 : decode cX7_right 33 = .ok (.aload_n 0, 1) := by decide +kernel
theorem dX7_right_34 : decode cX7_right 34 = .ok (.getfield 27, 3) := by decide +kernel
theorem dX7_right_37 : decode cX7_right 37 = .ok (.getfield 38, 3) := by decide +kernel
theorem dX7_right_40 : decode cX7_right 40 = .ok (.astore 5, 2) := by decide +kernel
theorem dX7_right_42 : decode cX7_right 42 = .ok (.iload_n 1, 1) := by decide +kernel
theorem dX7_right_43 : decode cX7_right 43 = .ok (.bipush 40, 2) := by decide +kernel
theorem dX7_right_45 : decode cX7_right 45 = .ok (.imul, 1) := by decide +kernel
theorem dX7_right_46 : decode cX7_right 46 = .ok (.iload_n 2, 1) := by decide +kernel
theorem dX7_right_47 : decode cX7_right 47 = .ok (.iadd, 1) := by decide +kernel
theorem dX7_right_48 : decode cX7_right 48 = .ok (.istore 6, 2) := by decide +kernel
theorem dX7_right_50 : decode cX7_right 50 = .ok (.iload 4, 2) := by decide +kernel
theorem dX7_right_52 : decode cX7_right 52 = .ok (.aload 5, 2) := by decide +kernel
theorem dX7_right_54 : decode cX7_right 54 = .ok (.getfield 82, 3) := by decide +kernel
theorem dX7_right_57 : decode cX7_right 57 = .ok (.iload 6, 2) := by decide +kernel
theorem dX7_right_59 : decode cX7_right 59 = .ok (.iaload, 1) := by decide +kernel
theorem dX7_right_60 : decode cX7_right 60 = .ok (.if_icmp .ge 6, 3) := by decide +kernel
theorem dX7_right_63 : decode cX7_right 63 = .ok (.bipush (-2), 2) := by decide +kernel
theorem dX7_right_65 : decode cX7_right 65 = .ok (.ireturn, 1) := by decide +kernel
theorem dX7_right_66 : decode cX7_right 66 = .ok (.aload 5, 2) := by decide +kernel
theorem dX7_right_68 : decode cX7_right 68 = .ok (.getfield 82, 3) := by decide +kernel
theorem dX7_right_71 : decode cX7_right 71 = .ok (.iload 6, 2) := by decide +kernel
theorem dX7_right_73 : decode cX7_right 73 = .ok (.iaload, 1) := by decide +kernel
theorem dX7_right_74 : decode cX7_right 74 = .ok (.iconst (-1), 1) := by decide +kernel
theorem dX7_right_75 : decode cX7_right 75 = .ok (.if_icmp .eq 15, 3) := by decide +kernel
theorem dX7_right_78 : decode cX7_right 78 = .ok (.aload 5, 2) := by decide +kernel
theorem dX7_right_80 : decode cX7_right 80 = .ok (.getfield 88, 3) := by decide +kernel
theorem dX7_right_83 : decode cX7_right 83 = .ok (.iload 6, 2) := by decide +kernel
theorem dX7_right_85 : decode cX7_right 85 = .ok (.iaload, 1) := by decide +kernel
theorem dX7_right_86 : decode cX7_right 86 = .ok (.iconst (-1), 1) := by decide +kernel
theorem dX7_right_87 : decode cX7_right 87 = .ok (.if_icmp .eq 6, 3) := by decide +kernel
theorem dX7_right_90 : decode cX7_right 90 = .ok (.bipush (-3), 2) := by decide +kernel
theorem dX7_right_92 : decode cX7_right 92 = .ok (.ireturn, 1) := by decide +kernel
theorem dX7_right_93 : decode cX7_right 93 = .ok (.aload 5, 2) := by decide +kernel
theorem dX7_right_95 : decode cX7_right 95 = .ok (.getfield 91, 3) := by decide +kernel
theorem dX7_right_98 : decode cX7_right 98 = .ok (.iload 6, 2) := by decide +kernel
theorem dX7_right_100 : decode cX7_right 100 = .ok (.iload_n 3, 1) := by decide +kernel
theorem dX7_right_101 : decode cX7_right 101 = .ok (.iastore, 1) := by decide +kernel
theorem dX7_right_102 : decode cX7_right 102 = .ok (.aload 5, 2) := by decide +kernel
theorem dX7_right_104 : decode cX7_right 104 = .ok (.getfield 88, 3) := by decide +kernel
theorem dX7_right_107 : decode cX7_right 107 = .ok (.iload 6, 2) := by decide +kernel
theorem dX7_right_109 : decode cX7_right 109 = .ok (.iload 4, 2) := by decide +kernel
theorem dX7_right_111 : decode cX7_right 111 = .ok (.iastore, 1) := by decide +kernel
theorem dX7_right_112 : decode cX7_right 112 = .ok (.iconst 1, 1) := by decide +kernel
theorem dX7_right_113 : decode cX7_right 113 = .ok (.ireturn, 1) := by decide +kernel
def kX7_right (live : am_E) (Ret : am_R) : am_code := [(0, am_aload 0 1), (1, am_iload 1 2), (2, am_callV live 7 1 TX7_isPerson 5), (5, am_if1 (fun x => x = 0) 30 8), (8, am_iload 2 9), (9, am_callS live 1 TX7_isYear 12), (12, am_if1 (fun x => x = 0) 30 15), (15, am_iload 3 16), (16, am_callS live 1 TX7_isPence 19), (19, am_if1 (fun x => x = 0) 30 22), (22, am_iload 4 24), (24, am_callS live 1 TX7_isYear 27), (27, am_if1 (fun x => x = 0) 30 33), (30, am_const (.int (-2)) 32), (32, am_retI Ret), (33, am_aload 0 34), (34, am_getR live 7 0 37), (37, am_getR live 0 0 40), (40, am_astore 5 7 42), (42, am_iload 1 43), (43, am_const (.int 40) 45), (45, am_i2 (fun x y => x * y) 46), (46, am_iload 2 47), (47, am_i2 (fun x y => x + y) 48), (48, am_istore 6 7 50), (50, am_iload 4 52), (52, am_aload 5 54), (54, am_getR live 2 4 57), (57, am_iload 6 59), (59, am_ald live 0 60), (60, am_if2 (fun x y => y ≤ x) 66 63), (63, am_const (.int (-2)) 65), (65, am_retI Ret), (66, am_aload 5 68), (68, am_getR live 2 4 71), (71, am_iload 6 73), (73, am_ald live 0 74), (74, am_const (.int (-1)) 75), (75, am_if2 (fun x y => x = y) 90 78), (78, am_aload 5 80), (80, am_getR live 2 6 83), (83, am_iload 6 85), (85, am_ald live 0 86), (86, am_const (.int (-1)) 87), (87, am_if2 (fun x y => x = y) 93 90), (90, am_const (.int (-3)) 92), (92, am_retI Ret), (93, am_aload 5 95), (95, am_getR live 2 5 98), (98, am_iload 6 100), (100, am_iload 3 101), (101, am_ast live 0 102), (102, am_aload 5 104), (104, am_getR live 2 6 107), (107, am_iload 6 109), (109, am_iload 4 111), (111, am_ast live 0 112), (112, am_const (.int 1) 113), (113, am_retI Ret)]
theorem koX7_right (live : am_E) (Ret : am_R) : ∀ q ∈ kX7_right live Ret, am_ok RX7 cX7_right 7 (some .int) 1 21 live Ret q.1 q.2 :=
  am_kc (ak_aload_n dX7_right_0 rfl rfl) <|
  am_kc (ak_iload_n dX7_right_1 rfl rfl) <|
  am_kc (ak_callV (C := RX7) (F := TX7) (N := 4) metX7_isPerson rfl ⟨rfl, by decide +kernel, by decide +kernel, by decide +kernel⟩ (am_w5 wd_414 wd_416 wd_0 wd_58 wd_417) (by decide) dX7_right_2 rfl) <|
  am_kc (ak_if_eq dX7_right_5 (by decide +kernel) rfl) <|
  am_kc (ak_iload_n dX7_right_8 rfl rfl) <|
  am_kc (ak_callS metX7_isYear ⟨rfl, by decide +kernel, by decide +kernel, by decide +kernel⟩ (am_w4 wd_407 wd_408 wd_58 wd_409) (by decide) dX7_right_9 rfl) <|
  am_kc (ak_if_eq dX7_right_12 (by decide +kernel) rfl) <|
  am_kc (ak_iload_n dX7_right_15 rfl rfl) <|
  am_kc (ak_callS metX7_isPence ⟨rfl, by decide +kernel, by decide +kernel, by decide +kernel⟩ (am_w4 wd_446 wd_447 wd_58 wd_448) (by decide) dX7_right_16 rfl) <|
  am_kc (ak_if_eq dX7_right_19 (by decide +kernel) rfl) <|
  am_kc (ak_iload dX7_right_22 rfl) <|
  am_kc (ak_callS metX7_isYear ⟨rfl, by decide +kernel, by decide +kernel, by decide +kernel⟩ (am_w4 wd_407 wd_408 wd_58 wd_409) (by decide) dX7_right_24 rfl) <|
  am_kc (ak_if_ne dX7_right_27 (by decide +kernel) rfl) <|
  am_kc (ak_bipush dX7_right_30 (by decide +kernel) rfl) <|
  am_kc (ak_retI dX7_right_32) <|
  am_kc (ak_aload_n dX7_right_33 rfl rfl) <|
  am_kc (ak_getR (C := RX7) (T := TX7) (N := 4) rfl inX7w (by decide) rfl rfl rfl wd_390 dX7_right_34 rfl) <|
  am_kc (ak_getR (C := RX0) (T := TX0) (N := 13) rfl inX0w (by decide) rfl rfl rfl wd_194 dX7_right_37 rfl) <|
  am_kc (ak_astore dX7_right_40 rfl) <|
  am_kc (ak_iload_n dX7_right_42 rfl rfl) <|
  am_kc (ak_bipush dX7_right_43 (by decide +kernel) rfl) <|
  am_kc (ak_imul dX7_right_45 rfl) <|
  am_kc (ak_iload_n dX7_right_46 rfl rfl) <|
  am_kc (ak_iadd dX7_right_47 rfl) <|
  am_kc (ak_istore dX7_right_48 rfl) <|
  am_kc (ak_iload dX7_right_50 rfl) <|
  am_kc (ak_aload dX7_right_52 rfl) <|
  am_kc (ak_getR (C := RX2) (T := TX2) (N := 8) rfl inX2w (by decide) rfl rfl rfl wd_116 dX7_right_54 rfl) <|
  am_kc (ak_iload dX7_right_57 rfl) <|
  am_kc (ak_iald (t := 0) (fun _ => rfl) rfl dX7_right_59 rfl) <|
  am_kc (ak_icmp_ge dX7_right_60 (by decide +kernel) rfl) <|
  am_kc (ak_bipush dX7_right_63 (by decide +kernel) rfl) <|
  am_kc (ak_retI dX7_right_65) <|
  am_kc (ak_aload dX7_right_66 rfl) <|
  am_kc (ak_getR (C := RX2) (T := TX2) (N := 8) rfl inX2w (by decide) rfl rfl rfl wd_116 dX7_right_68 rfl) <|
  am_kc (ak_iload dX7_right_71 rfl) <|
  am_kc (ak_iald (t := 0) (fun _ => rfl) rfl dX7_right_73 rfl) <|
  am_kc (ak_iconst dX7_right_74 (by decide +kernel) rfl) <|
  am_kc (ak_icmp_eq dX7_right_75 (by decide +kernel) rfl) <|
  am_kc (ak_aload dX7_right_78 rfl) <|
  am_kc (ak_getR (C := RX2) (T := TX2) (N := 8) rfl inX2w (by decide) rfl rfl rfl wd_120 dX7_right_80 rfl) <|
  am_kc (ak_iload dX7_right_83 rfl) <|
  am_kc (ak_iald (t := 0) (fun _ => rfl) rfl dX7_right_85 rfl) <|
  am_kc (ak_iconst dX7_right_86 (by decide +kernel) rfl) <|
  am_kc (ak_icmp_eq dX7_right_87 (by decide +kernel) rfl) <|
  am_kc (ak_bipush dX7_right_90 (by decide +kernel) rfl) <|
  am_kc (ak_retI dX7_right_92) <|
  am_kc (ak_aload dX7_right_93 rfl) <|
  am_kc (ak_getR (C := RX2) (T := TX2) (N := 8) rfl inX2w (by decide) rfl rfl rfl wd_118 dX7_right_95 rfl) <|
  am_kc (ak_iload dX7_right_98 rfl) <|
  am_kc (ak_iload_n dX7_right_100 rfl rfl) <|
  am_kc (ak_iast (t := 0) (fun _ => rfl) rfl dX7_right_101 rfl) <|
  am_kc (ak_aload dX7_right_102 rfl) <|
  am_kc (ak_getR (C := RX2) (T := TX2) (N := 8) rfl inX2w (by decide) rfl rfl rfl wd_120 dX7_right_104 rfl) <|
  am_kc (ak_iload dX7_right_107 rfl) <|
  am_kc (ak_iload dX7_right_109 rfl) <|
  am_kc (ak_iast (t := 0) (fun _ => rfl) rfl dX7_right_111 rfl) <|
  am_kc (ak_iconst dX7_right_112 (by decide +kernel) rfl) <|
  am_kc (ak_retI dX7_right_113) <| am_kn
def c_right (M : am_M) (p y c k : Int32) : Int32 × am_M := if 0 ≤ p ∧ p < M.1 21 7 then (if 0 ≤ y ∧ y < 40 then (if 0 ≤ c ∧ c ≤ 10000000 then (if 0 ≤ k ∧ k < 40 then (if M.1 26 (p * 40 + y).toNatClampNeg ≤ k then (if M.1 26 (p * 40 + y).toNatClampNeg = -1 then ((-3 : Int32), M) else (if M.1 28 (p * 40 + y).toNatClampNeg = -1 then (1, am_wI (am_wI M 27 (p * 40 + y).toNatClampNeg c) 28 (p * 40 + y).toNatClampNeg k) else ((-3 : Int32), M))) else ((-2 : Int32), M)) else ((-2 : Int32), M)) else ((-2 : Int32), M)) else ((-2 : Int32), M)) else ((-2 : Int32), M)
def TX7_right : am_T := fun live as M R => match as with
  | [.ref n, .int p, .int y, .int c, .int k] => am_mn live ∧ n = 0 ∧ (g_hI M ∧ g_rI M) ∧ R (some (.int (c_right M p y c k).1)) (c_right M p y c k).2
  | _ => False
set_option maxRecDepth 100000 in
set_option maxHeartbeats 4000000 in
theorem metX7_right : am_Met yX7_right cX7_right 7 (some .int) (1) (21) TX7_right := by
  refine am_met (own := RX7) (by decide +kernel) rfl kX7_right koX7_right 150 (fun _ _ _ _ _ => none) (fun live as M Ret h => ?_) (fun _ _ _ _ _ _ _ _ hI => by cases hI)
  unfold TX7_right at h
  split at h
  · next n p y c k =>
    refine ⟨Nat.le_of_ble_eq_true rfl, ?_⟩
    change am_wp _ _ _ _ [(0, Value.ref n), (1, Value.int p), (2, Value.int y), (3, Value.int c), (4, Value.int k)] _ _
    obtain ⟨hmn, rfl, ⟨hH, hR⟩, h⟩ := h
    have hmn2 := hmn
    obtain ⟨i1, i2, rfl⟩ := hmn2
    by_cases z0 : 0 ≤ p ∧ p < M.1 21 7
    rotate_left
    · skip
      have q0 : (if 0 ≤ p ∧ p < M.1 21 7 then (1 : Int32) else 0) = 0 := if_neg z0
      have e : c_right M p y c k = ((-2 : Int32), M) := by unfold c_right; rw [if_neg z0]
      rw [e] at h
      repeat' (first | (with_reducible exact hmn) | (with_reducible exact h) | apply And.intro | exact rfl | (intro hx; with_reducible exact absurd q0 hx) | (intro hx; exact absurd hx (by decide)) | (intro hx; exact absurd (by decide) hx) | decide | intro hx | (refine Exists.intro _ (And.intro rfl ?_)))
      all_goals try first | (with_reducible change am_tI _ _) | (change Ret _ _) | (change Ret _ _ _) | (change Exists _)
      all_goals try dsimp only at *
      all_goals try exact absurd ‹(1000 : Int64) = 0› (by decide)
      all_goals first | exact h | exact hi.1 | (rw [l26]; exact hi.2) | (rw [l27]; exact hi.2) | (rw [l28]; exact hi.2) | skip
    · skip
      have q0 : ¬ ((if 0 ≤ p ∧ p < M.1 21 7 then (1 : Int32) else 0) = 0) := by rw [if_pos z0]; decide
      by_cases z1 : 0 ≤ y ∧ y < 40
      rotate_left
      · skip
        have q1 : (if 0 ≤ y ∧ y < 40 then (1 : Int32) else 0) = 0 := if_neg z1
        have e : c_right M p y c k = ((-2 : Int32), M) := by unfold c_right; rw [if_pos z0, if_neg z1]
        rw [e] at h
        repeat' (first | (with_reducible exact hmn) | (with_reducible exact h) | apply And.intro | exact rfl | (intro hx; with_reducible exact absurd hx q0) | (intro hx; with_reducible exact absurd q1 hx) | (intro hx; exact absurd hx (by decide)) | (intro hx; exact absurd (by decide) hx) | decide | intro hx | (refine Exists.intro _ (And.intro rfl ?_)))
        all_goals try first | (with_reducible change am_tI _ _) | (change Ret _ _) | (change Ret _ _ _) | (change Exists _)
        all_goals try dsimp only at *
        all_goals try exact absurd ‹(1000 : Int64) = 0› (by decide)
        all_goals first | exact h | exact hi.1 | (rw [l26]; exact hi.2) | (rw [l27]; exact hi.2) | (rw [l28]; exact hi.2) | skip
      · skip
        have q1 : ¬ ((if 0 ≤ y ∧ y < 40 then (1 : Int32) else 0) = 0) := by rw [if_pos z1]; decide
        by_cases z2 : 0 ≤ c ∧ c ≤ 10000000
        rotate_left
        · skip
          have q2 : (if 0 ≤ c ∧ c ≤ 10000000 then (1 : Int32) else 0) = 0 := if_neg z2
          have e : c_right M p y c k = ((-2 : Int32), M) := by unfold c_right; rw [if_pos z0, if_pos z1, if_neg z2]
          rw [e] at h
          repeat' (first | (with_reducible exact hmn) | (with_reducible exact h) | apply And.intro | exact rfl | (intro hx; with_reducible exact absurd hx q0) | (intro hx; with_reducible exact absurd hx q1) | (intro hx; with_reducible exact absurd q2 hx) | (intro hx; exact absurd hx (by decide)) | (intro hx; exact absurd (by decide) hx) | decide | intro hx | (refine Exists.intro _ (And.intro rfl ?_)))
          all_goals try first | (with_reducible change am_tI _ _) | (change Ret _ _) | (change Ret _ _ _) | (change Exists _)
          all_goals try dsimp only at *
          all_goals try exact absurd ‹(1000 : Int64) = 0› (by decide)
          all_goals first | exact h | exact hi.1 | (rw [l26]; exact hi.2) | (rw [l27]; exact hi.2) | (rw [l28]; exact hi.2) | skip
        · skip
          have q2 : ¬ ((if 0 ≤ c ∧ c ≤ 10000000 then (1 : Int32) else 0) = 0) := by rw [if_pos z2]; decide
          by_cases z3 : 0 ≤ k ∧ k < 40
          rotate_left
          · skip
            have q3 : (if 0 ≤ k ∧ k < 40 then (1 : Int32) else 0) = 0 := if_neg z3
            have e : c_right M p y c k = ((-2 : Int32), M) := by unfold c_right; rw [if_pos z0, if_pos z1, if_pos z2, if_neg z3]
            rw [e] at h
            repeat' (first | (with_reducible exact hmn) | (with_reducible exact h) | apply And.intro | exact rfl | (intro hx; with_reducible exact absurd hx q0) | (intro hx; with_reducible exact absurd hx q1) | (intro hx; with_reducible exact absurd hx q2) | (intro hx; with_reducible exact absurd q3 hx) | (intro hx; exact absurd hx (by decide)) | (intro hx; exact absurd (by decide) hx) | decide | intro hx | (refine Exists.intro _ (And.intro rfl ?_)))
            all_goals try first | (with_reducible change am_tI _ _) | (change Ret _ _) | (change Ret _ _ _) | (change Exists _)
            all_goals try dsimp only at *
            all_goals try exact absurd ‹(1000 : Int64) = 0› (by decide)
            all_goals first | exact h | exact hi.1 | (rw [l26]; exact hi.2) | (rw [l27]; exact hi.2) | (rw [l28]; exact hi.2) | skip
          · skip
            have q3 : ¬ ((if 0 ≤ k ∧ k < 40 then (1 : Int32) else 0) = 0) := by rw [if_pos z3]; decide
            have l26 : am_len 26 = 480 := rfl
            have l27 : am_len 27 = 480 := rfl
            have l28 : am_len 28 = 480 := rfl
            have hp : am_in p 12 := ⟨by have q := z0.1; simp only [i_le, Int32.reduceToInt] at q; omega, by have q := z0.2; have q2 := hH.pe; simp only [i_lt] at q; omega⟩
            have hy : am_in y 40 := ⟨by have q := z1.1; simp only [i_le, Int32.reduceToInt] at q; omega, by have q := z1.2; simp only [i_lt, Int32.reduceToInt] at q; omega⟩
            have ei := g_40 (by decide) hp hy
            have hi : am_in (p * 40 + y) 480 := ⟨by have q := hp.1; have q2 := hy.1; omega, by have q := hp.2; have q2 := hy.2; omega⟩
            by_cases z4 : M.1 26 (p * 40 + y).toNatClampNeg ≤ k
            rotate_left
            · skip
              have y4 : (k : Int32) < M.1 26 (p * 40 + y).toNatClampNeg := Int32.not_le.mp z4
              have e : c_right M p y c k = ((-2 : Int32), M) := by unfold c_right; rw [if_pos z0, if_pos z1, if_pos z2, if_pos z3, if_neg z4]
              rw [e] at h
              repeat' (first | (with_reducible exact hmn) | (with_reducible exact h) | apply And.intro | exact rfl | (intro hx; with_reducible exact absurd hx q0) | (intro hx; with_reducible exact absurd hx q1) | (intro hx; with_reducible exact absurd hx q2) | (intro hx; with_reducible exact absurd hx q3) | (intro hx; with_reducible exact absurd hx z4) | (intro hx; with_reducible exact absurd y4 hx) | (intro hx; exact absurd hx (by decide)) | (intro hx; exact absurd (by decide) hx) | decide | intro hx | (refine Exists.intro _ (And.intro rfl ?_)))
              all_goals try first | (with_reducible change am_tI _ _) | (change Ret _ _) | (change Ret _ _ _) | (change Exists _)
              all_goals try dsimp only at *
              all_goals try exact absurd ‹(1000 : Int64) = 0› (by decide)
              all_goals first | exact h | exact hi.1 | (rw [l26]; exact hi.2) | (rw [l27]; exact hi.2) | (rw [l28]; exact hi.2) | skip
            · skip
              have y4 : ¬ (k : Int32) < M.1 26 (p * 40 + y).toNatClampNeg := Int32.not_lt.mpr z4
              by_cases z5 : M.1 26 (p * 40 + y).toNatClampNeg = -1
              · skip
                have e : c_right M p y c k = ((-3 : Int32), M) := by unfold c_right; rw [if_pos z0, if_pos z1, if_pos z2, if_pos z3, if_pos z4, if_pos z5]
                rw [e] at h
                repeat' (first | (with_reducible exact hmn) | (with_reducible exact h) | apply And.intro | exact rfl | (intro hx; with_reducible exact absurd hx q0) | (intro hx; with_reducible exact absurd hx q1) | (intro hx; with_reducible exact absurd hx q2) | (intro hx; with_reducible exact absurd hx q3) | (intro hx; with_reducible exact absurd hx y4) | (intro hx; with_reducible exact absurd z4 hx) | (intro hx; with_reducible exact absurd z5 hx) | (intro hx; exact absurd hx (by decide)) | (intro hx; exact absurd (by decide) hx) | decide | intro hx | (refine Exists.intro _ (And.intro rfl ?_)))
                all_goals try first | (with_reducible change am_tI _ _) | (change Ret _ _) | (change Ret _ _ _) | (change Exists _)
                all_goals try dsimp only at *
                all_goals try exact absurd ‹(1000 : Int64) = 0› (by decide)
                all_goals first | exact h | exact hi.1 | (rw [l26]; exact hi.2) | (rw [l27]; exact hi.2) | (rw [l28]; exact hi.2) | skip
              · skip
                by_cases z6 : M.1 28 (p * 40 + y).toNatClampNeg = -1
                rotate_left
                · skip
                  have e : c_right M p y c k = ((-3 : Int32), M) := by unfold c_right; rw [if_pos z0, if_pos z1, if_pos z2, if_pos z3, if_pos z4, if_neg z5, if_neg z6]
                  rw [e] at h
                  repeat' (first | (with_reducible exact hmn) | (with_reducible exact h) | apply And.intro | exact rfl | (intro hx; with_reducible exact absurd hx q0) | (intro hx; with_reducible exact absurd hx q1) | (intro hx; with_reducible exact absurd hx q2) | (intro hx; with_reducible exact absurd hx q3) | (intro hx; with_reducible exact absurd hx y4) | (intro hx; with_reducible exact absurd hx z5) | (intro hx; with_reducible exact absurd hx z6) | (intro hx; with_reducible exact absurd z4 hx) | (intro hx; exact absurd hx (by decide)) | (intro hx; exact absurd (by decide) hx) | decide | intro hx | (refine Exists.intro _ (And.intro rfl ?_)))
                  all_goals try first | (with_reducible change am_tI _ _) | (change Ret _ _) | (change Ret _ _ _) | (change Exists _)
                  all_goals try dsimp only at *
                  all_goals try exact absurd ‹(1000 : Int64) = 0› (by decide)
                  all_goals first | exact h | exact hi.1 | (rw [l26]; exact hi.2) | (rw [l27]; exact hi.2) | (rw [l28]; exact hi.2) | skip
                · skip
                  have e : c_right M p y c k = (1, am_wI (am_wI M 27 (p * 40 + y).toNatClampNeg c) 28 (p * 40 + y).toNatClampNeg k) := by unfold c_right; rw [if_pos z0, if_pos z1, if_pos z2, if_pos z3, if_pos z4, if_neg z5, if_pos z6]
                  rw [e] at h
                  repeat' (first | (with_reducible exact hmn) | apply And.intro | exact rfl | (intro hx; with_reducible exact absurd hx q0) | (intro hx; with_reducible exact absurd hx q1) | (intro hx; with_reducible exact absurd hx q2) | (intro hx; with_reducible exact absurd hx q3) | (intro hx; with_reducible exact absurd hx y4) | (intro hx; with_reducible exact absurd hx z5) | (intro hx; with_reducible exact absurd z4 hx) | (intro hx; with_reducible exact absurd z6 hx) | (intro hx; exact absurd hx (by decide)) | (intro hx; exact absurd (by decide) hx) | decide | intro hx | (refine Exists.intro _ (And.intro rfl ?_)))
                  all_goals try first | (with_reducible change am_tI _ _) | (change Ret _ _) | (change Ret _ _ _) | (change Exists _)
                  all_goals try dsimp only at *
                  all_goals try exact absurd ‹(1000 : Int64) = 0› (by decide)
                  all_goals first | exact h | exact hi.1 | (rw [l26]; exact hi.2) | (rw [l27]; exact hi.2) | (rw [l28]; exact hi.2) | skip
  · exact h.elim
set_option maxRecDepth 100000 in
theorem wd_466 : Cond.methodLink "LearnLoans" 98 yX7_isPlan ∈ am_ws := am_wsi (List.mem_of_getElem? (i := 466) (by rfl)) (by decide +kernel)
set_option maxRecDepth 100000 in
theorem wd_467 : Cond.static yX7_isPlan ∈ am_ws := am_wsi (List.mem_of_getElem? (i := 467) (by rfl)) (by decide +kernel)
set_option maxRecDepth 100000 in
theorem wd_468 : Cond.code yX7_isPlan cX7_isPlan 1 (some .boolean) ∈ am_ws := am_wsi (List.mem_of_getElem? (i := 468) (by rfl)) (by decide +kernel)
set_option maxRecDepth 100000 in
theorem wd_469 : Cond.methodLink "LearnLoans" 101 yX7_isNumber ∈ am_ws := am_wsi (List.mem_of_getElem? (i := 469) (by rfl)) (by decide +kernel)
set_option maxRecDepth 100000 in
theorem wd_470 : Cond.static yX7_isNumber ∈ am_ws := am_wsi (List.mem_of_getElem? (i := 470) (by rfl)) (by decide +kernel)
set_option maxRecDepth 100000 in
theorem wd_471 : Cond.code yX7_isNumber cX7_isNumber 2 (some .boolean) ∈ am_ws := am_wsi (List.mem_of_getElem? (i := 471) (by rfl)) (by decide +kernel)
theorem dX7_act_0 : decode cX7_act 0 = .ok (.iload_n 1, 1) := by decide +kernel
theorem dX7_act_1 : decode cX7_act 1 = .ok (.invokestatic 98, 3) := by decide +kernel
theorem dX7_act_4 : decode cX7_act 4 = .ok (.ifCond .eq 29, 3) := by decide +kernel
theorem dX7_act_7 : decode cX7_act 7 = .ok (.iload_n 2, 1) := by decide +kernel
theorem dX7_act_8 : decode cX7_act 8 = .ok (.iload_n 3, 1) := by decide +kernel
theorem dX7_act_9 : decode cX7_act 9 = .ok (.invokestatic 101, 3) := by decide +kernel
theorem dX7_act_12 : decode cX7_act 12 = .ok (.ifCond .eq 21, 3) := by decide +kernel
theorem dX7_act_15 : decode cX7_act 15 = .ok (.iload 4, 2) := by decide +kernel
theorem dX7_act_17 : decode cX7_act 17 = .ok (.invokestatic 34, 3) := by decide +kernel
theorem dX7_act_20 : decode cX7_act 20 = .ok (.ifCond .eq 13, 3) := by decide +kernel
theorem dX7_act_23 : decode cX7_act 23 = .ok (.iload 5, 2) := by decide +kernel
theorem dX7_act_25 : decode cX7_act 25 = .ok (.iload 6, 2) := by decide +kernel
theorem dX7_act_27 : decode cX7_act 27 = .ok (.invokestatic 59, 3) := by decide +kernel
theorem dX7_act_30 : decode cX7_act 30 = .ok (.ifCond .ne 6, 3) := by decide +kernel
theorem dX7_act_33 : decode cX7_act 33 = .ok (.bipush (-2), 2) := by decide +kernel
theorem dX7_act_35 : decode cX7_act 35 = .ok (.ireturn, 1) := by decide +kernel
theorem dX7_act_36 : decode cX7_act 36 = .ok (.aload_n 0, 1) := by decide +kernel
theorem dX7_act_37 : decode cX7_act 37 = .ok (.getfield 27, 3) := by decide +kernel
theorem dX7_act_40 : decode cX7_act 40 = .ok (.getfield 104, 3) := by decide +kernel
theorem dX7_act_43 : decode cX7_act 43 = .ok (.getfield 108, 3) := by decide +kernel
theorem dX7_act_46 : decode cX7_act 46 = .ok (.bipush 60, 2) := by decide +kernel
theorem dX7_act_48 : decode cX7_act 48 = .ok (.if_icmp .lt 6, 3) := by decide +kernel
theorem dX7_act_51 : decode cX7_act 51 = .ok (.bipush (-4), 2) := by decide +kernel
theorem dX7_act_53 : decode cX7_act 53 = .ok (.ireturn, 1) := by decide +kernel
theorem dX7_act_54 : decode cX7_act 54 = .ok (.aload_n 0, 1) := by decide +kernel
theorem dX7_act_55 : decode cX7_act 55 = .ok (.getfield 27, 3) := by decide +kernel
theorem dX7_act_58 : decode cX7_act 58 = .ok (.iload_n 1, 1) := by decide +kernel
theorem dX7_act_59 : decode cX7_act 59 = .ok (.iload_n 2, 1) := by decide +kernel
theorem dX7_act_60 : decode cX7_act 60 = .ok (.iload_n 3, 1) := by decide +kernel
theorem dX7_act_61 : decode cX7_act 61 = .ok (.iload 4, 2) := by decide +kernel
theorem dX7_act_63 : decode cX7_act 63 = .ok (.iload 5, 2) := by decide +kernel
theorem dX7_act_65 : decode cX7_act 65 = .ok (.iload 6, 2) := by decide +kernel
theorem dX7_act_67 : decode cX7_act 67 = .ok (.invokevirtual 111, 3) := by decide +kernel
theorem dX7_act_70 : decode cX7_act 70 = .ok (.ireturn, 1) := by decide +kernel
def kX7_act (live : am_E) (Ret : am_R) : am_code := [(0, am_iload 1 1), (1, am_callS live 1 TX7_isPlan 4), (4, am_if1 (fun x => x = 0) 33 7), (7, am_iload 2 8), (8, am_iload 3 9), (9, am_callS live 2 TX7_isNumber 12), (12, am_if1 (fun x => x = 0) 33 15), (15, am_iload 4 17), (17, am_callS live 1 TX7_isYear 20), (20, am_if1 (fun x => x = 0) 33 23), (23, am_iload 5 25), (25, am_iload 6 27), (27, am_callS live 2 TX7_isSpan 30), (30, am_if1 (fun x => x = 0) 33 36), (33, am_const (.int (-2)) 35), (35, am_retI Ret), (36, am_aload 0 37), (37, am_getR live 7 0 40), (40, am_getR live 0 3 43), (43, am_getI live 3 2 46), (46, am_const (.int 60) 48), (48, am_if2 (fun x y => x < y) 54 51), (51, am_const (.int (-4)) 53), (53, am_retI Ret), (54, am_aload 0 55), (55, am_getR live 7 0 58), (58, am_iload 1 59), (59, am_iload 2 60), (60, am_iload 3 61), (61, am_iload 4 63), (63, am_iload 5 65), (65, am_iload 6 67), (67, am_callV live 0 6 TX0_addAct 70), (70, am_retI Ret)]
theorem koX7_act (live : am_E) (Ret : am_R) : ∀ q ∈ kX7_act live Ret, am_ok RX7 cX7_act 7 (some .int) 3 74 live Ret q.1 q.2 :=
  am_kc (ak_iload_n dX7_act_0 rfl rfl) <|
  am_kc (ak_callS metX7_isPlan ⟨rfl, by decide +kernel, by decide +kernel, by decide +kernel⟩ (am_w4 wd_466 wd_467 wd_58 wd_468) (by decide) dX7_act_1 rfl) <|
  am_kc (ak_if_eq dX7_act_4 (by decide +kernel) rfl) <|
  am_kc (ak_iload_n dX7_act_7 rfl rfl) <|
  am_kc (ak_iload_n dX7_act_8 rfl rfl) <|
  am_kc (ak_callS metX7_isNumber ⟨rfl, by decide +kernel, by decide +kernel, by decide +kernel⟩ (am_w4 wd_469 wd_470 wd_58 wd_471) (by decide) dX7_act_9 rfl) <|
  am_kc (ak_if_eq dX7_act_12 (by decide +kernel) rfl) <|
  am_kc (ak_iload dX7_act_15 rfl) <|
  am_kc (ak_callS metX7_isYear ⟨rfl, by decide +kernel, by decide +kernel, by decide +kernel⟩ (am_w4 wd_407 wd_408 wd_58 wd_409) (by decide) dX7_act_17 rfl) <|
  am_kc (ak_if_eq dX7_act_20 (by decide +kernel) rfl) <|
  am_kc (ak_iload dX7_act_23 rfl) <|
  am_kc (ak_iload dX7_act_25 rfl) <|
  am_kc (ak_callS metX7_isSpan ⟨rfl, by decide +kernel, by decide +kernel, by decide +kernel⟩ (am_w4 wd_421 wd_422 wd_58 wd_423) (by decide) dX7_act_27 rfl) <|
  am_kc (ak_if_ne dX7_act_30 (by decide +kernel) rfl) <|
  am_kc (ak_bipush dX7_act_33 (by decide +kernel) rfl) <|
  am_kc (ak_retI dX7_act_35) <|
  am_kc (ak_aload_n dX7_act_36 rfl rfl) <|
  am_kc (ak_getR (C := RX7) (T := TX7) (N := 4) rfl inX7w (by decide) rfl rfl rfl wd_390 dX7_act_37 rfl) <|
  am_kc (ak_getR (C := RX0) (T := TX0) (N := 13) rfl inX0w (by decide) rfl rfl rfl wd_204 dX7_act_40 rfl) <|
  am_kc (ak_getI (C := RX3) (T := TX3) (N := 3) rfl inX3w (by decide) rfl rfl rfl wd_152 dX7_act_43 rfl) <|
  am_kc (ak_bipush dX7_act_46 (by decide +kernel) rfl) <|
  am_kc (ak_icmp_lt dX7_act_48 (by decide +kernel) rfl) <|
  am_kc (ak_bipush dX7_act_51 (by decide +kernel) rfl) <|
  am_kc (ak_retI dX7_act_53) <|
  am_kc (ak_aload_n dX7_act_54 rfl rfl) <|
  am_kc (ak_getR (C := RX7) (T := TX7) (N := 4) rfl inX7w (by decide) rfl rfl rfl wd_390 dX7_act_55 rfl) <|
  am_kc (ak_iload_n dX7_act_58 rfl rfl) <|
  am_kc (ak_iload_n dX7_act_59 rfl rfl) <|
  am_kc (ak_iload_n dX7_act_60 rfl rfl) <|
  am_kc (ak_iload dX7_act_61 rfl) <|
  am_kc (ak_iload dX7_act_63 rfl) <|
  am_kc (ak_iload dX7_act_65 rfl) <|
  am_kc (ak_callV (C := RX0) (F := TX0) (N := 13) metX0_addAct rfl ⟨rfl, by decide +kernel, by decide +kernel, by decide +kernel⟩ (am_w5 wd_476 wd_477 wd_478 wd_61 wd_479) (by decide) dX7_act_67 rfl) <|
  am_kc (ak_retI dX7_act_70) <| am_kn
def c_act (M : am_M) (pl w v f b t : Int32) : Int32 × am_M := if 0 ≤ pl ∧ pl < 5 then (if (0 ≤ w ∧ w < 6) ∧ am_sf 1 w.toNatClampNeg ≤ v ∧ v ≤ am_sf 2 w.toNatClampNeg then (if 0 ≤ f ∧ f < 40 then (if 0 ≤ b ∧ b ≤ t ∧ t < 40 then (if M.1 31 2 < 60 then (M.1 31 2, am_addAct M pl w v f b t) else ((-4 : Int32), M)) else ((-2 : Int32), M)) else ((-2 : Int32), M)) else ((-2 : Int32), M)) else ((-2 : Int32), M)
def TX7_act : am_T := fun live as M R => match as with
  | [.ref n, .int pl, .int w, .int v, .int f, .int b, .int t] => am_mn live ∧ n = 0 ∧ (g_hI M ∧ g_rI M) ∧ R (some (.int (c_act M pl w v f b t).1)) (c_act M pl w v f b t).2
  | _ => False
set_option maxRecDepth 100000 in
set_option maxHeartbeats 4000000 in
theorem metX7_act : am_Met yX7_act cX7_act 7 (some .int) (3) (74) TX7_act := by
  refine am_met (own := RX7) (by decide +kernel) rfl kX7_act koX7_act 150 (fun _ _ _ _ _ => none) (fun live as M Ret h => ?_) (fun _ _ _ _ _ _ _ _ hI => by cases hI)
  unfold TX7_act at h
  split at h
  · next n pl w v f b t =>
    refine ⟨Nat.le_of_ble_eq_true rfl, ?_⟩
    change am_wp _ _ _ _ [(0, Value.ref n), (1, Value.int pl), (2, Value.int w), (3, Value.int v), (4, Value.int f), (5, Value.int b), (6, Value.int t)] _ _
    obtain ⟨hmn, rfl, ⟨hH, hR⟩, h⟩ := h
    have hmn2 := hmn
    obtain ⟨i1, i2, rfl⟩ := hmn2
    by_cases z0 : 0 ≤ pl ∧ pl < 5
    rotate_left
    · skip
      have q0 : (if 0 ≤ pl ∧ pl < 5 then (1 : Int32) else 0) = 0 := if_neg z0
      have e : c_act M pl w v f b t = ((-2 : Int32), M) := by unfold c_act; rw [if_neg z0]
      rw [e] at h
      repeat' (first | (with_reducible exact hmn) | (with_reducible exact h) | apply And.intro | exact rfl | (intro hx; with_reducible exact absurd q0 hx) | (intro hx; exact absurd hx (by decide)) | (intro hx; exact absurd (by decide) hx) | decide | intro hx | (refine Exists.intro _ (And.intro rfl ?_)))
      all_goals try first | (with_reducible change am_tI _ _) | (change Ret _ _) | (change Ret _ _ _) | (change Exists _)
      all_goals try dsimp only at *
      all_goals try exact absurd ‹(1000 : Int64) = 0› (by decide)
      all_goals first | exact h | skip
    · skip
      have q0 : ¬ ((if 0 ≤ pl ∧ pl < 5 then (1 : Int32) else 0) = 0) := by rw [if_pos z0]; decide
      by_cases z1 : (0 ≤ w ∧ w < 6) ∧ am_sf 1 w.toNatClampNeg ≤ v ∧ v ≤ am_sf 2 w.toNatClampNeg
      rotate_left
      · skip
        have q1 : ¬ am_isNum w v := z1
        have e : c_act M pl w v f b t = ((-2 : Int32), M) := by unfold c_act; rw [if_pos z0, if_neg z1]
        rw [e] at h
        repeat' (first | (with_reducible exact hmn) | (with_reducible exact h) | apply And.intro | exact rfl | (intro hx; with_reducible exact absurd hx q0) | (intro hx; with_reducible exact absurd hx q1) | (intro hx; exact absurd hx (by decide)) | (intro hx; exact absurd (by decide) hx) | decide | intro hx | (refine Exists.intro _ (And.intro rfl ?_)))
        all_goals try first | (with_reducible change am_tI _ _) | (change Ret _ _) | (change Ret _ _ _) | (change Exists _)
        all_goals try dsimp only at *
        all_goals try exact absurd ‹(1000 : Int64) = 0› (by decide)
        all_goals first | exact h | skip
      · skip
        have q1 : am_isNum w v := z1
        by_cases z2 : 0 ≤ f ∧ f < 40
        rotate_left
        · skip
          have q2 : (if 0 ≤ f ∧ f < 40 then (1 : Int32) else 0) = 0 := if_neg z2
          have e : c_act M pl w v f b t = ((-2 : Int32), M) := by unfold c_act; rw [if_pos z0, if_pos z1, if_neg z2]
          rw [e] at h
          repeat' (first | (with_reducible exact hmn) | (with_reducible exact h) | apply And.intro | exact rfl | (intro hx; with_reducible exact absurd hx q0) | (intro hx; with_reducible exact absurd q1 hx) | (intro hx; with_reducible exact absurd q2 hx) | (intro hx; exact absurd hx (by decide)) | (intro hx; exact absurd (by decide) hx) | decide | intro hx | (refine Exists.intro _ (And.intro rfl ?_)))
          all_goals try first | (with_reducible change am_tI _ _) | (change Ret _ _) | (change Ret _ _ _) | (change Exists _)
          all_goals try dsimp only at *
          all_goals try exact absurd ‹(1000 : Int64) = 0› (by decide)
          all_goals first | exact h | skip
        · skip
          have q2 : ¬ ((if 0 ≤ f ∧ f < 40 then (1 : Int32) else 0) = 0) := by rw [if_pos z2]; decide
          by_cases z3 : 0 ≤ b ∧ b ≤ t ∧ t < 40
          rotate_left
          · skip
            have q3 : (if 0 ≤ b ∧ b ≤ t ∧ t < 40 then (1 : Int32) else 0) = 0 := if_neg z3
            have e : c_act M pl w v f b t = ((-2 : Int32), M) := by unfold c_act; rw [if_pos z0, if_pos z1, if_pos z2, if_neg z3]
            rw [e] at h
            repeat' (first | (with_reducible exact hmn) | (with_reducible exact h) | apply And.intro | exact rfl | (intro hx; with_reducible exact absurd hx q0) | (intro hx; with_reducible exact absurd hx q2) | (intro hx; with_reducible exact absurd q1 hx) | (intro hx; with_reducible exact absurd q3 hx) | (intro hx; exact absurd hx (by decide)) | (intro hx; exact absurd (by decide) hx) | decide | intro hx | (refine Exists.intro _ (And.intro rfl ?_)))
            all_goals try first | (with_reducible change am_tI _ _) | (change Ret _ _) | (change Ret _ _ _) | (change Exists _)
            all_goals try dsimp only at *
            all_goals try exact absurd ‹(1000 : Int64) = 0› (by decide)
            all_goals first | exact h | skip
          · skip
            have q3 : ¬ ((if 0 ≤ b ∧ b ≤ t ∧ t < 40 then (1 : Int32) else 0) = 0) := by rw [if_pos z3]; decide
            by_cases z4 : M.1 31 2 < 60
            rotate_left
            · skip
              have y4 : (60 : Int32) ≤ M.1 31 2 := Int32.not_lt.mp z4
              have e : c_act M pl w v f b t = ((-4 : Int32), M) := by unfold c_act; rw [if_pos z0, if_pos z1, if_pos z2, if_pos z3, if_neg z4]
              rw [e] at h
              repeat' (first | (with_reducible exact hmn) | (with_reducible exact h) | apply And.intro | exact rfl | (intro hx; with_reducible exact absurd hx q0) | (intro hx; with_reducible exact absurd hx q2) | (intro hx; with_reducible exact absurd hx q3) | (intro hx; with_reducible exact absurd hx z4) | (intro hx; with_reducible exact absurd q1 hx) | (intro hx; with_reducible exact absurd y4 hx) | (intro hx; exact absurd hx (by decide)) | (intro hx; exact absurd (by decide) hx) | decide | intro hx | (refine Exists.intro _ (And.intro rfl ?_)))
              all_goals try first | (with_reducible change am_tI _ _) | (change Ret _ _) | (change Ret _ _ _) | (change Exists _)
              all_goals try dsimp only at *
              all_goals try exact absurd ‹(1000 : Int64) = 0› (by decide)
              all_goals first | exact h | skip
            · skip
              have y4 : ¬ (60 : Int32) ≤ M.1 31 2 := Int32.not_le.mpr z4
              have e : c_act M pl w v f b t = (M.1 31 2, am_addAct M pl w v f b t) := by unfold c_act; rw [if_pos z0, if_pos z1, if_pos z2, if_pos z3, if_pos z4]
              rw [e] at h
              repeat' (first | (with_reducible exact hmn) | apply And.intro | exact rfl | (intro hx; with_reducible exact absurd hx q0) | (intro hx; with_reducible exact absurd hx q2) | (intro hx; with_reducible exact absurd hx q3) | (intro hx; with_reducible exact absurd hx y4) | (intro hx; with_reducible exact absurd q1 hx) | (intro hx; with_reducible exact absurd z4 hx) | (intro hx; exact absurd hx (by decide)) | (intro hx; exact absurd (by decide) hx) | decide | intro hx | (refine Exists.intro _ (And.intro rfl ?_)))
              all_goals try first | (with_reducible change am_tI _ _) | (change Ret _ _) | (change Ret _ _ _) | (change Exists _)
              all_goals try dsimp only at *
              all_goals try exact absurd ‹(1000 : Int64) = 0› (by decide)
              all_goals first | exact h | skip
  · exact h.elim
set_option maxRecDepth 100000 in
theorem wd_520 : Cond.methodLink "LearnLoans" 135 yX7_isLoan ∈ am_ws := am_wsi (List.mem_of_getElem? (i := 520) (by rfl)) (by decide +kernel)
set_option maxRecDepth 100000 in
theorem wd_522 : Cond.instanceMethod yX7_isLoan ∈ am_ws := am_wsi (List.mem_of_getElem? (i := 522) (by rfl)) (by decide +kernel)
set_option maxRecDepth 100000 in
theorem wd_2 : Cond.selects "LearnLoans" yX7_isLoan yX7_isLoan ∈ am_ws := am_wsi (List.mem_of_getElem? (i := 2) (by rfl)) (by decide +kernel)
set_option maxRecDepth 100000 in
theorem wd_523 : Cond.code yX7_isLoan cX7_isLoan 2 (some .boolean) ∈ am_ws := am_wsi (List.mem_of_getElem? (i := 523) (by rfl)) (by decide +kernel)
set_option maxRecDepth 100000 in
theorem wd_524 : Cond.methodLink "LearnLoans" 138 yX3_at ∈ am_ws := am_wsi (List.mem_of_getElem? (i := 524) (by rfl)) (by decide +kernel)
set_option maxRecDepth 100000 in
theorem wd_515 : Cond.methodLink "LearnLoans" 128 yX3_put ∈ am_ws := am_wsi (List.mem_of_getElem? (i := 515) (by rfl)) (by decide +kernel)
set_option maxRecDepth 100000 in
theorem wd_525 : Cond.methodLink "LearnLoans" 142 yX0_givenBack ∈ am_ws := am_wsi (List.mem_of_getElem? (i := 525) (by rfl)) (by decide +kernel)
theorem dX7_leave_0 : decode cX7_leave 0 = .ok (.aload_n 0, 1) := by decide +kernel
theorem dX7_leave_1 : decode cX7_leave 1 = .ok (.iload_n 1, 1) := by decide +kernel
theorem dX7_leave_2 : decode cX7_leave 2 = .ok (.invokevirtual 135, 3) := by decide +kernel
theorem dX7_leave_5 : decode cX7_leave 5 = .ok (.ifCond .eq 10, 3) := by decide +kernel
theorem dX7_leave_8 : decode cX7_leave 8 = .ok (.iload_n 2, 1) := by decide +kernel
theorem dX7_leave_9 : decode cX7_leave 9 = .ok (.invokestatic 34, 3) := by decide +kernel
theorem dX7_leave_12 : decode cX7_leave 12 = .ok (.ifCond .ne 6, 3) := by decide +kernel
theorem dX7_leave_15 : decode cX7_leave 15 = .ok (.bipush (-2), 2) := by decide +kernel
theorem dX7_leave_17 : decode cX7_leave 17 = .ok (.ireturn, 1) := by decide +kernel
theorem dX7_leave_18 : decode cX7_leave 18 = .ok (.aload_n 0, 1) := by decide +kernel
theorem dX7_leave_19 : decode cX7_leave 19 = .ok (.getfield 27, 3) := by decide +kernel
theorem dX7_leave_22 : decode cX7_leave 22 = .ok (.getfield 122, 3) := by decide +kernel
theorem dX7_leave_25 : decode cX7_leave 25 = .ok (.astore_n 3, 1) := by decide +kernel
theorem dX7_leave_26 : decode cX7_leave 26 = .ok (.aload_n 3, 1) := by decide +kernel
theorem dX7_leave_27 : decode cX7_leave 27 = .ok (.iload_n 1, 1) := by decide +kernel
theorem dX7_leave_28 : decode cX7_leave 28 = .ok (.iconst 4, 1) := by decide +kernel
theorem dX7_leave_29 : decode cX7_leave 29 = .ok (.invokevirtual 138, 3) := by decide +kernel
theorem dX7_leave_32 : decode cX7_leave 32 = .ok (.iconst 1, 1) := by decide +kernel
theorem dX7_leave_33 : decode cX7_leave 33 = .ok (.if_icmp .ne 13, 3) := by decide +kernel
theorem dX7_leave_36 : decode cX7_leave 36 = .ok (.iload_n 2, 1) := by decide +kernel
theorem dX7_leave_37 : decode cX7_leave 37 = .ok (.aload_n 3, 1) := by decide +kernel
theorem dX7_leave_38 : decode cX7_leave 38 = .ok (.iload_n 1, 1) := by decide +kernel
theorem dX7_leave_39 : decode cX7_leave 39 = .ok (.iconst 2, 1) := by decide +kernel
theorem dX7_leave_40 : decode cX7_leave 40 = .ok (.invokevirtual 138, 3) := by decide +kernel
theorem dX7_leave_43 : decode cX7_leave 43 = .ok (.if_icmp .ge 6, 3) := by decide +kernel
theorem dX7_leave_46 : decode cX7_leave 46 = .ok (.bipush (-2), 2) := by decide +kernel
theorem dX7_leave_48 : decode cX7_leave 48 = .ok (.ireturn, 1) := by decide +kernel
theorem dX7_leave_49 : decode cX7_leave 49 = .ok (.aload_n 3, 1) := by decide +kernel
theorem dX7_leave_50 : decode cX7_leave 50 = .ok (.iload_n 1, 1) := by decide +kernel
theorem dX7_leave_51 : decode cX7_leave 51 = .ok (.iconst 5, 1) := by decide +kernel
theorem dX7_leave_52 : decode cX7_leave 52 = .ok (.invokevirtual 138, 3) := by decide +kernel
theorem dX7_leave_55 : decode cX7_leave 55 = .ok (.iconst (-1), 1) := by decide +kernel
theorem dX7_leave_56 : decode cX7_leave 56 = .ok (.if_icmp .eq 6, 3) := by decide +kernel
theorem dX7_leave_59 : decode cX7_leave 59 = .ok (.bipush (-3), 2) := by decide +kernel
theorem dX7_leave_61 : decode cX7_leave 61 = .ok (.ireturn, 1) := by decide +kernel
theorem dX7_leave_62 : decode cX7_leave 62 = .ok (.aload_n 3, 1) := by decide +kernel
theorem dX7_leave_63 : decode cX7_leave 63 = .ok (.iload_n 1, 1) := by decide +kernel
theorem dX7_leave_64 : decode cX7_leave 64 = .ok (.iconst 5, 1) := by decide +kernel
theorem dX7_leave_65 : decode cX7_leave 65 = .ok (.iload_n 2, 1) := by decide +kernel
theorem dX7_leave_66 : decode cX7_leave 66 = .ok (.invokevirtual 128, 3) := by decide +kernel
theorem dX7_leave_69 : decode cX7_leave 69 = .ok (.aload_n 0, 1) := by decide +kernel
theorem dX7_leave_70 : decode cX7_leave 70 = .ok (.getfield 27, 3) := by decide +kernel
theorem dX7_leave_73 : decode cX7_leave 73 = .ok (.iload_n 1, 1) := by decide +kernel
theorem dX7_leave_74 : decode cX7_leave 74 = .ok (.invokevirtual 142, 3) := by decide +kernel
theorem dX7_leave_77 : decode cX7_leave 77 = .ok (.l2i, 1) := by decide +kernel
theorem dX7_leave_78 : decode cX7_leave 78 = .ok (.ireturn, 1) := by decide +kernel
def kX7_leave (live : am_E) (Ret : am_R) : am_code := [(0, am_aload 0 1), (1, am_iload 1 2), (2, am_callV live 7 1 TX7_isLoan 5), (5, am_if1 (fun x => x = 0) 15 8), (8, am_iload 2 9), (9, am_callS live 1 TX7_isYear 12), (12, am_if1 (fun x => x = 0) 15 18), (15, am_const (.int (-2)) 17), (17, am_retI Ret), (18, am_aload 0 19), (19, am_getR live 7 0 22), (22, am_getR live 0 4 25), (25, am_astore 3 4 26), (26, am_aload 3 27), (27, am_iload 1 28), (28, am_const (.int 4) 29), (29, am_callV live 3 2 TX3_at 32), (32, am_const (.int 1) 33), (33, am_if2 (fun x y => x = y) 36 46), (36, am_iload 2 37), (37, am_aload 3 38), (38, am_iload 1 39), (39, am_const (.int 2) 40), (40, am_callV live 3 2 TX3_at 43), (43, am_if2 (fun x y => y ≤ x) 49 46), (46, am_const (.int (-2)) 48), (48, am_retI Ret), (49, am_aload 3 50), (50, am_iload 1 51), (51, am_const (.int 5) 52), (52, am_callV live 3 2 TX3_at 55), (55, am_const (.int (-1)) 56), (56, am_if2 (fun x y => x = y) 62 59), (59, am_const (.int (-3)) 61), (61, am_retI Ret), (62, am_aload 3 63), (63, am_iload 1 64), (64, am_const (.int 5) 65), (65, am_iload 2 66), (66, am_callV live 3 3 TX3_put 69), (69, am_aload 0 70), (70, am_getR live 7 0 73), (73, am_iload 1 74), (74, am_callV live 0 1 TX0_givenBack 77), (77, am_l2i 78), (78, am_retI Ret)]
theorem koX7_leave (live : am_E) (Ret : am_R) : ∀ q ∈ kX7_leave live Ret, am_ok RX7 cX7_leave 4 (some .int) 2 47 live Ret q.1 q.2 :=
  am_kc (ak_aload_n dX7_leave_0 rfl rfl) <|
  am_kc (ak_iload_n dX7_leave_1 rfl rfl) <|
  am_kc (ak_callV (C := RX7) (F := TX7) (N := 4) metX7_isLoan rfl ⟨rfl, by decide +kernel, by decide +kernel, by decide +kernel⟩ (am_w5 wd_520 wd_522 wd_2 wd_58 wd_523) (by decide) dX7_leave_2 rfl) <|
  am_kc (ak_if_eq dX7_leave_5 (by decide +kernel) rfl) <|
  am_kc (ak_iload_n dX7_leave_8 rfl rfl) <|
  am_kc (ak_callS metX7_isYear ⟨rfl, by decide +kernel, by decide +kernel, by decide +kernel⟩ (am_w4 wd_407 wd_408 wd_58 wd_409) (by decide) dX7_leave_9 rfl) <|
  am_kc (ak_if_ne dX7_leave_12 (by decide +kernel) rfl) <|
  am_kc (ak_bipush dX7_leave_15 (by decide +kernel) rfl) <|
  am_kc (ak_retI dX7_leave_17) <|
  am_kc (ak_aload_n dX7_leave_18 rfl rfl) <|
  am_kc (ak_getR (C := RX7) (T := TX7) (N := 4) rfl inX7w (by decide) rfl rfl rfl wd_390 dX7_leave_19 rfl) <|
  am_kc (ak_getR (C := RX0) (T := TX0) (N := 13) rfl inX0w (by decide) rfl rfl rfl wd_207 dX7_leave_22 rfl) <|
  am_kc (ak_astore_n dX7_leave_25 rfl rfl) <|
  am_kc (ak_aload_n dX7_leave_26 rfl rfl) <|
  am_kc (ak_iload_n dX7_leave_27 rfl rfl) <|
  am_kc (ak_iconst dX7_leave_28 (by decide +kernel) rfl) <|
  am_kc (ak_callV (C := RX3) (F := TX3) (N := 3) metX3_at rfl ⟨rfl, by decide +kernel, by decide +kernel, by decide +kernel⟩ (am_w5 wd_524 wd_503 wd_504 wd_64 wd_505) (by decide) dX7_leave_29 rfl) <|
  am_kc (ak_iconst dX7_leave_32 (by decide +kernel) rfl) <|
  am_kc (ak_icmp_ne dX7_leave_33 (by decide +kernel) rfl) <|
  am_kc (ak_iload_n dX7_leave_36 rfl rfl) <|
  am_kc (ak_aload_n dX7_leave_37 rfl rfl) <|
  am_kc (ak_iload_n dX7_leave_38 rfl rfl) <|
  am_kc (ak_iconst dX7_leave_39 (by decide +kernel) rfl) <|
  am_kc (ak_callV (C := RX3) (F := TX3) (N := 3) metX3_at rfl ⟨rfl, by decide +kernel, by decide +kernel, by decide +kernel⟩ (am_w5 wd_524 wd_503 wd_504 wd_64 wd_505) (by decide) dX7_leave_40 rfl) <|
  am_kc (ak_icmp_ge dX7_leave_43 (by decide +kernel) rfl) <|
  am_kc (ak_bipush dX7_leave_46 (by decide +kernel) rfl) <|
  am_kc (ak_retI dX7_leave_48) <|
  am_kc (ak_aload_n dX7_leave_49 rfl rfl) <|
  am_kc (ak_iload_n dX7_leave_50 rfl rfl) <|
  am_kc (ak_iconst dX7_leave_51 (by decide +kernel) rfl) <|
  am_kc (ak_callV (C := RX3) (F := TX3) (N := 3) metX3_at rfl ⟨rfl, by decide +kernel, by decide +kernel, by decide +kernel⟩ (am_w5 wd_524 wd_503 wd_504 wd_64 wd_505) (by decide) dX7_leave_52 rfl) <|
  am_kc (ak_iconst dX7_leave_55 (by decide +kernel) rfl) <|
  am_kc (ak_icmp_eq dX7_leave_56 (by decide +kernel) rfl) <|
  am_kc (ak_bipush dX7_leave_59 (by decide +kernel) rfl) <|
  am_kc (ak_retI dX7_leave_61) <|
  am_kc (ak_aload_n dX7_leave_62 rfl rfl) <|
  am_kc (ak_iload_n dX7_leave_63 rfl rfl) <|
  am_kc (ak_iconst dX7_leave_64 (by decide +kernel) rfl) <|
  am_kc (ak_iload_n dX7_leave_65 rfl rfl) <|
  am_kc (ak_callV (C := RX3) (F := TX3) (N := 3) metX3_put rfl ⟨rfl, by decide +kernel, by decide +kernel, by decide +kernel⟩ (am_w5 wd_515 wd_485 wd_486 wd_64 wd_487) (by decide) dX7_leave_66 rfl) <|
  am_kc (ak_aload_n dX7_leave_69 rfl rfl) <|
  am_kc (ak_getR (C := RX7) (T := TX7) (N := 4) rfl inX7w (by decide) rfl rfl rfl wd_390 dX7_leave_70 rfl) <|
  am_kc (ak_iload_n dX7_leave_73 rfl rfl) <|
  am_kc (ak_callV (C := RX0) (F := TX0) (N := 13) metX0_givenBack rfl ⟨rfl, by decide +kernel, by decide +kernel, by decide +kernel⟩ (am_w5 wd_525 wd_526 wd_527 wd_61 wd_528) (by decide) dX7_leave_74 rfl) <|
  am_kc (ak_l2i dX7_leave_77 rfl) <|
  am_kc (ak_retI dX7_leave_78) <| am_kn
def c_leave (M : am_M) (l y : Int32) : Int32 × am_M := if 0 ≤ l ∧ l < M.1 33 2 then (if 0 ≤ y ∧ y < 40 then (if am_at (M.1 34) (am_len 34) (l * M.1 33 1 + 4) = 1 then (if am_at (M.1 34) (am_len 34) (l * M.1 33 1 + 2) ≤ y then (if am_at (M.1 34) (am_len 34) (l * M.1 33 1 + 5) = -1 then ((am_sumGiven (am_loanAt (am_rput M 33 34 l 5 y) l 3) (am_loanAt (am_rput M 33 34 l 5 y) l 5 - am_loanAt (am_rput M 33 34 l 5 y) l 2)).toInt32, am_rput M 33 34 l 5 y) else ((-3 : Int32), M)) else ((-2 : Int32), M)) else ((-2 : Int32), M)) else ((-2 : Int32), M)) else ((-2 : Int32), M)
def TX7_leave : am_T := fun live as M R => match as with
  | [.ref n, .int l, .int y] => am_mn live ∧ n = 0 ∧ (g_hI M ∧ g_rI M) ∧ R (some (.int (c_leave M l y).1)) (c_leave M l y).2
  | _ => False
set_option maxRecDepth 100000 in
set_option maxHeartbeats 4000000 in
theorem metX7_leave : am_Met yX7_leave cX7_leave 4 (some .int) (2) (47) TX7_leave := by
  refine am_met (own := RX7) (by decide +kernel) rfl kX7_leave koX7_leave 150 (fun _ _ _ _ _ => none) (fun live as M Ret h => ?_) (fun _ _ _ _ _ _ _ _ hI => by cases hI)
  unfold TX7_leave at h
  split at h
  · next n l y =>
    refine ⟨Nat.le_of_ble_eq_true rfl, ?_⟩
    change am_wp _ _ _ _ [(0, Value.ref n), (1, Value.int l), (2, Value.int y)] _ _
    obtain ⟨hmn, rfl, ⟨hH, hR⟩, h⟩ := h
    have hmn2 := hmn
    obtain ⟨i1, i2, rfl⟩ := hmn2
    by_cases z0 : 0 ≤ l ∧ l < M.1 33 2
    rotate_left
    · skip
      have q0 : (if 0 ≤ l ∧ l < M.1 33 2 then (1 : Int32) else 0) = 0 := if_neg z0
      have e : c_leave M l y = ((-2 : Int32), M) := by unfold c_leave; rw [if_neg z0]
      rw [e] at h
      repeat' (first | (with_reducible exact hmn) | (with_reducible exact h) | apply And.intro | exact rfl | (intro hx; with_reducible exact absurd q0 hx) | (intro hx; exact absurd hx (by decide)) | (intro hx; exact absurd (by decide) hx) | decide | intro hx | (refine Exists.intro _ (And.intro rfl ?_)))
      all_goals try first | (with_reducible change am_tI _ _) | (change Ret _ _) | (change Ret _ _ _) | (change Exists _)
      all_goals try dsimp only at *
      all_goals try exact absurd ‹(1000 : Int64) = 0› (by decide)
      all_goals first | exact h | skip
    · skip
      have q0 : ¬ ((if 0 ≤ l ∧ l < M.1 33 2 then (1 : Int32) else 0) = 0) := by rw [if_pos z0]; decide
      by_cases z1 : 0 ≤ y ∧ y < 40
      rotate_left
      · skip
        have q1 : (if 0 ≤ y ∧ y < 40 then (1 : Int32) else 0) = 0 := if_neg z1
        have e : c_leave M l y = ((-2 : Int32), M) := by unfold c_leave; rw [if_pos z0, if_neg z1]
        rw [e] at h
        repeat' (first | (with_reducible exact hmn) | (with_reducible exact h) | apply And.intro | exact rfl | (intro hx; with_reducible exact absurd hx q0) | (intro hx; with_reducible exact absurd q1 hx) | (intro hx; exact absurd hx (by decide)) | (intro hx; exact absurd (by decide) hx) | decide | intro hx | (refine Exists.intro _ (And.intro rfl ?_)))
        all_goals try first | (with_reducible change am_tI _ _) | (change Ret _ _) | (change Ret _ _ _) | (change Exists _)
        all_goals try dsimp only at *
        all_goals try exact absurd ‹(1000 : Int64) = 0› (by decide)
        all_goals first | exact h | skip
      · skip
        have q1 : ¬ ((if 0 ≤ y ∧ y < 40 then (1 : Int32) else 0) = 0) := by rw [if_pos z1]; decide
        by_cases z2 : am_at (M.1 34) (am_len 34) (l * M.1 33 1 + 4) = 1
        rotate_left
        · skip
          have e : c_leave M l y = ((-2 : Int32), M) := by unfold c_leave; rw [if_pos z0, if_pos z1, if_neg z2]
          rw [e] at h
          repeat' (first | (with_reducible exact hmn) | (with_reducible exact h) | apply And.intro | exact rfl | (intro hx; with_reducible exact absurd hx q0) | (intro hx; with_reducible exact absurd hx q1) | (intro hx; with_reducible exact absurd hx z2) | (intro hx; exact absurd hx (by decide)) | (intro hx; exact absurd (by decide) hx) | decide | intro hx | (refine Exists.intro _ (And.intro rfl ?_)))
          all_goals try first | (with_reducible change am_tI _ _) | (change Ret _ _) | (change Ret _ _ _) | (change Exists _)
          all_goals try dsimp only at *
          all_goals try exact absurd ‹(1000 : Int64) = 0› (by decide)
          all_goals first | exact h | skip
        · skip
          by_cases z3 : am_at (M.1 34) (am_len 34) (l * M.1 33 1 + 2) ≤ y
          rotate_left
          · skip
            have y3 : (y : Int32) < am_at (M.1 34) (am_len 34) (l * M.1 33 1 + 2) := Int32.not_le.mp z3
            have e : c_leave M l y = ((-2 : Int32), M) := by unfold c_leave; rw [if_pos z0, if_pos z1, if_pos z2, if_neg z3]
            rw [e] at h
            repeat' (first | (with_reducible exact hmn) | (with_reducible exact h) | apply And.intro | exact rfl | (intro hx; with_reducible exact absurd hx q0) | (intro hx; with_reducible exact absurd hx q1) | (intro hx; with_reducible exact absurd hx z3) | (intro hx; with_reducible exact absurd z2 hx) | (intro hx; with_reducible exact absurd y3 hx) | (intro hx; exact absurd hx (by decide)) | (intro hx; exact absurd (by decide) hx) | decide | intro hx | (refine Exists.intro _ (And.intro rfl ?_)))
            all_goals try first | (with_reducible change am_tI _ _) | (change Ret _ _) | (change Ret _ _ _) | (change Exists _)
            all_goals try dsimp only at *
            all_goals try exact absurd ‹(1000 : Int64) = 0› (by decide)
            all_goals first | exact h | skip
          · skip
            have y3 : ¬ (y : Int32) < am_at (M.1 34) (am_len 34) (l * M.1 33 1 + 2) := Int32.not_lt.mpr z3
            by_cases z4 : am_at (M.1 34) (am_len 34) (l * M.1 33 1 + 5) = -1
            rotate_left
            · skip
              have e : c_leave M l y = ((-3 : Int32), M) := by unfold c_leave; rw [if_pos z0, if_pos z1, if_pos z2, if_pos z3, if_neg z4]
              rw [e] at h
              repeat' (first | (with_reducible exact hmn) | (with_reducible exact h) | apply And.intro | exact rfl | (intro hx; with_reducible exact absurd hx q0) | (intro hx; with_reducible exact absurd hx q1) | (intro hx; with_reducible exact absurd hx y3) | (intro hx; with_reducible exact absurd hx z4) | (intro hx; with_reducible exact absurd z2 hx) | (intro hx; with_reducible exact absurd z3 hx) | (intro hx; exact absurd hx (by decide)) | (intro hx; exact absurd (by decide) hx) | decide | intro hx | (refine Exists.intro _ (And.intro rfl ?_)))
              all_goals try first | (with_reducible change am_tI _ _) | (change Ret _ _) | (change Ret _ _ _) | (change Exists _)
              all_goals try dsimp only at *
              all_goals try exact absurd ‹(1000 : Int64) = 0› (by decide)
              all_goals first | exact h | skip
            · skip
              have e : c_leave M l y = ((am_sumGiven (am_loanAt (am_rput M 33 34 l 5 y) l 3) (am_loanAt (am_rput M 33 34 l 5 y) l 5 - am_loanAt (am_rput M 33 34 l 5 y) l 2)).toInt32, am_rput M 33 34 l 5 y) := by unfold c_leave; rw [if_pos z0, if_pos z1, if_pos z2, if_pos z3, if_pos z4]
              rw [e] at h
              repeat' (first | (with_reducible exact hmn) | apply And.intro | exact rfl | (intro hx; with_reducible exact absurd hx q0) | (intro hx; with_reducible exact absurd hx q1) | (intro hx; with_reducible exact absurd hx y3) | (intro hx; with_reducible exact absurd z2 hx) | (intro hx; with_reducible exact absurd z3 hx) | (intro hx; with_reducible exact absurd z4 hx) | (intro hx; exact absurd hx (by decide)) | (intro hx; exact absurd (by decide) hx) | decide | intro hx | (refine Exists.intro _ (And.intro rfl ?_)))
              all_goals try first | (with_reducible change am_tI _ _) | (change Ret _ _) | (change Ret _ _ _) | (change Exists _)
              all_goals try dsimp only at *
              all_goals try exact absurd ‹(1000 : Int64) = 0› (by decide)
              all_goals first | exact h | skip
  · exact h.elim
set_option maxRecDepth 100000 in
theorem wd_209 : Cond.fieldLink "LearnLoans" 146 "LearnLoans$House" "moves" "LLearnLoans$Rows;" ∈ am_ws := am_wsi (List.mem_of_getElem? (i := 209) (by rfl)) (by decide +kernel)
set_option maxRecDepth 100000 in
theorem wd_514 : Cond.methodLink "LearnLoans" 125 yX3_add ∈ am_ws := am_wsi (List.mem_of_getElem? (i := 514) (by rfl)) (by decide +kernel)
set_option maxRecDepth 100000 in
theorem wd_211 : Cond.fieldLink "LearnLoans" 132 "LearnLoans$House" "planAt" "[I" ∈ am_ws := am_wsi (List.mem_of_getElem? (i := 211) (by rfl)) (by decide +kernel)
theorem dX7_move_0 : decode cX7_move 0 = .ok (.aload_n 0, 1) := by decide +kernel
theorem dX7_move_1 : decode cX7_move 1 = .ok (.iload_n 1, 1) := by decide +kernel
theorem dX7_move_2 : decode cX7_move 2 = .ok (.invokevirtual 135, 3) := by decide +kernel
theorem dX7_move_5 : decode cX7_move 5 = .ok (.ifCond .eq 17, 3) := by decide +kernel
theorem dX7_move_8 : decode cX7_move 8 = .ok (.iload_n 2, 1) := by decide +kernel
theorem dX7_move_9 : decode cX7_move 9 = .ok (.invokestatic 98, 3) := by decide +kernel
theorem dX7_move_12 : decode cX7_move 12 = .ok (.ifCond .eq 10, 3) := by decide +kernel
theorem dX7_move_15 : decode cX7_move 15 = .ok (.iload_n 3, 1) := by decide +kernel
theorem dX7_move_16 : decode cX7_move 16 = .ok (.invokestatic 34, 3) := by decide +kernel
theorem dX7_move_19 : decode cX7_move 19 = .ok (.ifCond .ne 6, 3) := by decide +kernel
theorem dX7_move_22 : decode cX7_move 22 = .ok (.bipush (-2), 2) := by decide +kernel
theorem dX7_move_24 : decode cX7_move 24 = .ok (.ireturn, 1) := by decide +kernel
theorem dX7_move_25 : decode cX7_move 25 = .ok (.aload_n 0, 1) := by decide +kernel
theorem dX7_move_26 : decode cX7_move 26 = .ok (.getfield 27, 3) := by decide +kernel
theorem dX7_move_29 : decode cX7_move 29 = .ok (.getfield 146, 3) := by decide +kernel
theorem dX7_move_32 : decode cX7_move 32 = .ok (.getfield 108, 3) := by decide +kernel
theorem dX7_move_35 : decode cX7_move 35 = .ok (.bipush 60, 2) := by decide +kernel
theorem dX7_move_37 : decode cX7_move 37 = .ok (.if_icmp .lt 6, 3) := by decide +kernel
theorem dX7_move_40 : decode cX7_move 40 = .ok (.bipush (-4), 2) := by decide +kernel
theorem dX7_move_42 : decode cX7_move 42 = .ok (.ireturn, 1) := by decide +kernel
theorem dX7_move_43 : decode cX7_move 43 = .ok (.aload_n 0, 1) := by decide +kernel
theorem dX7_move_44 : decode cX7_move 44 = .ok (.getfield 27, 3) := by decide +kernel
theorem dX7_move_47 : decode cX7_move 47 = .ok (.getfield 146, 3) := by decide +kernel
theorem dX7_move_50 : decode cX7_move 50 = .ok (.iload_n 1, 1) := by decide +kernel
theorem dX7_move_51 : decode cX7_move 51 = .ok (.iload_n 2, 1) := by decide +kernel
theorem dX7_move_52 : decode cX7_move 52 = .ok (.iload_n 3, 1) := by decide +kernel
theorem dX7_move_53 : decode cX7_move 53 = .ok (.invokevirtual 125, 3) := by decide +kernel
theorem dX7_move_56 : decode cX7_move 56 = .ok (.pop, 1) := by decide +kernel
theorem dX7_move_57 : decode cX7_move 57 = .ok (.aload_n 0, 1) := by decide +kernel
theorem dX7_move_58 : decode cX7_move 58 = .ok (.getfield 27, 3) := by decide +kernel
theorem dX7_move_61 : decode cX7_move 61 = .ok (.getfield 132, 3) := by decide +kernel
theorem dX7_move_64 : decode cX7_move 64 = .ok (.iload_n 1, 1) := by decide +kernel
theorem dX7_move_65 : decode cX7_move 65 = .ok (.bipush 40, 2) := by decide +kernel
theorem dX7_move_67 : decode cX7_move 67 = .ok (.imul, 1) := by decide +kernel
theorem dX7_move_68 : decode cX7_move 68 = .ok (.iload_n 3, 1) := by decide +kernel
theorem dX7_move_69 : decode cX7_move 69 = .ok (.iadd, 1) := by decide +kernel
theorem dX7_move_70 : decode cX7_move 70 = .ok (.iload_n 1, 1) := by decide +kernel
theorem dX7_move_71 : decode cX7_move 71 = .ok (.bipush 40, 2) := by decide +kernel
theorem dX7_move_73 : decode cX7_move 73 = .ok (.imul, 1) := by decide +kernel
theorem dX7_move_74 : decode cX7_move 74 = .ok (.bipush 39, 2) := by decide +kernel
theorem dX7_move_76 : decode cX7_move 76 = .ok (.iadd, 1) := by decide +kernel
theorem dX7_move_77 : decode cX7_move 77 = .ok (.iload_n 2, 1) := by decide +kernel
theorem dX7_move_78 : decode cX7_move 78 = .ok (.invokestatic 66, 3) := by decide +kernel
theorem dX7_move_81 : decode cX7_move 81 = .ok (.iconst 1, 1) := by decide +kernel
theorem dX7_move_82 : decode cX7_move 82 = .ok (.ireturn, 1) := by decide +kernel
def kX7_move (live : am_E) (Ret : am_R) : am_code := [(0, am_aload 0 1), (1, am_iload 1 2), (2, am_callV live 7 1 TX7_isLoan 5), (5, am_if1 (fun x => x = 0) 22 8), (8, am_iload 2 9), (9, am_callS live 1 TX7_isPlan 12), (12, am_if1 (fun x => x = 0) 22 15), (15, am_iload 3 16), (16, am_callS live 1 TX7_isYear 19), (19, am_if1 (fun x => x = 0) 22 25), (22, am_const (.int (-2)) 24), (24, am_retI Ret), (25, am_aload 0 26), (26, am_getR live 7 0 29), (29, am_getR live 0 5 32), (32, am_getI live 3 2 35), (35, am_const (.int 60) 37), (37, am_if2 (fun x y => x < y) 43 40), (40, am_const (.int (-4)) 42), (42, am_retI Ret), (43, am_aload 0 44), (44, am_getR live 7 0 47), (47, am_getR live 0 5 50), (50, am_iload 1 51), (51, am_iload 2 52), (52, am_iload 3 53), (53, am_callV live 3 3 TX3_add 56), (56, am_pop 57), (57, am_aload 0 58), (58, am_getR live 7 0 61), (61, am_getR live 0 6 64), (64, am_iload 1 65), (65, am_const (.int 40) 67), (67, am_i2 (fun x y => x * y) 68), (68, am_iload 3 69), (69, am_i2 (fun x y => x + y) 70), (70, am_iload 1 71), (71, am_const (.int 40) 73), (73, am_i2 (fun x y => x * y) 74), (74, am_const (.int 39) 76), (76, am_i2 (fun x y => x + y) 77), (77, am_iload 2 78), (78, am_callS live 4 TX7_lay 81), (81, am_const (.int 1) 82), (82, am_retI Ret)]
theorem koX7_move (live : am_E) (Ret : am_R) : ∀ q ∈ kX7_move live Ret, am_ok RX7 cX7_move 4 (some .int) 2 47 live Ret q.1 q.2 :=
  am_kc (ak_aload_n dX7_move_0 rfl rfl) <|
  am_kc (ak_iload_n dX7_move_1 rfl rfl) <|
  am_kc (ak_callV (C := RX7) (F := TX7) (N := 4) metX7_isLoan rfl ⟨rfl, by decide +kernel, by decide +kernel, by decide +kernel⟩ (am_w5 wd_520 wd_522 wd_2 wd_58 wd_523) (by decide) dX7_move_2 rfl) <|
  am_kc (ak_if_eq dX7_move_5 (by decide +kernel) rfl) <|
  am_kc (ak_iload_n dX7_move_8 rfl rfl) <|
  am_kc (ak_callS metX7_isPlan ⟨rfl, by decide +kernel, by decide +kernel, by decide +kernel⟩ (am_w4 wd_466 wd_467 wd_58 wd_468) (by decide) dX7_move_9 rfl) <|
  am_kc (ak_if_eq dX7_move_12 (by decide +kernel) rfl) <|
  am_kc (ak_iload_n dX7_move_15 rfl rfl) <|
  am_kc (ak_callS metX7_isYear ⟨rfl, by decide +kernel, by decide +kernel, by decide +kernel⟩ (am_w4 wd_407 wd_408 wd_58 wd_409) (by decide) dX7_move_16 rfl) <|
  am_kc (ak_if_ne dX7_move_19 (by decide +kernel) rfl) <|
  am_kc (ak_bipush dX7_move_22 (by decide +kernel) rfl) <|
  am_kc (ak_retI dX7_move_24) <|
  am_kc (ak_aload_n dX7_move_25 rfl rfl) <|
  am_kc (ak_getR (C := RX7) (T := TX7) (N := 4) rfl inX7w (by decide) rfl rfl rfl wd_390 dX7_move_26 rfl) <|
  am_kc (ak_getR (C := RX0) (T := TX0) (N := 13) rfl inX0w (by decide) rfl rfl rfl wd_209 dX7_move_29 rfl) <|
  am_kc (ak_getI (C := RX3) (T := TX3) (N := 3) rfl inX3w (by decide) rfl rfl rfl wd_152 dX7_move_32 rfl) <|
  am_kc (ak_bipush dX7_move_35 (by decide +kernel) rfl) <|
  am_kc (ak_icmp_lt dX7_move_37 (by decide +kernel) rfl) <|
  am_kc (ak_bipush dX7_move_40 (by decide +kernel) rfl) <|
  am_kc (ak_retI dX7_move_42) <|
  am_kc (ak_aload_n dX7_move_43 rfl rfl) <|
  am_kc (ak_getR (C := RX7) (T := TX7) (N := 4) rfl inX7w (by decide) rfl rfl rfl wd_390 dX7_move_44 rfl) <|
  am_kc (ak_getR (C := RX0) (T := TX0) (N := 13) rfl inX0w (by decide) rfl rfl rfl wd_209 dX7_move_47 rfl) <|
  am_kc (ak_iload_n dX7_move_50 rfl rfl) <|
  am_kc (ak_iload_n dX7_move_51 rfl rfl) <|
  am_kc (ak_iload_n dX7_move_52 rfl rfl) <|
  am_kc (ak_callV (C := RX3) (F := TX3) (N := 3) metX3_add rfl ⟨rfl, by decide +kernel, by decide +kernel, by decide +kernel⟩ (am_w5 wd_514 wd_481 wd_482 wd_64 wd_483) (by decide) dX7_move_53 rfl) <|
  am_kc (ak_pop dX7_move_56 rfl) <|
  am_kc (ak_aload_n dX7_move_57 rfl rfl) <|
  am_kc (ak_getR (C := RX7) (T := TX7) (N := 4) rfl inX7w (by decide) rfl rfl rfl wd_390 dX7_move_58 rfl) <|
  am_kc (ak_getR (C := RX0) (T := TX0) (N := 13) rfl inX0w (by decide) rfl rfl rfl wd_211 dX7_move_61 rfl) <|
  am_kc (ak_iload_n dX7_move_64 rfl rfl) <|
  am_kc (ak_bipush dX7_move_65 (by decide +kernel) rfl) <|
  am_kc (ak_imul dX7_move_67 rfl) <|
  am_kc (ak_iload_n dX7_move_68 rfl rfl) <|
  am_kc (ak_iadd dX7_move_69 rfl) <|
  am_kc (ak_iload_n dX7_move_70 rfl rfl) <|
  am_kc (ak_bipush dX7_move_71 (by decide +kernel) rfl) <|
  am_kc (ak_imul dX7_move_73 rfl) <|
  am_kc (ak_bipush dX7_move_74 (by decide +kernel) rfl) <|
  am_kc (ak_iadd dX7_move_76 rfl) <|
  am_kc (ak_iload_n dX7_move_77 rfl rfl) <|
  am_kc (ak_callS metX7_lay ⟨rfl, by decide +kernel, by decide +kernel, by decide +kernel⟩ (am_w4 wd_424 wd_425 wd_58 wd_426) (by decide) dX7_move_78 rfl) <|
  am_kc (ak_iconst dX7_move_81 (by decide +kernel) rfl) <|
  am_kc (ak_retI dX7_move_82) <| am_kn
def c_move (M : am_M) (l pl y : Int32) : Int32 × am_M := if 0 ≤ l ∧ l < M.1 33 2 then (if 0 ≤ pl ∧ pl < 5 then (if 0 ≤ y ∧ y < 40 then (if M.1 35 2 < 60 then (1, am_lay (am_radd M 35 36 l pl y) 37 (max (l * 40 + y).toInt 0) (min (l * 40 + 39).toInt ((am_len 37 : Int) - 1)) pl) else ((-4 : Int32), M)) else ((-2 : Int32), M)) else ((-2 : Int32), M)) else ((-2 : Int32), M)
def TX7_move : am_T := fun live as M R => match as with
  | [.ref n, .int l, .int pl, .int y] => am_mn live ∧ n = 0 ∧ (g_hI M ∧ g_rI M) ∧ R (some (.int (c_move M l pl y).1)) (c_move M l pl y).2
  | _ => False
set_option maxRecDepth 100000 in
set_option maxHeartbeats 4000000 in
theorem metX7_move : am_Met yX7_move cX7_move 4 (some .int) (2) (47) TX7_move := by
  refine am_met (own := RX7) (by decide +kernel) rfl kX7_move koX7_move 150 (fun _ _ _ _ _ => none) (fun live as M Ret h => ?_) (fun _ _ _ _ _ _ _ _ hI => by cases hI)
  unfold TX7_move at h
  split at h
  · next n l pl y =>
    refine ⟨Nat.le_of_ble_eq_true rfl, ?_⟩
    change am_wp _ _ _ _ [(0, Value.ref n), (1, Value.int l), (2, Value.int pl), (3, Value.int y)] _ _
    obtain ⟨hmn, rfl, ⟨hH, hR⟩, h⟩ := h
    have hmn2 := hmn
    obtain ⟨i1, i2, rfl⟩ := hmn2
    by_cases z0 : 0 ≤ l ∧ l < M.1 33 2
    rotate_left
    · skip
      have q0 : (if 0 ≤ l ∧ l < M.1 33 2 then (1 : Int32) else 0) = 0 := if_neg z0
      have e : c_move M l pl y = ((-2 : Int32), M) := by unfold c_move; rw [if_neg z0]
      rw [e] at h
      repeat' (first | (with_reducible exact hmn) | (with_reducible exact h) | apply And.intro | exact rfl | (intro hx; with_reducible exact absurd q0 hx) | (intro hx; exact absurd hx (by decide)) | (intro hx; exact absurd (by decide) hx) | decide | intro hx | (refine Exists.intro _ (And.intro rfl ?_)))
      all_goals try first | (with_reducible change am_tI _ _) | (change Ret _ _) | (change Ret _ _ _) | (change Exists _)
      all_goals try dsimp only at *
      all_goals try exact absurd ‹(1000 : Int64) = 0› (by decide)
      all_goals first | exact h | skip
    · skip
      have q0 : ¬ ((if 0 ≤ l ∧ l < M.1 33 2 then (1 : Int32) else 0) = 0) := by rw [if_pos z0]; decide
      by_cases z1 : 0 ≤ pl ∧ pl < 5
      rotate_left
      · skip
        have q1 : (if 0 ≤ pl ∧ pl < 5 then (1 : Int32) else 0) = 0 := if_neg z1
        have e : c_move M l pl y = ((-2 : Int32), M) := by unfold c_move; rw [if_pos z0, if_neg z1]
        rw [e] at h
        repeat' (first | (with_reducible exact hmn) | (with_reducible exact h) | apply And.intro | exact rfl | (intro hx; with_reducible exact absurd hx q0) | (intro hx; with_reducible exact absurd q1 hx) | (intro hx; exact absurd hx (by decide)) | (intro hx; exact absurd (by decide) hx) | decide | intro hx | (refine Exists.intro _ (And.intro rfl ?_)))
        all_goals try first | (with_reducible change am_tI _ _) | (change Ret _ _) | (change Ret _ _ _) | (change Exists _)
        all_goals try dsimp only at *
        all_goals try exact absurd ‹(1000 : Int64) = 0› (by decide)
        all_goals first | exact h | skip
      · skip
        have q1 : ¬ ((if 0 ≤ pl ∧ pl < 5 then (1 : Int32) else 0) = 0) := by rw [if_pos z1]; decide
        by_cases z2 : 0 ≤ y ∧ y < 40
        rotate_left
        · skip
          have q2 : (if 0 ≤ y ∧ y < 40 then (1 : Int32) else 0) = 0 := if_neg z2
          have e : c_move M l pl y = ((-2 : Int32), M) := by unfold c_move; rw [if_pos z0, if_pos z1, if_neg z2]
          rw [e] at h
          repeat' (first | (with_reducible exact hmn) | (with_reducible exact h) | apply And.intro | exact rfl | (intro hx; with_reducible exact absurd hx q0) | (intro hx; with_reducible exact absurd hx q1) | (intro hx; with_reducible exact absurd q2 hx) | (intro hx; exact absurd hx (by decide)) | (intro hx; exact absurd (by decide) hx) | decide | intro hx | (refine Exists.intro _ (And.intro rfl ?_)))
          all_goals try first | (with_reducible change am_tI _ _) | (change Ret _ _) | (change Ret _ _ _) | (change Exists _)
          all_goals try dsimp only at *
          all_goals try exact absurd ‹(1000 : Int64) = 0› (by decide)
          all_goals first | exact h | skip
        · skip
          have q2 : ¬ ((if 0 ≤ y ∧ y < 40 then (1 : Int32) else 0) = 0) := by rw [if_pos z2]; decide
          by_cases z3 : M.1 35 2 < 60
          rotate_left
          · skip
            have y3 : (60 : Int32) ≤ M.1 35 2 := Int32.not_lt.mp z3
            have e : c_move M l pl y = ((-4 : Int32), M) := by unfold c_move; rw [if_pos z0, if_pos z1, if_pos z2, if_neg z3]
            rw [e] at h
            repeat' (first | (with_reducible exact hmn) | (with_reducible exact h) | apply And.intro | exact rfl | (intro hx; with_reducible exact absurd hx q0) | (intro hx; with_reducible exact absurd hx q1) | (intro hx; with_reducible exact absurd hx q2) | (intro hx; with_reducible exact absurd hx z3) | (intro hx; with_reducible exact absurd y3 hx) | (intro hx; exact absurd hx (by decide)) | (intro hx; exact absurd (by decide) hx) | decide | intro hx | (refine Exists.intro _ (And.intro rfl ?_)))
            all_goals try first | (with_reducible change am_tI _ _) | (change Ret _ _) | (change Ret _ _ _) | (change Exists _)
            all_goals try dsimp only at *
            all_goals try exact absurd ‹(1000 : Int64) = 0› (by decide)
            all_goals first | exact h | skip
          · skip
            have y3 : ¬ (60 : Int32) ≤ M.1 35 2 := Int32.not_le.mpr z3
            have e : c_move M l pl y = (1, am_lay (am_radd M 35 36 l pl y) 37 (max (l * 40 + y).toInt 0) (min (l * 40 + 39).toInt ((am_len 37 : Int) - 1)) pl) := by unfold c_move; rw [if_pos z0, if_pos z1, if_pos z2, if_pos z3]
            rw [e] at h
            repeat' (first | (with_reducible exact hmn) | apply And.intro | exact rfl | (intro hx; with_reducible exact absurd hx q0) | (intro hx; with_reducible exact absurd hx q1) | (intro hx; with_reducible exact absurd hx q2) | (intro hx; with_reducible exact absurd hx y3) | (intro hx; with_reducible exact absurd z3 hx) | (intro hx; exact absurd hx (by decide)) | (intro hx; exact absurd (by decide) hx) | decide | intro hx | (refine Exists.intro _ (And.intro rfl ?_)))
            all_goals try first | (with_reducible change am_tI _ _) | (change Ret _ _) | (change Ret _ _ _) | (change Exists _)
            all_goals try dsimp only at *
            all_goals try exact absurd ‹(1000 : Int64) = 0› (by decide)
            all_goals first | exact h | skip
  · exact h.elim
theorem dX7_sell_0 : decode cX7_sell 0 = .ok (.aload_n 0, 1) := by decide +kernel
theorem dX7_sell_1 : decode cX7_sell 1 = .ok (.iload_n 1, 1) := by decide +kernel
theorem dX7_sell_2 : decode cX7_sell 2 = .ok (.invokevirtual 135, 3) := by decide +kernel
theorem dX7_sell_5 : decode cX7_sell 5 = .ok (.ifCond .eq 19, 3) := by decide +kernel
theorem dX7_sell_8 : decode cX7_sell 8 = .ok (.iload_n 2, 1) := by decide +kernel
theorem dX7_sell_9 : decode cX7_sell 9 = .ok (.iconst 0, 1) := by decide +kernel
theorem dX7_sell_10 : decode cX7_sell 10 = .ok (.iconst 3, 1) := by decide +kernel
theorem dX7_sell_11 : decode cX7_sell 11 = .ok (.invokestatic 55, 3) := by decide +kernel
theorem dX7_sell_14 : decode cX7_sell 14 = .ok (.ifCond .eq 10, 3) := by decide +kernel
theorem dX7_sell_17 : decode cX7_sell 17 = .ok (.iload_n 3, 1) := by decide +kernel
theorem dX7_sell_18 : decode cX7_sell 18 = .ok (.invokestatic 34, 3) := by decide +kernel
theorem dX7_sell_21 : decode cX7_sell 21 = .ok (.ifCond .ne 6, 3) := by decide +kernel
theorem dX7_sell_24 : decode cX7_sell 24 = .ok (.bipush (-2), 2) := by decide +kernel
theorem dX7_sell_26 : decode cX7_sell 26 = .ok (.ireturn, 1) := by decide +kernel
theorem dX7_sell_27 : decode cX7_sell 27 = .ok (.aload_n 0, 1) := by decide +kernel
theorem dX7_sell_28 : decode cX7_sell 28 = .ok (.getfield 27, 3) := by decide +kernel
theorem dX7_sell_31 : decode cX7_sell 31 = .ok (.getfield 122, 3) := by decide +kernel
theorem dX7_sell_34 : decode cX7_sell 34 = .ok (.iload_n 1, 1) := by decide +kernel
theorem dX7_sell_35 : decode cX7_sell 35 = .ok (.bipush 6, 2) := by decide +kernel
theorem dX7_sell_37 : decode cX7_sell 37 = .ok (.invokevirtual 138, 3) := by decide +kernel
theorem dX7_sell_40 : decode cX7_sell 40 = .ok (.iconst (-1), 1) := by decide +kernel
theorem dX7_sell_41 : decode cX7_sell 41 = .ok (.if_icmp .eq 6, 3) := by decide +kernel
theorem dX7_sell_44 : decode cX7_sell 44 = .ok (.bipush (-3), 2) := by decide +kernel
theorem dX7_sell_46 : decode cX7_sell 46 = .ok (.ireturn, 1) := by decide +kernel
theorem dX7_sell_47 : decode cX7_sell 47 = .ok (.aload_n 0, 1) := by decide +kernel
theorem dX7_sell_48 : decode cX7_sell 48 = .ok (.getfield 27, 3) := by decide +kernel
theorem dX7_sell_51 : decode cX7_sell 51 = .ok (.getfield 122, 3) := by decide +kernel
theorem dX7_sell_54 : decode cX7_sell 54 = .ok (.iload_n 1, 1) := by decide +kernel
theorem dX7_sell_55 : decode cX7_sell 55 = .ok (.bipush 6, 2) := by decide +kernel
theorem dX7_sell_57 : decode cX7_sell 57 = .ok (.iload_n 2, 1) := by decide +kernel
theorem dX7_sell_58 : decode cX7_sell 58 = .ok (.invokevirtual 128, 3) := by decide +kernel
theorem dX7_sell_61 : decode cX7_sell 61 = .ok (.aload_n 0, 1) := by decide +kernel
theorem dX7_sell_62 : decode cX7_sell 62 = .ok (.getfield 27, 3) := by decide +kernel
theorem dX7_sell_65 : decode cX7_sell 65 = .ok (.getfield 122, 3) := by decide +kernel
theorem dX7_sell_68 : decode cX7_sell 68 = .ok (.iload_n 1, 1) := by decide +kernel
theorem dX7_sell_69 : decode cX7_sell 69 = .ok (.bipush 7, 2) := by decide +kernel
theorem dX7_sell_71 : decode cX7_sell 71 = .ok (.iload_n 3, 1) := by decide +kernel
theorem dX7_sell_72 : decode cX7_sell 72 = .ok (.invokevirtual 128, 3) := by decide +kernel
theorem dX7_sell_75 : decode cX7_sell 75 = .ok (.iconst 1, 1) := by decide +kernel
theorem dX7_sell_76 : decode cX7_sell 76 = .ok (.ireturn, 1) := by decide +kernel
def kX7_sell (live : am_E) (Ret : am_R) : am_code := [(0, am_aload 0 1), (1, am_iload 1 2), (2, am_callV live 7 1 TX7_isLoan 5), (5, am_if1 (fun x => x = 0) 24 8), (8, am_iload 2 9), (9, am_const (.int 0) 10), (10, am_const (.int 3) 11), (11, am_callS live 3 TX7_within 14), (14, am_if1 (fun x => x = 0) 24 17), (17, am_iload 3 18), (18, am_callS live 1 TX7_isYear 21), (21, am_if1 (fun x => x = 0) 24 27), (24, am_const (.int (-2)) 26), (26, am_retI Ret), (27, am_aload 0 28), (28, am_getR live 7 0 31), (31, am_getR live 0 4 34), (34, am_iload 1 35), (35, am_const (.int 6) 37), (37, am_callV live 3 2 TX3_at 40), (40, am_const (.int (-1)) 41), (41, am_if2 (fun x y => x = y) 47 44), (44, am_const (.int (-3)) 46), (46, am_retI Ret), (47, am_aload 0 48), (48, am_getR live 7 0 51), (51, am_getR live 0 4 54), (54, am_iload 1 55), (55, am_const (.int 6) 57), (57, am_iload 2 58), (58, am_callV live 3 3 TX3_put 61), (61, am_aload 0 62), (62, am_getR live 7 0 65), (65, am_getR live 0 4 68), (68, am_iload 1 69), (69, am_const (.int 7) 71), (71, am_iload 3 72), (72, am_callV live 3 3 TX3_put 75), (75, am_const (.int 1) 76), (76, am_retI Ret)]
theorem koX7_sell (live : am_E) (Ret : am_R) : ∀ q ∈ kX7_sell live Ret, am_ok RX7 cX7_sell 4 (some .int) 1 24 live Ret q.1 q.2 :=
  am_kc (ak_aload_n dX7_sell_0 rfl rfl) <|
  am_kc (ak_iload_n dX7_sell_1 rfl rfl) <|
  am_kc (ak_callV (C := RX7) (F := TX7) (N := 4) metX7_isLoan rfl ⟨rfl, by decide +kernel, by decide +kernel, by decide +kernel⟩ (am_w5 wd_520 wd_522 wd_2 wd_58 wd_523) (by decide) dX7_sell_2 rfl) <|
  am_kc (ak_if_eq dX7_sell_5 (by decide +kernel) rfl) <|
  am_kc (ak_iload_n dX7_sell_8 rfl rfl) <|
  am_kc (ak_iconst dX7_sell_9 (by decide +kernel) rfl) <|
  am_kc (ak_iconst dX7_sell_10 (by decide +kernel) rfl) <|
  am_kc (ak_callS metX7_within ⟨rfl, by decide +kernel, by decide +kernel, by decide +kernel⟩ (am_w4 wd_418 wd_419 wd_58 wd_420) (by decide) dX7_sell_11 rfl) <|
  am_kc (ak_if_eq dX7_sell_14 (by decide +kernel) rfl) <|
  am_kc (ak_iload_n dX7_sell_17 rfl rfl) <|
  am_kc (ak_callS metX7_isYear ⟨rfl, by decide +kernel, by decide +kernel, by decide +kernel⟩ (am_w4 wd_407 wd_408 wd_58 wd_409) (by decide) dX7_sell_18 rfl) <|
  am_kc (ak_if_ne dX7_sell_21 (by decide +kernel) rfl) <|
  am_kc (ak_bipush dX7_sell_24 (by decide +kernel) rfl) <|
  am_kc (ak_retI dX7_sell_26) <|
  am_kc (ak_aload_n dX7_sell_27 rfl rfl) <|
  am_kc (ak_getR (C := RX7) (T := TX7) (N := 4) rfl inX7w (by decide) rfl rfl rfl wd_390 dX7_sell_28 rfl) <|
  am_kc (ak_getR (C := RX0) (T := TX0) (N := 13) rfl inX0w (by decide) rfl rfl rfl wd_207 dX7_sell_31 rfl) <|
  am_kc (ak_iload_n dX7_sell_34 rfl rfl) <|
  am_kc (ak_bipush dX7_sell_35 (by decide +kernel) rfl) <|
  am_kc (ak_callV (C := RX3) (F := TX3) (N := 3) metX3_at rfl ⟨rfl, by decide +kernel, by decide +kernel, by decide +kernel⟩ (am_w5 wd_524 wd_503 wd_504 wd_64 wd_505) (by decide) dX7_sell_37 rfl) <|
  am_kc (ak_iconst dX7_sell_40 (by decide +kernel) rfl) <|
  am_kc (ak_icmp_eq dX7_sell_41 (by decide +kernel) rfl) <|
  am_kc (ak_bipush dX7_sell_44 (by decide +kernel) rfl) <|
  am_kc (ak_retI dX7_sell_46) <|
  am_kc (ak_aload_n dX7_sell_47 rfl rfl) <|
  am_kc (ak_getR (C := RX7) (T := TX7) (N := 4) rfl inX7w (by decide) rfl rfl rfl wd_390 dX7_sell_48 rfl) <|
  am_kc (ak_getR (C := RX0) (T := TX0) (N := 13) rfl inX0w (by decide) rfl rfl rfl wd_207 dX7_sell_51 rfl) <|
  am_kc (ak_iload_n dX7_sell_54 rfl rfl) <|
  am_kc (ak_bipush dX7_sell_55 (by decide +kernel) rfl) <|
  am_kc (ak_iload_n dX7_sell_57 rfl rfl) <|
  am_kc (ak_callV (C := RX3) (F := TX3) (N := 3) metX3_put rfl ⟨rfl, by decide +kernel, by decide +kernel, by decide +kernel⟩ (am_w5 wd_515 wd_485 wd_486 wd_64 wd_487) (by decide) dX7_sell_58 rfl) <|
  am_kc (ak_aload_n dX7_sell_61 rfl rfl) <|
  am_kc (ak_getR (C := RX7) (T := TX7) (N := 4) rfl inX7w (by decide) rfl rfl rfl wd_390 dX7_sell_62 rfl) <|
  am_kc (ak_getR (C := RX0) (T := TX0) (N := 13) rfl inX0w (by decide) rfl rfl rfl wd_207 dX7_sell_65 rfl) <|
  am_kc (ak_iload_n dX7_sell_68 rfl rfl) <|
  am_kc (ak_bipush dX7_sell_69 (by decide +kernel) rfl) <|
  am_kc (ak_iload_n dX7_sell_71 rfl rfl) <|
  am_kc (ak_callV (C := RX3) (F := TX3) (N := 3) metX3_put rfl ⟨rfl, by decide +kernel, by decide +kernel, by decide +kernel⟩ (am_w5 wd_515 wd_485 wd_486 wd_64 wd_487) (by decide) dX7_sell_72 rfl) <|
  am_kc (ak_iconst dX7_sell_75 (by decide +kernel) rfl) <|
  am_kc (ak_retI dX7_sell_76) <| am_kn
def c_sell (M : am_M) (l b y : Int32) : Int32 × am_M := if 0 ≤ l ∧ l < M.1 33 2 then (if 0 ≤ b ∧ b ≤ 3 then (if 0 ≤ y ∧ y < 40 then (if am_at (M.1 34) (am_len 34) (l * M.1 33 1 + 6) = -1 then (1, am_rput (am_rput M 33 34 l 6 b) 33 34 l 7 y) else ((-3 : Int32), M)) else ((-2 : Int32), M)) else ((-2 : Int32), M)) else ((-2 : Int32), M)
def TX7_sell : am_T := fun live as M R => match as with
  | [.ref n, .int l, .int b, .int y] => am_mn live ∧ n = 0 ∧ (g_hI M ∧ g_rI M) ∧ R (some (.int (c_sell M l b y).1)) (c_sell M l b y).2
  | _ => False
set_option maxRecDepth 100000 in
set_option maxHeartbeats 4000000 in
theorem metX7_sell : am_Met yX7_sell cX7_sell 4 (some .int) (1) (24) TX7_sell := by
  refine am_met (own := RX7) (by decide +kernel) rfl kX7_sell koX7_sell 150 (fun _ _ _ _ _ => none) (fun live as M Ret h => ?_) (fun _ _ _ _ _ _ _ _ hI => by cases hI)
  unfold TX7_sell at h
  split at h
  · next n l b y =>
    refine ⟨Nat.le_of_ble_eq_true rfl, ?_⟩
    change am_wp _ _ _ _ [(0, Value.ref n), (1, Value.int l), (2, Value.int b), (3, Value.int y)] _ _
    obtain ⟨hmn, rfl, ⟨hH, hR⟩, h⟩ := h
    have hmn2 := hmn
    obtain ⟨i1, i2, rfl⟩ := hmn2
    by_cases z0 : 0 ≤ l ∧ l < M.1 33 2
    rotate_left
    · skip
      have q0 : (if 0 ≤ l ∧ l < M.1 33 2 then (1 : Int32) else 0) = 0 := if_neg z0
      have e : c_sell M l b y = ((-2 : Int32), M) := by unfold c_sell; rw [if_neg z0]
      rw [e] at h
      repeat' (first | (with_reducible exact hmn) | (with_reducible exact h) | apply And.intro | exact rfl | (intro hx; with_reducible exact absurd q0 hx) | (intro hx; exact absurd hx (by decide)) | (intro hx; exact absurd (by decide) hx) | decide | intro hx | (refine Exists.intro _ (And.intro rfl ?_)))
      all_goals try first | (with_reducible change am_tI _ _) | (change Ret _ _) | (change Ret _ _ _) | (change Exists _)
      all_goals try dsimp only at *
      all_goals try exact absurd ‹(1000 : Int64) = 0› (by decide)
      all_goals first | exact h | skip
    · skip
      have q0 : ¬ ((if 0 ≤ l ∧ l < M.1 33 2 then (1 : Int32) else 0) = 0) := by rw [if_pos z0]; decide
      by_cases z1 : 0 ≤ b ∧ b ≤ 3
      rotate_left
      · skip
        have q1 : (if 0 ≤ b ∧ b ≤ 3 then (1 : Int32) else 0) = 0 := if_neg z1
        have e : c_sell M l b y = ((-2 : Int32), M) := by unfold c_sell; rw [if_pos z0, if_neg z1]
        rw [e] at h
        repeat' (first | (with_reducible exact hmn) | (with_reducible exact h) | apply And.intro | exact rfl | (intro hx; with_reducible exact absurd hx q0) | (intro hx; with_reducible exact absurd q1 hx) | (intro hx; exact absurd hx (by decide)) | (intro hx; exact absurd (by decide) hx) | decide | intro hx | (refine Exists.intro _ (And.intro rfl ?_)))
        all_goals try first | (with_reducible change am_tI _ _) | (change Ret _ _) | (change Ret _ _ _) | (change Exists _)
        all_goals try dsimp only at *
        all_goals try exact absurd ‹(1000 : Int64) = 0› (by decide)
        all_goals first | exact h | skip
      · skip
        have q1 : ¬ ((if 0 ≤ b ∧ b ≤ 3 then (1 : Int32) else 0) = 0) := by rw [if_pos z1]; decide
        by_cases z2 : 0 ≤ y ∧ y < 40
        rotate_left
        · skip
          have q2 : (if 0 ≤ y ∧ y < 40 then (1 : Int32) else 0) = 0 := if_neg z2
          have e : c_sell M l b y = ((-2 : Int32), M) := by unfold c_sell; rw [if_pos z0, if_pos z1, if_neg z2]
          rw [e] at h
          repeat' (first | (with_reducible exact hmn) | (with_reducible exact h) | apply And.intro | exact rfl | (intro hx; with_reducible exact absurd hx q0) | (intro hx; with_reducible exact absurd hx q1) | (intro hx; with_reducible exact absurd q2 hx) | (intro hx; exact absurd hx (by decide)) | (intro hx; exact absurd (by decide) hx) | decide | intro hx | (refine Exists.intro _ (And.intro rfl ?_)))
          all_goals try first | (with_reducible change am_tI _ _) | (change Ret _ _) | (change Ret _ _ _) | (change Exists _)
          all_goals try dsimp only at *
          all_goals try exact absurd ‹(1000 : Int64) = 0› (by decide)
          all_goals first | exact h | skip
        · skip
          have q2 : ¬ ((if 0 ≤ y ∧ y < 40 then (1 : Int32) else 0) = 0) := by rw [if_pos z2]; decide
          by_cases z3 : am_at (M.1 34) (am_len 34) (l * M.1 33 1 + 6) = -1
          rotate_left
          · skip
            have e : c_sell M l b y = ((-3 : Int32), M) := by unfold c_sell; rw [if_pos z0, if_pos z1, if_pos z2, if_neg z3]
            rw [e] at h
            repeat' (first | (with_reducible exact hmn) | (with_reducible exact h) | apply And.intro | exact rfl | (intro hx; with_reducible exact absurd hx q0) | (intro hx; with_reducible exact absurd hx q1) | (intro hx; with_reducible exact absurd hx q2) | (intro hx; with_reducible exact absurd hx z3) | (intro hx; exact absurd hx (by decide)) | (intro hx; exact absurd (by decide) hx) | decide | intro hx | (refine Exists.intro _ (And.intro rfl ?_)))
            all_goals try first | (with_reducible change am_tI _ _) | (change Ret _ _) | (change Ret _ _ _) | (change Exists _)
            all_goals try dsimp only at *
            all_goals try exact absurd ‹(1000 : Int64) = 0› (by decide)
            all_goals first | exact h | skip
          · skip
            have e : c_sell M l b y = (1, am_rput (am_rput M 33 34 l 6 b) 33 34 l 7 y) := by unfold c_sell; rw [if_pos z0, if_pos z1, if_pos z2, if_pos z3]
            rw [e] at h
            repeat' (first | (with_reducible exact hmn) | apply And.intro | exact rfl | (intro hx; with_reducible exact absurd hx q0) | (intro hx; with_reducible exact absurd hx q1) | (intro hx; with_reducible exact absurd hx q2) | (intro hx; with_reducible exact absurd z3 hx) | (intro hx; exact absurd hx (by decide)) | (intro hx; exact absurd (by decide) hx) | decide | intro hx | (refine Exists.intro _ (And.intro rfl ?_)))
            all_goals try first | (with_reducible change am_tI _ _) | (change Ret _ _) | (change Ret _ _ _) | (change Exists _)
            all_goals try dsimp only at *
            all_goals try exact absurd ‹(1000 : Int64) = 0› (by decide)
            all_goals first | exact h | skip
  · exact h.elim
set_option maxRecDepth 100000 in
theorem wd_738 : Cond.constant "LearnLoans" 189 1000000000 ∈ am_ws := am_wsi (List.mem_of_getElem? (i := 738) (by rfl)) (by decide +kernel)
set_option maxRecDepth 100000 in
theorem wd_217 : Cond.fieldLink "LearnLoans" 190 "LearnLoans$House" "promises" "LLearnLoans$Rows;" ∈ am_ws := am_wsi (List.mem_of_getElem? (i := 217) (by rfl)) (by decide +kernel)
theorem dX7_promise_0 : decode cX7_promise 0 = .ok (.iload_n 1, 1) := by decide +kernel
theorem dX7_promise_1 : decode cX7_promise 1 = .ok (.iconst 0, 1) := by decide +kernel
theorem dX7_promise_2 : decode cX7_promise 2 = .ok (.iconst 3, 1) := by decide +kernel
theorem dX7_promise_3 : decode cX7_promise 3 = .ok (.invokestatic 55, 3) := by decide +kernel
theorem dX7_promise_6 : decode cX7_promise 6 = .ok (.ifCond .eq 20, 3) := by decide +kernel
theorem dX7_promise_9 : decode cX7_promise 9 = .ok (.iload_n 2, 1) := by decide +kernel
theorem dX7_promise_10 : decode cX7_promise 10 = .ok (.invokestatic 34, 3) := by decide +kernel
theorem dX7_promise_13 : decode cX7_promise 13 = .ok (.ifCond .eq 13, 3) := by decide +kernel
theorem dX7_promise_16 : decode cX7_promise 16 = .ok (.iload_n 3, 1) := by decide +kernel
theorem dX7_promise_17 : decode cX7_promise 17 = .ok (.iconst 1, 1) := by decide +kernel
theorem dX7_promise_18 : decode cX7_promise 18 = .ok (.ldc 189, 2) := by decide +kernel
theorem dX7_promise_20 : decode cX7_promise 20 = .ok (.invokestatic 55, 3) := by decide +kernel
theorem dX7_promise_23 : decode cX7_promise 23 = .ok (.ifCond .ne 6, 3) := by decide +kernel
theorem dX7_promise_26 : decode cX7_promise 26 = .ok (.bipush (-2), 2) := by decide +kernel
theorem dX7_promise_28 : decode cX7_promise 28 = .ok (.ireturn, 1) := by decide +kernel
theorem dX7_promise_29 : decode cX7_promise 29 = .ok (.aload_n 0, 1) := by decide +kernel
theorem dX7_promise_30 : decode cX7_promise 30 = .ok (.getfield 27, 3) := by decide +kernel
theorem dX7_promise_33 : decode cX7_promise 33 = .ok (.getfield 190, 3) := by decide +kernel
theorem dX7_promise_36 : decode cX7_promise 36 = .ok (.getfield 108, 3) := by decide +kernel
theorem dX7_promise_39 : decode cX7_promise 39 = .ok (.bipush 20, 2) := by decide +kernel
theorem dX7_promise_41 : decode cX7_promise 41 = .ok (.if_icmp .lt 6, 3) := by decide +kernel
theorem dX7_promise_44 : decode cX7_promise 44 = .ok (.bipush (-4), 2) := by decide +kernel
theorem dX7_promise_46 : decode cX7_promise 46 = .ok (.ireturn, 1) := by decide +kernel
theorem dX7_promise_47 : decode cX7_promise 47 = .ok (.aload_n 0, 1) := by decide +kernel
theorem dX7_promise_48 : decode cX7_promise 48 = .ok (.getfield 27, 3) := by decide +kernel
theorem dX7_promise_51 : decode cX7_promise 51 = .ok (.getfield 190, 3) := by decide +kernel
theorem dX7_promise_54 : decode cX7_promise 54 = .ok (.iload_n 1, 1) := by decide +kernel
theorem dX7_promise_55 : decode cX7_promise 55 = .ok (.iload_n 2, 1) := by decide +kernel
theorem dX7_promise_56 : decode cX7_promise 56 = .ok (.iload_n 3, 1) := by decide +kernel
theorem dX7_promise_57 : decode cX7_promise 57 = .ok (.invokevirtual 125, 3) := by decide +kernel
theorem dX7_promise_60 : decode cX7_promise 60 = .ok (.iconst 1, 1) := by decide +kernel
theorem dX7_promise_61 : decode cX7_promise 61 = .ok (.iadd, 1) := by decide +kernel
theorem dX7_promise_62 : decode cX7_promise 62 = .ok (.ireturn, 1) := by decide +kernel
def kX7_promise (live : am_E) (Ret : am_R) : am_code := [(0, am_iload 1 1), (1, am_const (.int 0) 2), (2, am_const (.int 3) 3), (3, am_callS live 3 TX7_within 6), (6, am_if1 (fun x => x = 0) 26 9), (9, am_iload 2 10), (10, am_callS live 1 TX7_isYear 13), (13, am_if1 (fun x => x = 0) 26 16), (16, am_iload 3 17), (17, am_const (.int 1) 18), (18, am_const (.int 1000000000) 20), (20, am_callS live 3 TX7_within 23), (23, am_if1 (fun x => x = 0) 26 29), (26, am_const (.int (-2)) 28), (28, am_retI Ret), (29, am_aload 0 30), (30, am_getR live 7 0 33), (33, am_getR live 0 8 36), (36, am_getI live 3 2 39), (39, am_const (.int 20) 41), (41, am_if2 (fun x y => x < y) 47 44), (44, am_const (.int (-4)) 46), (46, am_retI Ret), (47, am_aload 0 48), (48, am_getR live 7 0 51), (51, am_getR live 0 8 54), (54, am_iload 1 55), (55, am_iload 2 56), (56, am_iload 3 57), (57, am_callV live 3 3 TX3_add 60), (60, am_const (.int 1) 61), (61, am_i2 (fun x y => x + y) 62), (62, am_retI Ret)]
theorem koX7_promise (live : am_E) (Ret : am_R) : ∀ q ∈ kX7_promise live Ret, am_ok RX7 cX7_promise 4 (some .int) 2 47 live Ret q.1 q.2 :=
  am_kc (ak_iload_n dX7_promise_0 rfl rfl) <|
  am_kc (ak_iconst dX7_promise_1 (by decide +kernel) rfl) <|
  am_kc (ak_iconst dX7_promise_2 (by decide +kernel) rfl) <|
  am_kc (ak_callS metX7_within ⟨rfl, by decide +kernel, by decide +kernel, by decide +kernel⟩ (am_w4 wd_418 wd_419 wd_58 wd_420) (by decide) dX7_promise_3 rfl) <|
  am_kc (ak_if_eq dX7_promise_6 (by decide +kernel) rfl) <|
  am_kc (ak_iload_n dX7_promise_9 rfl rfl) <|
  am_kc (ak_callS metX7_isYear ⟨rfl, by decide +kernel, by decide +kernel, by decide +kernel⟩ (am_w4 wd_407 wd_408 wd_58 wd_409) (by decide) dX7_promise_10 rfl) <|
  am_kc (ak_if_eq dX7_promise_13 (by decide +kernel) rfl) <|
  am_kc (ak_iload_n dX7_promise_16 rfl rfl) <|
  am_kc (ak_iconst dX7_promise_17 (by decide +kernel) rfl) <|
  am_kc (ak_ldc wd_738 dX7_promise_18 rfl) <|
  am_kc (ak_callS metX7_within ⟨rfl, by decide +kernel, by decide +kernel, by decide +kernel⟩ (am_w4 wd_418 wd_419 wd_58 wd_420) (by decide) dX7_promise_20 rfl) <|
  am_kc (ak_if_ne dX7_promise_23 (by decide +kernel) rfl) <|
  am_kc (ak_bipush dX7_promise_26 (by decide +kernel) rfl) <|
  am_kc (ak_retI dX7_promise_28) <|
  am_kc (ak_aload_n dX7_promise_29 rfl rfl) <|
  am_kc (ak_getR (C := RX7) (T := TX7) (N := 4) rfl inX7w (by decide) rfl rfl rfl wd_390 dX7_promise_30 rfl) <|
  am_kc (ak_getR (C := RX0) (T := TX0) (N := 13) rfl inX0w (by decide) rfl rfl rfl wd_217 dX7_promise_33 rfl) <|
  am_kc (ak_getI (C := RX3) (T := TX3) (N := 3) rfl inX3w (by decide) rfl rfl rfl wd_152 dX7_promise_36 rfl) <|
  am_kc (ak_bipush dX7_promise_39 (by decide +kernel) rfl) <|
  am_kc (ak_icmp_lt dX7_promise_41 (by decide +kernel) rfl) <|
  am_kc (ak_bipush dX7_promise_44 (by decide +kernel) rfl) <|
  am_kc (ak_retI dX7_promise_46) <|
  am_kc (ak_aload_n dX7_promise_47 rfl rfl) <|
  am_kc (ak_getR (C := RX7) (T := TX7) (N := 4) rfl inX7w (by decide) rfl rfl rfl wd_390 dX7_promise_48 rfl) <|
  am_kc (ak_getR (C := RX0) (T := TX0) (N := 13) rfl inX0w (by decide) rfl rfl rfl wd_217 dX7_promise_51 rfl) <|
  am_kc (ak_iload_n dX7_promise_54 rfl rfl) <|
  am_kc (ak_iload_n dX7_promise_55 rfl rfl) <|
  am_kc (ak_iload_n dX7_promise_56 rfl rfl) <|
  am_kc (ak_callV (C := RX3) (F := TX3) (N := 3) metX3_add rfl ⟨rfl, by decide +kernel, by decide +kernel, by decide +kernel⟩ (am_w5 wd_514 wd_481 wd_482 wd_64 wd_483) (by decide) dX7_promise_57 rfl) <|
  am_kc (ak_iconst dX7_promise_60 (by decide +kernel) rfl) <|
  am_kc (ak_iadd dX7_promise_61 rfl) <|
  am_kc (ak_retI dX7_promise_62) <| am_kn
def c_promise (M : am_M) (b y c : Int32) : Int32 × am_M := if 0 ≤ b ∧ b ≤ 3 then (if 0 ≤ y ∧ y < 40 then (if 1 ≤ c ∧ c ≤ 1000000000 then (if M.1 54 2 < 20 then (M.1 54 2 + 1 - 1 + 1, am_radd M 54 55 b y c) else ((-4 : Int32), M)) else ((-2 : Int32), M)) else ((-2 : Int32), M)) else ((-2 : Int32), M)
def TX7_promise : am_T := fun live as M R => match as with
  | [.ref n, .int b, .int y, .int c] => am_mn live ∧ n = 0 ∧ (g_hI M ∧ g_rI M) ∧ R (some (.int (c_promise M b y c).1)) (c_promise M b y c).2
  | _ => False
set_option maxRecDepth 100000 in
set_option maxHeartbeats 4000000 in
theorem metX7_promise : am_Met yX7_promise cX7_promise 4 (some .int) (2) (47) TX7_promise := by
  refine am_met (own := RX7) (by decide +kernel) rfl kX7_promise koX7_promise 150 (fun _ _ _ _ _ => none) (fun live as M Ret h => ?_) (fun _ _ _ _ _ _ _ _ hI => by cases hI)
  unfold TX7_promise at h
  split at h
  · next n b y c =>
    refine ⟨Nat.le_of_ble_eq_true rfl, ?_⟩
    change am_wp _ _ _ _ [(0, Value.ref n), (1, Value.int b), (2, Value.int y), (3, Value.int c)] _ _
    obtain ⟨hmn, rfl, ⟨hH, hR⟩, h⟩ := h
    have hmn2 := hmn
    obtain ⟨i1, i2, rfl⟩ := hmn2
    by_cases z0 : 0 ≤ b ∧ b ≤ 3
    rotate_left
    · skip
      have q0 : (if 0 ≤ b ∧ b ≤ 3 then (1 : Int32) else 0) = 0 := if_neg z0
      have e : c_promise M b y c = ((-2 : Int32), M) := by unfold c_promise; rw [if_neg z0]
      rw [e] at h
      repeat' (first | (with_reducible exact hmn) | (with_reducible exact h) | apply And.intro | exact rfl | (intro hx; with_reducible exact absurd q0 hx) | (intro hx; exact absurd hx (by decide)) | (intro hx; exact absurd (by decide) hx) | decide | intro hx | (refine Exists.intro _ (And.intro rfl ?_)))
      all_goals try first | (with_reducible change am_tI _ _) | (change Ret _ _) | (change Ret _ _ _) | (change Exists _)
      all_goals try dsimp only at *
      all_goals try exact absurd ‹(1000 : Int64) = 0› (by decide)
      all_goals first | exact h | skip
    · skip
      have q0 : ¬ ((if 0 ≤ b ∧ b ≤ 3 then (1 : Int32) else 0) = 0) := by rw [if_pos z0]; decide
      by_cases z1 : 0 ≤ y ∧ y < 40
      rotate_left
      · skip
        have q1 : (if 0 ≤ y ∧ y < 40 then (1 : Int32) else 0) = 0 := if_neg z1
        have e : c_promise M b y c = ((-2 : Int32), M) := by unfold c_promise; rw [if_pos z0, if_neg z1]
        rw [e] at h
        repeat' (first | (with_reducible exact hmn) | (with_reducible exact h) | apply And.intro | exact rfl | (intro hx; with_reducible exact absurd hx q0) | (intro hx; with_reducible exact absurd q1 hx) | (intro hx; exact absurd hx (by decide)) | (intro hx; exact absurd (by decide) hx) | decide | intro hx | (refine Exists.intro _ (And.intro rfl ?_)))
        all_goals try first | (with_reducible change am_tI _ _) | (change Ret _ _) | (change Ret _ _ _) | (change Exists _)
        all_goals try dsimp only at *
        all_goals try exact absurd ‹(1000 : Int64) = 0› (by decide)
        all_goals first | exact h | skip
      · skip
        have q1 : ¬ ((if 0 ≤ y ∧ y < 40 then (1 : Int32) else 0) = 0) := by rw [if_pos z1]; decide
        by_cases z2 : 1 ≤ c ∧ c ≤ 1000000000
        rotate_left
        · skip
          have q2 : (if 1 ≤ c ∧ c ≤ 1000000000 then (1 : Int32) else 0) = 0 := if_neg z2
          have e : c_promise M b y c = ((-2 : Int32), M) := by unfold c_promise; rw [if_pos z0, if_pos z1, if_neg z2]
          rw [e] at h
          repeat' (first | (with_reducible exact hmn) | (with_reducible exact h) | apply And.intro | exact rfl | (intro hx; with_reducible exact absurd hx q0) | (intro hx; with_reducible exact absurd hx q1) | (intro hx; with_reducible exact absurd q2 hx) | (intro hx; exact absurd hx (by decide)) | (intro hx; exact absurd (by decide) hx) | decide | intro hx | (refine Exists.intro _ (And.intro rfl ?_)))
          all_goals try first | (with_reducible change am_tI _ _) | (change Ret _ _) | (change Ret _ _ _) | (change Exists _)
          all_goals try dsimp only at *
          all_goals try exact absurd ‹(1000 : Int64) = 0› (by decide)
          all_goals first | exact h | skip
        · skip
          have q2 : ¬ ((if 1 ≤ c ∧ c ≤ 1000000000 then (1 : Int32) else 0) = 0) := by rw [if_pos z2]; decide
          by_cases z3 : M.1 54 2 < 20
          rotate_left
          · skip
            have y3 : (20 : Int32) ≤ M.1 54 2 := Int32.not_lt.mp z3
            have e : c_promise M b y c = ((-4 : Int32), M) := by unfold c_promise; rw [if_pos z0, if_pos z1, if_pos z2, if_neg z3]
            rw [e] at h
            repeat' (first | (with_reducible exact hmn) | (with_reducible exact h) | apply And.intro | exact rfl | (intro hx; with_reducible exact absurd hx q0) | (intro hx; with_reducible exact absurd hx q1) | (intro hx; with_reducible exact absurd hx q2) | (intro hx; with_reducible exact absurd hx z3) | (intro hx; with_reducible exact absurd y3 hx) | (intro hx; exact absurd hx (by decide)) | (intro hx; exact absurd (by decide) hx) | decide | intro hx | (refine Exists.intro _ (And.intro rfl ?_)))
            all_goals try first | (with_reducible change am_tI _ _) | (change Ret _ _) | (change Ret _ _ _) | (change Exists _)
            all_goals try dsimp only at *
            all_goals try exact absurd ‹(1000 : Int64) = 0› (by decide)
            all_goals first | exact h | skip
          · skip
            have y3 : ¬ (20 : Int32) ≤ M.1 54 2 := Int32.not_le.mpr z3
            have e : c_promise M b y c = (M.1 54 2 + 1 - 1 + 1, am_radd M 54 55 b y c) := by unfold c_promise; rw [if_pos z0, if_pos z1, if_pos z2, if_pos z3]
            rw [e] at h
            repeat' (first | (with_reducible exact hmn) | apply And.intro | exact rfl | (intro hx; with_reducible exact absurd hx q0) | (intro hx; with_reducible exact absurd hx q1) | (intro hx; with_reducible exact absurd hx q2) | (intro hx; with_reducible exact absurd hx y3) | (intro hx; with_reducible exact absurd z3 hx) | (intro hx; exact absurd hx (by decide)) | (intro hx; exact absurd (by decide) hx) | decide | intro hx | (refine Exists.intro _ (And.intro rfl ?_)))
            all_goals try first | (with_reducible change am_tI _ _) | (change Ret _ _) | (change Ret _ _ _) | (change Exists _)
            all_goals try dsimp only at *
            all_goals try exact absurd ‹(1000 : Int64) = 0› (by decide)
            all_goals first | exact h | skip
  · exact h.elim
set_option maxRecDepth 100000 in
theorem wd_220 : Cond.fieldLink "LearnLoans" 206 "LearnLoans$House" "lives" "[I" ∈ am_ws := am_wsi (List.mem_of_getElem? (i := 220) (by rfl)) (by decide +kernel)
theorem dX7_live_0 : decode cX7_live 0 = .ok (.iload_n 1, 1) := by decide +kernel
theorem dX7_live_1 : decode cX7_live 1 = .ok (.iconst 0, 1) := by decide +kernel
theorem dX7_live_2 : decode cX7_live 2 = .ok (.iconst 3, 1) := by decide +kernel
theorem dX7_live_3 : decode cX7_live 3 = .ok (.invokestatic 55, 3) := by decide +kernel
theorem dX7_live_6 : decode cX7_live 6 = .ok (.ifCond .eq 19, 3) := by decide +kernel
theorem dX7_live_9 : decode cX7_live 9 = .ok (.iload_n 2, 1) := by decide +kernel
theorem dX7_live_10 : decode cX7_live 10 = .ok (.iload_n 3, 1) := by decide +kernel
theorem dX7_live_11 : decode cX7_live 11 = .ok (.invokestatic 59, 3) := by decide +kernel
theorem dX7_live_14 : decode cX7_live 14 = .ok (.ifCond .eq 11, 3) := by decide +kernel
theorem dX7_live_17 : decode cX7_live 17 = .ok (.iload 4, 2) := by decide +kernel
theorem dX7_live_19 : decode cX7_live 19 = .ok (.invokestatic 79, 3) := by decide +kernel
theorem dX7_live_22 : decode cX7_live 22 = .ok (.ifCond .ne 6, 3) := by decide +kernel
theorem dX7_live_25 : decode cX7_live 25 = .ok (.bipush (-2), 2) := by decide +kernel
theorem dX7_live_27 : decode cX7_live 27 = .ok (.ireturn, 1) := by decide +kernel
theorem dX7_live_28 : decode cX7_live 28 = .ok (.aload_n 0, 1) := by decide +kernel
theorem dX7_live_29 : decode cX7_live 29 = .ok (.getfield 27, 3) := by decide +kernel
theorem dX7_live_32 : decode cX7_live 32 = .ok (.getfield 206, 3) := by decide +kernel
theorem dX7_live_35 : decode cX7_live 35 = .ok (.iload_n 1, 1) := by decide +kernel
theorem dX7_live_36 : decode cX7_live 36 = .ok (.bipush 40, 2) := by decide +kernel
theorem dX7_live_38 : decode cX7_live 38 = .ok (.imul, 1) := by decide +kernel
theorem dX7_live_39 : decode cX7_live 39 = .ok (.iload_n 2, 1) := by decide +kernel
theorem dX7_live_40 : decode cX7_live 40 = .ok (.iadd, 1) := by decide +kernel
theorem dX7_live_41 : decode cX7_live 41 = .ok (.iload_n 1, 1) := by decide +kernel
theorem dX7_live_42 : decode cX7_live 42 = .ok (.bipush 40, 2) := by decide +kernel
theorem dX7_live_44 : decode cX7_live 44 = .ok (.imul, 1) := by decide +kernel
theorem dX7_live_45 : decode cX7_live 45 = .ok (.iload_n 3, 1) := by decide +kernel
theorem dX7_live_46 : decode cX7_live 46 = .ok (.iadd, 1) := by decide +kernel
theorem dX7_live_47 : decode cX7_live 47 = .ok (.iload 4, 2) := by decide +kernel
theorem dX7_live_49 : decode cX7_live 49 = .ok (.invokestatic 66, 3) := by decide +kernel
theorem dX7_live_52 : decode cX7_live 52 = .ok (.iconst 1, 1) := by decide +kernel
theorem dX7_live_53 : decode cX7_live 53 = .ok (.ireturn, 1) := by decide +kernel
def kX7_live (live : am_E) (Ret : am_R) : am_code := [(0, am_iload 1 1), (1, am_const (.int 0) 2), (2, am_const (.int 3) 3), (3, am_callS live 3 TX7_within 6), (6, am_if1 (fun x => x = 0) 25 9), (9, am_iload 2 10), (10, am_iload 3 11), (11, am_callS live 2 TX7_isSpan 14), (14, am_if1 (fun x => x = 0) 25 17), (17, am_iload 4 19), (19, am_callS live 1 TX7_isPence 22), (22, am_if1 (fun x => x = 0) 25 28), (25, am_const (.int (-2)) 27), (27, am_retI Ret), (28, am_aload 0 29), (29, am_getR live 7 0 32), (32, am_getR live 0 9 35), (35, am_iload 1 36), (36, am_const (.int 40) 38), (38, am_i2 (fun x y => x * y) 39), (39, am_iload 2 40), (40, am_i2 (fun x y => x + y) 41), (41, am_iload 1 42), (42, am_const (.int 40) 44), (44, am_i2 (fun x y => x * y) 45), (45, am_iload 3 46), (46, am_i2 (fun x y => x + y) 47), (47, am_iload 4 49), (49, am_callS live 4 TX7_lay 52), (52, am_const (.int 1) 53), (53, am_retI Ret)]
theorem koX7_live (live : am_E) (Ret : am_R) : ∀ q ∈ kX7_live live Ret, am_ok RX7 cX7_live 5 (some .int) 2 47 live Ret q.1 q.2 :=
  am_kc (ak_iload_n dX7_live_0 rfl rfl) <|
  am_kc (ak_iconst dX7_live_1 (by decide +kernel) rfl) <|
  am_kc (ak_iconst dX7_live_2 (by decide +kernel) rfl) <|
  am_kc (ak_callS metX7_within ⟨rfl, by decide +kernel, by decide +kernel, by decide +kernel⟩ (am_w4 wd_418 wd_419 wd_58 wd_420) (by decide) dX7_live_3 rfl) <|
  am_kc (ak_if_eq dX7_live_6 (by decide +kernel) rfl) <|
  am_kc (ak_iload_n dX7_live_9 rfl rfl) <|
  am_kc (ak_iload_n dX7_live_10 rfl rfl) <|
  am_kc (ak_callS metX7_isSpan ⟨rfl, by decide +kernel, by decide +kernel, by decide +kernel⟩ (am_w4 wd_421 wd_422 wd_58 wd_423) (by decide) dX7_live_11 rfl) <|
  am_kc (ak_if_eq dX7_live_14 (by decide +kernel) rfl) <|
  am_kc (ak_iload dX7_live_17 rfl) <|
  am_kc (ak_callS metX7_isPence ⟨rfl, by decide +kernel, by decide +kernel, by decide +kernel⟩ (am_w4 wd_446 wd_447 wd_58 wd_448) (by decide) dX7_live_19 rfl) <|
  am_kc (ak_if_ne dX7_live_22 (by decide +kernel) rfl) <|
  am_kc (ak_bipush dX7_live_25 (by decide +kernel) rfl) <|
  am_kc (ak_retI dX7_live_27) <|
  am_kc (ak_aload_n dX7_live_28 rfl rfl) <|
  am_kc (ak_getR (C := RX7) (T := TX7) (N := 4) rfl inX7w (by decide) rfl rfl rfl wd_390 dX7_live_29 rfl) <|
  am_kc (ak_getR (C := RX0) (T := TX0) (N := 13) rfl inX0w (by decide) rfl rfl rfl wd_220 dX7_live_32 rfl) <|
  am_kc (ak_iload_n dX7_live_35 rfl rfl) <|
  am_kc (ak_bipush dX7_live_36 (by decide +kernel) rfl) <|
  am_kc (ak_imul dX7_live_38 rfl) <|
  am_kc (ak_iload_n dX7_live_39 rfl rfl) <|
  am_kc (ak_iadd dX7_live_40 rfl) <|
  am_kc (ak_iload_n dX7_live_41 rfl rfl) <|
  am_kc (ak_bipush dX7_live_42 (by decide +kernel) rfl) <|
  am_kc (ak_imul dX7_live_44 rfl) <|
  am_kc (ak_iload_n dX7_live_45 rfl rfl) <|
  am_kc (ak_iadd dX7_live_46 rfl) <|
  am_kc (ak_iload dX7_live_47 rfl) <|
  am_kc (ak_callS metX7_lay ⟨rfl, by decide +kernel, by decide +kernel, by decide +kernel⟩ (am_w4 wd_424 wd_425 wd_58 wd_426) (by decide) dX7_live_49 rfl) <|
  am_kc (ak_iconst dX7_live_52 (by decide +kernel) rfl) <|
  am_kc (ak_retI dX7_live_53) <| am_kn
def c_live (M : am_M) (l f t c : Int32) : Int32 × am_M := if 0 ≤ l ∧ l ≤ 3 then (if 0 ≤ f ∧ f ≤ t ∧ t < 40 then (if 0 ≤ c ∧ c ≤ 10000000 then (1, am_lay M 56 (max (l * 40 + f).toInt 0) (min (l * 40 + t).toInt ((am_len 56 : Int) - 1)) c) else ((-2 : Int32), M)) else ((-2 : Int32), M)) else ((-2 : Int32), M)
def TX7_live : am_T := fun live as M R => match as with
  | [.ref n, .int l, .int f, .int t, .int c] => am_mn live ∧ n = 0 ∧ (g_hI M ∧ g_rI M) ∧ R (some (.int (c_live M l f t c).1)) (c_live M l f t c).2
  | _ => False
set_option maxRecDepth 100000 in
set_option maxHeartbeats 4000000 in
theorem metX7_live : am_Met yX7_live cX7_live 5 (some .int) (2) (47) TX7_live := by
  refine am_met (own := RX7) (by decide +kernel) rfl kX7_live koX7_live 150 (fun _ _ _ _ _ => none) (fun live as M Ret h => ?_) (fun _ _ _ _ _ _ _ _ hI => by cases hI)
  unfold TX7_live at h
  split at h
  · next n l f t c =>
    refine ⟨Nat.le_of_ble_eq_true rfl, ?_⟩
    change am_wp _ _ _ _ [(0, Value.ref n), (1, Value.int l), (2, Value.int f), (3, Value.int t), (4, Value.int c)] _ _
    obtain ⟨hmn, rfl, ⟨hH, hR⟩, h⟩ := h
    have hmn2 := hmn
    obtain ⟨i1, i2, rfl⟩ := hmn2
    by_cases z0 : 0 ≤ l ∧ l ≤ 3
    rotate_left
    · skip
      have q0 : (if 0 ≤ l ∧ l ≤ 3 then (1 : Int32) else 0) = 0 := if_neg z0
      have e : c_live M l f t c = ((-2 : Int32), M) := by unfold c_live; rw [if_neg z0]
      rw [e] at h
      repeat' (first | (with_reducible exact hmn) | (with_reducible exact h) | apply And.intro | exact rfl | (intro hx; with_reducible exact absurd q0 hx) | (intro hx; exact absurd hx (by decide)) | (intro hx; exact absurd (by decide) hx) | decide | intro hx | (refine Exists.intro _ (And.intro rfl ?_)))
      all_goals try first | (with_reducible change am_tI _ _) | (change Ret _ _) | (change Ret _ _ _) | (change Exists _)
      all_goals try dsimp only at *
      all_goals try exact absurd ‹(1000 : Int64) = 0› (by decide)
      all_goals first | exact h | skip
    · skip
      have q0 : ¬ ((if 0 ≤ l ∧ l ≤ 3 then (1 : Int32) else 0) = 0) := by rw [if_pos z0]; decide
      by_cases z1 : 0 ≤ f ∧ f ≤ t ∧ t < 40
      rotate_left
      · skip
        have q1 : (if 0 ≤ f ∧ f ≤ t ∧ t < 40 then (1 : Int32) else 0) = 0 := if_neg z1
        have e : c_live M l f t c = ((-2 : Int32), M) := by unfold c_live; rw [if_pos z0, if_neg z1]
        rw [e] at h
        repeat' (first | (with_reducible exact hmn) | (with_reducible exact h) | apply And.intro | exact rfl | (intro hx; with_reducible exact absurd hx q0) | (intro hx; with_reducible exact absurd q1 hx) | (intro hx; exact absurd hx (by decide)) | (intro hx; exact absurd (by decide) hx) | decide | intro hx | (refine Exists.intro _ (And.intro rfl ?_)))
        all_goals try first | (with_reducible change am_tI _ _) | (change Ret _ _) | (change Ret _ _ _) | (change Exists _)
        all_goals try dsimp only at *
        all_goals try exact absurd ‹(1000 : Int64) = 0› (by decide)
        all_goals first | exact h | skip
      · skip
        have q1 : ¬ ((if 0 ≤ f ∧ f ≤ t ∧ t < 40 then (1 : Int32) else 0) = 0) := by rw [if_pos z1]; decide
        by_cases z2 : 0 ≤ c ∧ c ≤ 10000000
        rotate_left
        · skip
          have q2 : (if 0 ≤ c ∧ c ≤ 10000000 then (1 : Int32) else 0) = 0 := if_neg z2
          have e : c_live M l f t c = ((-2 : Int32), M) := by unfold c_live; rw [if_pos z0, if_pos z1, if_neg z2]
          rw [e] at h
          repeat' (first | (with_reducible exact hmn) | (with_reducible exact h) | apply And.intro | exact rfl | (intro hx; with_reducible exact absurd hx q0) | (intro hx; with_reducible exact absurd hx q1) | (intro hx; with_reducible exact absurd q2 hx) | (intro hx; exact absurd hx (by decide)) | (intro hx; exact absurd (by decide) hx) | decide | intro hx | (refine Exists.intro _ (And.intro rfl ?_)))
          all_goals try first | (with_reducible change am_tI _ _) | (change Ret _ _) | (change Ret _ _ _) | (change Exists _)
          all_goals try dsimp only at *
          all_goals try exact absurd ‹(1000 : Int64) = 0› (by decide)
          all_goals first | exact h | skip
        · skip
          have q2 : ¬ ((if 0 ≤ c ∧ c ≤ 10000000 then (1 : Int32) else 0) = 0) := by rw [if_pos z2]; decide
          have e : c_live M l f t c = (1, am_lay M 56 (max (l * 40 + f).toInt 0) (min (l * 40 + t).toInt ((am_len 56 : Int) - 1)) c) := by unfold c_live; rw [if_pos z0, if_pos z1, if_pos z2]
          rw [e] at h
          repeat' (first | (with_reducible exact hmn) | apply And.intro | exact rfl | (intro hx; with_reducible exact absurd hx q0) | (intro hx; with_reducible exact absurd hx q1) | (intro hx; with_reducible exact absurd hx q2) | (intro hx; exact absurd hx (by decide)) | (intro hx; exact absurd (by decide) hx) | decide | intro hx | (refine Exists.intro _ (And.intro rfl ?_)))
          all_goals try first | (with_reducible change am_tI _ _) | (change Ret _ _) | (change Ret _ _ _) | (change Exists _)
          all_goals try dsimp only at *
          all_goals try exact absurd ‹(1000 : Int64) = 0› (by decide)
          all_goals first | exact h | skip
  · exact h.elim
set_option maxRecDepth 100000 in
theorem wd_227 : Cond.fieldLink "LearnLoans" 243 "LearnLoans$House" "toldSize" "I" ∈ am_ws := am_wsi (List.mem_of_getElem? (i := 227) (by rfl)) (by decide +kernel)
set_option maxRecDepth 100000 in
theorem wd_225 : Cond.fieldLink "LearnLoans" 246 "LearnLoans$House" "told" "[I" ∈ am_ws := am_wsi (List.mem_of_getElem? (i := 225) (by rfl)) (by decide +kernel)
theorem dX7_tell_0 : decode cX7_tell 0 = .ok (.iload_n 1, 1) := by decide +kernel
theorem dX7_tell_1 : decode cX7_tell 1 = .ok (.invokestatic 79, 3) := by decide +kernel
theorem dX7_tell_4 : decode cX7_tell 4 = .ok (.ifCond .ne 6, 3) := by decide +kernel
theorem dX7_tell_7 : decode cX7_tell 7 = .ok (.bipush (-2), 2) := by decide +kernel
theorem dX7_tell_9 : decode cX7_tell 9 = .ok (.ireturn, 1) := by decide +kernel
theorem dX7_tell_10 : decode cX7_tell 10 = .ok (.aload_n 0, 1) := by decide +kernel
theorem dX7_tell_11 : decode cX7_tell 11 = .ok (.getfield 27, 3) := by decide +kernel
theorem dX7_tell_14 : decode cX7_tell 14 = .ok (.getfield 243, 3) := by decide +kernel
theorem dX7_tell_17 : decode cX7_tell 17 = .ok (.bipush 9, 2) := by decide +kernel
theorem dX7_tell_19 : decode cX7_tell 19 = .ok (.if_icmp .lt 6, 3) := by decide +kernel
theorem dX7_tell_22 : decode cX7_tell 22 = .ok (.bipush (-4), 2) := by decide +kernel
theorem dX7_tell_24 : decode cX7_tell 24 = .ok (.ireturn, 1) := by decide +kernel
theorem dX7_tell_25 : decode cX7_tell 25 = .ok (.aload_n 0, 1) := by decide +kernel
theorem dX7_tell_26 : decode cX7_tell 26 = .ok (.getfield 27, 3) := by decide +kernel
theorem dX7_tell_29 : decode cX7_tell 29 = .ok (.getfield 246, 3) := by decide +kernel
theorem dX7_tell_32 : decode cX7_tell 32 = .ok (.aload_n 0, 1) := by decide +kernel
theorem dX7_tell_33 : decode cX7_tell 33 = .ok (.getfield 27, 3) := by decide +kernel
theorem dX7_tell_36 : decode cX7_tell 36 = .ok (.getfield 243, 3) := by decide +kernel
theorem dX7_tell_39 : decode cX7_tell 39 = .ok (.iload_n 1, 1) := by decide +kernel
theorem dX7_tell_40 : decode cX7_tell 40 = .ok (.iastore, 1) := by decide +kernel
theorem dX7_tell_41 : decode cX7_tell 41 = .ok (.aload_n 0, 1) := by decide +kernel
theorem dX7_tell_42 : decode cX7_tell 42 = .ok (.getfield 27, 3) := by decide +kernel
theorem dX7_tell_45 : decode cX7_tell 45 = .ok (.dup, 1) := by decide +kernel
theorem dX7_tell_46 : decode cX7_tell 46 = .ok (.getfield 243, 3) := by decide +kernel
theorem dX7_tell_49 : decode cX7_tell 49 = .ok (.iconst 1, 1) := by decide +kernel
theorem dX7_tell_50 : decode cX7_tell 50 = .ok (.iadd, 1) := by decide +kernel
theorem dX7_tell_51 : decode cX7_tell 51 = .ok (.putfield 243, 3) := by decide +kernel
theorem dX7_tell_54 : decode cX7_tell 54 = .ok (.aload_n 0, 1) := by decide +kernel
theorem dX7_tell_55 : decode cX7_tell 55 = .ok (.getfield 27, 3) := by decide +kernel
theorem dX7_tell_58 : decode cX7_tell 58 = .ok (.getfield 243, 3) := by decide +kernel
theorem dX7_tell_61 : decode cX7_tell 61 = .ok (.ireturn, 1) := by decide +kernel
def kX7_tell (live : am_E) (Ret : am_R) : am_code := [(0, am_iload 1 1), (1, am_callS live 1 TX7_isPence 4), (4, am_if1 (fun x => x = 0) 7 10), (7, am_const (.int (-2)) 9), (9, am_retI Ret), (10, am_aload 0 11), (11, am_getR live 7 0 14), (14, am_getI live 0 12 17), (17, am_const (.int 9) 19), (19, am_if2 (fun x y => x < y) 25 22), (22, am_const (.int (-4)) 24), (24, am_retI Ret), (25, am_aload 0 26), (26, am_getR live 7 0 29), (29, am_getR live 0 11 32), (32, am_aload 0 33), (33, am_getR live 7 0 36), (36, am_getI live 0 12 39), (39, am_iload 1 40), (40, am_ast live 0 41), (41, am_aload 0 42), (42, am_getR live 7 0 45), (45, am_dup 46), (46, am_getI live 0 12 49), (49, am_const (.int 1) 50), (50, am_i2 (fun x y => x + y) 51), (51, am_putI live 0 12 54), (54, am_aload 0 55), (55, am_getR live 7 0 58), (58, am_getI live 0 12 61), (61, am_retI Ret)]
theorem koX7_tell (live : am_E) (Ret : am_R) : ∀ q ∈ kX7_tell live Ret, am_ok RX7 cX7_tell 2 (some .int) 1 20 live Ret q.1 q.2 :=
  am_kc (ak_iload_n dX7_tell_0 rfl rfl) <|
  am_kc (ak_callS metX7_isPence ⟨rfl, by decide +kernel, by decide +kernel, by decide +kernel⟩ (am_w4 wd_446 wd_447 wd_58 wd_448) (by decide) dX7_tell_1 rfl) <|
  am_kc (ak_if_ne dX7_tell_4 (by decide +kernel) rfl) <|
  am_kc (ak_bipush dX7_tell_7 (by decide +kernel) rfl) <|
  am_kc (ak_retI dX7_tell_9) <|
  am_kc (ak_aload_n dX7_tell_10 rfl rfl) <|
  am_kc (ak_getR (C := RX7) (T := TX7) (N := 4) rfl inX7w (by decide) rfl rfl rfl wd_390 dX7_tell_11 rfl) <|
  am_kc (ak_getI (C := RX0) (T := TX0) (N := 13) rfl inX0w (by decide) rfl rfl rfl wd_227 dX7_tell_14 rfl) <|
  am_kc (ak_bipush dX7_tell_17 (by decide +kernel) rfl) <|
  am_kc (ak_icmp_lt dX7_tell_19 (by decide +kernel) rfl) <|
  am_kc (ak_bipush dX7_tell_22 (by decide +kernel) rfl) <|
  am_kc (ak_retI dX7_tell_24) <|
  am_kc (ak_aload_n dX7_tell_25 rfl rfl) <|
  am_kc (ak_getR (C := RX7) (T := TX7) (N := 4) rfl inX7w (by decide) rfl rfl rfl wd_390 dX7_tell_26 rfl) <|
  am_kc (ak_getR (C := RX0) (T := TX0) (N := 13) rfl inX0w (by decide) rfl rfl rfl wd_225 dX7_tell_29 rfl) <|
  am_kc (ak_aload_n dX7_tell_32 rfl rfl) <|
  am_kc (ak_getR (C := RX7) (T := TX7) (N := 4) rfl inX7w (by decide) rfl rfl rfl wd_390 dX7_tell_33 rfl) <|
  am_kc (ak_getI (C := RX0) (T := TX0) (N := 13) rfl inX0w (by decide) rfl rfl rfl wd_227 dX7_tell_36 rfl) <|
  am_kc (ak_iload_n dX7_tell_39 rfl rfl) <|
  am_kc (ak_iast (t := 0) (fun _ => rfl) rfl dX7_tell_40 rfl) <|
  am_kc (ak_aload_n dX7_tell_41 rfl rfl) <|
  am_kc (ak_getR (C := RX7) (T := TX7) (N := 4) rfl inX7w (by decide) rfl rfl rfl wd_390 dX7_tell_42 rfl) <|
  am_kc (ak_dup dX7_tell_45 rfl) <|
  am_kc (ak_getI (C := RX0) (T := TX0) (N := 13) rfl inX0w (by decide) rfl rfl rfl wd_227 dX7_tell_46 rfl) <|
  am_kc (ak_iconst dX7_tell_49 (by decide +kernel) rfl) <|
  am_kc (ak_iadd dX7_tell_50 rfl) <|
  am_kc (ak_putI (C := RX0) (T := TX0) (N := 13) rfl inX0w tyX0_ok nmX0 (by decide) rfl rfl rfl rfl (by decide +kernel) wd_227 dX7_tell_51 rfl) <|
  am_kc (ak_aload_n dX7_tell_54 rfl rfl) <|
  am_kc (ak_getR (C := RX7) (T := TX7) (N := 4) rfl inX7w (by decide) rfl rfl rfl wd_390 dX7_tell_55 rfl) <|
  am_kc (ak_getI (C := RX0) (T := TX0) (N := 13) rfl inX0w (by decide) rfl rfl rfl wd_227 dX7_tell_58 rfl) <|
  am_kc (ak_retI dX7_tell_61) <| am_kn
def c_tell (M : am_M) (v : Int32) : Int32 × am_M := if 0 ≤ v ∧ v ≤ 10000000 then (if M.1 20 12 < 9 then (M.1 20 12 + 1, am_wI (am_wI M 58 (M.1 20 12).toNatClampNeg v) 20 12 (M.1 20 12 + 1)) else ((-4 : Int32), M)) else ((-2 : Int32), M)
def TX7_tell : am_T := fun live as M R => match as with
  | [.ref n, .int v] => am_mn live ∧ n = 0 ∧ (g_hI M ∧ g_rI M) ∧ R (some (.int (c_tell M v).1)) (c_tell M v).2
  | _ => False
set_option maxRecDepth 100000 in
set_option maxHeartbeats 4000000 in
theorem metX7_tell : am_Met yX7_tell cX7_tell 2 (some .int) (1) (20) TX7_tell := by
  refine am_met (own := RX7) (by decide +kernel) rfl kX7_tell koX7_tell 150 (fun _ _ _ _ _ => none) (fun live as M Ret h => ?_) (fun _ _ _ _ _ _ _ _ hI => by cases hI)
  unfold TX7_tell at h
  split at h
  · next n v =>
    refine ⟨Nat.le_of_ble_eq_true rfl, ?_⟩
    change am_wp _ _ _ _ [(0, Value.ref n), (1, Value.int v)] _ _
    obtain ⟨hmn, rfl, ⟨hH, hR⟩, h⟩ := h
    have hmn2 := hmn
    obtain ⟨i1, i2, rfl⟩ := hmn2
    by_cases z0 : 0 ≤ v ∧ v ≤ 10000000
    rotate_left
    · skip
      have q0 : (if 0 ≤ v ∧ v ≤ 10000000 then (1 : Int32) else 0) = 0 := if_neg z0
      have e : c_tell M v = ((-2 : Int32), M) := by unfold c_tell; rw [if_neg z0]
      rw [e] at h
      repeat' (first | (with_reducible exact hmn) | (with_reducible exact h) | apply And.intro | exact rfl | (intro hx; with_reducible exact absurd q0 hx) | (intro hx; exact absurd hx (by decide)) | (intro hx; exact absurd (by decide) hx) | decide | intro hx | (refine Exists.intro _ (And.intro rfl ?_)))
      all_goals try first | (with_reducible change am_tI _ _) | (change Ret _ _) | (change Ret _ _ _) | (change Exists _)
      all_goals try dsimp only at *
      all_goals try exact absurd ‹(1000 : Int64) = 0› (by decide)
      all_goals first | exact h | omega | (rw [l58]; omega) | skip
    · skip
      have q0 : ¬ ((if 0 ≤ v ∧ v ≤ 10000000 then (1 : Int32) else 0) = 0) := by rw [if_pos z0]; decide
      by_cases z1 : M.1 20 12 < 9
      rotate_left
      · skip
        have y1 : (9 : Int32) ≤ M.1 20 12 := Int32.not_lt.mp z1
        have e : c_tell M v = ((-4 : Int32), M) := by unfold c_tell; rw [if_pos z0, if_neg z1]
        rw [e] at h
        repeat' (first | (with_reducible exact hmn) | (with_reducible exact h) | apply And.intro | exact rfl | (intro hx; with_reducible exact absurd hx q0) | (intro hx; with_reducible exact absurd hx z1) | (intro hx; with_reducible exact absurd y1 hx) | (intro hx; exact absurd hx (by decide)) | (intro hx; exact absurd (by decide) hx) | decide | intro hx | (refine Exists.intro _ (And.intro rfl ?_)))
        all_goals try first | (with_reducible change am_tI _ _) | (change Ret _ _) | (change Ret _ _ _) | (change Exists _)
        all_goals try dsimp only at *
        all_goals try exact absurd ‹(1000 : Int64) = 0› (by decide)
        all_goals first | exact h | omega | (rw [l58]; omega) | skip
      · skip
        have y1 : ¬ (9 : Int32) ≤ M.1 20 12 := Int32.not_le.mpr z1
        have l58 : am_len 58 = 9 := rfl
        have q := hH.to
        have zb : (M.1 20 12).toInt < 9 := by have q := z1; simp only [i_lt, Int32.reduceToInt] at q; exact q
        have e : c_tell M v = (M.1 20 12 + 1, am_wI (am_wI M 58 (M.1 20 12).toNatClampNeg v) 20 12 (M.1 20 12 + 1)) := by unfold c_tell; rw [if_pos z0, if_pos z1]
        rw [e] at h
        repeat' (first | (with_reducible exact hmn) | apply And.intro | exact rfl | (intro hx; with_reducible exact absurd hx q0) | (intro hx; with_reducible exact absurd hx y1) | (intro hx; with_reducible exact absurd z1 hx) | (intro hx; exact absurd hx (by decide)) | (intro hx; exact absurd (by decide) hx) | decide | intro hx | (refine Exists.intro _ (And.intro rfl ?_)))
        all_goals try first | (with_reducible change am_tI _ _) | (change Ret _ _) | (change Ret _ _ _) | (change Exists _)
        all_goals try dsimp only at *
        all_goals try exact absurd ‹(1000 : Int64) = 0› (by decide)
        all_goals first | exact h | omega | (rw [l58]; omega) | skip
  · exact h.elim
theorem dX7_untell_0 : decode cX7_untell 0 = .ok (.aload_n 0, 1) := by decide +kernel
theorem dX7_untell_1 : decode cX7_untell 1 = .ok (.getfield 27, 3) := by decide +kernel
theorem dX7_untell_4 : decode cX7_untell 4 = .ok (.getfield 243, 3) := by decide +kernel
theorem dX7_untell_7 : decode cX7_untell 7 = .ok (.istore_n 1, 1) := by decide +kernel
theorem dX7_untell_8 : decode cX7_untell 8 = .ok (.aload_n 0, 1) := by decide +kernel
theorem dX7_untell_9 : decode cX7_untell 9 = .ok (.getfield 27, 3) := by decide +kernel
theorem dX7_untell_12 : decode cX7_untell 12 = .ok (.iconst 0, 1) := by decide +kernel
theorem dX7_untell_13 : decode cX7_untell 13 = .ok (.putfield 243, 3) := by decide +kernel
theorem dX7_untell_16 : decode cX7_untell 16 = .ok (.iload_n 1, 1) := by decide +kernel
theorem dX7_untell_17 : decode cX7_untell 17 = .ok (.ireturn, 1) := by decide +kernel
def kX7_untell (live : am_E) (Ret : am_R) : am_code := [(0, am_aload 0 1), (1, am_getR live 7 0 4), (4, am_getI live 0 12 7), (7, am_istore 1 2 8), (8, am_aload 0 9), (9, am_getR live 7 0 12), (12, am_const (.int 0) 13), (13, am_putI live 0 12 16), (16, am_iload 1 17), (17, am_retI Ret)]
theorem koX7_untell (live : am_E) (Ret : am_R) : ∀ q ∈ kX7_untell live Ret, am_ok RX7 cX7_untell 2 (some .int) 0 0 live Ret q.1 q.2 :=
  am_kc (ak_aload_n dX7_untell_0 rfl rfl) <|
  am_kc (ak_getR (C := RX7) (T := TX7) (N := 4) rfl inX7w (by decide) rfl rfl rfl wd_390 dX7_untell_1 rfl) <|
  am_kc (ak_getI (C := RX0) (T := TX0) (N := 13) rfl inX0w (by decide) rfl rfl rfl wd_227 dX7_untell_4 rfl) <|
  am_kc (ak_istore_n dX7_untell_7 rfl rfl) <|
  am_kc (ak_aload_n dX7_untell_8 rfl rfl) <|
  am_kc (ak_getR (C := RX7) (T := TX7) (N := 4) rfl inX7w (by decide) rfl rfl rfl wd_390 dX7_untell_9 rfl) <|
  am_kc (ak_iconst dX7_untell_12 (by decide +kernel) rfl) <|
  am_kc (ak_putI (C := RX0) (T := TX0) (N := 13) rfl inX0w tyX0_ok nmX0 (by decide) rfl rfl rfl rfl (by decide +kernel) wd_227 dX7_untell_13 rfl) <|
  am_kc (ak_iload_n dX7_untell_16 rfl rfl) <|
  am_kc (ak_retI dX7_untell_17) <| am_kn
def c_untell (M : am_M) : Int32 × am_M := (M.1 20 12, am_wI M 20 12 0)
def TX7_untell : am_T := fun live as M R => match as with
  | [.ref n] => am_mn live ∧ n = 0 ∧ (g_hI M ∧ g_rI M) ∧ R (some (.int (c_untell M).1)) (c_untell M).2
  | _ => False
set_option maxRecDepth 100000 in
set_option maxHeartbeats 4000000 in
theorem metX7_untell : am_Met yX7_untell cX7_untell 2 (some .int) (0) (0) TX7_untell := by
  refine am_met (own := RX7) (by decide +kernel) rfl kX7_untell koX7_untell 150 (fun _ _ _ _ _ => none) (fun live as M Ret h => ?_) (fun _ _ _ _ _ _ _ _ hI => by cases hI)
  unfold TX7_untell at h
  split at h
  · next n =>
    refine ⟨Nat.le_of_ble_eq_true rfl, ?_⟩
    change am_wp _ _ _ _ [(0, Value.ref n)] _ _
    obtain ⟨hmn, rfl, ⟨hH, hR⟩, h⟩ := h
    have hmn2 := hmn
    obtain ⟨i1, i2, rfl⟩ := hmn2
    have e : c_untell M = (M.1 20 12, am_wI M 20 12 0) := by rfl
    rw [e] at h
    repeat' (first | (with_reducible exact hmn) | apply And.intro | exact rfl | (intro hx; exact absurd hx (by decide)) | (intro hx; exact absurd (by decide) hx) | decide | intro hx | (refine Exists.intro _ (And.intro rfl ?_)))
    all_goals try first | (with_reducible change am_tI _ _) | (change Ret _ _) | (change Ret _ _ _) | (change Exists _)
    all_goals try dsimp only at *
    all_goals try exact absurd ‹(1000 : Int64) = 0› (by decide)
    all_goals first | exact h | skip
  · exact h.elim
set_option maxRecDepth 100000 in
theorem wd_773 : Cond.methodLink "LearnLoans" 217 yX7_isChance ∈ am_ws := am_wsi (List.mem_of_getElem? (i := 773) (by rfl)) (by decide +kernel)
set_option maxRecDepth 100000 in
theorem wd_774 : Cond.static yX7_isChance ∈ am_ws := am_wsi (List.mem_of_getElem? (i := 774) (by rfl)) (by decide +kernel)
set_option maxRecDepth 100000 in
theorem wd_775 : Cond.code yX7_isChance cX7_isChance 1 (some .boolean) ∈ am_ws := am_wsi (List.mem_of_getElem? (i := 775) (by rfl)) (by decide +kernel)
set_option maxRecDepth 100000 in
theorem wd_223 : Cond.fieldLink "LearnLoans" 220 "LearnLoans$House" "chances" "[I" ∈ am_ws := am_wsi (List.mem_of_getElem? (i := 223) (by rfl)) (by decide +kernel)
theorem dX7_chances_0 : decode cX7_chances 0 = .ok (.iload_n 1, 1) := by decide +kernel
theorem dX7_chances_1 : decode cX7_chances 1 = .ok (.iconst 0, 1) := by decide +kernel
theorem dX7_chances_2 : decode cX7_chances 2 = .ok (.iconst 2, 1) := by decide +kernel
theorem dX7_chances_3 : decode cX7_chances 3 = .ok (.invokestatic 55, 3) := by decide +kernel
theorem dX7_chances_6 : decode cX7_chances 6 = .ok (.ifCond .eq 17, 3) := by decide +kernel
theorem dX7_chances_9 : decode cX7_chances 9 = .ok (.iload_n 2, 1) := by decide +kernel
theorem dX7_chances_10 : decode cX7_chances 10 = .ok (.invokestatic 217, 3) := by decide +kernel
theorem dX7_chances_13 : decode cX7_chances 13 = .ok (.ifCond .eq 10, 3) := by decide +kernel
theorem dX7_chances_16 : decode cX7_chances 16 = .ok (.iload_n 3, 1) := by decide +kernel
theorem dX7_chances_17 : decode cX7_chances 17 = .ok (.invokestatic 217, 3) := by decide +kernel
theorem dX7_chances_20 : decode cX7_chances 20 = .ok (.ifCond .ne 6, 3) := by decide +kernel
theorem dX7_chances_23 : decode cX7_chances 23 = .ok (.bipush (-2), 2) := by decide +kernel
theorem dX7_chances_25 : decode cX7_chances 25 = .ok (.ireturn, 1) := by decide +kernel
theorem dX7_chances_26 : decode cX7_chances 26 = .ok (.iload 4, 2) := by decide +kernel
theorem dX7_chances_28 : decode cX7_chances 28 = .ok (.invokestatic 217, 3) := by decide +kernel
theorem dX7_chances_31 : decode cX7_chances 31 = .ok (.ifCond .eq 25, 3) := by decide +kernel
theorem dX7_chances_34 : decode cX7_chances 34 = .ok (.iload 5, 2) := by decide +kernel
theorem dX7_chances_36 : decode cX7_chances 36 = .ok (.invokestatic 217, 3) := by decide +kernel
theorem dX7_chances_39 : decode cX7_chances 39 = .ok (.ifCond .eq 17, 3) := by decide +kernel
theorem dX7_chances_42 : decode cX7_chances 42 = .ok (.iload_n 2, 1) := by decide +kernel
theorem dX7_chances_43 : decode cX7_chances 43 = .ok (.iload_n 3, 1) := by decide +kernel
theorem dX7_chances_44 : decode cX7_chances 44 = .ok (.iadd, 1) := by decide +kernel
theorem dX7_chances_45 : decode cX7_chances 45 = .ok (.iload 4, 2) := by decide +kernel
theorem dX7_chances_47 : decode cX7_chances 47 = .ok (.iadd, 1) := by decide +kernel
theorem dX7_chances_48 : decode cX7_chances 48 = .ok (.iload 5, 2) := by decide +kernel
theorem dX7_chances_50 : decode cX7_chances 50 = .ok (.iadd, 1) := by decide +kernel
theorem dX7_chances_51 : decode cX7_chances 51 = .ok (.bipush 10, 2) := by decide +kernel
theorem dX7_chances_53 : decode cX7_chances 53 = .ok (.if_icmp .eq 6, 3) := by decide +kernel
theorem dX7_chances_56 : decode cX7_chances 56 = .ok (.bipush (-2), 2) := by decide +kernel
theorem dX7_chances_58 : decode cX7_chances 58 = .ok (.ireturn, 1) := by decide +kernel
theorem dX7_chances_59 : decode cX7_chances 59 = .ok (.iload_n 1, 1) := by decide +kernel
theorem dX7_chances_60 : decode cX7_chances 60 = .ok (.iconst 4, 1) := by decide +kernel
theorem dX7_chances_61 : decode cX7_chances 61 = .ok (.imul, 1) := by decide +kernel
theorem dX7_chances_62 : decode cX7_chances 62 = .ok (.istore 6, 2) := by decide +kernel
theorem dX7_chances_64 : decode cX7_chances 64 = .ok (.aload_n 0, 1) := by decide +kernel
theorem dX7_chances_65 : decode cX7_chances 65 = .ok (.getfield 27, 3) := by decide +kernel
theorem dX7_chances_68 : decode cX7_chances 68 = .ok (.getfield 220, 3) := by decide +kernel
theorem dX7_chances_71 : decode cX7_chances 71 = .ok (.iload 6, 2) := by decide +kernel
theorem dX7_chances_73 : decode cX7_chances 73 = .ok (.iconst 0, 1) := by decide +kernel
theorem dX7_chances_74 : decode cX7_chances 74 = .ok (.iadd, 1) := by decide +kernel
theorem dX7_chances_75 : decode cX7_chances 75 = .ok (.iload_n 2, 1) := by decide +kernel
theorem dX7_chances_76 : decode cX7_chances 76 = .ok (.iastore, 1) := by decide +kernel
theorem dX7_chances_77 : decode cX7_chances 77 = .ok (.aload_n 0, 1) := by decide +kernel
theorem dX7_chances_78 : decode cX7_chances 78 = .ok (.getfield 27, 3) := by decide +kernel
theorem dX7_chances_81 : decode cX7_chances 81 = .ok (.getfield 220, 3) := by decide +kernel
theorem dX7_chances_84 : decode cX7_chances 84 = .ok (.iload 6, 2) := by decide +kernel
theorem dX7_chances_86 : decode cX7_chances 86 = .ok (.iconst 1, 1) := by decide +kernel
theorem dX7_chances_87 : decode cX7_chances 87 = .ok (.iadd, 1) := by decide +kernel
theorem dX7_chances_88 : decode cX7_chances 88 = .ok (.iload_n 3, 1) := by decide +kernel
theorem dX7_chances_89 : decode cX7_chances 89 = .ok (.iastore, 1) := by decide +kernel
theorem dX7_chances_90 : decode cX7_chances 90 = .ok (.aload_n 0, 1) := by decide +kernel
theorem dX7_chances_91 : decode cX7_chances 91 = .ok (.getfield 27, 3) := by decide +kernel
theorem dX7_chances_94 : decode cX7_chances 94 = .ok (.getfield 220, 3) := by decide +kernel
theorem dX7_chances_97 : decode cX7_chances 97 = .ok (.iload 6, 2) := by decide +kernel
theorem dX7_chances_99 : decode cX7_chances 99 = .ok (.iconst 2, 1) := by decide +kernel
theorem dX7_chances_100 : decode cX7_chances 100 = .ok (.iadd, 1) := by decide +kernel
theorem dX7_chances_101 : decode cX7_chances 101 = .ok (.iload 4, 2) := by decide +kernel
theorem dX7_chances_103 : decode cX7_chances 103 = .ok (.iastore, 1) := by decide +kernel
theorem dX7_chances_104 : decode cX7_chances 104 = .ok (.aload_n 0, 1) := by decide +kernel
theorem dX7_chances_105 : decode cX7_chances 105 = .ok (.getfield 27, 3) := by decide +kernel
theorem dX7_chances_108 : decode cX7_chances 108 = .ok (.getfield 220, 3) := by decide +kernel
theorem dX7_chances_111 : decode cX7_chances 111 = .ok (.iload 6, 2) := by decide +kernel
theorem dX7_chances_113 : decode cX7_chances 113 = .ok (.iconst 3, 1) := by decide +kernel
theorem dX7_chances_114 : decode cX7_chances 114 = .ok (.iadd, 1) := by decide +kernel
theorem dX7_chances_115 : decode cX7_chances 115 = .ok (.iload 5, 2) := by decide +kernel
theorem dX7_chances_117 : decode cX7_chances 117 = .ok (.iastore, 1) := by decide +kernel
theorem dX7_chances_118 : decode cX7_chances 118 = .ok (.iconst 1, 1) := by decide +kernel
theorem dX7_chances_119 : decode cX7_chances 119 = .ok (.ireturn, 1) := by decide +kernel
def kX7_chances (live : am_E) (Ret : am_R) : am_code := [(0, am_iload 1 1), (1, am_const (.int 0) 2), (2, am_const (.int 2) 3), (3, am_callS live 3 TX7_within 6), (6, am_if1 (fun x => x = 0) 23 9), (9, am_iload 2 10), (10, am_callS live 1 TX7_isChance 13), (13, am_if1 (fun x => x = 0) 23 16), (16, am_iload 3 17), (17, am_callS live 1 TX7_isChance 20), (20, am_if1 (fun x => x = 0) 23 26), (23, am_const (.int (-2)) 25), (25, am_retI Ret), (26, am_iload 4 28), (28, am_callS live 1 TX7_isChance 31), (31, am_if1 (fun x => x = 0) 56 34), (34, am_iload 5 36), (36, am_callS live 1 TX7_isChance 39), (39, am_if1 (fun x => x = 0) 56 42), (42, am_iload 2 43), (43, am_iload 3 44), (44, am_i2 (fun x y => x + y) 45), (45, am_iload 4 47), (47, am_i2 (fun x y => x + y) 48), (48, am_iload 5 50), (50, am_i2 (fun x y => x + y) 51), (51, am_const (.int 10) 53), (53, am_if2 (fun x y => x = y) 59 56), (56, am_const (.int (-2)) 58), (58, am_retI Ret), (59, am_iload 1 60), (60, am_const (.int 4) 61), (61, am_i2 (fun x y => x * y) 62), (62, am_istore 6 7 64), (64, am_aload 0 65), (65, am_getR live 7 0 68), (68, am_getR live 0 10 71), (71, am_iload 6 73), (73, am_const (.int 0) 74), (74, am_i2 (fun x y => x + y) 75), (75, am_iload 2 76), (76, am_ast live 0 77), (77, am_aload 0 78), (78, am_getR live 7 0 81), (81, am_getR live 0 10 84), (84, am_iload 6 86), (86, am_const (.int 1) 87), (87, am_i2 (fun x y => x + y) 88), (88, am_iload 3 89), (89, am_ast live 0 90), (90, am_aload 0 91), (91, am_getR live 7 0 94), (94, am_getR live 0 10 97), (97, am_iload 6 99), (99, am_const (.int 2) 100), (100, am_i2 (fun x y => x + y) 101), (101, am_iload 4 103), (103, am_ast live 0 104), (104, am_aload 0 105), (105, am_getR live 7 0 108), (108, am_getR live 0 10 111), (111, am_iload 6 113), (113, am_const (.int 3) 114), (114, am_i2 (fun x y => x + y) 115), (115, am_iload 5 117), (117, am_ast live 0 118), (118, am_const (.int 1) 119), (119, am_retI Ret)]
theorem koX7_chances (live : am_E) (Ret : am_R) : ∀ q ∈ kX7_chances live Ret, am_ok RX7 cX7_chances 7 (some .int) 1 22 live Ret q.1 q.2 :=
  am_kc (ak_iload_n dX7_chances_0 rfl rfl) <|
  am_kc (ak_iconst dX7_chances_1 (by decide +kernel) rfl) <|
  am_kc (ak_iconst dX7_chances_2 (by decide +kernel) rfl) <|
  am_kc (ak_callS metX7_within ⟨rfl, by decide +kernel, by decide +kernel, by decide +kernel⟩ (am_w4 wd_418 wd_419 wd_58 wd_420) (by decide) dX7_chances_3 rfl) <|
  am_kc (ak_if_eq dX7_chances_6 (by decide +kernel) rfl) <|
  am_kc (ak_iload_n dX7_chances_9 rfl rfl) <|
  am_kc (ak_callS metX7_isChance ⟨rfl, by decide +kernel, by decide +kernel, by decide +kernel⟩ (am_w4 wd_773 wd_774 wd_58 wd_775) (by decide) dX7_chances_10 rfl) <|
  am_kc (ak_if_eq dX7_chances_13 (by decide +kernel) rfl) <|
  am_kc (ak_iload_n dX7_chances_16 rfl rfl) <|
  am_kc (ak_callS metX7_isChance ⟨rfl, by decide +kernel, by decide +kernel, by decide +kernel⟩ (am_w4 wd_773 wd_774 wd_58 wd_775) (by decide) dX7_chances_17 rfl) <|
  am_kc (ak_if_ne dX7_chances_20 (by decide +kernel) rfl) <|
  am_kc (ak_bipush dX7_chances_23 (by decide +kernel) rfl) <|
  am_kc (ak_retI dX7_chances_25) <|
  am_kc (ak_iload dX7_chances_26 rfl) <|
  am_kc (ak_callS metX7_isChance ⟨rfl, by decide +kernel, by decide +kernel, by decide +kernel⟩ (am_w4 wd_773 wd_774 wd_58 wd_775) (by decide) dX7_chances_28 rfl) <|
  am_kc (ak_if_eq dX7_chances_31 (by decide +kernel) rfl) <|
  am_kc (ak_iload dX7_chances_34 rfl) <|
  am_kc (ak_callS metX7_isChance ⟨rfl, by decide +kernel, by decide +kernel, by decide +kernel⟩ (am_w4 wd_773 wd_774 wd_58 wd_775) (by decide) dX7_chances_36 rfl) <|
  am_kc (ak_if_eq dX7_chances_39 (by decide +kernel) rfl) <|
  am_kc (ak_iload_n dX7_chances_42 rfl rfl) <|
  am_kc (ak_iload_n dX7_chances_43 rfl rfl) <|
  am_kc (ak_iadd dX7_chances_44 rfl) <|
  am_kc (ak_iload dX7_chances_45 rfl) <|
  am_kc (ak_iadd dX7_chances_47 rfl) <|
  am_kc (ak_iload dX7_chances_48 rfl) <|
  am_kc (ak_iadd dX7_chances_50 rfl) <|
  am_kc (ak_bipush dX7_chances_51 (by decide +kernel) rfl) <|
  am_kc (ak_icmp_eq dX7_chances_53 (by decide +kernel) rfl) <|
  am_kc (ak_bipush dX7_chances_56 (by decide +kernel) rfl) <|
  am_kc (ak_retI dX7_chances_58) <|
  am_kc (ak_iload_n dX7_chances_59 rfl rfl) <|
  am_kc (ak_iconst dX7_chances_60 (by decide +kernel) rfl) <|
  am_kc (ak_imul dX7_chances_61 rfl) <|
  am_kc (ak_istore dX7_chances_62 rfl) <|
  am_kc (ak_aload_n dX7_chances_64 rfl rfl) <|
  am_kc (ak_getR (C := RX7) (T := TX7) (N := 4) rfl inX7w (by decide) rfl rfl rfl wd_390 dX7_chances_65 rfl) <|
  am_kc (ak_getR (C := RX0) (T := TX0) (N := 13) rfl inX0w (by decide) rfl rfl rfl wd_223 dX7_chances_68 rfl) <|
  am_kc (ak_iload dX7_chances_71 rfl) <|
  am_kc (ak_iconst dX7_chances_73 (by decide +kernel) rfl) <|
  am_kc (ak_iadd dX7_chances_74 rfl) <|
  am_kc (ak_iload_n dX7_chances_75 rfl rfl) <|
  am_kc (ak_iast (t := 0) (fun _ => rfl) rfl dX7_chances_76 rfl) <|
  am_kc (ak_aload_n dX7_chances_77 rfl rfl) <|
  am_kc (ak_getR (C := RX7) (T := TX7) (N := 4) rfl inX7w (by decide) rfl rfl rfl wd_390 dX7_chances_78 rfl) <|
  am_kc (ak_getR (C := RX0) (T := TX0) (N := 13) rfl inX0w (by decide) rfl rfl rfl wd_223 dX7_chances_81 rfl) <|
  am_kc (ak_iload dX7_chances_84 rfl) <|
  am_kc (ak_iconst dX7_chances_86 (by decide +kernel) rfl) <|
  am_kc (ak_iadd dX7_chances_87 rfl) <|
  am_kc (ak_iload_n dX7_chances_88 rfl rfl) <|
  am_kc (ak_iast (t := 0) (fun _ => rfl) rfl dX7_chances_89 rfl) <|
  am_kc (ak_aload_n dX7_chances_90 rfl rfl) <|
  am_kc (ak_getR (C := RX7) (T := TX7) (N := 4) rfl inX7w (by decide) rfl rfl rfl wd_390 dX7_chances_91 rfl) <|
  am_kc (ak_getR (C := RX0) (T := TX0) (N := 13) rfl inX0w (by decide) rfl rfl rfl wd_223 dX7_chances_94 rfl) <|
  am_kc (ak_iload dX7_chances_97 rfl) <|
  am_kc (ak_iconst dX7_chances_99 (by decide +kernel) rfl) <|
  am_kc (ak_iadd dX7_chances_100 rfl) <|
  am_kc (ak_iload dX7_chances_101 rfl) <|
  am_kc (ak_iast (t := 0) (fun _ => rfl) rfl dX7_chances_103 rfl) <|
  am_kc (ak_aload_n dX7_chances_104 rfl rfl) <|
  am_kc (ak_getR (C := RX7) (T := TX7) (N := 4) rfl inX7w (by decide) rfl rfl rfl wd_390 dX7_chances_105 rfl) <|
  am_kc (ak_getR (C := RX0) (T := TX0) (N := 13) rfl inX0w (by decide) rfl rfl rfl wd_223 dX7_chances_108 rfl) <|
  am_kc (ak_iload dX7_chances_111 rfl) <|
  am_kc (ak_iconst dX7_chances_113 (by decide +kernel) rfl) <|
  am_kc (ak_iadd dX7_chances_114 rfl) <|
  am_kc (ak_iload dX7_chances_115 rfl) <|
  am_kc (ak_iast (t := 0) (fun _ => rfl) rfl dX7_chances_117 rfl) <|
  am_kc (ak_iconst dX7_chances_118 (by decide +kernel) rfl) <|
  am_kc (ak_retI dX7_chances_119) <| am_kn
def c_chances (M : am_M) (s w g a d : Int32) : Int32 × am_M := if 0 ≤ s ∧ s ≤ 2 then (if 0 ≤ w ∧ w ≤ 10 then (if 0 ≤ g ∧ g ≤ 10 then (if 0 ≤ a ∧ a ≤ 10 then (if 0 ≤ d ∧ d ≤ 10 then (if w + g + a + d = 10 then (1, am_wI (am_wI (am_wI (am_wI M 57 (s * 4 + 0).toNatClampNeg w) 57 (s * 4 + 1).toNatClampNeg g) 57 (s * 4 + 2).toNatClampNeg a) 57 (s * 4 + 3).toNatClampNeg d) else ((-2 : Int32), M)) else ((-2 : Int32), M)) else ((-2 : Int32), M)) else ((-2 : Int32), M)) else ((-2 : Int32), M)) else ((-2 : Int32), M)
def TX7_chances : am_T := fun live as M R => match as with
  | [.ref n, .int s, .int w, .int g, .int a, .int d] => am_mn live ∧ n = 0 ∧ (g_hI M ∧ g_rI M) ∧ R (some (.int (c_chances M s w g a d).1)) (c_chances M s w g a d).2
  | _ => False
set_option maxRecDepth 100000 in
set_option maxHeartbeats 4000000 in
theorem metX7_chances : am_Met yX7_chances cX7_chances 7 (some .int) (1) (22) TX7_chances := by
  refine am_met (own := RX7) (by decide +kernel) rfl kX7_chances koX7_chances 150 (fun _ _ _ _ _ => none) (fun live as M Ret h => ?_) (fun _ _ _ _ _ _ _ _ hI => by cases hI)
  unfold TX7_chances at h
  split at h
  · next n s w g a d =>
    refine ⟨Nat.le_of_ble_eq_true rfl, ?_⟩
    change am_wp _ _ _ _ [(0, Value.ref n), (1, Value.int s), (2, Value.int w), (3, Value.int g), (4, Value.int a), (5, Value.int d)] _ _
    obtain ⟨hmn, rfl, ⟨hH, hR⟩, h⟩ := h
    have hmn2 := hmn
    obtain ⟨i1, i2, rfl⟩ := hmn2
    by_cases z0 : 0 ≤ s ∧ s ≤ 2
    rotate_left
    · skip
      have q0 : (if 0 ≤ s ∧ s ≤ 2 then (1 : Int32) else 0) = 0 := if_neg z0
      have e : c_chances M s w g a d = ((-2 : Int32), M) := by unfold c_chances; rw [if_neg z0]
      rw [e] at h
      repeat' (first | (with_reducible exact hmn) | (with_reducible exact h) | apply And.intro | exact rfl | (intro hx; with_reducible exact absurd q0 hx) | (intro hx; exact absurd hx (by decide)) | (intro hx; exact absurd (by decide) hx) | decide | intro hx | (refine Exists.intro _ (And.intro rfl ?_)))
      all_goals try first | (with_reducible change am_tI _ _) | (change Ret _ _) | (change Ret _ _ _) | (change Exists _)
      all_goals try dsimp only at *
      all_goals try exact absurd ‹(1000 : Int64) = 0› (by decide)
      all_goals first | exact h | (simp only [e40, e41, e42, e43, e4, l57, Int32.reduceToInt]; omega) | skip
    · skip
      have q0 : ¬ ((if 0 ≤ s ∧ s ≤ 2 then (1 : Int32) else 0) = 0) := by rw [if_pos z0]; decide
      by_cases z1 : 0 ≤ w ∧ w ≤ 10
      rotate_left
      · skip
        have q1 : (if 0 ≤ w ∧ w ≤ 10 then (1 : Int32) else 0) = 0 := if_neg z1
        have e : c_chances M s w g a d = ((-2 : Int32), M) := by unfold c_chances; rw [if_pos z0, if_neg z1]
        rw [e] at h
        repeat' (first | (with_reducible exact hmn) | (with_reducible exact h) | apply And.intro | exact rfl | (intro hx; with_reducible exact absurd hx q0) | (intro hx; with_reducible exact absurd q1 hx) | (intro hx; exact absurd hx (by decide)) | (intro hx; exact absurd (by decide) hx) | decide | intro hx | (refine Exists.intro _ (And.intro rfl ?_)))
        all_goals try first | (with_reducible change am_tI _ _) | (change Ret _ _) | (change Ret _ _ _) | (change Exists _)
        all_goals try dsimp only at *
        all_goals try exact absurd ‹(1000 : Int64) = 0› (by decide)
        all_goals first | exact h | (simp only [e40, e41, e42, e43, e4, l57, Int32.reduceToInt]; omega) | skip
      · skip
        have q1 : ¬ ((if 0 ≤ w ∧ w ≤ 10 then (1 : Int32) else 0) = 0) := by rw [if_pos z1]; decide
        by_cases z2 : 0 ≤ g ∧ g ≤ 10
        rotate_left
        · skip
          have q2 : (if 0 ≤ g ∧ g ≤ 10 then (1 : Int32) else 0) = 0 := if_neg z2
          have e : c_chances M s w g a d = ((-2 : Int32), M) := by unfold c_chances; rw [if_pos z0, if_pos z1, if_neg z2]
          rw [e] at h
          repeat' (first | (with_reducible exact hmn) | (with_reducible exact h) | apply And.intro | exact rfl | (intro hx; with_reducible exact absurd hx q0) | (intro hx; with_reducible exact absurd hx q1) | (intro hx; with_reducible exact absurd q2 hx) | (intro hx; exact absurd hx (by decide)) | (intro hx; exact absurd (by decide) hx) | decide | intro hx | (refine Exists.intro _ (And.intro rfl ?_)))
          all_goals try first | (with_reducible change am_tI _ _) | (change Ret _ _) | (change Ret _ _ _) | (change Exists _)
          all_goals try dsimp only at *
          all_goals try exact absurd ‹(1000 : Int64) = 0› (by decide)
          all_goals first | exact h | (simp only [e40, e41, e42, e43, e4, l57, Int32.reduceToInt]; omega) | skip
        · skip
          have q2 : ¬ ((if 0 ≤ g ∧ g ≤ 10 then (1 : Int32) else 0) = 0) := by rw [if_pos z2]; decide
          by_cases z3 : 0 ≤ a ∧ a ≤ 10
          rotate_left
          · skip
            have q3 : (if 0 ≤ a ∧ a ≤ 10 then (1 : Int32) else 0) = 0 := if_neg z3
            have e : c_chances M s w g a d = ((-2 : Int32), M) := by unfold c_chances; rw [if_pos z0, if_pos z1, if_pos z2, if_neg z3]
            rw [e] at h
            repeat' (first | (with_reducible exact hmn) | (with_reducible exact h) | apply And.intro | exact rfl | (intro hx; with_reducible exact absurd hx q0) | (intro hx; with_reducible exact absurd hx q1) | (intro hx; with_reducible exact absurd hx q2) | (intro hx; with_reducible exact absurd q3 hx) | (intro hx; exact absurd hx (by decide)) | (intro hx; exact absurd (by decide) hx) | decide | intro hx | (refine Exists.intro _ (And.intro rfl ?_)))
            all_goals try first | (with_reducible change am_tI _ _) | (change Ret _ _) | (change Ret _ _ _) | (change Exists _)
            all_goals try dsimp only at *
            all_goals try exact absurd ‹(1000 : Int64) = 0› (by decide)
            all_goals first | exact h | (simp only [e40, e41, e42, e43, e4, l57, Int32.reduceToInt]; omega) | skip
          · skip
            have q3 : ¬ ((if 0 ≤ a ∧ a ≤ 10 then (1 : Int32) else 0) = 0) := by rw [if_pos z3]; decide
            by_cases z4 : 0 ≤ d ∧ d ≤ 10
            rotate_left
            · skip
              have q4 : (if 0 ≤ d ∧ d ≤ 10 then (1 : Int32) else 0) = 0 := if_neg z4
              have e : c_chances M s w g a d = ((-2 : Int32), M) := by unfold c_chances; rw [if_pos z0, if_pos z1, if_pos z2, if_pos z3, if_neg z4]
              rw [e] at h
              repeat' (first | (with_reducible exact hmn) | (with_reducible exact h) | apply And.intro | exact rfl | (intro hx; with_reducible exact absurd hx q0) | (intro hx; with_reducible exact absurd hx q1) | (intro hx; with_reducible exact absurd hx q2) | (intro hx; with_reducible exact absurd hx q3) | (intro hx; with_reducible exact absurd q4 hx) | (intro hx; exact absurd hx (by decide)) | (intro hx; exact absurd (by decide) hx) | decide | intro hx | (refine Exists.intro _ (And.intro rfl ?_)))
              all_goals try first | (with_reducible change am_tI _ _) | (change Ret _ _) | (change Ret _ _ _) | (change Exists _)
              all_goals try dsimp only at *
              all_goals try exact absurd ‹(1000 : Int64) = 0› (by decide)
              all_goals first | exact h | (simp only [e40, e41, e42, e43, e4, l57, Int32.reduceToInt]; omega) | skip
            · skip
              have q4 : ¬ ((if 0 ≤ d ∧ d ≤ 10 then (1 : Int32) else 0) = 0) := by rw [if_pos z4]; decide
              by_cases z5 : w + g + a + d = 10
              rotate_left
              · skip
                have e : c_chances M s w g a d = ((-2 : Int32), M) := by unfold c_chances; rw [if_pos z0, if_pos z1, if_pos z2, if_pos z3, if_pos z4, if_neg z5]
                rw [e] at h
                repeat' (first | (with_reducible exact hmn) | (with_reducible exact h) | apply And.intro | exact rfl | (intro hx; with_reducible exact absurd hx q0) | (intro hx; with_reducible exact absurd hx q1) | (intro hx; with_reducible exact absurd hx q2) | (intro hx; with_reducible exact absurd hx q3) | (intro hx; with_reducible exact absurd hx q4) | (intro hx; with_reducible exact absurd hx z5) | (intro hx; exact absurd hx (by decide)) | (intro hx; exact absurd (by decide) hx) | decide | intro hx | (refine Exists.intro _ (And.intro rfl ?_)))
                all_goals try first | (with_reducible change am_tI _ _) | (change Ret _ _) | (change Ret _ _ _) | (change Exists _)
                all_goals try dsimp only at *
                all_goals try exact absurd ‹(1000 : Int64) = 0› (by decide)
                all_goals first | exact h | (simp only [e40, e41, e42, e43, e4, l57, Int32.reduceToInt]; omega) | skip
              · skip
                have l57 : am_len 57 = 16 := rfl
                have hs : am_in s 3 := ⟨by have q := z0.1; simp only [i_le, Int32.reduceToInt] at q; omega, by have q := z0.2; simp only [i_le, Int32.reduceToInt] at q; omega⟩
                have e4 := i_mul (x := s) (y := 4) (by simp only [Int32.reduceToInt]; have := hs.1; have := hs.2; omega) (by simp only [Int32.reduceToInt]; have := hs.1; have := hs.2; omega)
                have hs1 := hs.1
                have hs2 := hs.2
                have e40 := i_add (x := s * 4) (y := 0) (by rw [e4]; simp only [Int32.reduceToInt]; omega) (by rw [e4]; simp only [Int32.reduceToInt]; omega)
                have e41 := i_add (x := s * 4) (y := 1) (by rw [e4]; simp only [Int32.reduceToInt]; omega) (by rw [e4]; simp only [Int32.reduceToInt]; omega)
                have e42 := i_add (x := s * 4) (y := 2) (by rw [e4]; simp only [Int32.reduceToInt]; omega) (by rw [e4]; simp only [Int32.reduceToInt]; omega)
                have e43 := i_add (x := s * 4) (y := 3) (by rw [e4]; simp only [Int32.reduceToInt]; omega) (by rw [e4]; simp only [Int32.reduceToInt]; omega)
                have e : c_chances M s w g a d = (1, am_wI (am_wI (am_wI (am_wI M 57 (s * 4 + 0).toNatClampNeg w) 57 (s * 4 + 1).toNatClampNeg g) 57 (s * 4 + 2).toNatClampNeg a) 57 (s * 4 + 3).toNatClampNeg d) := by unfold c_chances; rw [if_pos z0, if_pos z1, if_pos z2, if_pos z3, if_pos z4, if_pos z5]
                rw [e] at h
                repeat' (first | (with_reducible exact hmn) | apply And.intro | exact rfl | (intro hx; with_reducible exact absurd hx q0) | (intro hx; with_reducible exact absurd hx q1) | (intro hx; with_reducible exact absurd hx q2) | (intro hx; with_reducible exact absurd hx q3) | (intro hx; with_reducible exact absurd hx q4) | (intro hx; with_reducible exact absurd z5 hx) | (intro hx; exact absurd hx (by decide)) | (intro hx; exact absurd (by decide) hx) | decide | intro hx | (refine Exists.intro _ (And.intro rfl ?_)))
                all_goals try first | (with_reducible change am_tI _ _) | (change Ret _ _) | (change Ret _ _ _) | (change Exists _)
                all_goals try dsimp only at *
                all_goals try exact absurd ‹(1000 : Int64) = 0› (by decide)
                all_goals first | exact h | (simp only [e40, e41, e42, e43, e4, l57, Int32.reduceToInt]; omega) | skip
  · exact h.elim
