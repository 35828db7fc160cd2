/-! general: the reference's told calls, II -/
theorem r_lcol {l w : Int32} (hl : am_in l 30) (hw : 0 ≤ w.toInt ∧ w.toInt ≤ 7) : (2838 + 8 * l + w).toInt = 2838 + 8 * l.toInt + w.toInt := by
  have h1 := hl.1
  have h2 := hl.2
  have e8 := r_mul (c := 8) (x := l) ⟨by decide, by decide⟩ ⟨by omega, by omega⟩
  simp only [Int32.reduceToInt] at e8
  have ea := r_off (c := 2838) (x := 8 * l) ⟨by decide, by decide⟩ ⟨by omega, by omega⟩
  simp only [e8, Int32.reduceToInt] at ea
  rw [r_off (c := 2838 + 8 * l) (x := w) ⟨by omega, by omega⟩ ⟨by omega, by omega⟩, ea]
def rwX8_ofLoan : List dz_r := [(0, .aload_n 0, 1), (1, .getfield 7, 3), (4, .sipush 2838, 3), (7, .bipush 8, 2), (9, .iload_n 1, 1), (10, .imul, 1), (11, .iadd, 1), (12, .iload_n 2, 1), (13, .iadd, 1), (14, .iaload, 1), (15, .ireturn, 1)]
theorem dzX8_ofLoan : dz cX8_ofLoan rwX8_ofLoan := dz_all 0 (by decide +kernel)
def kX8_ofLoan (live : am_E) (Ret : am_R) : am_code := [(0, am_aload 0 1), (1, am_getR live 8 0 4), (4, am_const (.int 2838) 7), (7, am_const (.int 8) 9), (9, am_iload 1 10), (10, am_i2 (fun x y => x * y) 11), (11, am_i2 (fun x y => x + y) 12), (12, am_iload 2 13), (13, am_i2 (fun x y => x + y) 14), (14, am_ald live 0 15), (15, am_retI Ret)]
theorem koX8_ofLoan (live : am_E) (Ret : am_R) : ∀ q ∈ kX8_ofLoan live Ret, am_ok RX8 cX8_ofLoan 3 (some .int) 0 0 live Ret q.1 q.2 :=
  am_kz dzX8_ofLoan <|
  am_kd (fun d => ak_aload_n d rfl rfl) <|
  am_kd (fun d => ak_getR (C := RX8) (T := TX8) (N := 27) rfl inX8w (by decide) rfl rfl rfl wd_895 d rfl) <|
  am_kd (fun d => ak_sipush d (by decide +kernel) rfl) <|
  am_kd (fun d => ak_bipush d (by decide +kernel) rfl) <|
  am_kd (fun d => ak_iload_n d rfl rfl) <|
  am_kd (fun d => ak_imul d rfl) <|
  am_kd (fun d => ak_iadd d rfl) <|
  am_kd (fun d => ak_iload_n d rfl rfl) <|
  am_kd (fun d => ak_iadd d rfl) <|
  am_kd (fun d => ak_iald (t := 0) (fun _ => rfl) rfl d rfl) <|
  am_kd (fun d => ak_retI d) <| am_kdn
def TX8_ofLoan : am_T := fun live as M R => match as with
  | [.ref n, .int l, .int w] => am_mn live ∧ n = 200 ∧ am_in l 30 ∧ (0 ≤ w.toInt ∧ w.toInt ≤ 7) ∧ R (some (.int (M.1 201 (2838 + 8 * l + w).toNatClampNeg))) M
  | _ => False
set_option maxRecDepth 100000 in
set_option maxHeartbeats 4000000 in
theorem metX8_ofLoan : am_Met yX8_ofLoan cX8_ofLoan 3 (some .int) (0) (0) TX8_ofLoan := by
  refine am_met (own := RX8) (by decide +kernel) rfl kX8_ofLoan koX8_ofLoan 60 (fun _ _ _ _ _ => none) (fun live as M Ret h => ?_) (fun _ _ _ _ _ _ _ _ hI => by cases hI)
  unfold TX8_ofLoan at h
  split at h
  · next n l w =>
    refine ⟨Nat.le_of_ble_eq_true rfl, ?_⟩
    change am_wp _ _ _ _ [(0, Value.ref n), (1, Value.int l), (2, Value.int w)] _ _
    obtain ⟨⟨i1, i2, rfl⟩, rfl, hl, hw, h⟩ := h
    have e := r_lcol hl hw
    have l201 : am_len 201 = 3760 := rfl
    have h1 := hl.1
    have h2 := hl.2
    repeat' (first | apply And.intro | exact rfl | intro hx | (refine Exists.intro _ (And.intro rfl ?_)))
    all_goals try first | (with_reducible change am_tI _ _) | (change Ret _ _) | (change Ret _ _ _) | (change Exists _)
    all_goals try dsimp only at *
    all_goals try (with_reducible exact absurd ‹(1000 : Int64) = 0› am_z1000)
    all_goals first | (with_reducible exact h) | omega | (rw [l201]; omega) | exact h
  · exact h.elim
def rwX8_given : List dz_r := [(0, .iload_n 2, 1), (1, .aload_n 0, 1), (2, .getfield 7, 3), (5, .sipush 2838, 3), (8, .bipush 8, 2), (10, .iload_n 1, 1), (11, .imul, 1), (12, .iadd, 1), (13, .iconst 2, 1), (14, .iadd, 1), (15, .iaload, 1), (16, .isub, 1), (17, .istore_n 3, 1), (18, .iload_n 3, 1), (19, .ifCond .ne 9, 3), (22, .sipush 750, 3), (25, .goto 15, 3), (28, .iload_n 3, 1), (29, .iconst 1, 1), (30, .if_icmp .ne 9, 3), (33, .sipush 500, 3), (36, .goto 4, 3), (39, .iconst 0, 1), (40, .istore 4, 2), (42, .aload_n 0, 1), (43, .getfield 7, 3), (46, .sipush 2838, 3), (49, .bipush 8, 2), (51, .iload_n 1, 1), (52, .imul, 1), (53, .iadd, 1), (54, .iconst 3, 1), (55, .iadd, 1), (56, .iaload, 1), (57, .i2l, 1), (58, .iload 4, 2), (60, .i2l, 1), (61, .lmul, 1), (62, .ldc2_w 94, 3), (65, .ldiv, 1), (66, .l2i, 1), (67, .ireturn, 1)]
theorem dzX8_given : dz cX8_given rwX8_given := dz_all 0 (by decide +kernel)
def kX8_given (live : am_E) (Ret : am_R) : am_code := [(0, am_iload 2 1), (1, am_aload 0 2), (2, am_getR live 8 0 5), (5, am_const (.int 2838) 8), (8, am_const (.int 8) 10), (10, am_iload 1 11), (11, am_i2 (fun x y => x * y) 12), (12, am_i2 (fun x y => x + y) 13), (13, am_const (.int 2) 14), (14, am_i2 (fun x y => x + y) 15), (15, am_ald live 0 16), (16, am_i2 (fun x y => x - y) 17), (17, am_istore 3 5 18), (18, am_iload 3 19), (19, am_if1 (fun x => x = 0) 22 28), (22, am_const (.int 750) 25), (25, am_goto 40), (28, am_iload 3 29), (29, am_const (.int 1) 30), (30, am_if2 (fun x y => x = y) 33 39), (33, am_const (.int 500) 36), (36, am_goto 40), (39, am_const (.int 0) 40), (40, am_istore 4 5 42), (42, am_aload 0 43), (43, am_getR live 8 0 46), (46, am_const (.int 2838) 49), (49, am_const (.int 8) 51), (51, am_iload 1 52), (52, am_i2 (fun x y => x * y) 53), (53, am_i2 (fun x y => x + y) 54), (54, am_const (.int 3) 55), (55, am_i2 (fun x y => x + y) 56), (56, am_ald live 0 57), (57, am_i2l 58), (58, am_iload 4 60), (60, am_i2l 61), (61, am_l2 (fun x y => x * y) 62), (62, am_const (.long 1000) 65), (65, am_l2z (fun x y => x / y) 66), (66, am_l2i 67), (67, am_retI Ret)]
theorem koX8_given (live : am_E) (Ret : am_R) : ∀ q ∈ kX8_given live Ret, am_ok RX8 cX8_given 5 (some .int) 0 0 live Ret q.1 q.2 :=
  am_kz dzX8_given <|
  am_kd (fun d => ak_iload_n d rfl rfl) <|
  am_kd (fun d => ak_aload_n d rfl rfl) <|
  am_kd (fun d => ak_getR (C := RX8) (T := TX8) (N := 27) rfl inX8w (by decide) rfl rfl rfl wd_895 d rfl) <|
  am_kd (fun d => ak_sipush d (by decide +kernel) rfl) <|
  am_kd (fun d => ak_bipush d (by decide +kernel) rfl) <|
  am_kd (fun d => ak_iload_n d rfl rfl) <|
  am_kd (fun d => ak_imul d rfl) <|
  am_kd (fun d => ak_iadd d rfl) <|
  am_kd (fun d => ak_iconst d (by decide +kernel) rfl) <|
  am_kd (fun d => ak_iadd d rfl) <|
  am_kd (fun d => ak_iald (t := 0) (fun _ => rfl) rfl d rfl) <|
  am_kd (fun d => ak_isub d rfl) <|
  am_kd (fun d => ak_istore_n d rfl rfl) <|
  am_kd (fun d => ak_iload_n d rfl rfl) <|
  am_kd (fun d => ak_if_ne d (by decide +kernel) rfl) <|
  am_kd (fun d => ak_sipush d (by decide +kernel) rfl) <|
  am_kd (fun d => ak_goto d (by decide +kernel)) <|
  am_kd (fun d => ak_iload_n d rfl rfl) <|
  am_kd (fun d => ak_iconst d (by decide +kernel) rfl) <|
  am_kd (fun d => ak_icmp_ne d (by decide +kernel) rfl) <|
  am_kd (fun d => ak_sipush d (by decide +kernel) rfl) <|
  am_kd (fun d => ak_goto d (by decide +kernel)) <|
  am_kd (fun d => ak_iconst d (by decide +kernel) rfl) <|
  am_kd (fun d => ak_istore d rfl) <|
  am_kd (fun d => ak_aload_n d rfl rfl) <|
  am_kd (fun d => ak_getR (C := RX8) (T := TX8) (N := 27) rfl inX8w (by decide) rfl rfl rfl wd_895 d rfl) <|
  am_kd (fun d => ak_sipush d (by decide +kernel) rfl) <|
  am_kd (fun d => ak_bipush d (by decide +kernel) rfl) <|
  am_kd (fun d => ak_iload_n d rfl rfl) <|
  am_kd (fun d => ak_imul d rfl) <|
  am_kd (fun d => ak_iadd d rfl) <|
  am_kd (fun d => ak_iconst d (by decide +kernel) rfl) <|
  am_kd (fun d => ak_iadd d rfl) <|
  am_kd (fun d => ak_iald (t := 0) (fun _ => rfl) rfl d rfl) <|
  am_kd (fun d => ak_i2l d rfl) <|
  am_kd (fun d => ak_iload d rfl) <|
  am_kd (fun d => ak_i2l d rfl) <|
  am_kd (fun d => ak_lmul d rfl) <|
  am_kd (fun d => ak_ldc2 wd_1045 d rfl) <|
  am_kd (fun d => ak_ldiv d rfl) <|
  am_kd (fun d => ak_l2i d rfl) <|
  am_kd (fun d => ak_retI d) <| am_kdn
def r_given (M : am_M) (l y : Int32) : Int32 := ((M.1 201 (2838 + 8 * l + 3).toNatClampNeg).toInt64 * ((if y - M.1 201 (2838 + 8 * l + 2).toNatClampNeg = 0 then 750 else if y - M.1 201 (2838 + 8 * l + 2).toNatClampNeg = 1 then 500 else 0 : Int32)).toInt64 / 1000).toInt32
def TX8_given : am_T := fun live as M R => match as with
  | [.ref n, .int l, .int y] => am_mn live ∧ n = 200 ∧ am_in l 30 ∧ R (some (.int (r_given M l y))) M
  | _ => False
set_option maxRecDepth 100000 in
set_option maxHeartbeats 4000000 in
theorem metX8_given : am_Met yX8_given cX8_given 5 (some .int) (0) (0) TX8_given := by
  refine am_met (own := RX8) (by decide +kernel) rfl kX8_given koX8_given 100 (fun _ _ _ _ _ => none) (fun live as M Ret h => ?_) (fun _ _ _ _ _ _ _ _ hI => by cases hI)
  unfold TX8_given at h
  split at h
  · next n l y =>
    refine ⟨Nat.le_of_ble_eq_true rfl, ?_⟩
    change am_wp _ _ _ _ [(0, Value.ref n), (1, Value.int l), (2, Value.int y)] _ _
    obtain ⟨⟨i1, i2, rfl⟩, rfl, hl, h⟩ := h
    have e2 := r_lcol hl (w := 2) ⟨by decide, by decide⟩
    have e3 := r_lcol hl (w := 3) ⟨by decide, by decide⟩
    simp only [Int32.reduceToInt] at e2 e3
    have l201 : am_len 201 = 3760 := rfl
    have h1 := hl.1
    have h2 := hl.2
    by_cases z : y - M.1 201 (2838 + 8 * l + 2).toNatClampNeg = 0
    · rw [show r_given M l y = ((M.1 201 (2838 + 8 * l + 3).toNatClampNeg).toInt64 * (750 : Int32).toInt64 / 1000).toInt32 by unfold r_given; rw [if_pos z]] at h
      repeat' (first | apply And.intro | exact rfl | (intro hx; with_reducible exact absurd z hx) | intro hx | (refine Exists.intro _ (And.intro rfl ?_)))
      all_goals try first | (with_reducible change am_tI _ _) | (change Ret _ _) | (change Ret _ _ _) | (change Exists _)
      all_goals try dsimp only at *
      all_goals try (with_reducible exact absurd ‹(1000 : Int64) = 0› am_z1000)
      all_goals first | (with_reducible exact h) | omega | (rw [l201]; omega) | exact h
    · by_cases z1 : y - M.1 201 (2838 + 8 * l + 2).toNatClampNeg = 1
      · rw [show r_given M l y = ((M.1 201 (2838 + 8 * l + 3).toNatClampNeg).toInt64 * (500 : Int32).toInt64 / 1000).toInt32 by unfold r_given; rw [if_neg z, if_pos z1]] at h
        repeat' (first | apply And.intro | exact rfl | (intro hx; with_reducible exact absurd hx z) | (intro hx; with_reducible exact absurd z1 hx) | intro hx | (refine Exists.intro _ (And.intro rfl ?_)))
        all_goals try first | (with_reducible change am_tI _ _) | (change Ret _ _) | (change Ret _ _ _) | (change Exists _)
        all_goals try dsimp only at *
        all_goals try (with_reducible exact absurd ‹(1000 : Int64) = 0› am_z1000)
        all_goals first | (with_reducible exact h) | omega | (rw [l201]; omega) | exact h
      · rw [show r_given M l y = ((M.1 201 (2838 + 8 * l + 3).toNatClampNeg).toInt64 * (0 : Int32).toInt64 / 1000).toInt32 by unfold r_given; rw [if_neg z, if_neg z1]] at h
        repeat' (first | apply And.intro | exact rfl | (intro hx; with_reducible exact absurd hx z) | (intro hx; with_reducible exact absurd hx z1) | intro hx | (refine Exists.intro _ (And.intro rfl ?_)))
        all_goals try first | (with_reducible change am_tI _ _) | (change Ret _ _) | (change Ret _ _ _) | (change Exists _)
        all_goals try dsimp only at *
        all_goals try (with_reducible exact absurd ‹(1000 : Int64) = 0› am_z1000)
        all_goals first | (with_reducible exact h) | omega | (rw [l201]; omega) | exact h
  · exact h.elim
def rwX8_earningsOf : List dz_r := [(0, .bipush 40, 2), (2, .iload_n 1, 1), (3, .imul, 1), (4, .iload_n 2, 1), (5, .iadd, 1), (6, .istore 4, 2), (8, .aload_n 0, 1), (9, .getfield 7, 3), (12, .sipush 1998, 3), (15, .iload 4, 2), (17, .iadd, 1), (18, .iaload, 1), (19, .ifCond .lt 30, 3), (22, .aload_n 0, 1), (23, .getfield 7, 3), (26, .sipush 1998, 3), (29, .iload 4, 2), (31, .iadd, 1), (32, .iaload, 1), (33, .iload_n 3, 1), (34, .if_icmp .gt 15, 3), (37, .aload_n 0, 1), (38, .getfield 7, 3), (41, .sipush 1518, 3), (44, .iload 4, 2), (46, .iadd, 1), (47, .iaload, 1), (48, .ireturn, 1), (49, .aload_n 0, 1), (50, .getfield 7, 3), (53, .sipush 1038, 3), (56, .iload 4, 2), (58, .iadd, 1), (59, .iaload, 1), (60, .ifCond .lt 32, 3), (63, .aload_n 0, 1), (64, .getfield 7, 3), (67, .sipush 1038, 3), (70, .iload 4, 2), (72, .iadd, 1), (73, .iaload, 1), (74, .iload_n 3, 1), (75, .if_icmp .gt 17, 3), (78, .aload_n 0, 1), (79, .getfield 7, 3), (82, .sipush 558, 3), (85, .iload 4, 2), (87, .iadd, 1), (88, .iaload, 1), (89, .goto 4, 3), (92, .iconst (-1), 1), (93, .ireturn, 1)]
theorem dzX8_earningsOf : dz cX8_earningsOf rwX8_earningsOf := dz_all 0 (by decide +kernel)
def kX8_earningsOf (live : am_E) (Ret : am_R) : am_code := [(0, am_const (.int 40) 2), (2, am_iload 1 3), (3, am_i2 (fun x y => x * y) 4), (4, am_iload 2 5), (5, am_i2 (fun x y => x + y) 6), (6, am_istore 4 5 8), (8, am_aload 0 9), (9, am_getR live 8 0 12), (12, am_const (.int 1998) 15), (15, am_iload 4 17), (17, am_i2 (fun x y => x + y) 18), (18, am_ald live 0 19), (19, am_if1 (fun x => x < 0) 49 22), (22, am_aload 0 23), (23, am_getR live 8 0 26), (26, am_const (.int 1998) 29), (29, am_iload 4 31), (31, am_i2 (fun x y => x + y) 32), (32, am_ald live 0 33), (33, am_iload 3 34), (34, am_if2 (fun x y => y < x) 49 37), (37, am_aload 0 38), (38, am_getR live 8 0 41), (41, am_const (.int 1518) 44), (44, am_iload 4 46), (46, am_i2 (fun x y => x + y) 47), (47, am_ald live 0 48), (48, am_retI Ret), (49, am_aload 0 50), (50, am_getR live 8 0 53), (53, am_const (.int 1038) 56), (56, am_iload 4 58), (58, am_i2 (fun x y => x + y) 59), (59, am_ald live 0 60), (60, am_if1 (fun x => x < 0) 92 63), (63, am_aload 0 64), (64, am_getR live 8 0 67), (67, am_const (.int 1038) 70), (70, am_iload 4 72), (72, am_i2 (fun x y => x + y) 73), (73, am_ald live 0 74), (74, am_iload 3 75), (75, am_if2 (fun x y => y < x) 92 78), (78, am_aload 0 79), (79, am_getR live 8 0 82), (82, am_const (.int 558) 85), (85, am_iload 4 87), (87, am_i2 (fun x y => x + y) 88), (88, am_ald live 0 89), (89, am_goto 93), (92, am_const (.int (-1)) 93), (93, am_retI Ret)]
theorem koX8_earningsOf (live : am_E) (Ret : am_R) : ∀ q ∈ kX8_earningsOf live Ret, am_ok RX8 cX8_earningsOf 5 (some .int) 0 0 live Ret q.1 q.2 :=
  am_kz dzX8_earningsOf <|
  am_kd (fun d => ak_bipush d (by decide +kernel) rfl) <|
  am_kd (fun d => ak_iload_n d rfl rfl) <|
  am_kd (fun d => ak_imul d rfl) <|
  am_kd (fun d => ak_iload_n d rfl rfl) <|
  am_kd (fun d => ak_iadd d rfl) <|
  am_kd (fun d => ak_istore d rfl) <|
  am_kd (fun d => ak_aload_n d rfl rfl) <|
  am_kd (fun d => ak_getR (C := RX8) (T := TX8) (N := 27) rfl inX8w (by decide) rfl rfl rfl wd_895 d rfl) <|
  am_kd (fun d => ak_sipush d (by decide +kernel) rfl) <|
  am_kd (fun d => ak_iload d rfl) <|
  am_kd (fun d => ak_iadd d rfl) <|
  am_kd (fun d => ak_iald (t := 0) (fun _ => rfl) rfl d rfl) <|
  am_kd (fun d => ak_if_lt d (by decide +kernel) rfl) <|
  am_kd (fun d => ak_aload_n d rfl rfl) <|
  am_kd (fun d => ak_getR (C := RX8) (T := TX8) (N := 27) rfl inX8w (by decide) rfl rfl rfl wd_895 d rfl) <|
  am_kd (fun d => ak_sipush d (by decide +kernel) rfl) <|
  am_kd (fun d => ak_iload d rfl) <|
  am_kd (fun d => ak_iadd d rfl) <|
  am_kd (fun d => ak_iald (t := 0) (fun _ => rfl) rfl d rfl) <|
  am_kd (fun d => ak_iload_n d rfl rfl) <|
  am_kd (fun d => ak_icmp_gt d (by decide +kernel) rfl) <|
  am_kd (fun d => ak_aload_n d rfl rfl) <|
  am_kd (fun d => ak_getR (C := RX8) (T := TX8) (N := 27) rfl inX8w (by decide) rfl rfl rfl wd_895 d rfl) <|
  am_kd (fun d => ak_sipush d (by decide +kernel) rfl) <|
  am_kd (fun d => ak_iload d rfl) <|
  am_kd (fun d => ak_iadd d rfl) <|
  am_kd (fun d => ak_iald (t := 0) (fun _ => rfl) rfl d rfl) <|
  am_kd (fun d => ak_retI d) <|
  am_kd (fun d => ak_aload_n d rfl rfl) <|
  am_kd (fun d => ak_getR (C := RX8) (T := TX8) (N := 27) rfl inX8w (by decide) rfl rfl rfl wd_895 d rfl) <|
  am_kd (fun d => ak_sipush d (by decide +kernel) rfl) <|
  am_kd (fun d => ak_iload d rfl) <|
  am_kd (fun d => ak_iadd d rfl) <|
  am_kd (fun d => ak_iald (t := 0) (fun _ => rfl) rfl d rfl) <|
  am_kd (fun d => ak_if_lt d (by decide +kernel) rfl) <|
  am_kd (fun d => ak_aload_n d rfl rfl) <|
  am_kd (fun d => ak_getR (C := RX8) (T := TX8) (N := 27) rfl inX8w (by decide) rfl rfl rfl wd_895 d rfl) <|
  am_kd (fun d => ak_sipush d (by decide +kernel) rfl) <|
  am_kd (fun d => ak_iload d rfl) <|
  am_kd (fun d => ak_iadd d rfl) <|
  am_kd (fun d => ak_iald (t := 0) (fun _ => rfl) rfl d rfl) <|
  am_kd (fun d => ak_iload_n d rfl rfl) <|
  am_kd (fun d => ak_icmp_gt d (by decide +kernel) rfl) <|
  am_kd (fun d => ak_aload_n d rfl rfl) <|
  am_kd (fun d => ak_getR (C := RX8) (T := TX8) (N := 27) rfl inX8w (by decide) rfl rfl rfl wd_895 d rfl) <|
  am_kd (fun d => ak_sipush d (by decide +kernel) rfl) <|
  am_kd (fun d => ak_iload d rfl) <|
  am_kd (fun d => ak_iadd d rfl) <|
  am_kd (fun d => ak_iald (t := 0) (fun _ => rfl) rfl d rfl) <|
  am_kd (fun d => ak_goto d (by decide +kernel)) <|
  am_kd (fun d => ak_iconst d (by decide +kernel) rfl) <|
  am_kd (fun d => ak_retI d) <| am_kdn
def r_known (M : am_M) (p y k : Int32) : Int32 := if ¬ M.1 201 (1998 + (40 * p + y)).toNatClampNeg < 0 ∧ ¬ k < M.1 201 (1998 + (40 * p + y)).toNatClampNeg then M.1 201 (1518 + (40 * p + y)).toNatClampNeg else if ¬ M.1 201 (1038 + (40 * p + y)).toNatClampNeg < 0 ∧ ¬ k < M.1 201 (1038 + (40 * p + y)).toNatClampNeg then M.1 201 (558 + (40 * p + y)).toNatClampNeg else -1
def TX8_earningsOf : am_T := fun live as M R => match as with
  | [.ref n, .int p, .int y, .int k] => am_mn live ∧ n = 200 ∧ am_in p 12 ∧ am_in y 40 ∧ R (some (.int (r_known M p y k))) M
  | _ => False
set_option maxRecDepth 100000 in
set_option maxHeartbeats 4000000 in
theorem metX8_earningsOf : am_Met yX8_earningsOf cX8_earningsOf 5 (some .int) (0) (0) TX8_earningsOf := by
  refine am_met (own := RX8) (by decide +kernel) rfl kX8_earningsOf koX8_earningsOf 100 (fun _ _ _ _ _ => none) (fun live as M Ret h => ?_) (fun _ _ _ _ _ _ _ _ hI => by cases hI)
  unfold TX8_earningsOf at h
  split at h
  · next n p y k =>
    refine ⟨Nat.le_of_ble_eq_true rfl, ?_⟩
    change am_wp _ _ _ _ [(0, Value.ref n), (1, Value.int p), (2, Value.int y), (3, Value.int k)] _ _
    obtain ⟨⟨i1, i2, rfl⟩, rfl, hp, hy, h⟩ := h
    have l201 : am_len 201 = 3760 := rfl
    have hp1 := hp.1
    have hp2 := hp.2
    have hy1 := hy.1
    have hy2 := hy.2
    have e40 := r_mul (c := 40) (x := p) ⟨by decide, by decide⟩ ⟨by omega, by omega⟩
    simp only [Int32.reduceToInt] at e40
    have ey := r_off (c := 40 * p) (x := y) ⟨by rw [e40]; omega, by rw [e40]; omega⟩ ⟨by omega, by omega⟩
    rw [e40] at ey
    have e558 := r_off (c := 558) (x := 40 * p + y) ⟨by decide, by decide⟩ ⟨by rw [ey]; omega, by rw [ey]; omega⟩
    simp only [ey, Int32.reduceToInt] at e558
    have e1038 := r_off (c := 1038) (x := 40 * p + y) ⟨by decide, by decide⟩ ⟨by rw [ey]; omega, by rw [ey]; omega⟩
    simp only [ey, Int32.reduceToInt] at e1038
    have e1518 := r_off (c := 1518) (x := 40 * p + y) ⟨by decide, by decide⟩ ⟨by rw [ey]; omega, by rw [ey]; omega⟩
    simp only [ey, Int32.reduceToInt] at e1518
    have e1998 := r_off (c := 1998) (x := 40 * p + y) ⟨by decide, by decide⟩ ⟨by rw [ey]; omega, by rw [ey]; omega⟩
    simp only [ey, Int32.reduceToInt] at e1998
    by_cases z0 : M.1 201 (1998 + (40 * p + y)).toNatClampNeg < 0
    · by_cases z2 : M.1 201 (1038 + (40 * p + y)).toNatClampNeg < 0
      · rw [show r_known M p y k = -1 by unfold r_known; rw [if_neg (fun q => q.1 z0), if_neg (fun q => q.1 z2)]] at h
        repeat' (first | apply And.intro | exact rfl | (intro hx; with_reducible exact absurd z0 hx) | (intro hx; with_reducible exact absurd z2 hx) | intro hx | (refine Exists.intro _ (And.intro rfl ?_)))
        all_goals try first | (with_reducible change am_tI _ _) | (change Ret _ _) | (change Ret _ _ _) | (change Exists _)
        all_goals try dsimp only at *
        all_goals try (with_reducible exact absurd ‹(1000 : Int64) = 0› am_z1000)
        all_goals first | (with_reducible exact h) | (simp only [e558, l201, Int32.reduceToInt]; omega) | (simp only [e1038, l201, Int32.reduceToInt]; omega) | (simp only [e1518, l201, Int32.reduceToInt]; omega) | (simp only [e1998, l201, Int32.reduceToInt]; omega) | exact h
      · by_cases z3 : k < M.1 201 (1038 + (40 * p + y)).toNatClampNeg
        · rw [show r_known M p y k = -1 by unfold r_known; rw [if_neg (fun q => q.1 z0), if_neg (fun q => q.2 z3)]] at h
          repeat' (first | apply And.intro | exact rfl | (intro hx; with_reducible exact absurd hx z2) | (intro hx; with_reducible exact absurd z0 hx) | (intro hx; with_reducible exact absurd z3 hx) | intro hx | (refine Exists.intro _ (And.intro rfl ?_)))
          all_goals try first | (with_reducible change am_tI _ _) | (change Ret _ _) | (change Ret _ _ _) | (change Exists _)
          all_goals try dsimp only at *
          all_goals try (with_reducible exact absurd ‹(1000 : Int64) = 0› am_z1000)
          all_goals first | (with_reducible exact h) | (simp only [e558, l201, Int32.reduceToInt]; omega) | (simp only [e1038, l201, Int32.reduceToInt]; omega) | (simp only [e1518, l201, Int32.reduceToInt]; omega) | (simp only [e1998, l201, Int32.reduceToInt]; omega) | exact h
        · rw [show r_known M p y k = M.1 201 (558 + (40 * p + y)).toNatClampNeg by unfold r_known; rw [if_neg (fun q => q.1 z0), if_pos ⟨z2, z3⟩]] at h
          repeat' (first | apply And.intro | exact rfl | (intro hx; with_reducible exact absurd hx z2) | (intro hx; with_reducible exact absurd hx z3) | (intro hx; with_reducible exact absurd z0 hx) | intro hx | (refine Exists.intro _ (And.intro rfl ?_)))
          all_goals try first | (with_reducible change am_tI _ _) | (change Ret _ _) | (change Ret _ _ _) | (change Exists _)
          all_goals try dsimp only at *
          all_goals try (with_reducible exact absurd ‹(1000 : Int64) = 0› am_z1000)
          all_goals first | (with_reducible exact h) | (simp only [e558, l201, Int32.reduceToInt]; omega) | (simp only [e1038, l201, Int32.reduceToInt]; omega) | (simp only [e1518, l201, Int32.reduceToInt]; omega) | (simp only [e1998, l201, Int32.reduceToInt]; omega) | exact h
    · by_cases z1 : k < M.1 201 (1998 + (40 * p + y)).toNatClampNeg
      · by_cases z2 : M.1 201 (1038 + (40 * p + y)).toNatClampNeg < 0
        · rw [show r_known M p y k = -1 by unfold r_known; rw [if_neg (fun q => q.2 z1), if_neg (fun q => q.1 z2)]] at h
          repeat' (first | apply And.intro | exact rfl | (intro hx; with_reducible exact absurd hx z0) | (intro hx; with_reducible exact absurd z1 hx) | (intro hx; with_reducible exact absurd z2 hx) | intro hx | (refine Exists.intro _ (And.intro rfl ?_)))
          all_goals try first | (with_reducible change am_tI _ _) | (change Ret _ _) | (change Ret _ _ _) | (change Exists _)
          all_goals try dsimp only at *
          all_goals try (with_reducible exact absurd ‹(1000 : Int64) = 0› am_z1000)
          all_goals first | (with_reducible exact h) | (simp only [e558, l201, Int32.reduceToInt]; omega) | (simp only [e1038, l201, Int32.reduceToInt]; omega) | (simp only [e1518, l201, Int32.reduceToInt]; omega) | (simp only [e1998, l201, Int32.reduceToInt]; omega) | exact h
        · by_cases z3 : k < M.1 201 (1038 + (40 * p + y)).toNatClampNeg
          · rw [show r_known M p y k = -1 by unfold r_known; rw [if_neg (fun q => q.2 z1), if_neg (fun q => q.2 z3)]] at h
            repeat' (first | apply And.intro | exact rfl | (intro hx; with_reducible exact absurd hx z0) | (intro hx; with_reducible exact absurd hx z2) | (intro hx; with_reducible exact absurd z1 hx) | (intro hx; with_reducible exact absurd z3 hx) | intro hx | (refine Exists.intro _ (And.intro rfl ?_)))
            all_goals try first | (with_reducible change am_tI _ _) | (change Ret _ _) | (change Ret _ _ _) | (change Exists _)
            all_goals try dsimp only at *
            all_goals try (with_reducible exact absurd ‹(1000 : Int64) = 0› am_z1000)
            all_goals first | (with_reducible exact h) | (simp only [e558, l201, Int32.reduceToInt]; omega) | (simp only [e1038, l201, Int32.reduceToInt]; omega) | (simp only [e1518, l201, Int32.reduceToInt]; omega) | (simp only [e1998, l201, Int32.reduceToInt]; omega) | exact h
          · rw [show r_known M p y k = M.1 201 (558 + (40 * p + y)).toNatClampNeg by unfold r_known; rw [if_neg (fun q => q.2 z1), if_pos ⟨z2, z3⟩]] at h
            repeat' (first | apply And.intro | exact rfl | (intro hx; with_reducible exact absurd hx z0) | (intro hx; with_reducible exact absurd hx z2) | (intro hx; with_reducible exact absurd hx z3) | (intro hx; with_reducible exact absurd z1 hx) | intro hx | (refine Exists.intro _ (And.intro rfl ?_)))
            all_goals try first | (with_reducible change am_tI _ _) | (change Ret _ _) | (change Ret _ _ _) | (change Exists _)
            all_goals try dsimp only at *
            all_goals try (with_reducible exact absurd ‹(1000 : Int64) = 0› am_z1000)
            all_goals first | (with_reducible exact h) | (simp only [e558, l201, Int32.reduceToInt]; omega) | (simp only [e1038, l201, Int32.reduceToInt]; omega) | (simp only [e1518, l201, Int32.reduceToInt]; omega) | (simp only [e1998, l201, Int32.reduceToInt]; omega) | exact h
      · rw [show r_known M p y k = M.1 201 (1518 + (40 * p + y)).toNatClampNeg by unfold r_known; rw [if_pos ⟨z0, z1⟩]] at h
        repeat' (first | apply And.intro | exact rfl | (intro hx; with_reducible exact absurd hx z0) | (intro hx; with_reducible exact absurd hx z1) | intro hx | (refine Exists.intro _ (And.intro rfl ?_)))
        all_goals try first | (with_reducible change am_tI _ _) | (change Ret _ _) | (change Ret _ _ _) | (change Exists _)
        all_goals try dsimp only at *
        all_goals try (with_reducible exact absurd ‹(1000 : Int64) = 0› am_z1000)
        all_goals first | (with_reducible exact h) | (simp only [e558, l201, Int32.reduceToInt]; omega) | (simp only [e1038, l201, Int32.reduceToInt]; omega) | (simp only [e1518, l201, Int32.reduceToInt]; omega) | (simp only [e1998, l201, Int32.reduceToInt]; omega) | exact h
  · exact h.elim
theorem hy_X8_earningsOf : yX8_earningsOf.cls ≠ "java/lang/invoke/MethodHandle" ∧ yX8_earningsOf.cls ≠ "java/lang/invoke/VarHandle" ∧ (parseMethodDescriptor yX8_earningsOf.desc).map (fun d => d.parameters.length) = some 3 := ⟨by decide +kernel, by decide +kernel, by decide +kernel⟩
set_option maxRecDepth 100000 in
theorem wd_1026 : Cond.methodLink "LearnLoansModel" 89 yX8_earningsOf ∈ am_ws := am_wt5 (List.mem_of_getElem? (i := 9) (by rfl)) (by decide +kernel)
set_option maxRecDepth 100000 in
theorem wd_1028 : Cond.instanceMethod yX8_earningsOf ∈ am_ws := am_wt5 (List.mem_of_getElem? (i := 11) (by rfl)) (by decide +kernel)
set_option maxRecDepth 100000 in
theorem wd_28 : Cond.selects "LearnLoansModel" yX8_earningsOf yX8_earningsOf ∈ am_ws := am_wsi (List.mem_of_getElem? (i := 28) (by rfl)) (by decide +kernel)
set_option maxRecDepth 100000 in
theorem wd_1029 : Cond.code yX8_earningsOf cX8_earningsOf 5 (some .int) ∈ am_ws := am_wt5 (List.mem_of_getElem? (i := 12) (by rfl)) (by decide +kernel)
def rwX8_earnings : List dz_r := [(0, .aload_n 0, 1), (1, .iload_n 1, 1), (2, .invokevirtual 76, 3), (5, .ifCond .eq 27, 3), (8, .iload_n 2, 1), (9, .invokestatic 72, 3), (12, .ifCond .eq 20, 3), (15, .iload_n 3, 1), (16, .invokestatic 72, 3), (19, .ifCond .eq 13, 3), (22, .aload_n 0, 1), (23, .iload_n 1, 1), (24, .iload_n 2, 1), (25, .iload_n 3, 1), (26, .invokevirtual 89, 3), (29, .goto 5, 3), (32, .bipush (-2), 2), (34, .ireturn, 1)]
theorem dzX8_earnings : dz cX8_earnings rwX8_earnings := dz_all 0 (by decide +kernel)
def kX8_earnings (live : am_E) (Ret : am_R) : am_code := [(0, am_aload 0 1), (1, am_iload 1 2), (2, am_callV live 8 1 TX8_isPerson 5), (5, am_if1 (fun x => x = 0) 32 8), (8, am_iload 2 9), (9, am_callS live 1 TX8_isYear 12), (12, am_if1 (fun x => x = 0) 32 15), (15, am_iload 3 16), (16, am_callS live 1 TX8_isYear 19), (19, am_if1 (fun x => x = 0) 32 22), (22, am_aload 0 23), (23, am_iload 1 24), (24, am_iload 2 25), (25, am_iload 3 26), (26, am_callV live 8 3 TX8_earningsOf 29), (29, am_goto 34), (32, am_const (.int (-2)) 34), (34, am_retI Ret)]
theorem koX8_earnings (live : am_E) (Ret : am_R) : ∀ q ∈ kX8_earnings live Ret, am_ok RX8 cX8_earnings 4 (some .int) 2 46 live Ret q.1 q.2 :=
  am_kz dzX8_earnings <|
  am_kd (fun d => ak_aload_n d rfl rfl) <|
  am_kd (fun d => ak_iload_n d rfl rfl) <|
  am_kd (fun d => ak_callV (C := RX8) (F := TX8) (N := 27) metX8_isPerson rfl ⟨rfl, hy_X8_isPerson⟩ (am_w5 wd_993 wd_995 wd_27 wd_67 wd_996) (by decide) d rfl) <|
  am_kd (fun d => ak_if_eq d (by decide +kernel) rfl) <|
  am_kd (fun d => ak_iload_n d rfl rfl) <|
  am_kd (fun d => ak_callS metX8_isYear ⟨rfl, hy_X8_isYear⟩ (am_w4 wd_982 wd_983 wd_67 wd_984) (by decide) d rfl) <|
  am_kd (fun d => ak_if_eq d (by decide +kernel) rfl) <|
  am_kd (fun d => ak_iload_n d rfl rfl) <|
  am_kd (fun d => ak_callS metX8_isYear ⟨rfl, hy_X8_isYear⟩ (am_w4 wd_982 wd_983 wd_67 wd_984) (by decide) d rfl) <|
  am_kd (fun d => ak_if_eq d (by decide +kernel) rfl) <|
  am_kd (fun d => ak_aload_n d rfl rfl) <|
  am_kd (fun d => ak_iload_n d rfl rfl) <|
  am_kd (fun d => ak_iload_n d rfl rfl) <|
  am_kd (fun d => ak_iload_n d rfl rfl) <|
  am_kd (fun d => ak_callV (C := RX8) (F := TX8) (N := 27) metX8_earningsOf rfl ⟨rfl, hy_X8_earningsOf⟩ (am_w5 wd_1026 wd_1028 wd_28 wd_67 wd_1029) (by decide) d rfl) <|
  am_kd (fun d => ak_goto d (by decide +kernel)) <|
  am_kd (fun d => ak_bipush d (by decide +kernel) rfl) <|
  am_kd (fun d => ak_retI d) <| am_kdn
def r_earnings (M : am_M) (p y k : Int32) : Int32 × am_M := if 0 ≤ p ∧ p < M.1 201 0 then (if 0 ≤ y ∧ y < 40 then (if 0 ≤ k ∧ k < 40 then (r_known M p y k, M) else ((-2 : Int32), M)) else ((-2 : Int32), M)) else ((-2 : Int32), M)
def TX8_earnings : am_T := fun live as M R => match as with
  | [.ref n, .int p, .int y, .int k] => am_mn live ∧ n = 200 ∧ r_I M ∧ R (some (.int (r_earnings M p y k).1)) (r_earnings M p y k).2
  | _ => False
set_option maxRecDepth 100000 in
set_option maxHeartbeats 4000000 in
theorem metX8_earnings : am_Met yX8_earnings cX8_earnings 4 (some .int) (2) (46) TX8_earnings := by
  refine am_met (own := RX8) (by decide +kernel) rfl kX8_earnings koX8_earnings 200 (fun _ _ _ _ _ => none) (fun live as M Ret h => ?_) (fun _ _ _ _ _ _ _ _ hI => by cases hI)
  unfold TX8_earnings at h
  split at h
  · next n p y k =>
    refine ⟨Nat.le_of_ble_eq_true rfl, ?_⟩
    change am_wp _ _ _ _ [(0, Value.ref n), (1, Value.int p), (2, Value.int y), (3, Value.int k)] _ _
    obtain ⟨hmn, rfl, hR, h⟩ := h
    have hmn2 := hmn
    obtain ⟨i1, i2, rfl⟩ := hmn2
    have l201 : am_len 201 = 3760 := rfl
    have n0 := hR.n0
    have n1 := hR.n1
    have n030 : 0 ≤ (M.1 201 0).toInt ∧ (M.1 201 0).toInt ≤ 30 := ⟨n0.1, by omega⟩
    by_cases z0 : 0 ≤ p ∧ p < M.1 201 0
    rotate_left
    · skip
      have q0 : (if 0 ≤ p ∧ p < M.1 201 0 then (1 : Int32) else 0) = 0 := if_neg z0
      have e : r_earnings M p y k = ((-2 : Int32), M) := by unfold r_earnings; rw [if_neg z0]
      rw [e] at h
      repeat' (first | (with_reducible exact hmn) | (with_reducible exact h) | (with_reducible exact n030) | (with_reducible exact n1) | apply And.intro | exact rfl | (intro hx; with_reducible exact absurd q0 hx) | (intro hx; exact absurd hx (by decide)) | (intro hx; exact absurd (by decide) hx) | decide | intro hx | (refine Exists.intro _ (And.intro rfl ?_)))
      all_goals try first | (with_reducible change am_tI _ _) | (change Ret _ _) | (change Ret _ _ _) | (change Exists _)
      all_goals try dsimp only at *
      all_goals try (with_reducible exact absurd ‹(1000 : Int64) = 0› am_z1000)
      all_goals first | (with_reducible exact h) | (with_reducible exact n0.1) | omega | (show _ < _; simp only [l201]; decide) | exact h | exact n0.1 | skip
    · skip
      have q0 : ¬ ((if 0 ≤ p ∧ p < M.1 201 0 then (1 : Int32) else 0) = 0) := by rw [if_pos z0]; decide
      by_cases z1 : 0 ≤ y ∧ y < 40
      rotate_left
      · skip
        have q1 : (if 0 ≤ y ∧ y < 40 then (1 : Int32) else 0) = 0 := if_neg z1
        have e : r_earnings M p y k = ((-2 : Int32), M) := by unfold r_earnings; rw [if_pos z0, if_neg z1]
        rw [e] at h
        repeat' (first | (with_reducible exact hmn) | (with_reducible exact h) | (with_reducible exact n030) | (with_reducible exact n1) | apply And.intro | exact rfl | (intro hx; with_reducible exact absurd hx q0) | (intro hx; with_reducible exact absurd q1 hx) | (intro hx; exact absurd hx (by decide)) | (intro hx; exact absurd (by decide) hx) | decide | intro hx | (refine Exists.intro _ (And.intro rfl ?_)))
        all_goals try first | (with_reducible change am_tI _ _) | (change Ret _ _) | (change Ret _ _ _) | (change Exists _)
        all_goals try dsimp only at *
        all_goals try (with_reducible exact absurd ‹(1000 : Int64) = 0› am_z1000)
        all_goals first | (with_reducible exact h) | (with_reducible exact n0.1) | omega | (show _ < _; simp only [l201]; decide) | exact h | exact n0.1 | skip
      · skip
        have q1 : ¬ ((if 0 ≤ y ∧ y < 40 then (1 : Int32) else 0) = 0) := by rw [if_pos z1]; decide
        by_cases z2 : 0 ≤ k ∧ k < 40
        rotate_left
        · skip
          have q2 : (if 0 ≤ k ∧ k < 40 then (1 : Int32) else 0) = 0 := if_neg z2
          have e : r_earnings M p y k = ((-2 : Int32), M) := by unfold r_earnings; rw [if_pos z0, if_pos z1, if_neg z2]
          rw [e] at h
          repeat' (first | (with_reducible exact hmn) | (with_reducible exact h) | (with_reducible exact n030) | (with_reducible exact n1) | apply And.intro | exact rfl | (intro hx; with_reducible exact absurd hx q0) | (intro hx; with_reducible exact absurd hx q1) | (intro hx; with_reducible exact absurd q2 hx) | (intro hx; exact absurd hx (by decide)) | (intro hx; exact absurd (by decide) hx) | decide | intro hx | (refine Exists.intro _ (And.intro rfl ?_)))
          all_goals try first | (with_reducible change am_tI _ _) | (change Ret _ _) | (change Ret _ _ _) | (change Exists _)
          all_goals try dsimp only at *
          all_goals try (with_reducible exact absurd ‹(1000 : Int64) = 0› am_z1000)
          all_goals first | (with_reducible exact h) | (with_reducible exact n0.1) | omega | (show _ < _; simp only [l201]; decide) | exact h | exact n0.1 | skip
        · skip
          have q2 : ¬ ((if 0 ≤ k ∧ k < 40 then (1 : Int32) else 0) = 0) := by rw [if_pos z2]; decide
          have hp : am_in p 12 := ⟨by have q := z0.1; simp only [i_le, Int32.reduceToInt] at q; omega, by have q := z0.2; simp only [i_lt] at q; omega⟩
          have hy : am_in y 40 := ⟨by have q := z1.1; simp only [i_le, Int32.reduceToInt] at q; omega, by have q := z1.2; simp only [i_lt, Int32.reduceToInt] at q; omega⟩
          have e : r_earnings M p y k = (r_known M p y k, M) := by unfold r_earnings; rw [if_pos z0, if_pos z1, if_pos z2]
          rw [e] at h
          repeat' (first | (with_reducible exact hmn) | (with_reducible exact n030) | (with_reducible exact n1) | (with_reducible exact hp) | (with_reducible exact hy) | apply And.intro | exact rfl | (intro hx; with_reducible exact absurd hx q0) | (intro hx; with_reducible exact absurd hx q1) | (intro hx; with_reducible exact absurd hx q2) | (intro hx; exact absurd hx (by decide)) | (intro hx; exact absurd (by decide) hx) | decide | intro hx | (refine Exists.intro _ (And.intro rfl ?_)))
          all_goals try first | (with_reducible change am_tI _ _) | (change Ret _ _) | (change Ret _ _ _) | (change Exists _)
          all_goals try dsimp only at *
          all_goals try (with_reducible exact absurd ‹(1000 : Int64) = 0› am_z1000)
          all_goals first | (with_reducible exact h) | (with_reducible exact n0.1) | omega | (show _ < _; simp only [l201]; decide) | exact h | exact n0.1 | skip
  · exact h.elim
def rwX8_right : List dz_r := [(0, .aload_n 0, 1), (1, .iload_n 1, 1), (2, .invokevirtual 76, 3), (5, .ifCond .eq 30, 3), (8, .iload_n 2, 1), (9, .invokestatic 72, 3), (12, .ifCond .eq 23, 3), (15, .iload_n 3, 1), (16, .i2l, 1), (17, .lconst 0, 1), (18, .ldc2_w 87, 3), (21, .invokestatic 66, 3), (24, .ifCond .eq 11, 3), (27, .iload 4, 2), (29, .invokestatic 72, 3), (32, .ifCond .ne 6, 3), (35, .bipush (-2), 2), (37, .ireturn, 1), (38, .bipush 40, 2), (40, .iload_n 1, 1), (41, .imul, 1), (42, .iload_n 2, 1), (43, .iadd, 1), (44, .istore 5, 2), (46, .aload_n 0, 1), (47, .getfield 7, 3), (50, .sipush 1038, 3), (53, .iload 5, 2), (55, .iadd, 1), (56, .iaload, 1), (57, .istore 6, 2), (59, .iload 6, 2), (61, .ifCond .lt 13, 3), (64, .iload 4, 2), (66, .iload 6, 2), (68, .if_icmp .ge 6, 3), (71, .bipush (-2), 2), (73, .ireturn, 1), (74, .iload 6, 2), (76, .ifCond .lt 17, 3), (79, .aload_n 0, 1), (80, .getfield 7, 3), (83, .sipush 1998, 3), (86, .iload 5, 2), (88, .iadd, 1), (89, .iaload, 1), (90, .ifCond .lt 6, 3), (93, .bipush (-3), 2), (95, .ireturn, 1), (96, .aload_n 0, 1), (97, .getfield 7, 3), (100, .sipush 1518, 3), (103, .iload 5, 2), (105, .iadd, 1), (106, .iload_n 3, 1), (107, .iastore, 1), (108, .aload_n 0, 1), (109, .getfield 7, 3), (112, .sipush 1998, 3), (115, .iload 5, 2), (117, .iadd, 1), (118, .iload 4, 2), (120, .iastore, 1), (121, .iconst 1, 1), (122, .ireturn, 1)]
theorem dzX8_right : dz cX8_right rwX8_right := dz_all 0 (by decide +kernel)
def kX8_right (live : am_E) (Ret : am_R) : am_code := [(0, am_aload 0 1), (1, am_iload 1 2), (2, am_callV live 8 1 TX8_isPerson 5), (5, am_if1 (fun x => x = 0) 35 8), (8, am_iload 2 9), (9, am_callS live 1 TX8_isYear 12), (12, am_if1 (fun x => x = 0) 35 15), (15, am_iload 3 16), (16, am_i2l 17), (17, am_const (.long 0) 18), (18, am_const (.long 10000000) 21), (21, am_callS live 3 TX8_in 24), (24, am_if1 (fun x => x = 0) 35 27), (27, am_iload 4 29), (29, am_callS live 1 TX8_isYear 32), (32, am_if1 (fun x => x = 0) 35 38), (35, am_const (.int (-2)) 37), (37, am_retI Ret), (38, am_const (.int 40) 40), (40, am_iload 1 41), (41, am_i2 (fun x y => x * y) 42), (42, am_iload 2 43), (43, am_i2 (fun x y => x + y) 44), (44, am_istore 5 7 46), (46, am_aload 0 47), (47, am_getR live 8 0 50), (50, am_const (.int 1038) 53), (53, am_iload 5 55), (55, am_i2 (fun x y => x + y) 56), (56, am_ald live 0 57), (57, am_istore 6 7 59), (59, am_iload 6 61), (61, am_if1 (fun x => x < 0) 74 64), (64, am_iload 4 66), (66, am_iload 6 68), (68, am_if2 (fun x y => y ≤ x) 74 71), (71, am_const (.int (-2)) 73), (73, am_retI Ret), (74, am_iload 6 76), (76, am_if1 (fun x => x < 0) 93 79), (79, am_aload 0 80), (80, am_getR live 8 0 83), (83, am_const (.int 1998) 86), (86, am_iload 5 88), (88, am_i2 (fun x y => x + y) 89), (89, am_ald live 0 90), (90, am_if1 (fun x => x < 0) 96 93), (93, am_const (.int (-3)) 95), (95, am_retI Ret), (96, am_aload 0 97), (97, am_getR live 8 0 100), (100, am_const (.int 1518) 103), (103, am_iload 5 105), (105, am_i2 (fun x y => x + y) 106), (106, am_iload 3 107), (107, am_ast live 0 108), (108, am_aload 0 109), (109, am_getR live 8 0 112), (112, am_const (.int 1998) 115), (115, am_iload 5 117), (117, am_i2 (fun x y => x + y) 118), (118, am_iload 4 120), (120, am_ast live 0 121), (121, am_const (.int 1) 122), (122, am_retI Ret)]
theorem koX8_right (live : am_E) (Ret : am_R) : ∀ q ∈ kX8_right live Ret, am_ok RX8 cX8_right 7 (some .int) 2 46 live Ret q.1 q.2 :=
  am_kz dzX8_right <|
  am_kd (fun d => ak_aload_n d rfl rfl) <|
  am_kd (fun d => ak_iload_n d rfl rfl) <|
  am_kd (fun d => ak_callV (C := RX8) (F := TX8) (N := 27) metX8_isPerson rfl ⟨rfl, hy_X8_isPerson⟩ (am_w5 wd_993 wd_995 wd_27 wd_67 wd_996) (by decide) d rfl) <|
  am_kd (fun d => ak_if_eq d (by decide +kernel) rfl) <|
  am_kd (fun d => ak_iload_n d rfl rfl) <|
  am_kd (fun d => ak_callS metX8_isYear ⟨rfl, hy_X8_isYear⟩ (am_w4 wd_982 wd_983 wd_67 wd_984) (by decide) d rfl) <|
  am_kd (fun d => ak_if_eq d (by decide +kernel) rfl) <|
  am_kd (fun d => ak_iload_n d rfl rfl) <|
  am_kd (fun d => ak_i2l d rfl) <|
  am_kd (fun d => ak_lconst d (by decide +kernel) rfl) <|
  am_kd (fun d => ak_ldc2 wd_1017 d rfl) <|
  am_kd (fun d => ak_callS metX8_in ⟨rfl, hy_X8_in⟩ (am_w4 wd_986 wd_987 wd_67 wd_988) (by decide) d rfl) <|
  am_kd (fun d => ak_if_eq d (by decide +kernel) rfl) <|
  am_kd (fun d => ak_iload d rfl) <|
  am_kd (fun d => ak_callS metX8_isYear ⟨rfl, hy_X8_isYear⟩ (am_w4 wd_982 wd_983 wd_67 wd_984) (by decide) d rfl) <|
  am_kd (fun d => ak_if_ne d (by decide +kernel) rfl) <|
  am_kd (fun d => ak_bipush d (by decide +kernel) rfl) <|
  am_kd (fun d => ak_retI d) <|
  am_kd (fun d => ak_bipush d (by decide +kernel) rfl) <|
  am_kd (fun d => ak_iload_n d rfl rfl) <|
  am_kd (fun d => ak_imul d rfl) <|
  am_kd (fun d => ak_iload_n d rfl rfl) <|
  am_kd (fun d => ak_iadd d rfl) <|
  am_kd (fun d => ak_istore d rfl) <|
  am_kd (fun d => ak_aload_n d rfl rfl) <|
  am_kd (fun d => ak_getR (C := RX8) (T := TX8) (N := 27) rfl inX8w (by decide) rfl rfl rfl wd_895 d rfl) <|
  am_kd (fun d => ak_sipush d (by decide +kernel) rfl) <|
  am_kd (fun d => ak_iload d rfl) <|
  am_kd (fun d => ak_iadd d rfl) <|
  am_kd (fun d => ak_iald (t := 0) (fun _ => rfl) rfl d rfl) <|
  am_kd (fun d => ak_istore d rfl) <|
  am_kd (fun d => ak_iload d rfl) <|
  am_kd (fun d => ak_if_lt d (by decide +kernel) rfl) <|
  am_kd (fun d => ak_iload d rfl) <|
  am_kd (fun d => ak_iload d rfl) <|
  am_kd (fun d => ak_icmp_ge d (by decide +kernel) rfl) <|
  am_kd (fun d => ak_bipush d (by decide +kernel) rfl) <|
  am_kd (fun d => ak_retI d) <|
  am_kd (fun d => ak_iload d rfl) <|
  am_kd (fun d => ak_if_lt d (by decide +kernel) rfl) <|
  am_kd (fun d => ak_aload_n d rfl rfl) <|
  am_kd (fun d => ak_getR (C := RX8) (T := TX8) (N := 27) rfl inX8w (by decide) rfl rfl rfl wd_895 d rfl) <|
  am_kd (fun d => ak_sipush d (by decide +kernel) rfl) <|
  am_kd (fun d => ak_iload d rfl) <|
  am_kd (fun d => ak_iadd d rfl) <|
  am_kd (fun d => ak_iald (t := 0) (fun _ => rfl) rfl d rfl) <|
  am_kd (fun d => ak_if_lt d (by decide +kernel) rfl) <|
  am_kd (fun d => ak_bipush d (by decide +kernel) rfl) <|
  am_kd (fun d => ak_retI d) <|
  am_kd (fun d => ak_aload_n d rfl rfl) <|
  am_kd (fun d => ak_getR (C := RX8) (T := TX8) (N := 27) rfl inX8w (by decide) rfl rfl rfl wd_895 d rfl) <|
  am_kd (fun d => ak_sipush d (by decide +kernel) rfl) <|
  am_kd (fun d => ak_iload d rfl) <|
  am_kd (fun d => ak_iadd d rfl) <|
  am_kd (fun d => ak_iload_n d rfl rfl) <|
  am_kd (fun d => ak_iast (t := 0) (fun _ => rfl) rfl d rfl) <|
  am_kd (fun d => ak_aload_n d rfl rfl) <|
  am_kd (fun d => ak_getR (C := RX8) (T := TX8) (N := 27) rfl inX8w (by decide) rfl rfl rfl wd_895 d rfl) <|
  am_kd (fun d => ak_sipush d (by decide +kernel) rfl) <|
  am_kd (fun d => ak_iload d rfl) <|
  am_kd (fun d => ak_iadd d rfl) <|
  am_kd (fun d => ak_iload d rfl) <|
  am_kd (fun d => ak_iast (t := 0) (fun _ => rfl) rfl d rfl) <|
  am_kd (fun d => ak_iconst d (by decide +kernel) rfl) <|
  am_kd (fun d => ak_retI d) <| am_kdn
def r_right (M : am_M) (p y c k : Int32) : Int32 × am_M := if 0 ≤ p ∧ p < M.1 201 0 then (if 0 ≤ y ∧ y < 40 then (if 0 ≤ c ∧ c ≤ 10000000 then (if 0 ≤ k ∧ k < 40 then (if M.1 201 (1038 + (40 * p + y)).toNatClampNeg < 0 then ((-3 : Int32), M) else (if M.1 201 (1038 + (40 * p + y)).toNatClampNeg ≤ k then (if M.1 201 (1998 + (40 * p + y)).toNatClampNeg < 0 then (1, am_wI (am_wI M 201 (1518 + (40 * p + y)).toNatClampNeg c) 201 (1998 + (40 * p + y)).toNatClampNeg k) else ((-3 : Int32), M)) else ((-2 : Int32), M))) else ((-2 : Int32), M)) else ((-2 : Int32), M)) else ((-2 : Int32), M)) else ((-2 : Int32), M)
def TX8_right : am_T := fun live as M R => match as with
  | [.ref n, .int p, .int y, .int c, .int k] => am_mn live ∧ n = 200 ∧ r_I M ∧ R (some (.int (r_right M p y c k).1)) (r_right M p y c k).2
  | _ => False
set_option maxRecDepth 100000 in
set_option maxHeartbeats 4000000 in
theorem metX8_right : am_Met yX8_right cX8_right 7 (some .int) (2) (46) TX8_right := by
  refine am_met (own := RX8) (by decide +kernel) rfl kX8_right koX8_right 200 (fun _ _ _ _ _ => none) (fun live as M Ret h => ?_) (fun _ _ _ _ _ _ _ _ hI => by cases hI)
  unfold TX8_right at h
  split at h
  · next n p y c k =>
    refine ⟨Nat.le_of_ble_eq_true rfl, ?_⟩
    change am_wp _ _ _ _ [(0, Value.ref n), (1, Value.int p), (2, Value.int y), (3, Value.int c), (4, Value.int k)] _ _
    obtain ⟨hmn, rfl, hR, h⟩ := h
    have hmn2 := hmn
    obtain ⟨i1, i2, rfl⟩ := hmn2
    have l201 : am_len 201 = 3760 := rfl
    have n0 := hR.n0
    have n1 := hR.n1
    have n030 : 0 ≤ (M.1 201 0).toInt ∧ (M.1 201 0).toInt ≤ 30 := ⟨n0.1, by omega⟩
    by_cases z0 : 0 ≤ p ∧ p < M.1 201 0
    rotate_left
    · skip
      have q0 : (if 0 ≤ p ∧ p < M.1 201 0 then (1 : Int32) else 0) = 0 := if_neg z0
      have e : r_right M p y c k = ((-2 : Int32), M) := by unfold r_right; rw [if_neg z0]
      rw [e] at h
      repeat' (first | (with_reducible exact hmn) | (with_reducible exact h) | (with_reducible exact n030) | (with_reducible exact n1) | apply And.intro | exact rfl | (intro hx; with_reducible exact absurd q0 hx) | (intro hx; exact absurd hx (by decide)) | (intro hx; exact absurd (by decide) hx) | decide | intro hx | (refine Exists.intro _ (And.intro rfl ?_)))
      all_goals try first | (with_reducible change am_tI _ _) | (change Ret _ _) | (change Ret _ _ _) | (change Exists _)
      all_goals try dsimp only at *
      all_goals try (with_reducible exact absurd ‹(1000 : Int64) = 0› am_z1000)
      all_goals first | (with_reducible exact h) | (with_reducible exact n0.1) | omega | (simp only [e1038, l201, Int32.reduceToInt]; omega) | (simp only [e1518, l201, Int32.reduceToInt]; omega) | (simp only [e1998, l201, Int32.reduceToInt]; omega) | (show _ < _; simp only [l201]; decide) | exact h | exact n0.1 | skip
    · skip
      have q0 : ¬ ((if 0 ≤ p ∧ p < M.1 201 0 then (1 : Int32) else 0) = 0) := by rw [if_pos z0]; decide
      by_cases z1 : 0 ≤ y ∧ y < 40
      rotate_left
      · skip
        have q1 : (if 0 ≤ y ∧ y < 40 then (1 : Int32) else 0) = 0 := if_neg z1
        have e : r_right M p y c k = ((-2 : Int32), M) := by unfold r_right; rw [if_pos z0, if_neg z1]
        rw [e] at h
        repeat' (first | (with_reducible exact hmn) | (with_reducible exact h) | (with_reducible exact n030) | (with_reducible exact n1) | apply And.intro | exact rfl | (intro hx; with_reducible exact absurd hx q0) | (intro hx; with_reducible exact absurd q1 hx) | (intro hx; exact absurd hx (by decide)) | (intro hx; exact absurd (by decide) hx) | decide | intro hx | (refine Exists.intro _ (And.intro rfl ?_)))
        all_goals try first | (with_reducible change am_tI _ _) | (change Ret _ _) | (change Ret _ _ _) | (change Exists _)
        all_goals try dsimp only at *
        all_goals try (with_reducible exact absurd ‹(1000 : Int64) = 0› am_z1000)
        all_goals first | (with_reducible exact h) | (with_reducible exact n0.1) | omega | (simp only [e1038, l201, Int32.reduceToInt]; omega) | (simp only [e1518, l201, Int32.reduceToInt]; omega) | (simp only [e1998, l201, Int32.reduceToInt]; omega) | (show _ < _; simp only [l201]; decide) | exact h | exact n0.1 | skip
      · skip
        have q1 : ¬ ((if 0 ≤ y ∧ y < 40 then (1 : Int32) else 0) = 0) := by rw [if_pos z1]; decide
        by_cases z2 : 0 ≤ c ∧ c ≤ 10000000
        rotate_left
        · skip
          have q2 : (if (0 : Int64) ≤ c.toInt64 ∧ c.toInt64 ≤ (10000000 : Int64) then (1 : Int32) else 0) = 0 := if_neg (fun r => z2 (by simp only [i_le, i_lt, j_le, Int32.toInt_toInt64, Int32.reduceToInt, Int64.reduceToInt] at r ⊢; omega))
          have e : r_right M p y c k = ((-2 : Int32), M) := by unfold r_right; rw [if_pos z0, if_pos z1, if_neg z2]
          rw [e] at h
          repeat' (first | (with_reducible exact hmn) | (with_reducible exact h) | (with_reducible exact n030) | (with_reducible exact n1) | apply And.intro | exact rfl | (intro hx; with_reducible exact absurd hx q0) | (intro hx; with_reducible exact absurd hx q1) | (intro hx; with_reducible exact absurd q2 hx) | (intro hx; exact absurd hx (by decide)) | (intro hx; exact absurd (by decide) hx) | decide | intro hx | (refine Exists.intro _ (And.intro rfl ?_)))
          all_goals try first | (with_reducible change am_tI _ _) | (change Ret _ _) | (change Ret _ _ _) | (change Exists _)
          all_goals try dsimp only at *
          all_goals try (with_reducible exact absurd ‹(1000 : Int64) = 0› am_z1000)
          all_goals first | (with_reducible exact h) | (with_reducible exact n0.1) | omega | (simp only [e1038, l201, Int32.reduceToInt]; omega) | (simp only [e1518, l201, Int32.reduceToInt]; omega) | (simp only [e1998, l201, Int32.reduceToInt]; omega) | (show _ < _; simp only [l201]; decide) | exact h | exact n0.1 | skip
        · skip
          have q2 : ¬ ((if (0 : Int64) ≤ c.toInt64 ∧ c.toInt64 ≤ (10000000 : Int64) then (1 : Int32) else 0) = 0) := by rw [if_pos (by have q := z2; simp only [i_le, i_lt, j_le, Int32.toInt_toInt64, Int32.reduceToInt, Int64.reduceToInt] at q ⊢; omega)]; decide
          by_cases z3 : 0 ≤ k ∧ k < 40
          rotate_left
          · skip
            have q3 : (if 0 ≤ k ∧ k < 40 then (1 : Int32) else 0) = 0 := if_neg z3
            have e : r_right M p y c k = ((-2 : Int32), M) := by unfold r_right; rw [if_pos z0, if_pos z1, if_pos z2, if_neg z3]
            rw [e] at h
            repeat' (first | (with_reducible exact hmn) | (with_reducible exact h) | (with_reducible exact n030) | (with_reducible exact n1) | apply And.intro | exact rfl | (intro hx; with_reducible exact absurd hx q0) | (intro hx; with_reducible exact absurd hx q1) | (intro hx; with_reducible exact absurd hx q2) | (intro hx; with_reducible exact absurd q3 hx) | (intro hx; exact absurd hx (by decide)) | (intro hx; exact absurd (by decide) hx) | decide | intro hx | (refine Exists.intro _ (And.intro rfl ?_)))
            all_goals try first | (with_reducible change am_tI _ _) | (change Ret _ _) | (change Ret _ _ _) | (change Exists _)
            all_goals try dsimp only at *
            all_goals try (with_reducible exact absurd ‹(1000 : Int64) = 0› am_z1000)
            all_goals first | (with_reducible exact h) | (with_reducible exact n0.1) | omega | (simp only [e1038, l201, Int32.reduceToInt]; omega) | (simp only [e1518, l201, Int32.reduceToInt]; omega) | (simp only [e1998, l201, Int32.reduceToInt]; omega) | (show _ < _; simp only [l201]; decide) | exact h | exact n0.1 | skip
          · skip
            have q3 : ¬ ((if 0 ≤ k ∧ k < 40 then (1 : Int32) else 0) = 0) := by rw [if_pos z3]; decide
            have hp : am_in p 12 := ⟨by have q := z0.1; simp only [i_le, Int32.reduceToInt] at q; omega, by have q := z0.2; simp only [i_lt] at q; omega⟩
            have hy : am_in y 40 := ⟨by have q := z1.1; simp only [i_le, Int32.reduceToInt] at q; omega, by have q := z1.2; simp only [i_lt, Int32.reduceToInt] at q; omega⟩
            have hp1 := hp.1
            have hp2 := hp.2
            have hy1 := hy.1
            have hy2 := hy.2
            have e40 := r_mul (c := 40) (x := p) ⟨by decide, by decide⟩ ⟨by omega, by omega⟩
            simp only [Int32.reduceToInt] at e40
            have ey := r_off (c := 40 * p) (x := y) ⟨by rw [e40]; omega, by rw [e40]; omega⟩ ⟨by omega, by omega⟩
            rw [e40] at ey
            have e1038 := r_off (c := 1038) (x := 40 * p + y) ⟨by decide, by decide⟩ ⟨by rw [ey]; omega, by rw [ey]; omega⟩
            simp only [ey, Int32.reduceToInt] at e1038
            have e1518 := r_off (c := 1518) (x := 40 * p + y) ⟨by decide, by decide⟩ ⟨by rw [ey]; omega, by rw [ey]; omega⟩
            simp only [ey, Int32.reduceToInt] at e1518
            have e1998 := r_off (c := 1998) (x := 40 * p + y) ⟨by decide, by decide⟩ ⟨by rw [ey]; omega, by rw [ey]; omega⟩
            simp only [ey, Int32.reduceToInt] at e1998
            by_cases z4 : M.1 201 (1038 + (40 * p + y)).toNatClampNeg < 0
            · skip
              have y4 : ¬ (0 : Int32) ≤ M.1 201 (1038 + (40 * p + y)).toNatClampNeg := Int32.not_le.mpr z4
              have e : r_right M p y c k = ((-3 : Int32), M) := by unfold r_right; rw [if_pos z0, if_pos z1, if_pos z2, if_pos z3, if_pos z4]
              rw [e] at h
              repeat' (first | (with_reducible exact hmn) | (with_reducible exact h) | (with_reducible exact n030) | (with_reducible exact n1) | apply And.intro | exact rfl | (intro hx; with_reducible exact absurd hx q0) | (intro hx; with_reducible exact absurd hx q1) | (intro hx; with_reducible exact absurd hx q2) | (intro hx; with_reducible exact absurd hx q3) | (intro hx; with_reducible exact absurd hx y4) | (intro hx; with_reducible exact absurd z4 hx) | (intro hx; exact absurd hx (by decide)) | (intro hx; exact absurd (by decide) hx) | decide | intro hx | (refine Exists.intro _ (And.intro rfl ?_)))
              all_goals try first | (with_reducible change am_tI _ _) | (change Ret _ _) | (change Ret _ _ _) | (change Exists _)
              all_goals try dsimp only at *
              all_goals try (with_reducible exact absurd ‹(1000 : Int64) = 0› am_z1000)
              all_goals first | (with_reducible exact h) | (with_reducible exact n0.1) | omega | (simp only [e1038, l201, Int32.reduceToInt]; omega) | (simp only [e1518, l201, Int32.reduceToInt]; omega) | (simp only [e1998, l201, Int32.reduceToInt]; omega) | (show _ < _; simp only [l201]; decide) | exact h | exact n0.1 | skip
            · skip
              have y4 : (0 : Int32) ≤ M.1 201 (1038 + (40 * p + y)).toNatClampNeg := Int32.not_lt.mp z4
              by_cases z5 : M.1 201 (1038 + (40 * p + y)).toNatClampNeg ≤ k
              rotate_left
              · skip
                have y5 : (k : Int32) < M.1 201 (1038 + (40 * p + y)).toNatClampNeg := Int32.not_le.mp z5
                have e : r_right M p y c k = ((-2 : Int32), M) := by unfold r_right; rw [if_pos z0, if_pos z1, if_pos z2, if_pos z3, if_neg z4, if_neg z5]
                rw [e] at h
                repeat' (first | (with_reducible exact hmn) | (with_reducible exact h) | (with_reducible exact n030) | (with_reducible exact n1) | apply And.intro | exact rfl | (intro hx; with_reducible exact absurd hx q0) | (intro hx; with_reducible exact absurd hx q1) | (intro hx; with_reducible exact absurd hx q2) | (intro hx; with_reducible exact absurd hx q3) | (intro hx; with_reducible exact absurd hx z4) | (intro hx; with_reducible exact absurd hx z5) | (intro hx; with_reducible exact absurd y4 hx) | (intro hx; with_reducible exact absurd y5 hx) | (intro hx; exact absurd hx (by decide)) | (intro hx; exact absurd (by decide) hx) | decide | intro hx | (refine Exists.intro _ (And.intro rfl ?_)))
                all_goals try first | (with_reducible change am_tI _ _) | (change Ret _ _) | (change Ret _ _ _) | (change Exists _)
                all_goals try dsimp only at *
                all_goals try (with_reducible exact absurd ‹(1000 : Int64) = 0› am_z1000)
                all_goals first | (with_reducible exact h) | (with_reducible exact n0.1) | omega | (simp only [e1038, l201, Int32.reduceToInt]; omega) | (simp only [e1518, l201, Int32.reduceToInt]; omega) | (simp only [e1998, l201, Int32.reduceToInt]; omega) | (show _ < _; simp only [l201]; decide) | exact h | exact n0.1 | skip
              · skip
                have y5 : ¬ (k : Int32) < M.1 201 (1038 + (40 * p + y)).toNatClampNeg := Int32.not_lt.mpr z5
                by_cases z6 : M.1 201 (1998 + (40 * p + y)).toNatClampNeg < 0
                rotate_left
                · skip
                  have y6 : (0 : Int32) ≤ M.1 201 (1998 + (40 * p + y)).toNatClampNeg := Int32.not_lt.mp z6
                  have e : r_right M p y c k = ((-3 : Int32), M) := by unfold r_right; rw [if_pos z0, if_pos z1, if_pos z2, if_pos z3, if_neg z4, if_pos z5, if_neg z6]
                  rw [e] at h
                  repeat' (first | (with_reducible exact hmn) | (with_reducible exact h) | (with_reducible exact n030) | (with_reducible exact n1) | apply And.intro | exact rfl | (intro hx; with_reducible exact absurd hx q0) | (intro hx; with_reducible exact absurd hx q1) | (intro hx; with_reducible exact absurd hx q2) | (intro hx; with_reducible exact absurd hx q3) | (intro hx; with_reducible exact absurd hx z4) | (intro hx; with_reducible exact absurd hx y5) | (intro hx; with_reducible exact absurd hx z6) | (intro hx; with_reducible exact absurd y4 hx) | (intro hx; with_reducible exact absurd z5 hx) | (intro hx; with_reducible exact absurd y6 hx) | (intro hx; exact absurd hx (by decide)) | (intro hx; exact absurd (by decide) hx) | decide | intro hx | (refine Exists.intro _ (And.intro rfl ?_)))
                  all_goals try first | (with_reducible change am_tI _ _) | (change Ret _ _) | (change Ret _ _ _) | (change Exists _)
                  all_goals try dsimp only at *
                  all_goals try (with_reducible exact absurd ‹(1000 : Int64) = 0› am_z1000)
                  all_goals first | (with_reducible exact h) | (with_reducible exact n0.1) | omega | (simp only [e1038, l201, Int32.reduceToInt]; omega) | (simp only [e1518, l201, Int32.reduceToInt]; omega) | (simp only [e1998, l201, Int32.reduceToInt]; omega) | (show _ < _; simp only [l201]; decide) | exact h | exact n0.1 | skip
                · skip
                  have y6 : ¬ (0 : Int32) ≤ M.1 201 (1998 + (40 * p + y)).toNatClampNeg := Int32.not_le.mpr z6
                  have e : r_right M p y c k = (1, am_wI (am_wI M 201 (1518 + (40 * p + y)).toNatClampNeg c) 201 (1998 + (40 * p + y)).toNatClampNeg k) := by unfold r_right; rw [if_pos z0, if_pos z1, if_pos z2, if_pos z3, if_neg z4, if_pos z5, if_pos z6]
                  rw [e] at h
                  repeat' (first | (with_reducible exact hmn) | (with_reducible exact n030) | (with_reducible exact n1) | apply And.intro | exact rfl | (intro hx; with_reducible exact absurd hx q0) | (intro hx; with_reducible exact absurd hx q1) | (intro hx; with_reducible exact absurd hx q2) | (intro hx; with_reducible exact absurd hx q3) | (intro hx; with_reducible exact absurd hx z4) | (intro hx; with_reducible exact absurd hx y5) | (intro hx; with_reducible exact absurd hx y6) | (intro hx; with_reducible exact absurd y4 hx) | (intro hx; with_reducible exact absurd z5 hx) | (intro hx; with_reducible exact absurd z6 hx) | (intro hx; exact absurd hx (by decide)) | (intro hx; exact absurd (by decide) hx) | decide | intro hx | (refine Exists.intro _ (And.intro rfl ?_)))
                  all_goals try first | (with_reducible change am_tI _ _) | (change Ret _ _) | (change Ret _ _ _) | (change Exists _)
                  all_goals try dsimp only at *
                  all_goals try (with_reducible exact absurd ‹(1000 : Int64) = 0› am_z1000)
                  all_goals first | (with_reducible exact h) | (with_reducible exact n0.1) | omega | (simp only [e1038, l201, Int32.reduceToInt]; omega) | (simp only [e1518, l201, Int32.reduceToInt]; omega) | (simp only [e1998, l201, Int32.reduceToInt]; omega) | (show _ < _; simp only [l201]; decide) | exact h | exact n0.1 | skip
  · exact h.elim
theorem hy_X8_given : yX8_given.cls ≠ "java/lang/invoke/MethodHandle" ∧ yX8_given.cls ≠ "java/lang/invoke/VarHandle" ∧ (parseMethodDescriptor yX8_given.desc).map (fun d => d.parameters.length) = some 2 := ⟨by decide +kernel, by decide +kernel, by decide +kernel⟩
set_option maxRecDepth 100000 in
theorem wd_1073 : Cond.methodLink "LearnLoansModel" 134 yX8_given ∈ am_ws := am_wt5 (List.mem_of_getElem? (i := 56) (by rfl)) (by decide +kernel)
set_option maxRecDepth 100000 in
theorem wd_1075 : Cond.instanceMethod yX8_given ∈ am_ws := am_wt5 (List.mem_of_getElem? (i := 58) (by rfl)) (by decide +kernel)
set_option maxRecDepth 100000 in
theorem wd_31 : Cond.selects "LearnLoansModel" yX8_given yX8_given ∈ am_ws := am_wsi (List.mem_of_getElem? (i := 31) (by rfl)) (by decide +kernel)
set_option maxRecDepth 100000 in
theorem wd_1076 : Cond.code yX8_given cX8_given 5 (some .int) ∈ am_ws := am_wt5 (List.mem_of_getElem? (i := 59) (by rfl)) (by decide +kernel)
def rwX8_leave : List dz_r := [(0, .aload_n 0, 1), (1, .iload_n 1, 1), (2, .invokevirtual 131, 3), (5, .ifCond .eq 47, 3), (8, .iload_n 2, 1), (9, .invokestatic 72, 3), (12, .ifCond .eq 40, 3), (15, .aload_n 0, 1), (16, .getfield 7, 3), (19, .sipush 2838, 3), (22, .bipush 8, 2), (24, .iload_n 1, 1), (25, .imul, 1), (26, .iadd, 1), (27, .iconst 4, 1), (28, .iadd, 1), (29, .iaload, 1), (30, .ifCond .eq 22, 3), (33, .iload_n 2, 1), (34, .aload_n 0, 1), (35, .getfield 7, 3), (38, .sipush 2838, 3), (41, .bipush 8, 2), (43, .iload_n 1, 1), (44, .imul, 1), (45, .iadd, 1), (46, .iconst 2, 1), (47, .iadd, 1), (48, .iaload, 1), (49, .if_icmp .ge 6, 3), (52, .bipush (-2), 2), (54, .ireturn, 1), (55, .aload_n 0, 1), (56, .getfield 7, 3), (59, .sipush 2838, 3), (62, .bipush 8, 2), (64, .iload_n 1, 1), (65, .imul, 1), (66, .iadd, 1), (67, .iconst 5, 1), (68, .iadd, 1), (69, .iaload, 1), (70, .ifCond .lt 6, 3), (73, .bipush (-3), 2), (75, .ireturn, 1), (76, .aload_n 0, 1), (77, .getfield 7, 3), (80, .sipush 2838, 3), (83, .bipush 8, 2), (85, .iload_n 1, 1), (86, .imul, 1), (87, .iadd, 1), (88, .iconst 5, 1), (89, .iadd, 1), (90, .iload_n 2, 1), (91, .iastore, 1), (92, .aload_n 0, 1), (93, .iload_n 1, 1), (94, .iload_n 2, 1), (95, .invokevirtual 134, 3), (98, .ireturn, 1)]
theorem dzX8_leave : dz cX8_leave rwX8_leave := dz_all 0 (by decide +kernel)
def kX8_leave (live : am_E) (Ret : am_R) : am_code := [(0, am_aload 0 1), (1, am_iload 1 2), (2, am_callV live 8 1 TX8_isLoan 5), (5, am_if1 (fun x => x = 0) 52 8), (8, am_iload 2 9), (9, am_callS live 1 TX8_isYear 12), (12, am_if1 (fun x => x = 0) 52 15), (15, am_aload 0 16), (16, am_getR live 8 0 19), (19, am_const (.int 2838) 22), (22, am_const (.int 8) 24), (24, am_iload 1 25), (25, am_i2 (fun x y => x * y) 26), (26, am_i2 (fun x y => x + y) 27), (27, am_const (.int 4) 28), (28, am_i2 (fun x y => x + y) 29), (29, am_ald live 0 30), (30, am_if1 (fun x => x = 0) 52 33), (33, am_iload 2 34), (34, am_aload 0 35), (35, am_getR live 8 0 38), (38, am_const (.int 2838) 41), (41, am_const (.int 8) 43), (43, am_iload 1 44), (44, am_i2 (fun x y => x * y) 45), (45, am_i2 (fun x y => x + y) 46), (46, am_const (.int 2) 47), (47, am_i2 (fun x y => x + y) 48), (48, am_ald live 0 49), (49, am_if2 (fun x y => y ≤ x) 55 52), (52, am_const (.int (-2)) 54), (54, am_retI Ret), (55, am_aload 0 56), (56, am_getR live 8 0 59), (59, am_const (.int 2838) 62), (62, am_const (.int 8) 64), (64, am_iload 1 65), (65, am_i2 (fun x y => x * y) 66), (66, am_i2 (fun x y => x + y) 67), (67, am_const (.int 5) 68), (68, am_i2 (fun x y => x + y) 69), (69, am_ald live 0 70), (70, am_if1 (fun x => x < 0) 76 73), (73, am_const (.int (-3)) 75), (75, am_retI Ret), (76, am_aload 0 77), (77, am_getR live 8 0 80), (80, am_const (.int 2838) 83), (83, am_const (.int 8) 85), (85, am_iload 1 86), (86, am_i2 (fun x y => x * y) 87), (87, am_i2 (fun x y => x + y) 88), (88, am_const (.int 5) 89), (89, am_i2 (fun x y => x + y) 90), (90, am_iload 2 91), (91, am_ast live 0 92), (92, am_aload 0 93), (93, am_iload 1 94), (94, am_iload 2 95), (95, am_callV live 8 2 TX8_given 98), (98, am_retI Ret)]
theorem koX8_leave (live : am_E) (Ret : am_R) : ∀ q ∈ kX8_leave live Ret, am_ok RX8 cX8_leave 3 (some .int) 2 46 live Ret q.1 q.2 :=
  am_kz dzX8_leave <|
  am_kd (fun d => ak_aload_n d rfl rfl) <|
  am_kd (fun d => ak_iload_n d rfl rfl) <|
  am_kd (fun d => ak_callV (C := RX8) (F := TX8) (N := 27) metX8_isLoan rfl ⟨rfl, hy_X8_isLoan⟩ (am_w5 wd_1069 wd_1071 wd_30 wd_67 wd_1072) (by decide) d rfl) <|
  am_kd (fun d => ak_if_eq d (by decide +kernel) rfl) <|
  am_kd (fun d => ak_iload_n d rfl rfl) <|
  am_kd (fun d => ak_callS metX8_isYear ⟨rfl, hy_X8_isYear⟩ (am_w4 wd_982 wd_983 wd_67 wd_984) (by decide) d rfl) <|
  am_kd (fun d => ak_if_eq d (by decide +kernel) rfl) <|
  am_kd (fun d => ak_aload_n d rfl rfl) <|
  am_kd (fun d => ak_getR (C := RX8) (T := TX8) (N := 27) rfl inX8w (by decide) rfl rfl rfl wd_895 d rfl) <|
  am_kd (fun d => ak_sipush d (by decide +kernel) rfl) <|
  am_kd (fun d => ak_bipush d (by decide +kernel) rfl) <|
  am_kd (fun d => ak_iload_n d rfl rfl) <|
  am_kd (fun d => ak_imul d rfl) <|
  am_kd (fun d => ak_iadd d rfl) <|
  am_kd (fun d => ak_iconst d (by decide +kernel) rfl) <|
  am_kd (fun d => ak_iadd d rfl) <|
  am_kd (fun d => ak_iald (t := 0) (fun _ => rfl) rfl d rfl) <|
  am_kd (fun d => ak_if_eq d (by decide +kernel) rfl) <|
  am_kd (fun d => ak_iload_n d rfl rfl) <|
  am_kd (fun d => ak_aload_n d rfl rfl) <|
  am_kd (fun d => ak_getR (C := RX8) (T := TX8) (N := 27) rfl inX8w (by decide) rfl rfl rfl wd_895 d rfl) <|
  am_kd (fun d => ak_sipush d (by decide +kernel) rfl) <|
  am_kd (fun d => ak_bipush d (by decide +kernel) rfl) <|
  am_kd (fun d => ak_iload_n d rfl rfl) <|
  am_kd (fun d => ak_imul d rfl) <|
  am_kd (fun d => ak_iadd d rfl) <|
  am_kd (fun d => ak_iconst d (by decide +kernel) rfl) <|
  am_kd (fun d => ak_iadd d rfl) <|
  am_kd (fun d => ak_iald (t := 0) (fun _ => rfl) rfl d rfl) <|
  am_kd (fun d => ak_icmp_ge d (by decide +kernel) rfl) <|
  am_kd (fun d => ak_bipush d (by decide +kernel) rfl) <|
  am_kd (fun d => ak_retI d) <|
  am_kd (fun d => ak_aload_n d rfl rfl) <|
  am_kd (fun d => ak_getR (C := RX8) (T := TX8) (N := 27) rfl inX8w (by decide) rfl rfl rfl wd_895 d rfl) <|
  am_kd (fun d => ak_sipush d (by decide +kernel) rfl) <|
  am_kd (fun d => ak_bipush d (by decide +kernel) rfl) <|
  am_kd (fun d => ak_iload_n d rfl rfl) <|
  am_kd (fun d => ak_imul d rfl) <|
  am_kd (fun d => ak_iadd d rfl) <|
  am_kd (fun d => ak_iconst d (by decide +kernel) rfl) <|
  am_kd (fun d => ak_iadd d rfl) <|
  am_kd (fun d => ak_iald (t := 0) (fun _ => rfl) rfl d rfl) <|
  am_kd (fun d => ak_if_lt d (by decide +kernel) rfl) <|
  am_kd (fun d => ak_bipush d (by decide +kernel) rfl) <|
  am_kd (fun d => ak_retI d) <|
  am_kd (fun d => ak_aload_n d rfl rfl) <|
  am_kd (fun d => ak_getR (C := RX8) (T := TX8) (N := 27) rfl inX8w (by decide) rfl rfl rfl wd_895 d rfl) <|
  am_kd (fun d => ak_sipush d (by decide +kernel) rfl) <|
  am_kd (fun d => ak_bipush d (by decide +kernel) rfl) <|
  am_kd (fun d => ak_iload_n d rfl rfl) <|
  am_kd (fun d => ak_imul d rfl) <|
  am_kd (fun d => ak_iadd d rfl) <|
  am_kd (fun d => ak_iconst d (by decide +kernel) rfl) <|
  am_kd (fun d => ak_iadd d rfl) <|
  am_kd (fun d => ak_iload_n d rfl rfl) <|
  am_kd (fun d => ak_iast (t := 0) (fun _ => rfl) rfl d rfl) <|
  am_kd (fun d => ak_aload_n d rfl rfl) <|
  am_kd (fun d => ak_iload_n d rfl rfl) <|
  am_kd (fun d => ak_iload_n d rfl rfl) <|
  am_kd (fun d => ak_callV (C := RX8) (F := TX8) (N := 27) metX8_given rfl ⟨rfl, hy_X8_given⟩ (am_w5 wd_1073 wd_1075 wd_31 wd_67 wd_1076) (by decide) d rfl) <|
  am_kd (fun d => ak_retI d) <| am_kdn
def r_leave (M : am_M) (l y : Int32) : Int32 × am_M := if 0 ≤ l ∧ l < M.1 201 1 then (if 0 ≤ y ∧ y < 40 then (if M.1 201 (2838 + 8 * l + 4).toNatClampNeg = 0 then ((-2 : Int32), M) else (if M.1 201 (2838 + 8 * l + 2).toNatClampNeg ≤ y then (if M.1 201 (2838 + 8 * l + 5).toNatClampNeg < 0 then (r_given (am_wI M 201 (2838 + 8 * l + 5).toNatClampNeg y) l y, am_wI M 201 (2838 + 8 * l + 5).toNatClampNeg y) else ((-3 : Int32), M)) else ((-2 : Int32), M))) else ((-2 : Int32), M)) else ((-2 : Int32), M)
def TX8_leave : am_T := fun live as M R => match as with
  | [.ref n, .int l, .int y] => am_mn live ∧ n = 200 ∧ r_I M ∧ R (some (.int (r_leave M l y).1)) (r_leave M l y).2
  | _ => False
set_option maxRecDepth 100000 in
set_option maxHeartbeats 4000000 in
theorem metX8_leave : am_Met yX8_leave cX8_leave 3 (some .int) (2) (46) TX8_leave := by
  refine am_met (own := RX8) (by decide +kernel) rfl kX8_leave koX8_leave 200 (fun _ _ _ _ _ => none) (fun live as M Ret h => ?_) (fun _ _ _ _ _ _ _ _ hI => by cases hI)
  unfold TX8_leave at h
  split at h
  · next n l y =>
    refine ⟨Nat.le_of_ble_eq_true rfl, ?_⟩
    change am_wp _ _ _ _ [(0, Value.ref n), (1, Value.int l), (2, Value.int y)] _ _
    obtain ⟨hmn, rfl, hR, h⟩ := h
    have hmn2 := hmn
    obtain ⟨i1, i2, rfl⟩ := hmn2
    have l201 : am_len 201 = 3760 := rfl
    have n0 := hR.n0
    have n1 := hR.n1
    have n030 : 0 ≤ (M.1 201 0).toInt ∧ (M.1 201 0).toInt ≤ 30 := ⟨n0.1, by omega⟩
    by_cases z0 : 0 ≤ l ∧ l < M.1 201 1
    rotate_left
    · skip
      have q0 : (if 0 ≤ l ∧ l < M.1 201 1 then (1 : Int32) else 0) = 0 := if_neg z0
      have e : r_leave M l y = ((-2 : Int32), M) := by unfold r_leave; rw [if_neg z0]
      rw [e] at h
      repeat' (first | (with_reducible exact hmn) | (with_reducible exact h) | (with_reducible exact n030) | (with_reducible exact n1) | apply And.intro | exact rfl | (intro hx; with_reducible exact absurd q0 hx) | (intro hx; exact absurd hx (by decide)) | (intro hx; exact absurd (by decide) hx) | decide | intro hx | (refine Exists.intro _ (And.intro rfl ?_)))
      all_goals try first | (with_reducible change am_tI _ _) | (change Ret _ _) | (change Ret _ _ _) | (change Exists _)
      all_goals try dsimp only at *
      all_goals try (with_reducible exact absurd ‹(1000 : Int64) = 0› am_z1000)
      all_goals first | (with_reducible exact h) | (with_reducible exact n0.1) | omega | (rw [el2]; omega) | (rw [l201, el2]; omega) | (rw [el4]; omega) | (rw [l201, el4]; omega) | (rw [el5]; omega) | (rw [l201, el5]; omega) | (show _ < _; simp only [l201]; decide) | exact h | exact n0.1 | skip
    · skip
      have q0 : ¬ ((if 0 ≤ l ∧ l < M.1 201 1 then (1 : Int32) else 0) = 0) := by rw [if_pos z0]; decide
      by_cases z1 : 0 ≤ y ∧ y < 40
      rotate_left
      · skip
        have q1 : (if 0 ≤ y ∧ y < 40 then (1 : Int32) else 0) = 0 := if_neg z1
        have e : r_leave M l y = ((-2 : Int32), M) := by unfold r_leave; rw [if_pos z0, if_neg z1]
        rw [e] at h
        repeat' (first | (with_reducible exact hmn) | (with_reducible exact h) | (with_reducible exact n030) | (with_reducible exact n1) | apply And.intro | exact rfl | (intro hx; with_reducible exact absurd hx q0) | (intro hx; with_reducible exact absurd q1 hx) | (intro hx; exact absurd hx (by decide)) | (intro hx; exact absurd (by decide) hx) | decide | intro hx | (refine Exists.intro _ (And.intro rfl ?_)))
        all_goals try first | (with_reducible change am_tI _ _) | (change Ret _ _) | (change Ret _ _ _) | (change Exists _)
        all_goals try dsimp only at *
        all_goals try (with_reducible exact absurd ‹(1000 : Int64) = 0› am_z1000)
        all_goals first | (with_reducible exact h) | (with_reducible exact n0.1) | omega | (rw [el2]; omega) | (rw [l201, el2]; omega) | (rw [el4]; omega) | (rw [l201, el4]; omega) | (rw [el5]; omega) | (rw [l201, el5]; omega) | (show _ < _; simp only [l201]; decide) | exact h | exact n0.1 | skip
      · skip
        have q1 : ¬ ((if 0 ≤ y ∧ y < 40 then (1 : Int32) else 0) = 0) := by rw [if_pos z1]; decide
        have hl : am_in l 30 := ⟨by have q := z0.1; simp only [i_le, Int32.reduceToInt] at q; omega, by have q := z0.2; simp only [i_lt] at q; omega⟩
        have hl1 := hl.1
        have hl2 := hl.2
        have el2 := r_lcol hl (w := 2) ⟨by decide, by decide⟩
        simp only [Int32.reduceToInt] at el2
        have el4 := r_lcol hl (w := 4) ⟨by decide, by decide⟩
        simp only [Int32.reduceToInt] at el4
        have el5 := r_lcol hl (w := 5) ⟨by decide, by decide⟩
        simp only [Int32.reduceToInt] at el5
        by_cases z2 : M.1 201 (2838 + 8 * l + 4).toNatClampNeg = 0
        · skip
          have e : r_leave M l y = ((-2 : Int32), M) := by unfold r_leave; rw [if_pos z0, if_pos z1, if_pos z2]
          rw [e] at h
          repeat' (first | (with_reducible exact hmn) | (with_reducible exact h) | (with_reducible exact n030) | (with_reducible exact n1) | apply And.intro | exact rfl | (intro hx; with_reducible exact absurd hx q0) | (intro hx; with_reducible exact absurd hx q1) | (intro hx; with_reducible exact absurd z2 hx) | (intro hx; exact absurd hx (by decide)) | (intro hx; exact absurd (by decide) hx) | decide | intro hx | (refine Exists.intro _ (And.intro rfl ?_)))
          all_goals try first | (with_reducible change am_tI _ _) | (change Ret _ _) | (change Ret _ _ _) | (change Exists _)
          all_goals try dsimp only at *
          all_goals try (with_reducible exact absurd ‹(1000 : Int64) = 0› am_z1000)
          all_goals first | (with_reducible exact h) | (with_reducible exact n0.1) | omega | (rw [el2]; omega) | (rw [l201, el2]; omega) | (rw [el4]; omega) | (rw [l201, el4]; omega) | (rw [el5]; omega) | (rw [l201, el5]; omega) | (show _ < _; simp only [l201]; decide) | exact h | exact n0.1 | skip
        · skip
          by_cases z3 : M.1 201 (2838 + 8 * l + 2).toNatClampNeg ≤ y
          rotate_left
          · skip
            have y3 : (y : Int32) < M.1 201 (2838 + 8 * l + 2).toNatClampNeg := Int32.not_le.mp z3
            have e : r_leave M l y = ((-2 : Int32), M) := by unfold r_leave; rw [if_pos z0, if_pos z1, if_neg z2, if_neg z3]
            rw [e] at h
            repeat' (first | (with_reducible exact hmn) | (with_reducible exact h) | (with_reducible exact n030) | (with_reducible exact n1) | apply And.intro | exact rfl | (intro hx; with_reducible exact absurd hx q0) | (intro hx; with_reducible exact absurd hx q1) | (intro hx; with_reducible exact absurd hx z2) | (intro hx; with_reducible exact absurd hx z3) | (intro hx; with_reducible exact absurd y3 hx) | (intro hx; exact absurd hx (by decide)) | (intro hx; exact absurd (by decide) hx) | decide | intro hx | (refine Exists.intro _ (And.intro rfl ?_)))
            all_goals try first | (with_reducible change am_tI _ _) | (change Ret _ _) | (change Ret _ _ _) | (change Exists _)
            all_goals try dsimp only at *
            all_goals try (with_reducible exact absurd ‹(1000 : Int64) = 0› am_z1000)
            all_goals first | (with_reducible exact h) | (with_reducible exact n0.1) | omega | (rw [el2]; omega) | (rw [l201, el2]; omega) | (rw [el4]; omega) | (rw [l201, el4]; omega) | (rw [el5]; omega) | (rw [l201, el5]; omega) | (show _ < _; simp only [l201]; decide) | exact h | exact n0.1 | skip
          · skip
            have y3 : ¬ (y : Int32) < M.1 201 (2838 + 8 * l + 2).toNatClampNeg := Int32.not_lt.mpr z3
            by_cases z4 : M.1 201 (2838 + 8 * l + 5).toNatClampNeg < 0
            rotate_left
            · skip
              have y4 : (0 : Int32) ≤ M.1 201 (2838 + 8 * l + 5).toNatClampNeg := Int32.not_lt.mp z4
              have e : r_leave M l y = ((-3 : Int32), M) := by unfold r_leave; rw [if_pos z0, if_pos z1, if_neg z2, if_pos z3, if_neg z4]
              rw [e] at h
              repeat' (first | (with_reducible exact hmn) | (with_reducible exact h) | (with_reducible exact n030) | (with_reducible exact n1) | apply And.intro | exact rfl | (intro hx; with_reducible exact absurd hx q0) | (intro hx; with_reducible exact absurd hx q1) | (intro hx; with_reducible exact absurd hx z2) | (intro hx; with_reducible exact absurd hx y3) | (intro hx; with_reducible exact absurd hx z4) | (intro hx; with_reducible exact absurd z3 hx) | (intro hx; with_reducible exact absurd y4 hx) | (intro hx; exact absurd hx (by decide)) | (intro hx; exact absurd (by decide) hx) | decide | intro hx | (refine Exists.intro _ (And.intro rfl ?_)))
              all_goals try first | (with_reducible change am_tI _ _) | (change Ret _ _) | (change Ret _ _ _) | (change Exists _)
              all_goals try dsimp only at *
              all_goals try (with_reducible exact absurd ‹(1000 : Int64) = 0› am_z1000)
              all_goals first | (with_reducible exact h) | (with_reducible exact n0.1) | omega | (rw [el2]; omega) | (rw [l201, el2]; omega) | (rw [el4]; omega) | (rw [l201, el4]; omega) | (rw [el5]; omega) | (rw [l201, el5]; omega) | (show _ < _; simp only [l201]; decide) | exact h | exact n0.1 | skip
            · skip
              have y4 : ¬ (0 : Int32) ≤ M.1 201 (2838 + 8 * l + 5).toNatClampNeg := Int32.not_le.mpr z4
              have e : r_leave M l y = (r_given (am_wI M 201 (2838 + 8 * l + 5).toNatClampNeg y) l y, am_wI M 201 (2838 + 8 * l + 5).toNatClampNeg y) := by unfold r_leave; rw [if_pos z0, if_pos z1, if_neg z2, if_pos z3, if_pos z4]
              rw [e] at h
              repeat' (first | (with_reducible exact hmn) | (with_reducible exact n030) | (with_reducible exact n1) | (with_reducible exact hl) | apply And.intro | exact rfl | (intro hx; with_reducible exact absurd hx q0) | (intro hx; with_reducible exact absurd hx q1) | (intro hx; with_reducible exact absurd hx z2) | (intro hx; with_reducible exact absurd hx y3) | (intro hx; with_reducible exact absurd hx y4) | (intro hx; with_reducible exact absurd z3 hx) | (intro hx; with_reducible exact absurd z4 hx) | (intro hx; exact absurd hx (by decide)) | (intro hx; exact absurd (by decide) hx) | decide | intro hx | (refine Exists.intro _ (And.intro rfl ?_)))
              all_goals try first | (with_reducible change am_tI _ _) | (change Ret _ _) | (change Ret _ _ _) | (change Exists _)
              all_goals try dsimp only at *
              all_goals try (with_reducible exact absurd ‹(1000 : Int64) = 0› am_z1000)
              all_goals first | (with_reducible exact h) | (with_reducible exact n0.1) | omega | (rw [el2]; omega) | (rw [l201, el2]; omega) | (rw [el4]; omega) | (rw [l201, el4]; omega) | (rw [el5]; omega) | (rw [l201, el5]; omega) | (show _ < _; simp only [l201]; decide) | exact h | exact n0.1 | skip
  · exact h.elim
theorem hy_X8_ofLoan : yX8_ofLoan.cls ≠ "java/lang/invoke/MethodHandle" ∧ yX8_ofLoan.cls ≠ "java/lang/invoke/VarHandle" ∧ (parseMethodDescriptor yX8_ofLoan.desc).map (fun d => d.parameters.length) = some 2 := ⟨by decide +kernel, by decide +kernel, by decide +kernel⟩
set_option maxRecDepth 100000 in
theorem wd_1154 : Cond.methodLink "LearnLoansModel" 202 yX8_ofLoan ∈ am_ws := am_wt5 (List.mem_of_getElem? (i := 137) (by rfl)) (by decide +kernel)
set_option maxRecDepth 100000 in
theorem wd_1156 : Cond.instanceMethod yX8_ofLoan ∈ am_ws := am_wt5 (List.mem_of_getElem? (i := 139) (by rfl)) (by decide +kernel)
set_option maxRecDepth 100000 in
theorem wd_41 : Cond.selects "LearnLoansModel" yX8_ofLoan yX8_ofLoan ∈ am_ws := am_wsi (List.mem_of_getElem? (i := 41) (by rfl)) (by decide +kernel)
set_option maxRecDepth 100000 in
theorem wd_1157 : Cond.code yX8_ofLoan cX8_ofLoan 3 (some .int) ∈ am_ws := am_wt5 (List.mem_of_getElem? (i := 140) (by rfl)) (by decide +kernel)
def rwX8_sell : List dz_r := [(0, .aload_n 0, 1), (1, .iload_n 1, 1), (2, .invokevirtual 131, 3), (5, .ifCond .eq 22, 3), (8, .iload_n 2, 1), (9, .i2l, 1), (10, .lconst 0, 1), (11, .ldc2_w 79, 3), (14, .invokestatic 66, 3), (17, .ifCond .eq 10, 3), (20, .iload_n 3, 1), (21, .invokestatic 72, 3), (24, .ifCond .ne 6, 3), (27, .bipush (-2), 2), (29, .ireturn, 1), (30, .aload_n 0, 1), (31, .iload_n 1, 1), (32, .bipush 6, 2), (34, .invokevirtual 202, 3), (37, .ifCond .lt 6, 3), (40, .bipush (-3), 2), (42, .ireturn, 1), (43, .aload_n 0, 1), (44, .getfield 7, 3), (47, .sipush 2838, 3), (50, .bipush 8, 2), (52, .iload_n 1, 1), (53, .imul, 1), (54, .iadd, 1), (55, .bipush 6, 2), (57, .iadd, 1), (58, .iload_n 2, 1), (59, .iastore, 1), (60, .aload_n 0, 1), (61, .getfield 7, 3), (64, .sipush 2838, 3), (67, .bipush 8, 2), (69, .iload_n 1, 1), (70, .imul, 1), (71, .iadd, 1), (72, .bipush 7, 2), (74, .iadd, 1), (75, .iload_n 3, 1), (76, .iastore, 1), (77, .iconst 1, 1), (78, .ireturn, 1)]
theorem dzX8_sell : dz cX8_sell rwX8_sell := dz_all 0 (by decide +kernel)
def kX8_sell (live : am_E) (Ret : am_R) : am_code := [(0, am_aload 0 1), (1, am_iload 1 2), (2, am_callV live 8 1 TX8_isLoan 5), (5, am_if1 (fun x => x = 0) 27 8), (8, am_iload 2 9), (9, am_i2l 10), (10, am_const (.long 0) 11), (11, am_const (.long 3) 14), (14, am_callS live 3 TX8_in 17), (17, am_if1 (fun x => x = 0) 27 20), (20, am_iload 3 21), (21, am_callS live 1 TX8_isYear 24), (24, am_if1 (fun x => x = 0) 27 30), (27, am_const (.int (-2)) 29), (29, am_retI Ret), (30, am_aload 0 31), (31, am_iload 1 32), (32, am_const (.int 6) 34), (34, am_callV live 8 2 TX8_ofLoan 37), (37, am_if1 (fun x => x < 0) 43 40), (40, am_const (.int (-3)) 42), (42, am_retI Ret), (43, am_aload 0 44), (44, am_getR live 8 0 47), (47, am_const (.int 2838) 50), (50, am_const (.int 8) 52), (52, am_iload 1 53), (53, am_i2 (fun x y => x * y) 54), (54, am_i2 (fun x y => x + y) 55), (55, am_const (.int 6) 57), (57, am_i2 (fun x y => x + y) 58), (58, am_iload 2 59), (59, am_ast live 0 60), (60, am_aload 0 61), (61, am_getR live 8 0 64), (64, am_const (.int 2838) 67), (67, am_const (.int 8) 69), (69, am_iload 1 70), (70, am_i2 (fun x y => x * y) 71), (71, am_i2 (fun x y => x + y) 72), (72, am_const (.int 7) 74), (74, am_i2 (fun x y => x + y) 75), (75, am_iload 3 76), (76, am_ast live 0 77), (77, am_const (.int 1) 78), (78, am_retI Ret)]
theorem koX8_sell (live : am_E) (Ret : am_R) : ∀ q ∈ kX8_sell live Ret, am_ok RX8 cX8_sell 4 (some .int) 2 46 live Ret q.1 q.2 :=
  am_kz dzX8_sell <|
  am_kd (fun d => ak_aload_n d rfl rfl) <|
  am_kd (fun d => ak_iload_n d rfl rfl) <|
  am_kd (fun d => ak_callV (C := RX8) (F := TX8) (N := 27) metX8_isLoan rfl ⟨rfl, hy_X8_isLoan⟩ (am_w5 wd_1069 wd_1071 wd_30 wd_67 wd_1072) (by decide) d rfl) <|
  am_kd (fun d => ak_if_eq d (by decide +kernel) rfl) <|
  am_kd (fun d => ak_iload_n d rfl rfl) <|
  am_kd (fun d => ak_i2l d rfl) <|
  am_kd (fun d => ak_lconst d (by decide +kernel) rfl) <|
  am_kd (fun d => ak_ldc2 wd_997 d rfl) <|
  am_kd (fun d => ak_callS metX8_in ⟨rfl, hy_X8_in⟩ (am_w4 wd_986 wd_987 wd_67 wd_988) (by decide) d rfl) <|
  am_kd (fun d => ak_if_eq d (by decide +kernel) rfl) <|
  am_kd (fun d => ak_iload_n d rfl rfl) <|
  am_kd (fun d => ak_callS metX8_isYear ⟨rfl, hy_X8_isYear⟩ (am_w4 wd_982 wd_983 wd_67 wd_984) (by decide) d rfl) <|
  am_kd (fun d => ak_if_ne d (by decide +kernel) rfl) <|
  am_kd (fun d => ak_bipush d (by decide +kernel) rfl) <|
  am_kd (fun d => ak_retI d) <|
  am_kd (fun d => ak_aload_n d rfl rfl) <|
  am_kd (fun d => ak_iload_n d rfl rfl) <|
  am_kd (fun d => ak_bipush d (by decide +kernel) rfl) <|
  am_kd (fun d => ak_callV (C := RX8) (F := TX8) (N := 27) metX8_ofLoan rfl ⟨rfl, hy_X8_ofLoan⟩ (am_w5 wd_1154 wd_1156 wd_41 wd_67 wd_1157) (by decide) d rfl) <|
  am_kd (fun d => ak_if_lt d (by decide +kernel) rfl) <|
  am_kd (fun d => ak_bipush d (by decide +kernel) rfl) <|
  am_kd (fun d => ak_retI d) <|
  am_kd (fun d => ak_aload_n d rfl rfl) <|
  am_kd (fun d => ak_getR (C := RX8) (T := TX8) (N := 27) rfl inX8w (by decide) rfl rfl rfl wd_895 d rfl) <|
  am_kd (fun d => ak_sipush d (by decide +kernel) rfl) <|
  am_kd (fun d => ak_bipush d (by decide +kernel) rfl) <|
  am_kd (fun d => ak_iload_n d rfl rfl) <|
  am_kd (fun d => ak_imul d rfl) <|
  am_kd (fun d => ak_iadd d rfl) <|
  am_kd (fun d => ak_bipush d (by decide +kernel) rfl) <|
  am_kd (fun d => ak_iadd d rfl) <|
  am_kd (fun d => ak_iload_n d rfl rfl) <|
  am_kd (fun d => ak_iast (t := 0) (fun _ => rfl) rfl d rfl) <|
  am_kd (fun d => ak_aload_n d rfl rfl) <|
  am_kd (fun d => ak_getR (C := RX8) (T := TX8) (N := 27) rfl inX8w (by decide) rfl rfl rfl wd_895 d rfl) <|
  am_kd (fun d => ak_sipush d (by decide +kernel) rfl) <|
  am_kd (fun d => ak_bipush d (by decide +kernel) rfl) <|
  am_kd (fun d => ak_iload_n d rfl rfl) <|
  am_kd (fun d => ak_imul d rfl) <|
  am_kd (fun d => ak_iadd d rfl) <|
  am_kd (fun d => ak_bipush d (by decide +kernel) rfl) <|
  am_kd (fun d => ak_iadd d rfl) <|
  am_kd (fun d => ak_iload_n d rfl rfl) <|
  am_kd (fun d => ak_iast (t := 0) (fun _ => rfl) rfl d rfl) <|
  am_kd (fun d => ak_iconst d (by decide +kernel) rfl) <|
  am_kd (fun d => ak_retI d) <| am_kdn
def r_sell (M : am_M) (l b y : Int32) : Int32 × am_M := if 0 ≤ l ∧ l < M.1 201 1 then (if 0 ≤ b ∧ b ≤ 3 then (if 0 ≤ y ∧ y < 40 then (if M.1 201 (2838 + 8 * l + 6).toNatClampNeg < 0 then (1, am_wI (am_wI M 201 (2838 + 8 * l + 6).toNatClampNeg b) 201 (2838 + 8 * l + 7).toNatClampNeg y) else ((-3 : Int32), M)) else ((-2 : Int32), M)) else ((-2 : Int32), M)) else ((-2 : Int32), M)
def TX8_sell : am_T := fun live as M R => match as with
  | [.ref n, .int l, .int b, .int y] => am_mn live ∧ n = 200 ∧ r_I M ∧ R (some (.int (r_sell M l b y).1)) (r_sell M l b y).2
  | _ => False
set_option maxRecDepth 100000 in
set_option maxHeartbeats 4000000 in
theorem metX8_sell : am_Met yX8_sell cX8_sell 4 (some .int) (2) (46) TX8_sell := by
  refine am_met (own := RX8) (by decide +kernel) rfl kX8_sell koX8_sell 200 (fun _ _ _ _ _ => none) (fun live as M Ret h => ?_) (fun _ _ _ _ _ _ _ _ hI => by cases hI)
  unfold TX8_sell at h
  split at h
  · next n l b y =>
    refine ⟨Nat.le_of_ble_eq_true rfl, ?_⟩
    change am_wp _ _ _ _ [(0, Value.ref n), (1, Value.int l), (2, Value.int b), (3, Value.int y)] _ _
    obtain ⟨hmn, rfl, hR, h⟩ := h
    have hmn2 := hmn
    obtain ⟨i1, i2, rfl⟩ := hmn2
    have l201 : am_len 201 = 3760 := rfl
    have n0 := hR.n0
    have n1 := hR.n1
    have n030 : 0 ≤ (M.1 201 0).toInt ∧ (M.1 201 0).toInt ≤ 30 := ⟨n0.1, by omega⟩
    by_cases z0 : 0 ≤ l ∧ l < M.1 201 1
    rotate_left
    · skip
      have q0 : (if 0 ≤ l ∧ l < M.1 201 1 then (1 : Int32) else 0) = 0 := if_neg z0
      have e : r_sell M l b y = ((-2 : Int32), M) := by unfold r_sell; rw [if_neg z0]
      rw [e] at h
      repeat' (first | (with_reducible exact hmn) | (with_reducible exact h) | (with_reducible exact n030) | (with_reducible exact n1) | apply And.intro | exact rfl | (intro hx; with_reducible exact absurd q0 hx) | (intro hx; exact absurd hx (by decide)) | (intro hx; exact absurd (by decide) hx) | decide | intro hx | (refine Exists.intro _ (And.intro rfl ?_)))
      all_goals try first | (with_reducible change am_tI _ _) | (change Ret _ _) | (change Ret _ _ _) | (change Exists _)
      all_goals try dsimp only at *
      all_goals try (with_reducible exact absurd ‹(1000 : Int64) = 0› am_z1000)
      all_goals first | (with_reducible exact h) | (with_reducible exact n0.1) | omega | (with_reducible exact hl.1) | (with_reducible exact hl.2) | decide | (rw [el6]; omega) | (rw [l201, el6]; omega) | (rw [el7]; omega) | (rw [l201, el7]; omega) | (show _ < _; simp only [l201]; decide) | exact h | exact n0.1 | exact hl.1 | exact hl.2 | skip
    · skip
      have q0 : ¬ ((if 0 ≤ l ∧ l < M.1 201 1 then (1 : Int32) else 0) = 0) := by rw [if_pos z0]; decide
      by_cases z1 : 0 ≤ b ∧ b ≤ 3
      rotate_left
      · skip
        have q1 : (if (0 : Int64) ≤ b.toInt64 ∧ b.toInt64 ≤ (3 : Int64) then (1 : Int32) else 0) = 0 := if_neg (fun r => z1 (by simp only [i_le, i_lt, j_le, Int32.toInt_toInt64, Int32.reduceToInt, Int64.reduceToInt] at r ⊢; omega))
        have e : r_sell M l b y = ((-2 : Int32), M) := by unfold r_sell; rw [if_pos z0, if_neg z1]
        rw [e] at h
        repeat' (first | (with_reducible exact hmn) | (with_reducible exact h) | (with_reducible exact n030) | (with_reducible exact n1) | apply And.intro | exact rfl | (intro hx; with_reducible exact absurd hx q0) | (intro hx; with_reducible exact absurd q1 hx) | (intro hx; exact absurd hx (by decide)) | (intro hx; exact absurd (by decide) hx) | decide | intro hx | (refine Exists.intro _ (And.intro rfl ?_)))
        all_goals try first | (with_reducible change am_tI _ _) | (change Ret _ _) | (change Ret _ _ _) | (change Exists _)
        all_goals try dsimp only at *
        all_goals try (with_reducible exact absurd ‹(1000 : Int64) = 0› am_z1000)
        all_goals first | (with_reducible exact h) | (with_reducible exact n0.1) | omega | (with_reducible exact hl.1) | (with_reducible exact hl.2) | decide | (rw [el6]; omega) | (rw [l201, el6]; omega) | (rw [el7]; omega) | (rw [l201, el7]; omega) | (show _ < _; simp only [l201]; decide) | exact h | exact n0.1 | exact hl.1 | exact hl.2 | skip
      · skip
        have q1 : ¬ ((if (0 : Int64) ≤ b.toInt64 ∧ b.toInt64 ≤ (3 : Int64) then (1 : Int32) else 0) = 0) := by rw [if_pos (by have q := z1; simp only [i_le, i_lt, j_le, Int32.toInt_toInt64, Int32.reduceToInt, Int64.reduceToInt] at q ⊢; omega)]; decide
        by_cases z2 : 0 ≤ y ∧ y < 40
        rotate_left
        · skip
          have q2 : (if 0 ≤ y ∧ y < 40 then (1 : Int32) else 0) = 0 := if_neg z2
          have e : r_sell M l b y = ((-2 : Int32), M) := by unfold r_sell; rw [if_pos z0, if_pos z1, if_neg z2]
          rw [e] at h
          repeat' (first | (with_reducible exact hmn) | (with_reducible exact h) | (with_reducible exact n030) | (with_reducible exact n1) | apply And.intro | exact rfl | (intro hx; with_reducible exact absurd hx q0) | (intro hx; with_reducible exact absurd hx q1) | (intro hx; with_reducible exact absurd q2 hx) | (intro hx; exact absurd hx (by decide)) | (intro hx; exact absurd (by decide) hx) | decide | intro hx | (refine Exists.intro _ (And.intro rfl ?_)))
          all_goals try first | (with_reducible change am_tI _ _) | (change Ret _ _) | (change Ret _ _ _) | (change Exists _)
          all_goals try dsimp only at *
          all_goals try (with_reducible exact absurd ‹(1000 : Int64) = 0› am_z1000)
          all_goals first | (with_reducible exact h) | (with_reducible exact n0.1) | omega | (with_reducible exact hl.1) | (with_reducible exact hl.2) | decide | (rw [el6]; omega) | (rw [l201, el6]; omega) | (rw [el7]; omega) | (rw [l201, el7]; omega) | (show _ < _; simp only [l201]; decide) | exact h | exact n0.1 | exact hl.1 | exact hl.2 | skip
        · skip
          have q2 : ¬ ((if 0 ≤ y ∧ y < 40 then (1 : Int32) else 0) = 0) := by rw [if_pos z2]; decide
          have hl : am_in l 30 := ⟨by have q := z0.1; simp only [i_le, Int32.reduceToInt] at q; omega, by have q := z0.2; simp only [i_lt] at q; omega⟩
          have hl1 := hl.1
          have hl2 := hl.2
          have el6 := r_lcol hl (w := 6) ⟨by decide, by decide⟩
          simp only [Int32.reduceToInt] at el6
          have el7 := r_lcol hl (w := 7) ⟨by decide, by decide⟩
          simp only [Int32.reduceToInt] at el7
          by_cases z3 : M.1 201 (2838 + 8 * l + 6).toNatClampNeg < 0
          rotate_left
          · skip
            have y3 : (0 : Int32) ≤ M.1 201 (2838 + 8 * l + 6).toNatClampNeg := Int32.not_lt.mp z3
            have e : r_sell M l b y = ((-3 : Int32), M) := by unfold r_sell; rw [if_pos z0, if_pos z1, if_pos z2, if_neg z3]
            rw [e] at h
            repeat' (first | (with_reducible exact hmn) | (with_reducible exact h) | (with_reducible exact n030) | (with_reducible exact n1) | apply And.intro | exact rfl | (intro hx; with_reducible exact absurd hx q0) | (intro hx; with_reducible exact absurd hx q1) | (intro hx; with_reducible exact absurd hx q2) | (intro hx; with_reducible exact absurd hx z3) | (intro hx; with_reducible exact absurd y3 hx) | (intro hx; exact absurd hx (by decide)) | (intro hx; exact absurd (by decide) hx) | decide | intro hx | (refine Exists.intro _ (And.intro rfl ?_)))
            all_goals try first | (with_reducible change am_tI _ _) | (change Ret _ _) | (change Ret _ _ _) | (change Exists _)
            all_goals try dsimp only at *
            all_goals try (with_reducible exact absurd ‹(1000 : Int64) = 0› am_z1000)
            all_goals first | (with_reducible exact h) | (with_reducible exact n0.1) | omega | (with_reducible exact hl.1) | (with_reducible exact hl.2) | decide | (rw [el6]; omega) | (rw [l201, el6]; omega) | (rw [el7]; omega) | (rw [l201, el7]; omega) | (show _ < _; simp only [l201]; decide) | exact h | exact n0.1 | exact hl.1 | exact hl.2 | skip
          · skip
            have y3 : ¬ (0 : Int32) ≤ M.1 201 (2838 + 8 * l + 6).toNatClampNeg := Int32.not_le.mpr z3
            have e : r_sell M l b y = (1, am_wI (am_wI M 201 (2838 + 8 * l + 6).toNatClampNeg b) 201 (2838 + 8 * l + 7).toNatClampNeg y) := by unfold r_sell; rw [if_pos z0, if_pos z1, if_pos z2, if_pos z3]
            rw [e] at h
            repeat' (first | (with_reducible exact hmn) | (with_reducible exact n030) | (with_reducible exact n1) | (with_reducible exact hl) | apply And.intro | exact rfl | (intro hx; with_reducible exact absurd hx q0) | (intro hx; with_reducible exact absurd hx q1) | (intro hx; with_reducible exact absurd hx q2) | (intro hx; with_reducible exact absurd hx y3) | (intro hx; with_reducible exact absurd z3 hx) | (intro hx; exact absurd hx (by decide)) | (intro hx; exact absurd (by decide) hx) | decide | intro hx | (refine Exists.intro _ (And.intro rfl ?_)))
            all_goals try first | (with_reducible change am_tI _ _) | (change Ret _ _) | (change Ret _ _ _) | (change Exists _)
            all_goals try dsimp only at *
            all_goals try (with_reducible exact absurd ‹(1000 : Int64) = 0› am_z1000)
            all_goals first | (with_reducible exact h) | (with_reducible exact n0.1) | omega | (with_reducible exact hl.1) | (with_reducible exact hl.2) | decide | (rw [el6]; omega) | (rw [l201, el6]; omega) | (rw [el7]; omega) | (rw [l201, el7]; omega) | (show _ < _; simp only [l201]; decide) | exact h | exact n0.1 | exact hl.1 | exact hl.2 | skip
  · exact h.elim
def rwX8_land : List dz_r := [(0, .aload_n 0, 1), (1, .iload_n 1, 1), (2, .invokevirtual 76, 3), (5, .ifCond .eq 36, 3), (8, .iload_n 2, 1), (9, .i2l, 1), (10, .lconst 0, 1), (11, .ldc2_w 79, 3), (14, .invokestatic 66, 3), (17, .ifCond .eq 24, 3), (20, .iload_n 3, 1), (21, .invokestatic 72, 3), (24, .ifCond .eq 17, 3), (27, .iload 4, 2), (29, .invokestatic 72, 3), (32, .ifCond .eq 9, 3), (35, .iload_n 3, 1), (36, .iload 4, 2), (38, .if_icmp .le 6, 3), (41, .bipush (-2), 2), (43, .ireturn, 1), (44, .iload_n 3, 1), (45, .istore 5, 2), (47, .iload 5, 2), (49, .iload 4, 2), (51, .if_icmp .gt 25, 3), (54, .aload_n 0, 1), (55, .getfield 7, 3), (58, .bipush 34, 2), (60, .bipush 40, 2), (62, .iload_n 1, 1), (63, .imul, 1), (64, .iadd, 1), (65, .iload 5, 2), (67, .iadd, 1), (68, .iload_n 2, 1), (69, .iastore, 1), (70, .iinc 5 1, 3), (73, .goto (-26), 3), (76, .iconst 1, 1), (77, .ireturn, 1)]
theorem dzX8_land : dz cX8_land rwX8_land := dz_all 0 (by decide +kernel)
def kX8_land (live : am_E) (Ret : am_R) : am_code := [(0, am_aload 0 1), (1, am_iload 1 2), (2, am_callV live 8 1 TX8_isPerson 5), (5, am_if1 (fun x => x = 0) 41 8), (8, am_iload 2 9), (9, am_i2l 10), (10, am_const (.long 0) 11), (11, am_const (.long 3) 14), (14, am_callS live 3 TX8_in 17), (17, am_if1 (fun x => x = 0) 41 20), (20, am_iload 3 21), (21, am_callS live 1 TX8_isYear 24), (24, am_if1 (fun x => x = 0) 41 27), (27, am_iload 4 29), (29, am_callS live 1 TX8_isYear 32), (32, am_if1 (fun x => x = 0) 41 35), (35, am_iload 3 36), (36, am_iload 4 38), (38, am_if2 (fun x y => x ≤ y) 44 41), (41, am_const (.int (-2)) 43), (43, am_retI Ret), (44, am_iload 3 45), (45, am_istore 5 6 47), (47, am_iload 5 49), (49, am_iload 4 51), (51, am_if2 (fun x y => y < x) 76 54), (54, am_aload 0 55), (55, am_getR live 8 0 58), (58, am_const (.int 34) 60), (60, am_const (.int 40) 62), (62, am_iload 1 63), (63, am_i2 (fun x y => x * y) 64), (64, am_i2 (fun x y => x + y) 65), (65, am_iload 5 67), (67, am_i2 (fun x y => x + y) 68), (68, am_iload 2 69), (69, am_ast live 0 70), (70, am_iinc 5 6 1 73), (73, am_goto 47), (76, am_const (.int 1) 77), (77, am_retI Ret)]
theorem koX8_land (live : am_E) (Ret : am_R) : ∀ q ∈ kX8_land live Ret, am_ok RX8 cX8_land 6 (some .int) 2 46 live Ret q.1 q.2 :=
  am_kz dzX8_land <|
  am_kd (fun d => ak_aload_n d rfl rfl) <|
  am_kd (fun d => ak_iload_n d rfl rfl) <|
  am_kd (fun d => ak_callV (C := RX8) (F := TX8) (N := 27) metX8_isPerson rfl ⟨rfl, hy_X8_isPerson⟩ (am_w5 wd_993 wd_995 wd_27 wd_67 wd_996) (by decide) d rfl) <|
  am_kd (fun d => ak_if_eq d (by decide +kernel) rfl) <|
  am_kd (fun d => ak_iload_n d rfl rfl) <|
  am_kd (fun d => ak_i2l d rfl) <|
  am_kd (fun d => ak_lconst d (by decide +kernel) rfl) <|
  am_kd (fun d => ak_ldc2 wd_997 d rfl) <|
  am_kd (fun d => ak_callS metX8_in ⟨rfl, hy_X8_in⟩ (am_w4 wd_986 wd_987 wd_67 wd_988) (by decide) d rfl) <|
  am_kd (fun d => ak_if_eq d (by decide +kernel) rfl) <|
  am_kd (fun d => ak_iload_n d rfl rfl) <|
  am_kd (fun d => ak_callS metX8_isYear ⟨rfl, hy_X8_isYear⟩ (am_w4 wd_982 wd_983 wd_67 wd_984) (by decide) d rfl) <|
  am_kd (fun d => ak_if_eq d (by decide +kernel) rfl) <|
  am_kd (fun d => ak_iload d rfl) <|
  am_kd (fun d => ak_callS metX8_isYear ⟨rfl, hy_X8_isYear⟩ (am_w4 wd_982 wd_983 wd_67 wd_984) (by decide) d rfl) <|
  am_kd (fun d => ak_if_eq d (by decide +kernel) rfl) <|
  am_kd (fun d => ak_iload_n d rfl rfl) <|
  am_kd (fun d => ak_iload d rfl) <|
  am_kd (fun d => ak_icmp_le d (by decide +kernel) rfl) <|
  am_kd (fun d => ak_bipush d (by decide +kernel) rfl) <|
  am_kd (fun d => ak_retI d) <|
  am_kd (fun d => ak_iload_n d rfl rfl) <|
  am_kd (fun d => ak_istore d rfl) <|
  am_kd (fun d => ak_iload d rfl) <|
  am_kd (fun d => ak_iload d rfl) <|
  am_kd (fun d => ak_icmp_gt d (by decide +kernel) rfl) <|
  am_kd (fun d => ak_aload_n d rfl rfl) <|
  am_kd (fun d => ak_getR (C := RX8) (T := TX8) (N := 27) rfl inX8w (by decide) rfl rfl rfl wd_895 d rfl) <|
  am_kd (fun d => ak_bipush d (by decide +kernel) rfl) <|
  am_kd (fun d => ak_bipush d (by decide +kernel) rfl) <|
  am_kd (fun d => ak_iload_n d rfl rfl) <|
  am_kd (fun d => ak_imul d rfl) <|
  am_kd (fun d => ak_iadd d rfl) <|
  am_kd (fun d => ak_iload d rfl) <|
  am_kd (fun d => ak_iadd d rfl) <|
  am_kd (fun d => ak_iload_n d rfl rfl) <|
  am_kd (fun d => ak_iast (t := 0) (fun _ => rfl) rfl d rfl) <|
  am_kd (fun d => ak_iinc d (by decide +kernel) rfl) <|
  am_kd (fun d => ak_goto d (by decide +kernel)) <|
  am_kd (fun d => ak_iconst d (by decide +kernel) rfl) <|
  am_kd (fun d => ak_retI d) <| am_kdn
def r_land (M : am_M) (p l f t : Int32) : Int32 × am_M := if 0 ≤ p ∧ p < M.1 201 0 then (if 0 ≤ l ∧ l ≤ 3 then (if 0 ≤ f ∧ f < 40 then (if 0 ≤ t ∧ t < 40 then (if f ≤ t then (1, am_lay M 201 (34 + 40 * p.toInt + f.toInt) (34 + 40 * p.toInt + t.toInt) l) else ((-2 : Int32), M)) else ((-2 : Int32), M)) else ((-2 : Int32), M)) else ((-2 : Int32), M)) else ((-2 : Int32), M)
def TX8_land : am_T := fun live as M R => match as with
  | [.ref n, .int p, .int l, .int f, .int t] => am_mn live ∧ n = 200 ∧ r_I M ∧ R (some (.int (r_land M p l f t).1)) (r_land M p l f t).2
  | _ => False
def JX8_land : am_E → List Value → am_M → am_R → am_inv := fun live as M R pc => match as with
  | [.ref n, .int p, .int l, .int f, .int t] => (match pc with
    | 47 => some ([0, 1, 2, 4, 5], fun k L st M' => ∃ i : Int32, L = [(0, .ref 200), (1, .int p), (2, .int l), (4, .int t), (5, .int i)] ∧ st = [] ∧ k = ((41 - i.toInt).toNat, 0) ∧ (am_in p 12 ∧ am_in f 40 ∧ am_in t 40) ∧ (f.toInt ≤ i.toInt ∧ i.toInt ≤ t.toInt + 1) ∧ M' = am_lay M 201 (34 + 40 * p.toInt + f.toInt) (34 + 40 * p.toInt + (i.toInt - 1)) l ∧ R (some (.int 1)) (am_lay M 201 (34 + 40 * p.toInt + f.toInt) (34 + 40 * p.toInt + t.toInt) l))
    | _ => none)
  | _ => none
set_option maxRecDepth 100000 in
set_option maxHeartbeats 4000000 in
theorem metX8_land : am_Met yX8_land cX8_land 6 (some .int) (2) (46) TX8_land := by
  refine am_met (own := RX8) (by decide +kernel) rfl kX8_land koX8_land 200 JX8_land ?_ ?_
  · intro live as M Ret h
    unfold TX8_land at h
    split at h
    · next n p l f t =>
      refine ⟨Nat.le_of_ble_eq_true rfl, ?_⟩
      change am_wp _ _ _ _ [(0, Value.ref n), (1, Value.int p), (2, Value.int l), (3, Value.int f), (4, Value.int t)] _ _
      obtain ⟨hmn, rfl, hR, h⟩ := h
      have hmn2 := hmn
      obtain ⟨i1, i2, rfl⟩ := hmn2
      have l201 : am_len 201 = 3760 := rfl
      have n0 := hR.n0
      have n1 := hR.n1
      have n030 : 0 ≤ (M.1 201 0).toInt ∧ (M.1 201 0).toInt ≤ 30 := ⟨n0.1, by omega⟩
      by_cases z0 : 0 ≤ p ∧ p < M.1 201 0
      rotate_left
      · skip
        have q0 : (if 0 ≤ p ∧ p < M.1 201 0 then (1 : Int32) else 0) = 0 := if_neg z0
        have e : r_land M p l f t = ((-2 : Int32), M) := by unfold r_land; rw [if_neg z0]
        rw [e] at h
        repeat' (first | (with_reducible exact hmn) | (with_reducible exact h) | (with_reducible exact n030) | (with_reducible exact n1) | apply And.intro | exact rfl | (intro hx; with_reducible exact absurd q0 hx) | (intro hx; exact absurd hx (by decide)) | (intro hx; exact absurd (by decide) hx) | decide | intro hx | (refine Exists.intro _ (And.intro rfl ?_)))
        all_goals try first | (with_reducible change am_tI _ _) | (change Ret _ _) | (change Ret _ _ _) | (change Exists _)
        all_goals try dsimp only at *
        all_goals try (with_reducible exact absurd ‹(1000 : Int64) = 0› am_z1000)
        all_goals first | (with_reducible exact h) | (with_reducible exact n0.1) | omega | exact h | exact n0.1 | exact ⟨_, f, rfl, rfl, rfl, ⟨hp, hf, ht⟩, ⟨Int.le_refl _, by have q := hft; omega⟩, (am_lay_nil (by omega)).symm, h⟩ | (show _ < _; simp only [l201]; decide) | skip
      · skip
        have q0 : ¬ ((if 0 ≤ p ∧ p < M.1 201 0 then (1 : Int32) else 0) = 0) := by rw [if_pos z0]; decide
        by_cases z1 : 0 ≤ l ∧ l ≤ 3
        rotate_left
        · skip
          have q1 : (if (0 : Int64) ≤ l.toInt64 ∧ l.toInt64 ≤ (3 : Int64) then (1 : Int32) else 0) = 0 := if_neg (fun r => z1 (by simp only [i_le, i_lt, j_le, Int32.toInt_toInt64, Int32.reduceToInt, Int64.reduceToInt] at r ⊢; omega))
          have e : r_land M p l f t = ((-2 : Int32), M) := by unfold r_land; rw [if_pos z0, if_neg z1]
          rw [e] at h
          repeat' (first | (with_reducible exact hmn) | (with_reducible exact h) | (with_reducible exact n030) | (with_reducible exact n1) | apply And.intro | exact rfl | (intro hx; with_reducible exact absurd hx q0) | (intro hx; with_reducible exact absurd q1 hx) | (intro hx; exact absurd hx (by decide)) | (intro hx; exact absurd (by decide) hx) | decide | intro hx | (refine Exists.intro _ (And.intro rfl ?_)))
          all_goals try first | (with_reducible change am_tI _ _) | (change Ret _ _) | (change Ret _ _ _) | (change Exists _)
          all_goals try dsimp only at *
          all_goals try (with_reducible exact absurd ‹(1000 : Int64) = 0› am_z1000)
          all_goals first | (with_reducible exact h) | (with_reducible exact n0.1) | omega | exact h | exact n0.1 | exact ⟨_, f, rfl, rfl, rfl, ⟨hp, hf, ht⟩, ⟨Int.le_refl _, by have q := hft; omega⟩, (am_lay_nil (by omega)).symm, h⟩ | (show _ < _; simp only [l201]; decide) | skip
        · skip
          have q1 : ¬ ((if (0 : Int64) ≤ l.toInt64 ∧ l.toInt64 ≤ (3 : Int64) then (1 : Int32) else 0) = 0) := by rw [if_pos (by have q := z1; simp only [i_le, i_lt, j_le, Int32.toInt_toInt64, Int32.reduceToInt, Int64.reduceToInt] at q ⊢; omega)]; decide
          by_cases z2 : 0 ≤ f ∧ f < 40
          rotate_left
          · skip
            have q2 : (if 0 ≤ f ∧ f < 40 then (1 : Int32) else 0) = 0 := if_neg z2
            have e : r_land M p l f t = ((-2 : Int32), M) := by unfold r_land; rw [if_pos z0, if_pos z1, if_neg z2]
            rw [e] at h
            repeat' (first | (with_reducible exact hmn) | (with_reducible exact h) | (with_reducible exact n030) | (with_reducible exact n1) | apply And.intro | exact rfl | (intro hx; with_reducible exact absurd hx q0) | (intro hx; with_reducible exact absurd hx q1) | (intro hx; with_reducible exact absurd q2 hx) | (intro hx; exact absurd hx (by decide)) | (intro hx; exact absurd (by decide) hx) | decide | intro hx | (refine Exists.intro _ (And.intro rfl ?_)))
            all_goals try first | (with_reducible change am_tI _ _) | (change Ret _ _) | (change Ret _ _ _) | (change Exists _)
            all_goals try dsimp only at *
            all_goals try (with_reducible exact absurd ‹(1000 : Int64) = 0› am_z1000)
            all_goals first | (with_reducible exact h) | (with_reducible exact n0.1) | omega | exact h | exact n0.1 | exact ⟨_, f, rfl, rfl, rfl, ⟨hp, hf, ht⟩, ⟨Int.le_refl _, by have q := hft; omega⟩, (am_lay_nil (by omega)).symm, h⟩ | (show _ < _; simp only [l201]; decide) | skip
          · skip
            have q2 : ¬ ((if 0 ≤ f ∧ f < 40 then (1 : Int32) else 0) = 0) := by rw [if_pos z2]; decide
            by_cases z3 : 0 ≤ t ∧ t < 40
            rotate_left
            · skip
              have q3 : (if 0 ≤ t ∧ t < 40 then (1 : Int32) else 0) = 0 := if_neg z3
              have e : r_land M p l f t = ((-2 : Int32), M) := by unfold r_land; rw [if_pos z0, if_pos z1, if_pos z2, if_neg z3]
              rw [e] at h
              repeat' (first | (with_reducible exact hmn) | (with_reducible exact h) | (with_reducible exact n030) | (with_reducible exact n1) | apply And.intro | exact rfl | (intro hx; with_reducible exact absurd hx q0) | (intro hx; with_reducible exact absurd hx q1) | (intro hx; with_reducible exact absurd hx q2) | (intro hx; with_reducible exact absurd q3 hx) | (intro hx; exact absurd hx (by decide)) | (intro hx; exact absurd (by decide) hx) | decide | intro hx | (refine Exists.intro _ (And.intro rfl ?_)))
              all_goals try first | (with_reducible change am_tI _ _) | (change Ret _ _) | (change Ret _ _ _) | (change Exists _)
              all_goals try dsimp only at *
              all_goals try (with_reducible exact absurd ‹(1000 : Int64) = 0› am_z1000)
              all_goals first | (with_reducible exact h) | (with_reducible exact n0.1) | omega | exact h | exact n0.1 | exact ⟨_, f, rfl, rfl, rfl, ⟨hp, hf, ht⟩, ⟨Int.le_refl _, by have q := hft; omega⟩, (am_lay_nil (by omega)).symm, h⟩ | (show _ < _; simp only [l201]; decide) | skip
            · skip
              have q3 : ¬ ((if 0 ≤ t ∧ t < 40 then (1 : Int32) else 0) = 0) := by rw [if_pos z3]; decide
              by_cases z4 : f ≤ t
              rotate_left
              · skip
                have y4 : (t : Int32) < f := Int32.not_le.mp z4
                have e : r_land M p l f t = ((-2 : Int32), M) := by unfold r_land; rw [if_pos z0, if_pos z1, if_pos z2, if_pos z3, if_neg z4]
                rw [e] at h
                repeat' (first | (with_reducible exact hmn) | (with_reducible exact h) | (with_reducible exact n030) | (with_reducible exact n1) | apply And.intro | exact rfl | (intro hx; with_reducible exact absurd hx q0) | (intro hx; with_reducible exact absurd hx q1) | (intro hx; with_reducible exact absurd hx q2) | (intro hx; with_reducible exact absurd hx q3) | (intro hx; with_reducible exact absurd hx z4) | (intro hx; with_reducible exact absurd y4 hx) | (intro hx; exact absurd hx (by decide)) | (intro hx; exact absurd (by decide) hx) | decide | intro hx | (refine Exists.intro _ (And.intro rfl ?_)))
                all_goals try first | (with_reducible change am_tI _ _) | (change Ret _ _) | (change Ret _ _ _) | (change Exists _)
                all_goals try dsimp only at *
                all_goals try (with_reducible exact absurd ‹(1000 : Int64) = 0› am_z1000)
                all_goals first | (with_reducible exact h) | (with_reducible exact n0.1) | omega | exact h | exact n0.1 | exact ⟨_, f, rfl, rfl, rfl, ⟨hp, hf, ht⟩, ⟨Int.le_refl _, by have q := hft; omega⟩, (am_lay_nil (by omega)).symm, h⟩ | (show _ < _; simp only [l201]; decide) | skip
              · skip
                have y4 : ¬ (t : Int32) < f := Int32.not_lt.mpr z4
                have hp : am_in p 12 := ⟨by have q := z0.1; simp only [i_le, Int32.reduceToInt] at q; omega, by have q := z0.2; simp only [i_lt] at q; omega⟩
                have hf : am_in f 40 := ⟨by have q := z2.1; simp only [i_le, Int32.reduceToInt] at q; omega, by have q := z2.2; simp only [i_lt, Int32.reduceToInt] at q; omega⟩
                have ht : am_in t 40 := ⟨by have q := z3.1; simp only [i_le, Int32.reduceToInt] at q; omega, by have q := z3.2; simp only [i_lt, Int32.reduceToInt] at q; omega⟩
                have hft : f.toInt ≤ t.toInt := by have q := z4; simp only [i_le] at q; exact q
                have e : r_land M p l f t = (1, am_lay M 201 (34 + 40 * p.toInt + f.toInt) (34 + 40 * p.toInt + t.toInt) l) := by unfold r_land; rw [if_pos z0, if_pos z1, if_pos z2, if_pos z3, if_pos z4]
                rw [e] at h
                repeat' (first | (with_reducible exact hmn) | (with_reducible exact n030) | (with_reducible exact n1) | apply And.intro | exact rfl | (intro hx; with_reducible exact absurd hx q0) | (intro hx; with_reducible exact absurd hx q1) | (intro hx; with_reducible exact absurd hx q2) | (intro hx; with_reducible exact absurd hx q3) | (intro hx; with_reducible exact absurd hx y4) | (intro hx; with_reducible exact absurd z4 hx) | (intro hx; exact absurd hx (by decide)) | (intro hx; exact absurd (by decide) hx) | decide | intro hx | (refine Exists.intro _ (And.intro rfl ?_)))
                all_goals try first | (with_reducible change am_tI _ _) | (change Ret _ _) | (change Ret _ _ _) | (change Exists _)
                all_goals try dsimp only at *
                all_goals try (with_reducible exact absurd ‹(1000 : Int64) = 0› am_z1000)
                all_goals first | (with_reducible exact h) | (with_reducible exact n0.1) | omega | exact h | exact n0.1 | exact ⟨_, f, rfl, rfl, rfl, ⟨hp, hf, ht⟩, ⟨Int.le_refl _, by have q := hft; omega⟩, (am_lay_nil (by omega)).symm, h⟩ | (show _ < _; simp only [l201]; decide) | skip
    · exact h.elim
  · intro live as M0 Ret h k pc I hI L st M hi
    unfold TX8_land at h
    split at h
    · next n p l f t =>
      obtain ⟨hmn, rfl, hR, h⟩ := h
      have hmn2 := hmn
      obtain ⟨i1, i2, rfl⟩ := hmn2
      have l201 : am_len 201 = 3760 := rfl
      change (match pc with | 47 => _ | _ => none) = _ at hI
      split at hI
      · cases hI
        obtain ⟨i, rfl, rfl, rfl, ⟨hp, hf, ht⟩, ⟨g1, g2⟩, rfl, h⟩ := hi
        have p1 := hp.1
        have p2 := hp.2
        have f1 := hf.1
        have f2 := hf.2
        have t1 := ht.1
        have t2 := ht.2
        by_cases hz : t < i
        · have hz2 := hz
          simp only [i_lt] at hz2
          repeat' (first | apply And.intro | exact rfl | (intro hx; with_reducible exact absurd hz hx) | intro hx | (refine Exists.intro _ (And.intro rfl ?_)))
          all_goals try first | (with_reducible change am_tI _ _) | (change Ret _ _) | (change Ret _ _ _) | (change Exists _)
          all_goals try dsimp only at *
          all_goals try (with_reducible exact absurd ‹(1000 : Int64) = 0› am_z1000)
          rw [show i.toInt - 1 = t.toInt by omega]
          exact h
        · have hz2 := hz
          simp only [i_lt] at hz2
          have hi := i_inc (x := i) (by omega) (by omega)
          have e40 := r_mul (c := 40) (x := p) ⟨by decide, by decide⟩ ⟨by omega, by omega⟩
          simp only [Int32.reduceToInt] at e40
          have ea := r_off (c := 34) (x := 40 * p) ⟨by decide, by decide⟩ ⟨by omega, by omega⟩
          simp only [e40, Int32.reduceToInt] at ea
          have eb := r_off (c := 34 + 40 * p) (x := i) ⟨by omega, by omega⟩ ⟨by omega, by omega⟩
          have ec := i_clamp (x := 34 + 40 * p + i) (by omega)
          repeat' (first | apply And.intro | exact rfl | (intro hx; with_reducible exact absurd hx hz) | intro hx | (refine Exists.intro _ (And.intro rfl ?_)))
          all_goals try first | (with_reducible change am_tI _ _) | (change Ret _ _) | (change Ret _ _ _) | (change Exists _)
          all_goals try dsimp only at *
          all_goals try (with_reducible exact absurd ‹(1000 : Int64) = 0› am_z1000)
          all_goals first
            | omega
            | (rw [l201]; omega)
            | skip
          refine ⟨_, am_lt_l (by omega), _, rfl, rfl, rfl, ⟨hp, hf, ht⟩, ⟨by omega, by omega⟩, ?_, h⟩
          rw [show (34 : Int) + 40 * p.toInt + (i.toInt - 1) = 34 + 40 * p.toInt + i.toInt - 1 by omega, am_lay_put (by omega) (by omega)]
          exact am_lay_eq (fun q => by omega)
      · cases hI
    · exact h.elim
theorem hy_X8_isLife : yX8_isLife.cls ≠ "java/lang/invoke/MethodHandle" ∧ yX8_isLife.cls ≠ "java/lang/invoke/VarHandle" ∧ (parseMethodDescriptor yX8_isLife.desc).map (fun d => d.parameters.length) = some 1 := ⟨by decide +kernel, by decide +kernel, by decide +kernel⟩
set_option maxRecDepth 100000 in
theorem wd_1225 : Cond.methodLink "LearnLoansModel" 250 yX8_isLife ∈ am_ws := am_wt5 (List.mem_of_getElem? (i := 208) (by rfl)) (by decide +kernel)
set_option maxRecDepth 100000 in
theorem wd_1226 : Cond.static yX8_isLife ∈ am_ws := am_wt5 (List.mem_of_getElem? (i := 209) (by rfl)) (by decide +kernel)
set_option maxRecDepth 100000 in
theorem wd_1227 : Cond.code yX8_isLife cX8_isLife 1 (some .boolean) ∈ am_ws := am_wt5 (List.mem_of_getElem? (i := 210) (by rfl)) (by decide +kernel)
def rwX8_live : List dz_r := [(0, .iload_n 1, 1), (1, .invokestatic 250, 3), (4, .ifCond .eq 35, 3), (7, .iload_n 2, 1), (8, .invokestatic 72, 3), (11, .ifCond .eq 28, 3), (14, .iload_n 3, 1), (15, .invokestatic 72, 3), (18, .ifCond .eq 21, 3), (21, .iload_n 2, 1), (22, .iload_n 3, 1), (23, .if_icmp .gt 16, 3), (26, .iload 4, 2), (28, .i2l, 1), (29, .lconst 0, 1), (30, .ldc2_w 87, 3), (33, .invokestatic 66, 3), (36, .ifCond .ne 6, 3), (39, .bipush (-2), 2), (41, .ireturn, 1), (42, .iload_n 2, 1), (43, .istore 5, 2), (45, .iload 5, 2), (47, .iload_n 3, 1), (48, .if_icmp .gt 27, 3), (51, .aload_n 0, 1), (52, .getfield 7, 3), (55, .sipush 3573, 3), (58, .bipush 40, 2), (60, .iload_n 1, 1), (61, .imul, 1), (62, .iadd, 1), (63, .iload 5, 2), (65, .iadd, 1), (66, .iload 4, 2), (68, .iastore, 1), (69, .iinc 5 1, 3), (72, .goto (-27), 3), (75, .iconst 1, 1), (76, .ireturn, 1)]
theorem dzX8_live : dz cX8_live rwX8_live := dz_all 0 (by decide +kernel)
def kX8_live (live : am_E) (Ret : am_R) : am_code := [(0, am_iload 1 1), (1, am_callS live 1 TX8_isLife 4), (4, am_if1 (fun x => x = 0) 39 7), (7, am_iload 2 8), (8, am_callS live 1 TX8_isYear 11), (11, am_if1 (fun x => x = 0) 39 14), (14, am_iload 3 15), (15, am_callS live 1 TX8_isYear 18), (18, am_if1 (fun x => x = 0) 39 21), (21, am_iload 2 22), (22, am_iload 3 23), (23, am_if2 (fun x y => y < x) 39 26), (26, am_iload 4 28), (28, am_i2l 29), (29, am_const (.long 0) 30), (30, am_const (.long 10000000) 33), (33, am_callS live 3 TX8_in 36), (36, am_if1 (fun x => x = 0) 39 42), (39, am_const (.int (-2)) 41), (41, am_retI Ret), (42, am_iload 2 43), (43, am_istore 5 6 45), (45, am_iload 5 47), (47, am_iload 3 48), (48, am_if2 (fun x y => y < x) 75 51), (51, am_aload 0 52), (52, am_getR live 8 0 55), (55, am_const (.int 3573) 58), (58, am_const (.int 40) 60), (60, am_iload 1 61), (61, am_i2 (fun x y => x * y) 62), (62, am_i2 (fun x y => x + y) 63), (63, am_iload 5 65), (65, am_i2 (fun x y => x + y) 66), (66, am_iload 4 68), (68, am_ast live 0 69), (69, am_iinc 5 6 1 72), (72, am_goto 45), (75, am_const (.int 1) 76), (76, am_retI Ret)]
theorem koX8_live (live : am_E) (Ret : am_R) : ∀ q ∈ kX8_live live Ret, am_ok RX8 cX8_live 6 (some .int) 2 45 live Ret q.1 q.2 :=
  am_kz dzX8_live <|
  am_kd (fun d => ak_iload_n d rfl rfl) <|
  am_kd (fun d => ak_callS metX8_isLife ⟨rfl, hy_X8_isLife⟩ (am_w4 wd_1225 wd_1226 wd_67 wd_1227) (by decide) d rfl) <|
  am_kd (fun d => ak_if_eq d (by decide +kernel) rfl) <|
  am_kd (fun d => ak_iload_n d rfl rfl) <|
  am_kd (fun d => ak_callS metX8_isYear ⟨rfl, hy_X8_isYear⟩ (am_w4 wd_982 wd_983 wd_67 wd_984) (by decide) d rfl) <|
  am_kd (fun d => ak_if_eq d (by decide +kernel) rfl) <|
  am_kd (fun d => ak_iload_n d rfl rfl) <|
  am_kd (fun d => ak_callS metX8_isYear ⟨rfl, hy_X8_isYear⟩ (am_w4 wd_982 wd_983 wd_67 wd_984) (by decide) d rfl) <|
  am_kd (fun d => ak_if_eq d (by decide +kernel) rfl) <|
  am_kd (fun d => ak_iload_n d rfl rfl) <|
  am_kd (fun d => ak_iload_n d rfl rfl) <|
  am_kd (fun d => ak_icmp_gt d (by decide +kernel) rfl) <|
  am_kd (fun d => ak_iload d rfl) <|
  am_kd (fun d => ak_i2l d rfl) <|
  am_kd (fun d => ak_lconst d (by decide +kernel) rfl) <|
  am_kd (fun d => ak_ldc2 wd_1017 d rfl) <|
  am_kd (fun d => ak_callS metX8_in ⟨rfl, hy_X8_in⟩ (am_w4 wd_986 wd_987 wd_67 wd_988) (by decide) d rfl) <|
  am_kd (fun d => ak_if_ne d (by decide +kernel) rfl) <|
  am_kd (fun d => ak_bipush d (by decide +kernel) rfl) <|
  am_kd (fun d => ak_retI d) <|
  am_kd (fun d => ak_iload_n d rfl rfl) <|
  am_kd (fun d => ak_istore d rfl) <|
  am_kd (fun d => ak_iload d rfl) <|
  am_kd (fun d => ak_iload_n d rfl rfl) <|
  am_kd (fun d => ak_icmp_gt d (by decide +kernel) rfl) <|
  am_kd (fun d => ak_aload_n d rfl rfl) <|
  am_kd (fun d => ak_getR (C := RX8) (T := TX8) (N := 27) rfl inX8w (by decide) rfl rfl rfl wd_895 d rfl) <|
  am_kd (fun d => ak_sipush d (by decide +kernel) rfl) <|
  am_kd (fun d => ak_bipush d (by decide +kernel) rfl) <|
  am_kd (fun d => ak_iload_n d rfl rfl) <|
  am_kd (fun d => ak_imul d rfl) <|
  am_kd (fun d => ak_iadd d rfl) <|
  am_kd (fun d => ak_iload d rfl) <|
  am_kd (fun d => ak_iadd d rfl) <|
  am_kd (fun d => ak_iload d rfl) <|
  am_kd (fun d => ak_iast (t := 0) (fun _ => rfl) rfl d rfl) <|
  am_kd (fun d => ak_iinc d (by decide +kernel) rfl) <|
  am_kd (fun d => ak_goto d (by decide +kernel)) <|
  am_kd (fun d => ak_iconst d (by decide +kernel) rfl) <|
  am_kd (fun d => ak_retI d) <| am_kdn
def r_live (M : am_M) (l f t c : Int32) : Int32 × am_M := if 0 ≤ l ∧ l ≤ 3 then (if 0 ≤ f ∧ f < 40 then (if 0 ≤ t ∧ t < 40 then (if f ≤ t then (if 0 ≤ c ∧ c ≤ 10000000 then (1, am_lay M 201 (3573 + 40 * l.toInt + f.toInt) (3573 + 40 * l.toInt + t.toInt) c) else ((-2 : Int32), M)) else ((-2 : Int32), M)) else ((-2 : Int32), M)) else ((-2 : Int32), M)) else ((-2 : Int32), M)
def TX8_live : am_T := fun live as M R => match as with
  | [.ref n, .int l, .int f, .int t, .int c] => am_mn live ∧ n = 200 ∧ r_I M ∧ R (some (.int (r_live M l f t c).1)) (r_live M l f t c).2
  | _ => False
def JX8_live : am_E → List Value → am_M → am_R → am_inv := fun live as M R pc => match as with
  | [.ref n, .int l, .int f, .int t, .int c] => (match pc with
    | 45 => some ([0, 1, 3, 4, 5], fun k L st M' => ∃ i : Int32, L = [(0, .ref 200), (1, .int l), (3, .int t), (4, .int c), (5, .int i)] ∧ st = [] ∧ k = ((41 - i.toInt).toNat, 0) ∧ (am_in l 4 ∧ am_in f 40 ∧ am_in t 40) ∧ (f.toInt ≤ i.toInt ∧ i.toInt ≤ t.toInt + 1) ∧ M' = am_lay M 201 (3573 + 40 * l.toInt + f.toInt) (3573 + 40 * l.toInt + (i.toInt - 1)) c ∧ R (some (.int 1)) (am_lay M 201 (3573 + 40 * l.toInt + f.toInt) (3573 + 40 * l.toInt + t.toInt) c))
    | _ => none)
  | _ => none
set_option maxRecDepth 100000 in
set_option maxHeartbeats 4000000 in
theorem metX8_live : am_Met yX8_live cX8_live 6 (some .int) (2) (45) TX8_live := by
  refine am_met (own := RX8) (by decide +kernel) rfl kX8_live koX8_live 200 JX8_live ?_ ?_
  · intro live as M Ret h
    unfold TX8_live at h
    split at h
    · next n l f t c =>
      refine ⟨Nat.le_of_ble_eq_true rfl, ?_⟩
      change am_wp _ _ _ _ [(0, Value.ref n), (1, Value.int l), (2, Value.int f), (3, Value.int t), (4, Value.int c)] _ _
      obtain ⟨hmn, rfl, hR, h⟩ := h
      have hmn2 := hmn
      obtain ⟨i1, i2, rfl⟩ := hmn2
      have l201 : am_len 201 = 3760 := rfl
      have n0 := hR.n0
      have n1 := hR.n1
      have n030 : 0 ≤ (M.1 201 0).toInt ∧ (M.1 201 0).toInt ≤ 30 := ⟨n0.1, by omega⟩
      by_cases z0 : 0 ≤ l ∧ l ≤ 3
      rotate_left
      · skip
        have q0 : (if 0 ≤ l ∧ l ≤ 3 then (1 : Int32) else 0) = 0 := if_neg z0
        have e : r_live M l f t c = ((-2 : Int32), M) := by unfold r_live; rw [if_neg z0]
        rw [e] at h
        repeat' (first | (with_reducible exact hmn) | (with_reducible exact h) | (with_reducible exact n030) | (with_reducible exact n1) | apply And.intro | exact rfl | (intro hx; with_reducible exact absurd q0 hx) | (intro hx; exact absurd hx (by decide)) | (intro hx; exact absurd (by decide) hx) | decide | intro hx | (refine Exists.intro _ (And.intro rfl ?_)))
        all_goals try first | (with_reducible change am_tI _ _) | (change Ret _ _) | (change Ret _ _ _) | (change Exists _)
        all_goals try dsimp only at *
        all_goals try (with_reducible exact absurd ‹(1000 : Int64) = 0› am_z1000)
        all_goals first | (with_reducible exact h) | (with_reducible exact n0.1) | omega | exact h | exact n0.1 | exact ⟨_, f, rfl, rfl, rfl, ⟨hp, hf, ht⟩, ⟨Int.le_refl _, by have q := hft; omega⟩, (am_lay_nil (by omega)).symm, h⟩ | (show _ < _; simp only [l201]; decide) | skip
      · skip
        have q0 : ¬ ((if 0 ≤ l ∧ l ≤ 3 then (1 : Int32) else 0) = 0) := by rw [if_pos z0]; decide
        by_cases z1 : 0 ≤ f ∧ f < 40
        rotate_left
        · skip
          have q1 : (if 0 ≤ f ∧ f < 40 then (1 : Int32) else 0) = 0 := if_neg z1
          have e : r_live M l f t c = ((-2 : Int32), M) := by unfold r_live; rw [if_pos z0, if_neg z1]
          rw [e] at h
          repeat' (first | (with_reducible exact hmn) | (with_reducible exact h) | (with_reducible exact n030) | (with_reducible exact n1) | apply And.intro | exact rfl | (intro hx; with_reducible exact absurd hx q0) | (intro hx; with_reducible exact absurd q1 hx) | (intro hx; exact absurd hx (by decide)) | (intro hx; exact absurd (by decide) hx) | decide | intro hx | (refine Exists.intro _ (And.intro rfl ?_)))
          all_goals try first | (with_reducible change am_tI _ _) | (change Ret _ _) | (change Ret _ _ _) | (change Exists _)
          all_goals try dsimp only at *
          all_goals try (with_reducible exact absurd ‹(1000 : Int64) = 0› am_z1000)
          all_goals first | (with_reducible exact h) | (with_reducible exact n0.1) | omega | exact h | exact n0.1 | exact ⟨_, f, rfl, rfl, rfl, ⟨hp, hf, ht⟩, ⟨Int.le_refl _, by have q := hft; omega⟩, (am_lay_nil (by omega)).symm, h⟩ | (show _ < _; simp only [l201]; decide) | skip
        · skip
          have q1 : ¬ ((if 0 ≤ f ∧ f < 40 then (1 : Int32) else 0) = 0) := by rw [if_pos z1]; decide
          by_cases z2 : 0 ≤ t ∧ t < 40
          rotate_left
          · skip
            have q2 : (if 0 ≤ t ∧ t < 40 then (1 : Int32) else 0) = 0 := if_neg z2
            have e : r_live M l f t c = ((-2 : Int32), M) := by unfold r_live; rw [if_pos z0, if_pos z1, if_neg z2]
            rw [e] at h
            repeat' (first | (with_reducible exact hmn) | (with_reducible exact h) | (with_reducible exact n030) | (with_reducible exact n1) | apply And.intro | exact rfl | (intro hx; with_reducible exact absurd hx q0) | (intro hx; with_reducible exact absurd hx q1) | (intro hx; with_reducible exact absurd q2 hx) | (intro hx; exact absurd hx (by decide)) | (intro hx; exact absurd (by decide) hx) | decide | intro hx | (refine Exists.intro _ (And.intro rfl ?_)))
            all_goals try first | (with_reducible change am_tI _ _) | (change Ret _ _) | (change Ret _ _ _) | (change Exists _)
            all_goals try dsimp only at *
            all_goals try (with_reducible exact absurd ‹(1000 : Int64) = 0› am_z1000)
            all_goals first | (with_reducible exact h) | (with_reducible exact n0.1) | omega | exact h | exact n0.1 | exact ⟨_, f, rfl, rfl, rfl, ⟨hp, hf, ht⟩, ⟨Int.le_refl _, by have q := hft; omega⟩, (am_lay_nil (by omega)).symm, h⟩ | (show _ < _; simp only [l201]; decide) | skip
          · skip
            have q2 : ¬ ((if 0 ≤ t ∧ t < 40 then (1 : Int32) else 0) = 0) := by rw [if_pos z2]; decide
            by_cases z3 : f ≤ t
            rotate_left
            · skip
              have y3 : (t : Int32) < f := Int32.not_le.mp z3
              have e : r_live M l f t c = ((-2 : Int32), M) := by unfold r_live; rw [if_pos z0, if_pos z1, if_pos z2, if_neg z3]
              rw [e] at h
              repeat' (first | (with_reducible exact hmn) | (with_reducible exact h) | (with_reducible exact n030) | (with_reducible exact n1) | apply And.intro | exact rfl | (intro hx; with_reducible exact absurd hx q0) | (intro hx; with_reducible exact absurd hx q1) | (intro hx; with_reducible exact absurd hx q2) | (intro hx; with_reducible exact absurd hx z3) | (intro hx; with_reducible exact absurd y3 hx) | (intro hx; exact absurd hx (by decide)) | (intro hx; exact absurd (by decide) hx) | decide | intro hx | (refine Exists.intro _ (And.intro rfl ?_)))
              all_goals try first | (with_reducible change am_tI _ _) | (change Ret _ _) | (change Ret _ _ _) | (change Exists _)
              all_goals try dsimp only at *
              all_goals try (with_reducible exact absurd ‹(1000 : Int64) = 0› am_z1000)
              all_goals first | (with_reducible exact h) | (with_reducible exact n0.1) | omega | exact h | exact n0.1 | exact ⟨_, f, rfl, rfl, rfl, ⟨hp, hf, ht⟩, ⟨Int.le_refl _, by have q := hft; omega⟩, (am_lay_nil (by omega)).symm, h⟩ | (show _ < _; simp only [l201]; decide) | skip
            · skip
              have y3 : ¬ (t : Int32) < f := Int32.not_lt.mpr z3
              by_cases z4 : 0 ≤ c ∧ c ≤ 10000000
              rotate_left
              · skip
                have q4 : (if (0 : Int64) ≤ c.toInt64 ∧ c.toInt64 ≤ (10000000 : Int64) then (1 : Int32) else 0) = 0 := if_neg (fun r => z4 (by simp only [i_le, i_lt, j_le, Int32.toInt_toInt64, Int32.reduceToInt, Int64.reduceToInt] at r ⊢; omega))
                have e : r_live M l f t c = ((-2 : Int32), M) := by unfold r_live; rw [if_pos z0, if_pos z1, if_pos z2, if_pos z3, if_neg z4]
                rw [e] at h
                repeat' (first | (with_reducible exact hmn) | (with_reducible exact h) | (with_reducible exact n030) | (with_reducible exact n1) | apply And.intro | exact rfl | (intro hx; with_reducible exact absurd hx q0) | (intro hx; with_reducible exact absurd hx q1) | (intro hx; with_reducible exact absurd hx q2) | (intro hx; with_reducible exact absurd hx y3) | (intro hx; with_reducible exact absurd z3 hx) | (intro hx; with_reducible exact absurd q4 hx) | (intro hx; exact absurd hx (by decide)) | (intro hx; exact absurd (by decide) hx) | decide | intro hx | (refine Exists.intro _ (And.intro rfl ?_)))
                all_goals try first | (with_reducible change am_tI _ _) | (change Ret _ _) | (change Ret _ _ _) | (change Exists _)
                all_goals try dsimp only at *
                all_goals try (with_reducible exact absurd ‹(1000 : Int64) = 0› am_z1000)
                all_goals first | (with_reducible exact h) | (with_reducible exact n0.1) | omega | exact h | exact n0.1 | exact ⟨_, f, rfl, rfl, rfl, ⟨hp, hf, ht⟩, ⟨Int.le_refl _, by have q := hft; omega⟩, (am_lay_nil (by omega)).symm, h⟩ | (show _ < _; simp only [l201]; decide) | skip
              · skip
                have q4 : ¬ ((if (0 : Int64) ≤ c.toInt64 ∧ c.toInt64 ≤ (10000000 : Int64) then (1 : Int32) else 0) = 0) := by rw [if_pos (by have q := z4; simp only [i_le, i_lt, j_le, Int32.toInt_toInt64, Int32.reduceToInt, Int64.reduceToInt] at q ⊢; omega)]; decide
                have hp : am_in l 4 := ⟨by have q := z0.1; simp only [i_le, Int32.reduceToInt] at q; omega, by have q := z0.2; simp only [i_le, Int32.reduceToInt] at q; omega⟩
                have hf : am_in f 40 := ⟨by have q := z1.1; simp only [i_le, Int32.reduceToInt] at q; omega, by have q := z1.2; simp only [i_lt, Int32.reduceToInt] at q; omega⟩
                have ht : am_in t 40 := ⟨by have q := z2.1; simp only [i_le, Int32.reduceToInt] at q; omega, by have q := z2.2; simp only [i_lt, Int32.reduceToInt] at q; omega⟩
                have hft : f.toInt ≤ t.toInt := by have q := z3; simp only [i_le] at q; exact q
                have e : r_live M l f t c = (1, am_lay M 201 (3573 + 40 * l.toInt + f.toInt) (3573 + 40 * l.toInt + t.toInt) c) := by unfold r_live; rw [if_pos z0, if_pos z1, if_pos z2, if_pos z3, if_pos z4]
                rw [e] at h
                repeat' (first | (with_reducible exact hmn) | (with_reducible exact n030) | (with_reducible exact n1) | apply And.intro | exact rfl | (intro hx; with_reducible exact absurd hx q0) | (intro hx; with_reducible exact absurd hx q1) | (intro hx; with_reducible exact absurd hx q2) | (intro hx; with_reducible exact absurd hx y3) | (intro hx; with_reducible exact absurd hx q4) | (intro hx; with_reducible exact absurd z3 hx) | (intro hx; exact absurd hx (by decide)) | (intro hx; exact absurd (by decide) hx) | decide | intro hx | (refine Exists.intro _ (And.intro rfl ?_)))
                all_goals try first | (with_reducible change am_tI _ _) | (change Ret _ _) | (change Ret _ _ _) | (change Exists _)
                all_goals try dsimp only at *
                all_goals try (with_reducible exact absurd ‹(1000 : Int64) = 0› am_z1000)
                all_goals first | (with_reducible exact h) | (with_reducible exact n0.1) | omega | exact h | exact n0.1 | exact ⟨_, f, rfl, rfl, rfl, ⟨hp, hf, ht⟩, ⟨Int.le_refl _, by have q := hft; omega⟩, (am_lay_nil (by omega)).symm, h⟩ | (show _ < _; simp only [l201]; decide) | skip
    · exact h.elim
  · intro live as M0 Ret h k pc I hI L st M hi
    unfold TX8_live at h
    split at h
    · next n l f t c =>
      obtain ⟨hmn, rfl, hR, h⟩ := h
      have hmn2 := hmn
      obtain ⟨i1, i2, rfl⟩ := hmn2
      have l201 : am_len 201 = 3760 := rfl
      change (match pc with | 45 => _ | _ => none) = _ at hI
      split at hI
      · cases hI
        obtain ⟨i, rfl, rfl, rfl, ⟨hp, hf, ht⟩, ⟨g1, g2⟩, rfl, h⟩ := hi
        have p1 := hp.1
        have p2 := hp.2
        have f1 := hf.1
        have f2 := hf.2
        have t1 := ht.1
        have t2 := ht.2
        by_cases hz : t < i
        · have hz2 := hz
          simp only [i_lt] at hz2
          repeat' (first | apply And.intro | exact rfl | (intro hx; with_reducible exact absurd hz hx) | intro hx | (refine Exists.intro _ (And.intro rfl ?_)))
          all_goals try first | (with_reducible change am_tI _ _) | (change Ret _ _) | (change Ret _ _ _) | (change Exists _)
          all_goals try dsimp only at *
          all_goals try (with_reducible exact absurd ‹(1000 : Int64) = 0› am_z1000)
          rw [show i.toInt - 1 = t.toInt by omega]
          exact h
        · have hz2 := hz
          simp only [i_lt] at hz2
          have hi := i_inc (x := i) (by omega) (by omega)
          have e40 := r_mul (c := 40) (x := l) ⟨by decide, by decide⟩ ⟨by omega, by omega⟩
          simp only [Int32.reduceToInt] at e40
          have ea := r_off (c := 3573) (x := 40 * l) ⟨by decide, by decide⟩ ⟨by omega, by omega⟩
          simp only [e40, Int32.reduceToInt] at ea
          have eb := r_off (c := 3573 + 40 * l) (x := i) ⟨by omega, by omega⟩ ⟨by omega, by omega⟩
          have ec := i_clamp (x := 3573 + 40 * l + i) (by omega)
          repeat' (first | apply And.intro | exact rfl | (intro hx; with_reducible exact absurd hx hz) | intro hx | (refine Exists.intro _ (And.intro rfl ?_)))
          all_goals try first | (with_reducible change am_tI _ _) | (change Ret _ _) | (change Ret _ _ _) | (change Exists _)
          all_goals try dsimp only at *
          all_goals try (with_reducible exact absurd ‹(1000 : Int64) = 0› am_z1000)
          all_goals first
            | omega
            | (rw [l201]; omega)
            | skip
          refine ⟨_, am_lt_l (by omega), _, rfl, rfl, rfl, ⟨hp, hf, ht⟩, ⟨by omega, by omega⟩, ?_, h⟩
          rw [show (3573 : Int) + 40 * l.toInt + (i.toInt - 1) = 3573 + 40 * l.toInt + i.toInt - 1 by omega, am_lay_put (by omega) (by omega)]
          exact am_lay_eq (fun q => by omega)
      · cases hI
    · exact h.elim
def rwX8_count : List dz_r := [(0, .iload_n 1, 1), (1, .i2l, 1), (2, .lconst 0, 1), (3, .ldc2_w 102, 3), (6, .invokestatic 66, 3), (9, .ifCond .eq 12, 3), (12, .aload_n 0, 1), (13, .getfield 7, 3), (16, .iload_n 1, 1), (17, .iaload, 1), (18, .goto 5, 3), (21, .bipush (-2), 2), (23, .ireturn, 1)]
theorem dzX8_count : dz cX8_count rwX8_count := dz_all 0 (by decide +kernel)
def kX8_count (live : am_E) (Ret : am_R) : am_code := [(0, am_iload 1 1), (1, am_i2l 2), (2, am_const (.long 0) 3), (3, am_const (.long 5) 6), (6, am_callS live 3 TX8_in 9), (9, am_if1 (fun x => x = 0) 21 12), (12, am_aload 0 13), (13, am_getR live 8 0 16), (16, am_iload 1 17), (17, am_ald live 0 18), (18, am_goto 23), (21, am_const (.int (-2)) 23), (23, am_retI Ret)]
theorem koX8_count (live : am_E) (Ret : am_R) : ∀ q ∈ kX8_count live Ret, am_ok RX8 cX8_count 2 (some .int) 1 25 live Ret q.1 q.2 :=
  am_kz dzX8_count <|
  am_kd (fun d => ak_iload_n d rfl rfl) <|
  am_kd (fun d => ak_i2l d rfl) <|
  am_kd (fun d => ak_lconst d (by decide +kernel) rfl) <|
  am_kd (fun d => ak_ldc2 wd_1041 d rfl) <|
  am_kd (fun d => ak_callS metX8_in ⟨rfl, hy_X8_in⟩ (am_w4 wd_986 wd_987 wd_67 wd_988) (by decide) d rfl) <|
  am_kd (fun d => ak_if_eq d (by decide +kernel) rfl) <|
  am_kd (fun d => ak_aload_n d rfl rfl) <|
  am_kd (fun d => ak_getR (C := RX8) (T := TX8) (N := 27) rfl inX8w (by decide) rfl rfl rfl wd_895 d rfl) <|
  am_kd (fun d => ak_iload_n d rfl rfl) <|
  am_kd (fun d => ak_iald (t := 0) (fun _ => rfl) rfl d rfl) <|
  am_kd (fun d => ak_goto d (by decide +kernel)) <|
  am_kd (fun d => ak_bipush d (by decide +kernel) rfl) <|
  am_kd (fun d => ak_retI d) <| am_kdn
def r_count (M : am_M) (w : Int32) : Int32 := if 0 ≤ w ∧ w ≤ 5 then M.1 201 w.toNatClampNeg else -2
def TX8_count : am_T := fun live as M R => match as with
  | [.ref n, .int w] => am_mn live ∧ n = 200 ∧ R (some (.int (r_count M w))) M
  | _ => False
set_option maxRecDepth 100000 in
set_option maxHeartbeats 4000000 in
theorem metX8_count : am_Met yX8_count cX8_count 2 (some .int) (1) (25) TX8_count := by
  refine am_met (own := RX8) (by decide +kernel) rfl kX8_count koX8_count 100 (fun _ _ _ _ _ => none) (fun live as M Ret h => ?_) (fun _ _ _ _ _ _ _ _ hI => by cases hI)
  unfold TX8_count at h
  split at h
  · next n w =>
    refine ⟨Nat.le_of_ble_eq_true rfl, ?_⟩
    change am_wp _ _ _ _ [(0, Value.ref n), (1, Value.int w)] _ _
    obtain ⟨⟨i1, i2, rfl⟩, rfl, h⟩ := h
    have l201 : am_len 201 = 3760 := rfl
    by_cases z0 : 0 ≤ w ∧ w ≤ 5
    · rw [show r_count M w = M.1 201 w.toNatClampNeg from if_pos z0] at h
      have q0 : ¬ ((if (0 : Int64) ≤ w.toInt64 ∧ w.toInt64 ≤ (5 : Int64) then (1 : Int32) else 0) = 0) := by rw [if_pos (by have q := z0; simp only [i_le, i_lt, j_le, Int32.toInt_toInt64, Int32.reduceToInt, Int64.reduceToInt] at q ⊢; omega)]; decide
      repeat' (first | apply And.intro | exact rfl | (intro hx; with_reducible exact absurd hx q0) | intro hx | (refine Exists.intro _ (And.intro rfl ?_)))
      all_goals try first | (with_reducible change am_tI _ _) | (change Ret _ _) | (change Ret _ _ _) | (change Exists _)
      all_goals try dsimp only at *
      all_goals try (with_reducible exact absurd ‹(1000 : Int64) = 0› am_z1000)
      all_goals first
        | (with_reducible exact h)
        | (simp only [l201]; have q := z0; simp only [i_le, Int32.reduceToInt] at q; omega)
        | (have q := z0; simp only [i_le, Int32.reduceToInt] at q; omega)
        | exact h
    · rw [show r_count M w = -2 from if_neg z0] at h
      have q0 : (if (0 : Int64) ≤ w.toInt64 ∧ w.toInt64 ≤ (5 : Int64) then (1 : Int32) else 0) = 0 := if_neg (fun r => z0 (by simp only [i_le, i_lt, j_le, Int32.toInt_toInt64, Int32.reduceToInt, Int64.reduceToInt] at r ⊢; omega))
      repeat' (first | (with_reducible exact h) | apply And.intro | exact rfl | (intro hx; with_reducible exact absurd q0 hx) | intro hx | (refine Exists.intro _ (And.intro rfl ?_)))
      all_goals try first | (with_reducible change am_tI _ _) | (change Ret _ _) | (change Ret _ _ _) | (change Exists _)
      all_goals try dsimp only at *
      all_goals try (with_reducible exact absurd ‹(1000 : Int64) = 0› am_z1000)
      all_goals exact h
  · exact h.elim
def rwX8_image : List dz_r := [(0, .iload_n 1, 1), (1, .i2l, 1), (2, .lconst 0, 1), (3, .lconst 1, 1), (4, .invokestatic 66, 3), (7, .ifCond .ne 6, 3), (10, .bipush (-2), 2), (12, .ireturn, 1), (13, .iconst 0, 1), (14, .istore_n 2, 1), (15, .iload_n 2, 1), (16, .sipush 3760, 3), (19, .if_icmp .ge 27, 3), (22, .aload_n 0, 1), (23, .getfield 13, 3), (26, .sipush 3760, 3), (29, .iload_n 1, 1), (30, .imul, 1), (31, .iload_n 2, 1), (32, .iadd, 1), (33, .aload_n 0, 1), (34, .getfield 7, 3), (37, .iload_n 2, 1), (38, .iaload, 1), (39, .iastore, 1), (40, .iinc 2 1, 3), (43, .goto (-28), 3), (46, .aload_n 0, 1), (47, .getfield 16, 3), (50, .iload_n 1, 1), (51, .iconst 1, 1), (52, .bastore, 1), (53, .iconst 1, 1), (54, .ireturn, 1)]
theorem dzX8_image : dz cX8_image rwX8_image := dz_all 0 (by decide +kernel)
def kX8_image (live : am_E) (Ret : am_R) : am_code := [(0, am_iload 1 1), (1, am_i2l 2), (2, am_const (.long 0) 3), (3, am_const (.long 1) 4), (4, am_callS live 3 TX8_in 7), (7, am_if1 (fun x => x = 0) 10 13), (10, am_const (.int (-2)) 12), (12, am_retI Ret), (13, am_const (.int 0) 14), (14, am_istore 2 3 15), (15, am_iload 2 16), (16, am_const (.int 3760) 19), (19, am_if2 (fun x y => y ≤ x) 46 22), (22, am_aload 0 23), (23, am_getR live 8 1 26), (26, am_const (.int 3760) 29), (29, am_iload 1 30), (30, am_i2 (fun x y => x * y) 31), (31, am_iload 2 32), (32, am_i2 (fun x y => x + y) 33), (33, am_aload 0 34), (34, am_getR live 8 0 37), (37, am_iload 2 38), (38, am_ald live 0 39), (39, am_ast live 0 40), (40, am_iinc 2 3 1 43), (43, am_goto 15), (46, am_aload 0 47), (47, am_getR live 8 2 50), (50, am_iload 1 51), (51, am_const (.int 1) 52), (52, am_zst live 2 53), (53, am_const (.int 1) 54), (54, am_retI Ret)]
theorem koX8_image (live : am_E) (Ret : am_R) : ∀ q ∈ kX8_image live Ret, am_ok RX8 cX8_image 3 (some .int) 1 25 live Ret q.1 q.2 :=
  am_kz dzX8_image <|
  am_kd (fun d => ak_iload_n d rfl rfl) <|
  am_kd (fun d => ak_i2l d rfl) <|
  am_kd (fun d => ak_lconst d (by decide +kernel) rfl) <|
  am_kd (fun d => ak_lconst d (by decide +kernel) rfl) <|
  am_kd (fun d => ak_callS metX8_in ⟨rfl, hy_X8_in⟩ (am_w4 wd_986 wd_987 wd_67 wd_988) (by decide) d rfl) <|
  am_kd (fun d => ak_if_ne d (by decide +kernel) rfl) <|
  am_kd (fun d => ak_bipush d (by decide +kernel) rfl) <|
  am_kd (fun d => ak_retI d) <|
  am_kd (fun d => ak_iconst d (by decide +kernel) rfl) <|
  am_kd (fun d => ak_istore_n d rfl rfl) <|
  am_kd (fun d => ak_iload_n d rfl rfl) <|
  am_kd (fun d => ak_sipush d (by decide +kernel) rfl) <|
  am_kd (fun d => ak_icmp_ge d (by decide +kernel) rfl) <|
  am_kd (fun d => ak_aload_n d rfl rfl) <|
  am_kd (fun d => ak_getR (C := RX8) (T := TX8) (N := 27) rfl inX8w (by decide) rfl rfl rfl wd_896 d rfl) <|
  am_kd (fun d => ak_sipush d (by decide +kernel) rfl) <|
  am_kd (fun d => ak_iload_n d rfl rfl) <|
  am_kd (fun d => ak_imul d rfl) <|
  am_kd (fun d => ak_iload_n d rfl rfl) <|
  am_kd (fun d => ak_iadd d rfl) <|
  am_kd (fun d => ak_aload_n d rfl rfl) <|
  am_kd (fun d => ak_getR (C := RX8) (T := TX8) (N := 27) rfl inX8w (by decide) rfl rfl rfl wd_895 d rfl) <|
  am_kd (fun d => ak_iload_n d rfl rfl) <|
  am_kd (fun d => ak_iald (t := 0) (fun _ => rfl) rfl d rfl) <|
  am_kd (fun d => ak_iast (t := 0) (fun _ => rfl) rfl d rfl) <|
  am_kd (fun d => ak_iinc d (by decide +kernel) rfl) <|
  am_kd (fun d => ak_goto d (by decide +kernel)) <|
  am_kd (fun d => ak_aload_n d rfl rfl) <|
  am_kd (fun d => ak_getR (C := RX8) (T := TX8) (N := 27) rfl inX8w (by decide) rfl rfl rfl wd_897 d rfl) <|
  am_kd (fun d => ak_iload_n d rfl rfl) <|
  am_kd (fun d => ak_iconst d (by decide +kernel) rfl) <|
  am_kd (fun d => ak_zast (t := 2) (fun _ => rfl) rfl d rfl) <|
  am_kd (fun d => ak_iconst d (by decide +kernel) rfl) <|
  am_kd (fun d => ak_retI d) <| am_kdn
def r_image (M : am_M) (i : Int32) : Int32 × am_M := if 0 ≤ i ∧ i ≤ 1 then (1, (am_wI (am_cI M 202 (fun b => if 3760 * i.toNatClampNeg ≤ b ∧ b < 3760 * i.toNatClampNeg + 3760 then M.1 201 (b - 3760 * i.toNatClampNeg) else M.1 202 b)) 203 i.toNatClampNeg (vp_nar .boolean 1))) else ((-2 : Int32), M)
def TX8_image : am_T := fun live as M R => match as with
  | [.ref n, .int i] => am_mn live ∧ n = 200 ∧ r_I M ∧ R (some (.int (r_image M i).1)) (r_image M i).2
  | _ => False
def JX8_image : am_E → List Value → am_M → am_R → am_inv := fun live as M R pc => match as with
  | [.ref n, .int i] => (match pc with
    | 15 => some ([0, 1, 2], fun k L st M' => ∃ j : Int32, L = [(0, .ref 200), (1, .int i), (2, .int j)] ∧ st = [] ∧ k = ((3761 - j.toInt).toNat, 0) ∧ am_in i 2 ∧ (0 ≤ j.toInt ∧ j.toInt ≤ 3760) ∧ M' = (am_cI M 202 (fun b => if 3760 * i.toNatClampNeg ≤ b ∧ b < 3760 * i.toNatClampNeg + j.toNatClampNeg then M.1 201 (b - 3760 * i.toNatClampNeg) else M.1 202 b)) ∧ R (some (.int 1)) (am_wI (am_cI M 202 (fun b => if 3760 * i.toNatClampNeg ≤ b ∧ b < 3760 * i.toNatClampNeg + 3760 then M.1 201 (b - 3760 * i.toNatClampNeg) else M.1 202 b)) 203 i.toNatClampNeg (vp_nar .boolean 1)))
    | _ => none)
  | _ => none
set_option maxRecDepth 100000 in
set_option maxHeartbeats 4000000 in
theorem metX8_image : am_Met yX8_image cX8_image 3 (some .int) (1) (25) TX8_image := by
  refine am_met (own := RX8) (by decide +kernel) rfl kX8_image koX8_image 200 JX8_image ?_ ?_
  · intro live as M Ret h
    unfold TX8_image at h
    split at h
    · next n i =>
      refine ⟨Nat.le_of_ble_eq_true rfl, ?_⟩
      change am_wp _ _ _ _ [(0, Value.ref n), (1, Value.int i)] _ _
      obtain ⟨hmn, rfl, hR, h⟩ := h
      have hmn2 := hmn
      obtain ⟨i1, i2, rfl⟩ := hmn2
      have l201 : am_len 201 = 3760 := rfl
      have n0 := hR.n0
      have n1 := hR.n1
      have n030 : 0 ≤ (M.1 201 0).toInt ∧ (M.1 201 0).toInt ≤ 30 := ⟨n0.1, by omega⟩
      by_cases z0 : 0 ≤ i ∧ i ≤ 1
      rotate_left
      · skip
        have q0 : (if (0 : Int64) ≤ i.toInt64 ∧ i.toInt64 ≤ (1 : Int64) then (1 : Int32) else 0) = 0 := if_neg (fun r => z0 (by simp only [i_le, i_lt, j_le, Int32.toInt_toInt64, Int32.reduceToInt, Int64.reduceToInt] at r ⊢; omega))
        have e : r_image M i = ((-2 : Int32), M) := by unfold r_image; rw [if_neg z0]
        rw [e] at h
        repeat' (first | (with_reducible exact hmn) | (with_reducible exact h) | (with_reducible exact n030) | (with_reducible exact n1) | apply And.intro | exact rfl | (intro hx; with_reducible exact absurd q0 hx) | (intro hx; exact absurd hx (by decide)) | (intro hx; exact absurd (by decide) hx) | decide | intro hx | (refine Exists.intro _ (And.intro rfl ?_)))
        all_goals try first | (with_reducible change am_tI _ _) | (change Ret _ _) | (change Ret _ _ _) | (change Exists _)
        all_goals try dsimp only at *
        all_goals try (with_reducible exact absurd ‹(1000 : Int64) = 0› am_z1000)
        all_goals first | (with_reducible exact h) | (with_reducible exact n0.1) | omega | (with_reducible exact hi.1) | (rw [l203]; exact hi.2) | exact h | exact n0.1 | exact hi.1 | exact ⟨_, 0, rfl, rfl, rfl, hi, ⟨by decide, by decide⟩, (am_Mext (fun a b => by rw [am_cI_1]; exact (ite_eq_right_iff.mpr (fun e => by subst e; exact if_neg (fun q => by have e0 : Int32.toNatClampNeg 0 = 0 := rfl; rw [e0] at q; omega))).symm) rfl), h⟩ | (show _ < _; simp only [l201]; decide) | skip
      · skip
        have q0 : ¬ ((if (0 : Int64) ≤ i.toInt64 ∧ i.toInt64 ≤ (1 : Int64) then (1 : Int32) else 0) = 0) := by rw [if_pos (by have q := z0; simp only [i_le, i_lt, j_le, Int32.toInt_toInt64, Int32.reduceToInt, Int64.reduceToInt] at q ⊢; omega)]; decide
        have hi : am_in i 2 := ⟨by have q := z0.1; simp only [i_le, Int32.reduceToInt] at q; omega, by have q := z0.2; simp only [i_le, Int32.reduceToInt] at q; omega⟩
        have e : r_image M i = (1, (am_wI (am_cI M 202 (fun b => if 3760 * i.toNatClampNeg ≤ b ∧ b < 3760 * i.toNatClampNeg + 3760 then M.1 201 (b - 3760 * i.toNatClampNeg) else M.1 202 b)) 203 i.toNatClampNeg (vp_nar .boolean 1))) := by unfold r_image; rw [if_pos z0]
        rw [e] at h
        repeat' (first | (with_reducible exact hmn) | (with_reducible exact n030) | (with_reducible exact n1) | apply And.intro | exact rfl | (intro hx; with_reducible exact absurd hx q0) | (intro hx; exact absurd hx (by decide)) | (intro hx; exact absurd (by decide) hx) | decide | intro hx | (refine Exists.intro _ (And.intro rfl ?_)))
        all_goals try first | (with_reducible change am_tI _ _) | (change Ret _ _) | (change Ret _ _ _) | (change Exists _)
        all_goals try dsimp only at *
        all_goals try (with_reducible exact absurd ‹(1000 : Int64) = 0› am_z1000)
        all_goals first | (with_reducible exact h) | (with_reducible exact n0.1) | omega | (with_reducible exact hi.1) | (rw [l203]; exact hi.2) | exact h | exact n0.1 | exact hi.1 | exact ⟨_, 0, rfl, rfl, rfl, hi, ⟨by decide, by decide⟩, (am_Mext (fun a b => by rw [am_cI_1]; exact (ite_eq_right_iff.mpr (fun e => by subst e; exact if_neg (fun q => by have e0 : Int32.toNatClampNeg 0 = 0 := rfl; rw [e0] at q; omega))).symm) rfl), h⟩ | (show _ < _; simp only [l201]; decide) | skip
    · exact h.elim
  · intro live as M0 Ret h k pc I hI L st M hi
    unfold TX8_image at h
    split at h
    · next n i =>
      obtain ⟨hmn, rfl, hR, h⟩ := h
      have hmn2 := hmn
      obtain ⟨i1, i2, rfl⟩ := hmn2
      have l201 : am_len 201 = 3760 := rfl
      have l202 : am_len 202 = 7520 := rfl
      have l203 : am_len 203 = 2 := rfl
      change (match pc with | 15 => _ | _ => none) = _ at hI
      split at hI
      · cases hI
        obtain ⟨j, rfl, rfl, rfl, hi2, ⟨g1, g2⟩, rfl, h⟩ := hi
        have p1 := hi2.1
        have p2 := hi2.2
        by_cases hz : (3760 : Int32) ≤ j
        · have hz2 := hz
          simp only [i_le, Int32.reduceToInt] at hz2
          have ej : j.toNatClampNeg = 3760 := by have := i_clamp (x := j) g1; omega
          rw [ej]
          repeat' (first | apply And.intro | exact rfl | (intro hx; with_reducible exact absurd hz hx) | intro hx | (refine Exists.intro _ (And.intro rfl ?_)))
          all_goals try first | (with_reducible change am_tI _ _) | (change Ret _ _) | (change Ret _ _ _) | (change Exists _)
          all_goals try dsimp only at *
          all_goals try (with_reducible exact absurd ‹(1000 : Int64) = 0› am_z1000)
          all_goals first
            | (with_reducible exact h)
            | omega
            | (rw [l203]; omega)
            | exact h
        · have hz2 := hz
          simp only [i_le, Int32.reduceToInt] at hz2
          have hj := i_inc (x := j) (by omega) (by omega)
          have cj := i_clamp (x := j) (by omega)
          have cj1 := i_clamp (x := j + 1) (by omega)
          have ci := i_clamp (x := i) (by omega)
          have em := r_mul (c := 3760) (x := i) ⟨by decide, by decide⟩ ⟨by omega, by omega⟩
          simp only [Int32.reduceToInt] at em
          have ea := r_off (c := 3760 * i) (x := j) ⟨by omega, by omega⟩ ⟨by omega, by omega⟩
          have ca := i_clamp (x := 3760 * i + j) (by omega)
          repeat' (first | apply And.intro | exact rfl | (intro hx; with_reducible exact absurd hx hz) | intro hx | (refine Exists.intro _ (And.intro rfl ?_)))
          all_goals try first | (with_reducible change am_tI _ _) | (change Ret _ _) | (change Ret _ _ _) | (change Exists _)
          all_goals try dsimp only at *
          all_goals try (with_reducible exact absurd ‹(1000 : Int64) = 0› am_z1000)
          all_goals first
            | omega
            | (rw [l201]; omega)
            | (rw [l202]; omega)
            | skip
          · refine ⟨_, am_lt_l (by omega), _, rfl, rfl, rfl, hi2, ⟨by omega, by omega⟩, ?_, h⟩
            refine am_Mext (fun a b => ?_) rfl
            simp only [am_wI_1, am_cI_1, show ¬ ((201 : Nat) = 202) by decide, if_false]
            by_cases e : a = 202
            · subst e
              simp only [true_and, if_true]
              by_cases e2 : b = (3760 * i + j).toNatClampNeg
              · rw [if_pos e2, if_pos ⟨by omega, by omega⟩]
                exact congrArg (M0.1 201) (by omega)
              · rw [if_neg e2]
                by_cases e3 : 3760 * i.toNatClampNeg ≤ b ∧ b < 3760 * i.toNatClampNeg + j.toNatClampNeg
                · rw [if_pos e3, if_pos ⟨e3.1, by omega⟩]
                · rw [if_neg e3, if_neg (fun q => by omega)]
            · simp only [e, false_and, if_false]
      · cases hI
    · exact h.elim
def rwX8_from : List dz_r := [(0, .iload_n 1, 1), (1, .i2l, 1), (2, .lconst 0, 1), (3, .lconst 1, 1), (4, .invokestatic 66, 3), (7, .ifCond .ne 6, 3), (10, .bipush (-2), 2), (12, .ireturn, 1), (13, .aload_n 0, 1), (14, .getfield 16, 3), (17, .iload_n 1, 1), (18, .baload, 1), (19, .ifCond .ne 6, 3), (22, .bipush (-3), 2), (24, .ireturn, 1), (25, .iconst 0, 1), (26, .istore_n 2, 1), (27, .iload_n 2, 1), (28, .sipush 3760, 3), (31, .if_icmp .ge 27, 3), (34, .aload_n 0, 1), (35, .getfield 7, 3), (38, .iload_n 2, 1), (39, .aload_n 0, 1), (40, .getfield 13, 3), (43, .sipush 3760, 3), (46, .iload_n 1, 1), (47, .imul, 1), (48, .iload_n 2, 1), (49, .iadd, 1), (50, .iaload, 1), (51, .iastore, 1), (52, .iinc 2 1, 3), (55, .goto (-28), 3), (58, .iconst 1, 1), (59, .ireturn, 1)]
theorem dzX8_from : dz cX8_from rwX8_from := dz_all 0 (by decide +kernel)
def kX8_from (live : am_E) (Ret : am_R) : am_code := [(0, am_iload 1 1), (1, am_i2l 2), (2, am_const (.long 0) 3), (3, am_const (.long 1) 4), (4, am_callS live 3 TX8_in 7), (7, am_if1 (fun x => x = 0) 10 13), (10, am_const (.int (-2)) 12), (12, am_retI Ret), (13, am_aload 0 14), (14, am_getR live 8 2 17), (17, am_iload 1 18), (18, am_ald live 2 19), (19, am_if1 (fun x => x = 0) 22 25), (22, am_const (.int (-3)) 24), (24, am_retI Ret), (25, am_const (.int 0) 26), (26, am_istore 2 3 27), (27, am_iload 2 28), (28, am_const (.int 3760) 31), (31, am_if2 (fun x y => y ≤ x) 58 34), (34, am_aload 0 35), (35, am_getR live 8 0 38), (38, am_iload 2 39), (39, am_aload 0 40), (40, am_getR live 8 1 43), (43, am_const (.int 3760) 46), (46, am_iload 1 47), (47, am_i2 (fun x y => x * y) 48), (48, am_iload 2 49), (49, am_i2 (fun x y => x + y) 50), (50, am_ald live 0 51), (51, am_ast live 0 52), (52, am_iinc 2 3 1 55), (55, am_goto 27), (58, am_const (.int 1) 59), (59, am_retI Ret)]
theorem koX8_from (live : am_E) (Ret : am_R) : ∀ q ∈ kX8_from live Ret, am_ok RX8 cX8_from 3 (some .int) 1 25 live Ret q.1 q.2 :=
  am_kz dzX8_from <|
  am_kd (fun d => ak_iload_n d rfl rfl) <|
  am_kd (fun d => ak_i2l d rfl) <|
  am_kd (fun d => ak_lconst d (by decide +kernel) rfl) <|
  am_kd (fun d => ak_lconst d (by decide +kernel) rfl) <|
  am_kd (fun d => ak_callS metX8_in ⟨rfl, hy_X8_in⟩ (am_w4 wd_986 wd_987 wd_67 wd_988) (by decide) d rfl) <|
  am_kd (fun d => ak_if_ne d (by decide +kernel) rfl) <|
  am_kd (fun d => ak_bipush d (by decide +kernel) rfl) <|
  am_kd (fun d => ak_retI d) <|
  am_kd (fun d => ak_aload_n d rfl rfl) <|
  am_kd (fun d => ak_getR (C := RX8) (T := TX8) (N := 27) rfl inX8w (by decide) rfl rfl rfl wd_897 d rfl) <|
  am_kd (fun d => ak_iload_n d rfl rfl) <|
  am_kd (fun d => ak_zald (t := 2) (fun _ => rfl) rfl d rfl) <|
  am_kd (fun d => ak_if_ne d (by decide +kernel) rfl) <|
  am_kd (fun d => ak_bipush d (by decide +kernel) rfl) <|
  am_kd (fun d => ak_retI d) <|
  am_kd (fun d => ak_iconst d (by decide +kernel) rfl) <|
  am_kd (fun d => ak_istore_n d rfl rfl) <|
  am_kd (fun d => ak_iload_n d rfl rfl) <|
  am_kd (fun d => ak_sipush d (by decide +kernel) rfl) <|
  am_kd (fun d => ak_icmp_ge d (by decide +kernel) rfl) <|
  am_kd (fun d => ak_aload_n d rfl rfl) <|
  am_kd (fun d => ak_getR (C := RX8) (T := TX8) (N := 27) rfl inX8w (by decide) rfl rfl rfl wd_895 d rfl) <|
  am_kd (fun d => ak_iload_n d rfl rfl) <|
  am_kd (fun d => ak_aload_n d rfl rfl) <|
  am_kd (fun d => ak_getR (C := RX8) (T := TX8) (N := 27) rfl inX8w (by decide) rfl rfl rfl wd_896 d rfl) <|
  am_kd (fun d => ak_sipush d (by decide +kernel) rfl) <|
  am_kd (fun d => ak_iload_n d rfl rfl) <|
  am_kd (fun d => ak_imul d rfl) <|
  am_kd (fun d => ak_iload_n d rfl rfl) <|
  am_kd (fun d => ak_iadd d rfl) <|
  am_kd (fun d => ak_iald (t := 0) (fun _ => rfl) rfl d rfl) <|
  am_kd (fun d => ak_iast (t := 0) (fun _ => rfl) rfl d rfl) <|
  am_kd (fun d => ak_iinc d (by decide +kernel) rfl) <|
  am_kd (fun d => ak_goto d (by decide +kernel)) <|
  am_kd (fun d => ak_iconst d (by decide +kernel) rfl) <|
  am_kd (fun d => ak_retI d) <| am_kdn
def r_from (M : am_M) (i : Int32) : Int32 × am_M := if 0 ≤ i ∧ i ≤ 1 then (if M.1 203 i.toNatClampNeg = 0 then ((-3 : Int32), M) else (1, (am_cI M 201 (fun b => if b < 3760 then M.1 202 (3760 * i.toNatClampNeg + b) else M.1 201 b)))) else ((-2 : Int32), M)
def TX8_from : am_T := fun live as M R => match as with
  | [.ref n, .int i] => am_mn live ∧ n = 200 ∧ r_I M ∧ R (some (.int (r_from M i).1)) (r_from M i).2
  | _ => False
def JX8_from : am_E → List Value → am_M → am_R → am_inv := fun live as M R pc => match as with
  | [.ref n, .int i] => (match pc with
    | 27 => some ([0, 1, 2], fun k L st M' => ∃ j : Int32, L = [(0, .ref 200), (1, .int i), (2, .int j)] ∧ st = [] ∧ k = ((3761 - j.toInt).toNat, 0) ∧ am_in i 2 ∧ (0 ≤ j.toInt ∧ j.toInt ≤ 3760) ∧ M' = (am_cI M 201 (fun b => if b < j.toNatClampNeg then M.1 202 (3760 * i.toNatClampNeg + b) else M.1 201 b)) ∧ R (some (.int 1)) (am_cI M 201 (fun b => if b < 3760 then M.1 202 (3760 * i.toNatClampNeg + b) else M.1 201 b)))
    | _ => none)
  | _ => none
set_option maxRecDepth 100000 in
set_option maxHeartbeats 4000000 in
theorem metX8_from : am_Met yX8_from cX8_from 3 (some .int) (1) (25) TX8_from := by
  refine am_met (own := RX8) (by decide +kernel) rfl kX8_from koX8_from 200 JX8_from ?_ ?_
  · intro live as M Ret h
    unfold TX8_from at h
    split at h
    · next n i =>
      refine ⟨Nat.le_of_ble_eq_true rfl, ?_⟩
      change am_wp _ _ _ _ [(0, Value.ref n), (1, Value.int i)] _ _
      obtain ⟨hmn, rfl, hR, h⟩ := h
      have hmn2 := hmn
      obtain ⟨i1, i2, rfl⟩ := hmn2
      have l201 : am_len 201 = 3760 := rfl
      have n0 := hR.n0
      have n1 := hR.n1
      have n030 : 0 ≤ (M.1 201 0).toInt ∧ (M.1 201 0).toInt ≤ 30 := ⟨n0.1, by omega⟩
      by_cases z0 : 0 ≤ i ∧ i ≤ 1
      rotate_left
      · skip
        have q0 : (if (0 : Int64) ≤ i.toInt64 ∧ i.toInt64 ≤ (1 : Int64) then (1 : Int32) else 0) = 0 := if_neg (fun r => z0 (by simp only [i_le, i_lt, j_le, Int32.toInt_toInt64, Int32.reduceToInt, Int64.reduceToInt] at r ⊢; omega))
        have e : r_from M i = ((-2 : Int32), M) := by unfold r_from; rw [if_neg z0]
        rw [e] at h
        repeat' (first | (with_reducible exact hmn) | (with_reducible exact h) | (with_reducible exact n030) | (with_reducible exact n1) | apply And.intro | exact rfl | (intro hx; with_reducible exact absurd q0 hx) | (intro hx; exact absurd hx (by decide)) | (intro hx; exact absurd (by decide) hx) | decide | intro hx | (refine Exists.intro _ (And.intro rfl ?_)))
        all_goals try first | (with_reducible change am_tI _ _) | (change Ret _ _) | (change Ret _ _ _) | (change Exists _)
        all_goals try dsimp only at *
        all_goals try (with_reducible exact absurd ‹(1000 : Int64) = 0› am_z1000)
        all_goals first | (with_reducible exact h) | (with_reducible exact n0.1) | omega | (with_reducible exact hi.1) | (rw [l203]; exact hi.2) | exact h | exact n0.1 | exact hi.1 | exact ⟨_, 0, rfl, rfl, rfl, hi, ⟨by decide, by decide⟩, (am_Mext (fun a b => by rw [am_cI_1]; exact (ite_eq_right_iff.mpr (fun e => by subst e; exact if_neg (fun q => by have e0 : Int32.toNatClampNeg 0 = 0 := rfl; rw [e0] at q; omega))).symm) rfl), h⟩ | (show _ < _; simp only [l201]; decide) | skip
      · skip
        have q0 : ¬ ((if (0 : Int64) ≤ i.toInt64 ∧ i.toInt64 ≤ (1 : Int64) then (1 : Int32) else 0) = 0) := by rw [if_pos (by have q := z0; simp only [i_le, i_lt, j_le, Int32.toInt_toInt64, Int32.reduceToInt, Int64.reduceToInt] at q ⊢; omega)]; decide
        have hi : am_in i 2 := ⟨by have q := z0.1; simp only [i_le, Int32.reduceToInt] at q; omega, by have q := z0.2; simp only [i_le, Int32.reduceToInt] at q; omega⟩
        have l203 : am_len 203 = 2 := rfl
        by_cases z1 : M.1 203 i.toNatClampNeg = 0
        · skip
          have e : r_from M i = ((-3 : Int32), M) := by unfold r_from; rw [if_pos z0, if_pos z1]
          rw [e] at h
          repeat' (first | (with_reducible exact hmn) | (with_reducible exact h) | (with_reducible exact n030) | (with_reducible exact n1) | apply And.intro | exact rfl | (intro hx; with_reducible exact absurd hx q0) | (intro hx; with_reducible exact absurd z1 hx) | (intro hx; exact absurd hx (by decide)) | (intro hx; exact absurd (by decide) hx) | decide | intro hx | (refine Exists.intro _ (And.intro rfl ?_)))
          all_goals try first | (with_reducible change am_tI _ _) | (change Ret _ _) | (change Ret _ _ _) | (change Exists _)
          all_goals try dsimp only at *
          all_goals try (with_reducible exact absurd ‹(1000 : Int64) = 0› am_z1000)
          all_goals first | (with_reducible exact h) | (with_reducible exact n0.1) | omega | (with_reducible exact hi.1) | (rw [l203]; exact hi.2) | exact h | exact n0.1 | exact hi.1 | exact ⟨_, 0, rfl, rfl, rfl, hi, ⟨by decide, by decide⟩, (am_Mext (fun a b => by rw [am_cI_1]; exact (ite_eq_right_iff.mpr (fun e => by subst e; exact if_neg (fun q => by have e0 : Int32.toNatClampNeg 0 = 0 := rfl; rw [e0] at q; omega))).symm) rfl), h⟩ | (show _ < _; simp only [l201]; decide) | skip
        · skip
          have e : r_from M i = (1, (am_cI M 201 (fun b => if b < 3760 then M.1 202 (3760 * i.toNatClampNeg + b) else M.1 201 b))) := by unfold r_from; rw [if_pos z0, if_neg z1]
          rw [e] at h
          repeat' (first | (with_reducible exact hmn) | (with_reducible exact n030) | (with_reducible exact n1) | apply And.intro | exact rfl | (intro hx; with_reducible exact absurd hx q0) | (intro hx; with_reducible exact absurd hx z1) | (intro hx; exact absurd hx (by decide)) | (intro hx; exact absurd (by decide) hx) | decide | intro hx | (refine Exists.intro _ (And.intro rfl ?_)))
          all_goals try first | (with_reducible change am_tI _ _) | (change Ret _ _) | (change Ret _ _ _) | (change Exists _)
          all_goals try dsimp only at *
          all_goals try (with_reducible exact absurd ‹(1000 : Int64) = 0› am_z1000)
          all_goals first | (with_reducible exact h) | (with_reducible exact n0.1) | omega | (with_reducible exact hi.1) | (rw [l203]; exact hi.2) | exact h | exact n0.1 | exact hi.1 | exact ⟨_, 0, rfl, rfl, rfl, hi, ⟨by decide, by decide⟩, (am_Mext (fun a b => by rw [am_cI_1]; exact (ite_eq_right_iff.mpr (fun e => by subst e; exact if_neg (fun q => by have e0 : Int32.toNatClampNeg 0 = 0 := rfl; rw [e0] at q; omega))).symm) rfl), h⟩ | (show _ < _; simp only [l201]; decide) | skip
    · exact h.elim
  · intro live as M0 Ret h k pc I hI L st M hi
    unfold TX8_from at h
    split at h
    · next n i =>
      obtain ⟨hmn, rfl, hR, h⟩ := h
      have hmn2 := hmn
      obtain ⟨i1, i2, rfl⟩ := hmn2
      have l201 : am_len 201 = 3760 := rfl
      have l202 : am_len 202 = 7520 := rfl
      have l203 : am_len 203 = 2 := rfl
      change (match pc with | 27 => _ | _ => none) = _ at hI
      split at hI
      · cases hI
        obtain ⟨j, rfl, rfl, rfl, hi2, ⟨g1, g2⟩, rfl, h⟩ := hi
        have p1 := hi2.1
        have p2 := hi2.2
        by_cases hz : (3760 : Int32) ≤ j
        · have hz2 := hz
          simp only [i_le, Int32.reduceToInt] at hz2
          have ej : j.toNatClampNeg = 3760 := by have := i_clamp (x := j) g1; omega
          rw [ej]
          repeat' (first | apply And.intro | exact rfl | (intro hx; with_reducible exact absurd hz hx) | intro hx | (refine Exists.intro _ (And.intro rfl ?_)))
          all_goals try first | (with_reducible change am_tI _ _) | (change Ret _ _) | (change Ret _ _ _) | (change Exists _)
          all_goals try dsimp only at *
          all_goals try (with_reducible exact absurd ‹(1000 : Int64) = 0› am_z1000)
          all_goals first
            | (with_reducible exact h)
            | omega
            | (rw [l203]; omega)
            | exact h
        · have hz2 := hz
          simp only [i_le, Int32.reduceToInt] at hz2
          have hj := i_inc (x := j) (by omega) (by omega)
          have cj := i_clamp (x := j) (by omega)
          have cj1 := i_clamp (x := j + 1) (by omega)
          have ci := i_clamp (x := i) (by omega)
          have em := r_mul (c := 3760) (x := i) ⟨by decide, by decide⟩ ⟨by omega, by omega⟩
          simp only [Int32.reduceToInt] at em
          have ea := r_off (c := 3760 * i) (x := j) ⟨by omega, by omega⟩ ⟨by omega, by omega⟩
          have ca := i_clamp (x := 3760 * i + j) (by omega)
          repeat' (first | apply And.intro | exact rfl | (intro hx; with_reducible exact absurd hx hz) | intro hx | (refine Exists.intro _ (And.intro rfl ?_)))
          all_goals try first | (with_reducible change am_tI _ _) | (change Ret _ _) | (change Ret _ _ _) | (change Exists _)
          all_goals try dsimp only at *
          all_goals try (with_reducible exact absurd ‹(1000 : Int64) = 0› am_z1000)
          all_goals first
            | omega
            | (rw [l201]; omega)
            | (rw [l202]; omega)
            | skip
          · refine ⟨_, am_lt_l (by omega), _, rfl, rfl, rfl, hi2, ⟨by omega, by omega⟩, ?_, h⟩
            refine am_Mext (fun a b => ?_) rfl
            simp only [am_wI_1, am_cI_1, show ¬ ((202 : Nat) = 201) by decide, if_false]
            by_cases e : a = 201
            · subst e
              simp only [true_and, if_true]
              by_cases e2 : b = j.toNatClampNeg
              · rw [if_pos e2, if_pos (by omega)]
                exact congrArg (M0.1 202) (by omega)
              · rw [if_neg e2]
                by_cases e3 : b < j.toNatClampNeg
                · rw [if_pos e3, if_pos (by omega)]
                · rw [if_neg e3, if_neg (fun q => by omega)]
            · simp only [e, false_and, if_false]
      · cases hI
    · exact h.elim
