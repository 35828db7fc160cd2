/-! general: the reference's calls that tell: each answers r_NAME, and leaves what it says -/
theorem hy_X8_isYear : yX8_isYear.cls ≠ "java/lang/invoke/MethodHandle" ∧ yX8_isYear.cls ≠ "java/lang/invoke/VarHandle" ∧ (parseMethodDescriptor yX8_isYear.desc).map (fun d => d.parameters.length) = some 1 := ⟨by decide +kernel, by decide +kernel, by decide +kernel⟩
set_option maxRecDepth 100000 in
theorem wd_982 : Cond.methodLink "LearnLoansModel" 72 yX8_isYear ∈ am_ws := am_wt4 (List.mem_of_getElem? (i := 205) (by rfl)) (by decide +kernel)
set_option maxRecDepth 100000 in
theorem wd_983 : Cond.static yX8_isYear ∈ am_ws := am_wt4 (List.mem_of_getElem? (i := 206) (by rfl)) (by decide +kernel)
set_option maxRecDepth 100000 in
theorem wd_984 : Cond.code yX8_isYear cX8_isYear 1 (some .boolean) ∈ am_ws := am_wt4 (List.mem_of_getElem? (i := 207) (by rfl)) (by decide +kernel)
def rwX8_person : List dz_r := [(0, .iload_n 1, 1), (1, .invokestatic 72, 3), (4, .ifCond .ne 6, 3), (7, .bipush (-2), 2), (9, .ireturn, 1), (10, .aload_n 0, 1), (11, .getfield 7, 3), (14, .iconst 0, 1), (15, .iaload, 1), (16, .bipush 12, 2), (18, .if_icmp .ne 6, 3), (21, .bipush (-4), 2), (23, .ireturn, 1), (24, .aload_n 0, 1), (25, .getfield 7, 3), (28, .bipush 10, 2), (30, .aload_n 0, 1), (31, .getfield 7, 3), (34, .iconst 0, 1), (35, .iaload, 1), (36, .iadd, 1), (37, .iload_n 1, 1), (38, .iastore, 1), (39, .aload_n 0, 1), (40, .getfield 7, 3), (43, .iconst 0, 1), (44, .dup2, 1), (45, .iaload, 1), (46, .iconst 1, 1), (47, .iadd, 1), (48, .iastore, 1), (49, .aload_n 0, 1), (50, .getfield 7, 3), (53, .iconst 0, 1), (54, .iaload, 1), (55, .iconst 1, 1), (56, .isub, 1), (57, .ireturn, 1)]
theorem dzX8_person : dz cX8_person rwX8_person := dz_all 0 (by decide +kernel)
def kX8_person (live : am_E) (Ret : am_R) : am_code := [(0, am_iload 1 1), (1, am_callS live 1 TX8_isYear 4), (4, am_if1 (fun x => x = 0) 7 10), (7, am_const (.int (-2)) 9), (9, am_retI Ret), (10, am_aload 0 11), (11, am_getR live 8 0 14), (14, am_const (.int 0) 15), (15, am_ald live 0 16), (16, am_const (.int 12) 18), (18, am_if2 (fun x y => x = y) 21 24), (21, am_const (.int (-4)) 23), (23, am_retI Ret), (24, am_aload 0 25), (25, am_getR live 8 0 28), (28, am_const (.int 10) 30), (30, am_aload 0 31), (31, am_getR live 8 0 34), (34, am_const (.int 0) 35), (35, am_ald live 0 36), (36, am_i2 (fun x y => x + y) 37), (37, am_iload 1 38), (38, am_ast live 0 39), (39, am_aload 0 40), (40, am_getR live 8 0 43), (43, am_const (.int 0) 44), (44, am_dup2 45), (45, am_ald live 0 46), (46, am_const (.int 1) 47), (47, am_i2 (fun x y => x + y) 48), (48, am_ast live 0 49), (49, am_aload 0 50), (50, am_getR live 8 0 53), (53, am_const (.int 0) 54), (54, am_ald live 0 55), (55, am_const (.int 1) 56), (56, am_i2 (fun x y => x - y) 57), (57, am_retI Ret)]
theorem koX8_person (live : am_E) (Ret : am_R) : ∀ q ∈ kX8_person live Ret, am_ok RX8 cX8_person 2 (some .int) 2 45 live Ret q.1 q.2 :=
  am_kz dzX8_person <|
  am_kd (fun d => ak_iload_n d rfl rfl) <|
  am_kd (fun d => ak_callS metX8_isYear ⟨rfl, hy_X8_isYear⟩ (am_w4 wd_982 wd_983 wd_67 wd_984) (by decide) d rfl) <|
  am_kd (fun d => ak_if_ne d (by decide +kernel) rfl) <|
  am_kd (fun d => ak_bipush d (by decide +kernel) rfl) <|
  am_kd (fun d => ak_retI d) <|
  am_kd (fun d => ak_aload_n d rfl rfl) <|
  am_kd (fun d => ak_getR (C := RX8) (T := TX8) (N := 27) rfl inX8w (by decide) rfl rfl rfl wd_895 d rfl) <|
  am_kd (fun d => ak_iconst d (by decide +kernel) rfl) <|
  am_kd (fun d => ak_iald (t := 0) (fun _ => rfl) rfl d rfl) <|
  am_kd (fun d => ak_bipush d (by decide +kernel) rfl) <|
  am_kd (fun d => ak_icmp_ne d (by decide +kernel) rfl) <|
  am_kd (fun d => ak_bipush d (by decide +kernel) rfl) <|
  am_kd (fun d => ak_retI d) <|
  am_kd (fun d => ak_aload_n d rfl rfl) <|
  am_kd (fun d => ak_getR (C := RX8) (T := TX8) (N := 27) rfl inX8w (by decide) rfl rfl rfl wd_895 d rfl) <|
  am_kd (fun d => ak_bipush d (by decide +kernel) rfl) <|
  am_kd (fun d => ak_aload_n d rfl rfl) <|
  am_kd (fun d => ak_getR (C := RX8) (T := TX8) (N := 27) rfl inX8w (by decide) rfl rfl rfl wd_895 d rfl) <|
  am_kd (fun d => ak_iconst d (by decide +kernel) rfl) <|
  am_kd (fun d => ak_iald (t := 0) (fun _ => rfl) rfl d rfl) <|
  am_kd (fun d => ak_iadd d rfl) <|
  am_kd (fun d => ak_iload_n d rfl rfl) <|
  am_kd (fun d => ak_iast (t := 0) (fun _ => rfl) rfl d rfl) <|
  am_kd (fun d => ak_aload_n d rfl rfl) <|
  am_kd (fun d => ak_getR (C := RX8) (T := TX8) (N := 27) rfl inX8w (by decide) rfl rfl rfl wd_895 d rfl) <|
  am_kd (fun d => ak_iconst d (by decide +kernel) rfl) <|
  am_kd (fun d => ak_dup2 d rfl) <|
  am_kd (fun d => ak_iald (t := 0) (fun _ => rfl) rfl d rfl) <|
  am_kd (fun d => ak_iconst d (by decide +kernel) rfl) <|
  am_kd (fun d => ak_iadd d rfl) <|
  am_kd (fun d => ak_iast (t := 0) (fun _ => rfl) rfl d rfl) <|
  am_kd (fun d => ak_aload_n d rfl rfl) <|
  am_kd (fun d => ak_getR (C := RX8) (T := TX8) (N := 27) rfl inX8w (by decide) rfl rfl rfl wd_895 d rfl) <|
  am_kd (fun d => ak_iconst d (by decide +kernel) rfl) <|
  am_kd (fun d => ak_iald (t := 0) (fun _ => rfl) rfl d rfl) <|
  am_kd (fun d => ak_iconst d (by decide +kernel) rfl) <|
  am_kd (fun d => ak_isub d rfl) <|
  am_kd (fun d => ak_retI d) <| am_kdn
def r_person (M : am_M) (b : Int32) : Int32 × am_M := if 0 ≤ b ∧ b < 40 then (if M.1 201 (Int32.toNatClampNeg 0) = 12 then ((-4 : Int32), M) else ((fun M1 : am_M => (fun M2 : am_M => (M2.1 201 (Int32.toNatClampNeg 0) - 1, M2)) (am_wI M1 201 (Int32.toNatClampNeg 0) (M1.1 201 (Int32.toNatClampNeg 0) + 1))) (am_wI M 201 (10 + M.1 201 (Int32.toNatClampNeg 0)).toNatClampNeg b))) else ((-2 : Int32), M)
def TX8_person : am_T := fun live as M R => match as with
  | [.ref n, .int b] => am_mn live ∧ n = 200 ∧ r_I M ∧ R (some (.int (r_person M b).1)) (r_person M b).2
  | _ => False
set_option maxRecDepth 100000 in
set_option maxHeartbeats 4000000 in
theorem metX8_person : am_Met yX8_person cX8_person 2 (some .int) (2) (45) TX8_person := by
  refine am_met (own := RX8) (by decide +kernel) rfl kX8_person koX8_person 200 (fun _ _ _ _ _ => none) (fun live as M Ret h => ?_) (fun _ _ _ _ _ _ _ _ hI => by cases hI)
  unfold TX8_person at h
  split at h
  · next n b =>
    refine ⟨Nat.le_of_ble_eq_true rfl, ?_⟩
    change am_wp _ _ _ _ [(0, Value.ref n), (1, Value.int b)] _ _
    obtain ⟨hmn, rfl, hR, h⟩ := h
    have hmn2 := hmn
    obtain ⟨i1, i2, rfl⟩ := hmn2
    have l201 : am_len 201 = 3760 := rfl
    have n0 := hR.n0
    have n1 := hR.n1
    have n030 : 0 ≤ (M.1 201 0).toInt ∧ (M.1 201 0).toInt ≤ 30 := ⟨n0.1, by omega⟩
    by_cases z0 : 0 ≤ b ∧ b < 40
    rotate_left
    · skip
      have q0 : (if 0 ≤ b ∧ b < 40 then (1 : Int32) else 0) = 0 := if_neg z0
      have e : r_person M b = ((-2 : Int32), M) := by unfold r_person; rw [if_neg z0]
      rw [e] at h
      repeat' (first | (with_reducible exact hmn) | (with_reducible exact h) | (with_reducible exact n030) | (with_reducible exact n1) | apply And.intro | exact rfl | (intro hx; with_reducible exact absurd q0 hx) | (intro hx; exact absurd hx (by decide)) | (intro hx; exact absurd (by decide) hx) | decide | intro hx | (refine Exists.intro _ (And.intro rfl ?_)))
      all_goals try first | (with_reducible change am_tI _ _) | (change Ret _ _) | (change Ret _ _ _) | (change Exists _)
      all_goals try dsimp only at *
      all_goals try (with_reducible exact absurd ‹(1000 : Int64) = 0› am_z1000)
      all_goals first | (with_reducible exact h) | (with_reducible exact n0.1) | omega | (simp only [e1, l201, Int32.reduceToInt]; omega) | (show _ < _; simp only [l201]; decide) | exact h | exact n0.1 | skip
    · skip
      have q0 : ¬ ((if 0 ≤ b ∧ b < 40 then (1 : Int32) else 0) = 0) := by rw [if_pos z0]; decide
      by_cases z1 : M.1 201 (Int32.toNatClampNeg 0) = 12
      · skip
        have e : r_person M b = ((-4 : Int32), M) := by unfold r_person; rw [if_pos z0, if_pos z1]
        rw [e] at h
        repeat' (first | (with_reducible exact hmn) | (with_reducible exact h) | (with_reducible exact n030) | (with_reducible exact n1) | apply And.intro | exact rfl | (intro hx; with_reducible exact absurd hx q0) | (intro hx; with_reducible exact absurd z1 hx) | (intro hx; exact absurd hx (by decide)) | (intro hx; exact absurd (by decide) hx) | decide | intro hx | (refine Exists.intro _ (And.intro rfl ?_)))
        all_goals try first | (with_reducible change am_tI _ _) | (change Ret _ _) | (change Ret _ _ _) | (change Exists _)
        all_goals try dsimp only at *
        all_goals try (with_reducible exact absurd ‹(1000 : Int64) = 0› am_z1000)
        all_goals first | (with_reducible exact h) | (with_reducible exact n0.1) | omega | (simp only [e1, l201, Int32.reduceToInt]; omega) | (show _ < _; simp only [l201]; decide) | exact h | exact n0.1 | skip
      · skip
        have nc0 : 0 ≤ (M.1 201 (Int32.toNatClampNeg 0)).toInt ∧ (M.1 201 (Int32.toNatClampNeg 0)).toInt ≤ 12 := hR.n0
        have zb : (M.1 201 (Int32.toNatClampNeg 0)).toInt < 12 := by have q := z1; simp only [i_eq, Int32.reduceToInt] at q; omega
        have e1 := r_off (c := 10) (x := M.1 201 (Int32.toNatClampNeg 0)) ⟨by decide, by decide⟩ ⟨by omega, by omega⟩
        simp only [Int32.reduceToInt] at e1
        have e : r_person M b = ((fun M1 : am_M => (fun M2 : am_M => (M2.1 201 (Int32.toNatClampNeg 0) - 1, M2)) (am_wI M1 201 (Int32.toNatClampNeg 0) (M1.1 201 (Int32.toNatClampNeg 0) + 1))) (am_wI M 201 (10 + M.1 201 (Int32.toNatClampNeg 0)).toNatClampNeg b)) := by unfold r_person; rw [if_pos z0, if_neg z1]
        rw [e] at h
        repeat' (first | (with_reducible exact hmn) | (with_reducible exact n030) | (with_reducible exact n1) | apply And.intro | exact rfl | (intro hx; with_reducible exact absurd hx q0) | (intro hx; with_reducible exact absurd hx z1) | (intro hx; exact absurd hx (by decide)) | (intro hx; exact absurd (by decide) hx) | decide | intro hx | (refine Exists.intro _ (And.intro rfl ?_)))
        all_goals try first | (with_reducible change am_tI _ _) | (change Ret _ _) | (change Ret _ _ _) | (change Exists _)
        all_goals try dsimp only at *
        all_goals try (with_reducible exact absurd ‹(1000 : Int64) = 0› am_z1000)
        all_goals first | (with_reducible exact h) | (with_reducible exact n0.1) | omega | (simp only [e1, l201, Int32.reduceToInt]; omega) | (show _ < _; simp only [l201]; decide) | exact h | exact n0.1 | skip
  · exact h.elim
set_option maxRecDepth 100000 in
theorem wd_1002 : Cond.constantLong "LearnLoansModel" 81 5000 ∈ am_ws := am_wt4 (List.mem_of_getElem? (i := 225) (by rfl)) (by decide +kernel)
def rwX8_scale : List dz_r := [(0, .iload_n 1, 1), (1, .i2l, 1), (2, .lconst 0, 1), (3, .ldc2_w 79, 3), (6, .invokestatic 66, 3), (9, .ifCond .eq 15, 3), (12, .iload_n 2, 1), (13, .i2l, 1), (14, .lconst 1, 1), (15, .ldc2_w 81, 3), (18, .invokestatic 66, 3), (21, .ifCond .ne 6, 3), (24, .bipush (-2), 2), (26, .ireturn, 1), (27, .aload_n 0, 1), (28, .getfield 7, 3), (31, .sipush 514, 3), (34, .iload_n 1, 1), (35, .iadd, 1), (36, .iaload, 1), (37, .istore_n 3, 1), (38, .aload_n 0, 1), (39, .getfield 7, 3), (42, .sipush 514, 3), (45, .iload_n 1, 1), (46, .iadd, 1), (47, .iload_n 2, 1), (48, .iastore, 1), (49, .iload_n 3, 1), (50, .ireturn, 1)]
theorem dzX8_scale : dz cX8_scale rwX8_scale := dz_all 0 (by decide +kernel)
def kX8_scale (live : am_E) (Ret : am_R) : am_code := [(0, am_iload 1 1), (1, am_i2l 2), (2, am_const (.long 0) 3), (3, am_const (.long 3) 6), (6, am_callS live 3 TX8_in 9), (9, am_if1 (fun x => x = 0) 24 12), (12, am_iload 2 13), (13, am_i2l 14), (14, am_const (.long 1) 15), (15, am_const (.long 5000) 18), (18, am_callS live 3 TX8_in 21), (21, am_if1 (fun x => x = 0) 24 27), (24, am_const (.int (-2)) 26), (26, am_retI Ret), (27, am_aload 0 28), (28, am_getR live 8 0 31), (31, am_const (.int 514) 34), (34, am_iload 1 35), (35, am_i2 (fun x y => x + y) 36), (36, am_ald live 0 37), (37, am_istore 3 4 38), (38, am_aload 0 39), (39, am_getR live 8 0 42), (42, am_const (.int 514) 45), (45, am_iload 1 46), (46, am_i2 (fun x y => x + y) 47), (47, am_iload 2 48), (48, am_ast live 0 49), (49, am_iload 3 50), (50, am_retI Ret)]
theorem koX8_scale (live : am_E) (Ret : am_R) : ∀ q ∈ kX8_scale live Ret, am_ok RX8 cX8_scale 4 (some .int) 1 25 live Ret q.1 q.2 :=
  am_kz dzX8_scale <|
  am_kd (fun d => ak_iload_n d rfl rfl) <|
  am_kd (fun d => ak_i2l d rfl) <|
  am_kd (fun d => ak_lconst d (by decide +kernel) rfl) <|
  am_kd (fun d => ak_ldc2 wd_997 d rfl) <|
  am_kd (fun d => ak_callS metX8_in ⟨rfl, hy_X8_in⟩ (am_w4 wd_986 wd_987 wd_67 wd_988) (by decide) d rfl) <|
  am_kd (fun d => ak_if_eq d (by decide +kernel) rfl) <|
  am_kd (fun d => ak_iload_n d rfl rfl) <|
  am_kd (fun d => ak_i2l d rfl) <|
  am_kd (fun d => ak_lconst d (by decide +kernel) rfl) <|
  am_kd (fun d => ak_ldc2 wd_1002 d rfl) <|
  am_kd (fun d => ak_callS metX8_in ⟨rfl, hy_X8_in⟩ (am_w4 wd_986 wd_987 wd_67 wd_988) (by decide) d rfl) <|
  am_kd (fun d => ak_if_ne d (by decide +kernel) rfl) <|
  am_kd (fun d => ak_bipush d (by decide +kernel) rfl) <|
  am_kd (fun d => ak_retI d) <|
  am_kd (fun d => ak_aload_n d rfl rfl) <|
  am_kd (fun d => ak_getR (C := RX8) (T := TX8) (N := 27) rfl inX8w (by decide) rfl rfl rfl wd_895 d rfl) <|
  am_kd (fun d => ak_sipush d (by decide +kernel) rfl) <|
  am_kd (fun d => ak_iload_n d rfl rfl) <|
  am_kd (fun d => ak_iadd d rfl) <|
  am_kd (fun d => ak_iald (t := 0) (fun _ => rfl) rfl d rfl) <|
  am_kd (fun d => ak_istore_n d rfl rfl) <|
  am_kd (fun d => ak_aload_n d rfl rfl) <|
  am_kd (fun d => ak_getR (C := RX8) (T := TX8) (N := 27) rfl inX8w (by decide) rfl rfl rfl wd_895 d rfl) <|
  am_kd (fun d => ak_sipush d (by decide +kernel) rfl) <|
  am_kd (fun d => ak_iload_n d rfl rfl) <|
  am_kd (fun d => ak_iadd d rfl) <|
  am_kd (fun d => ak_iload_n d rfl rfl) <|
  am_kd (fun d => ak_iast (t := 0) (fun _ => rfl) rfl d rfl) <|
  am_kd (fun d => ak_iload_n d rfl rfl) <|
  am_kd (fun d => ak_retI d) <| am_kdn
def r_scale (M : am_M) (l v : Int32) : Int32 × am_M := if 0 ≤ l ∧ l ≤ 3 then (if 1 ≤ v ∧ v ≤ 5000 then (M.1 201 (514 + l).toNatClampNeg, am_wI M 201 (514 + l).toNatClampNeg v) else ((-2 : Int32), M)) else ((-2 : Int32), M)
def TX8_scale : am_T := fun live as M R => match as with
  | [.ref n, .int l, .int v] => am_mn live ∧ n = 200 ∧ r_I M ∧ R (some (.int (r_scale M l v).1)) (r_scale M l v).2
  | _ => False
set_option maxRecDepth 100000 in
set_option maxHeartbeats 4000000 in
theorem metX8_scale : am_Met yX8_scale cX8_scale 4 (some .int) (1) (25) TX8_scale := by
  refine am_met (own := RX8) (by decide +kernel) rfl kX8_scale koX8_scale 200 (fun _ _ _ _ _ => none) (fun live as M Ret h => ?_) (fun _ _ _ _ _ _ _ _ hI => by cases hI)
  unfold TX8_scale at h
  split at h
  · next n l v =>
    refine ⟨Nat.le_of_ble_eq_true rfl, ?_⟩
    change am_wp _ _ _ _ [(0, Value.ref n), (1, Value.int l), (2, Value.int v)] _ _
    obtain ⟨hmn, rfl, hR, h⟩ := h
    have hmn2 := hmn
    obtain ⟨i1, i2, rfl⟩ := hmn2
    have l201 : am_len 201 = 3760 := rfl
    have n0 := hR.n0
    have n1 := hR.n1
    have n030 : 0 ≤ (M.1 201 0).toInt ∧ (M.1 201 0).toInt ≤ 30 := ⟨n0.1, by omega⟩
    by_cases z0 : 0 ≤ l ∧ l ≤ 3
    rotate_left
    · skip
      have q0 : (if (0 : Int64) ≤ l.toInt64 ∧ l.toInt64 ≤ (3 : Int64) then (1 : Int32) else 0) = 0 := if_neg (fun r => z0 (by simp only [i_le, i_lt, j_le, Int32.toInt_toInt64, Int32.reduceToInt, Int64.reduceToInt] at r ⊢; omega))
      have e : r_scale M l v = ((-2 : Int32), M) := by unfold r_scale; rw [if_neg z0]
      rw [e] at h
      repeat' (first | (with_reducible exact hmn) | (with_reducible exact h) | (with_reducible exact n030) | (with_reducible exact n1) | apply And.intro | exact rfl | (intro hx; with_reducible exact absurd q0 hx) | (intro hx; exact absurd hx (by decide)) | (intro hx; exact absurd (by decide) hx) | decide | intro hx | (refine Exists.intro _ (And.intro rfl ?_)))
      all_goals try first | (with_reducible change am_tI _ _) | (change Ret _ _) | (change Ret _ _ _) | (change Exists _)
      all_goals try dsimp only at *
      all_goals try (with_reducible exact absurd ‹(1000 : Int64) = 0› am_z1000)
      all_goals first | (with_reducible exact h) | (with_reducible exact n0.1) | omega | (simp only [e1, l201, Int32.reduceToInt]; omega) | (show _ < _; simp only [l201]; decide) | exact h | exact n0.1 | skip
    · skip
      have q0 : ¬ ((if (0 : Int64) ≤ l.toInt64 ∧ l.toInt64 ≤ (3 : Int64) then (1 : Int32) else 0) = 0) := by rw [if_pos (by have q := z0; simp only [i_le, i_lt, j_le, Int32.toInt_toInt64, Int32.reduceToInt, Int64.reduceToInt] at q ⊢; omega)]; decide
      by_cases z1 : 1 ≤ v ∧ v ≤ 5000
      rotate_left
      · skip
        have q1 : (if (1 : Int64) ≤ v.toInt64 ∧ v.toInt64 ≤ (5000 : Int64) then (1 : Int32) else 0) = 0 := if_neg (fun r => z1 (by simp only [i_le, i_lt, j_le, Int32.toInt_toInt64, Int32.reduceToInt, Int64.reduceToInt] at r ⊢; omega))
        have e : r_scale M l v = ((-2 : Int32), M) := by unfold r_scale; rw [if_pos z0, if_neg z1]
        rw [e] at h
        repeat' (first | (with_reducible exact hmn) | (with_reducible exact h) | (with_reducible exact n030) | (with_reducible exact n1) | apply And.intro | exact rfl | (intro hx; with_reducible exact absurd hx q0) | (intro hx; with_reducible exact absurd q1 hx) | (intro hx; exact absurd hx (by decide)) | (intro hx; exact absurd (by decide) hx) | decide | intro hx | (refine Exists.intro _ (And.intro rfl ?_)))
        all_goals try first | (with_reducible change am_tI _ _) | (change Ret _ _) | (change Ret _ _ _) | (change Exists _)
        all_goals try dsimp only at *
        all_goals try (with_reducible exact absurd ‹(1000 : Int64) = 0› am_z1000)
        all_goals first | (with_reducible exact h) | (with_reducible exact n0.1) | omega | (simp only [e1, l201, Int32.reduceToInt]; omega) | (show _ < _; simp only [l201]; decide) | exact h | exact n0.1 | skip
      · skip
        have q1 : ¬ ((if (1 : Int64) ≤ v.toInt64 ∧ v.toInt64 ≤ (5000 : Int64) then (1 : Int32) else 0) = 0) := by rw [if_pos (by have q := z1; simp only [i_le, i_lt, j_le, Int32.toInt_toInt64, Int32.reduceToInt, Int64.reduceToInt] at q ⊢; omega)]; decide
        have hl : am_in l 4 := ⟨by have q := z0.1; simp only [i_le, Int32.reduceToInt] at q; omega, by have q := z0.2; simp only [i_le, Int32.reduceToInt] at q; omega⟩
        have hl1 := hl.1
        have hl2 := hl.2
        have e1 := r_off (c := 514) (x := l) ⟨by decide, by decide⟩ ⟨by omega, by omega⟩
        simp only [Int32.reduceToInt] at e1
        have e : r_scale M l v = (M.1 201 (514 + l).toNatClampNeg, am_wI M 201 (514 + l).toNatClampNeg v) := by unfold r_scale; rw [if_pos z0, if_pos z1]
        rw [e] at h
        repeat' (first | (with_reducible exact hmn) | (with_reducible exact n030) | (with_reducible exact n1) | apply And.intro | exact rfl | (intro hx; with_reducible exact absurd hx q0) | (intro hx; with_reducible exact absurd hx q1) | (intro hx; exact absurd hx (by decide)) | (intro hx; exact absurd (by decide) hx) | decide | intro hx | (refine Exists.intro _ (And.intro rfl ?_)))
        all_goals try first | (with_reducible change am_tI _ _) | (change Ret _ _) | (change Ret _ _ _) | (change Exists _)
        all_goals try dsimp only at *
        all_goals try (with_reducible exact absurd ‹(1000 : Int64) = 0› am_z1000)
        all_goals first | (with_reducible exact h) | (with_reducible exact n0.1) | omega | (simp only [e1, l201, Int32.reduceToInt]; omega) | (show _ < _; simp only [l201]; decide) | exact h | exact n0.1 | skip
  · exact h.elim
set_option maxRecDepth 100000 in
theorem wd_1007 : Cond.constantLong "LearnLoansModel" 83 (-100) ∈ am_ws := am_wt4 (List.mem_of_getElem? (i := 230) (by rfl)) (by decide +kernel)
def rwX8_prices : List dz_r := [(0, .iload_n 1, 1), (1, .invokestatic 72, 3), (4, .ifCond .eq 17, 3), (7, .iload_n 2, 1), (8, .i2l, 1), (9, .ldc2_w 83, 3), (12, .ldc2_w 85, 3), (15, .invokestatic 66, 3), (18, .ifCond .ne 7, 3), (21, .sipush (-1000), 3), (24, .ireturn, 1), (25, .aload_n 0, 1), (26, .getfield 7, 3), (29, .sipush 518, 3), (32, .iload_n 1, 1), (33, .iadd, 1), (34, .iaload, 1), (35, .istore_n 3, 1), (36, .aload_n 0, 1), (37, .getfield 7, 3), (40, .sipush 518, 3), (43, .iload_n 1, 1), (44, .iadd, 1), (45, .iload_n 2, 1), (46, .iastore, 1), (47, .iload_n 3, 1), (48, .ireturn, 1)]
theorem dzX8_prices : dz cX8_prices rwX8_prices := dz_all 0 (by decide +kernel)
def kX8_prices (live : am_E) (Ret : am_R) : am_code := [(0, am_iload 1 1), (1, am_callS live 1 TX8_isYear 4), (4, am_if1 (fun x => x = 0) 21 7), (7, am_iload 2 8), (8, am_i2l 9), (9, am_const (.long (-100)) 12), (12, am_const (.long 500) 15), (15, am_callS live 3 TX8_in 18), (18, am_if1 (fun x => x = 0) 21 25), (21, am_const (.int (-1000)) 24), (24, am_retI Ret), (25, am_aload 0 26), (26, am_getR live 8 0 29), (29, am_const (.int 518) 32), (32, am_iload 1 33), (33, am_i2 (fun x y => x + y) 34), (34, am_ald live 0 35), (35, am_istore 3 4 36), (36, am_aload 0 37), (37, am_getR live 8 0 40), (40, am_const (.int 518) 43), (43, am_iload 1 44), (44, am_i2 (fun x y => x + y) 45), (45, am_iload 2 46), (46, am_ast live 0 47), (47, am_iload 3 48), (48, am_retI Ret)]
theorem koX8_prices (live : am_E) (Ret : am_R) : ∀ q ∈ kX8_prices live Ret, am_ok RX8 cX8_prices 4 (some .int) 2 45 live Ret q.1 q.2 :=
  am_kz dzX8_prices <|
  am_kd (fun d => ak_iload_n d rfl rfl) <|
  am_kd (fun d => ak_callS metX8_isYear ⟨rfl, hy_X8_isYear⟩ (am_w4 wd_982 wd_983 wd_67 wd_984) (by decide) d rfl) <|
  am_kd (fun d => ak_if_eq d (by decide +kernel) rfl) <|
  am_kd (fun d => ak_iload_n d rfl rfl) <|
  am_kd (fun d => ak_i2l d rfl) <|
  am_kd (fun d => ak_ldc2 wd_1007 d rfl) <|
  am_kd (fun d => ak_ldc2 wd_1008 d rfl) <|
  am_kd (fun d => ak_callS metX8_in ⟨rfl, hy_X8_in⟩ (am_w4 wd_986 wd_987 wd_67 wd_988) (by decide) d rfl) <|
  am_kd (fun d => ak_if_ne d (by decide +kernel) rfl) <|
  am_kd (fun d => ak_sipush d (by decide +kernel) rfl) <|
  am_kd (fun d => ak_retI d) <|
  am_kd (fun d => ak_aload_n d rfl rfl) <|
  am_kd (fun d => ak_getR (C := RX8) (T := TX8) (N := 27) rfl inX8w (by decide) rfl rfl rfl wd_895 d rfl) <|
  am_kd (fun d => ak_sipush d (by decide +kernel) rfl) <|
  am_kd (fun d => ak_iload_n d rfl rfl) <|
  am_kd (fun d => ak_iadd d rfl) <|
  am_kd (fun d => ak_iald (t := 0) (fun _ => rfl) rfl d rfl) <|
  am_kd (fun d => ak_istore_n d rfl rfl) <|
  am_kd (fun d => ak_aload_n d rfl rfl) <|
  am_kd (fun d => ak_getR (C := RX8) (T := TX8) (N := 27) rfl inX8w (by decide) rfl rfl rfl wd_895 d rfl) <|
  am_kd (fun d => ak_sipush d (by decide +kernel) rfl) <|
  am_kd (fun d => ak_iload_n d rfl rfl) <|
  am_kd (fun d => ak_iadd d rfl) <|
  am_kd (fun d => ak_iload_n d rfl rfl) <|
  am_kd (fun d => ak_iast (t := 0) (fun _ => rfl) rfl d rfl) <|
  am_kd (fun d => ak_iload_n d rfl rfl) <|
  am_kd (fun d => ak_retI d) <| am_kdn
def r_prices (M : am_M) (y v : Int32) : Int32 × am_M := if 0 ≤ y ∧ y < 40 then (if -100 ≤ v ∧ v ≤ 500 then (M.1 201 (518 + y).toNatClampNeg, am_wI M 201 (518 + y).toNatClampNeg v) else ((-1000 : Int32), M)) else ((-1000 : Int32), M)
def TX8_prices : am_T := fun live as M R => match as with
  | [.ref n, .int y, .int v] => am_mn live ∧ n = 200 ∧ r_I M ∧ R (some (.int (r_prices M y v).1)) (r_prices M y v).2
  | _ => False
set_option maxRecDepth 100000 in
set_option maxHeartbeats 4000000 in
theorem metX8_prices : am_Met yX8_prices cX8_prices 4 (some .int) (2) (45) TX8_prices := by
  refine am_met (own := RX8) (by decide +kernel) rfl kX8_prices koX8_prices 200 (fun _ _ _ _ _ => none) (fun live as M Ret h => ?_) (fun _ _ _ _ _ _ _ _ hI => by cases hI)
  unfold TX8_prices at h
  split at h
  · next n y v =>
    refine ⟨Nat.le_of_ble_eq_true rfl, ?_⟩
    change am_wp _ _ _ _ [(0, Value.ref n), (1, Value.int y), (2, Value.int v)] _ _
    obtain ⟨hmn, rfl, hR, h⟩ := h
    have hmn2 := hmn
    obtain ⟨i1, i2, rfl⟩ := hmn2
    have l201 : am_len 201 = 3760 := rfl
    have n0 := hR.n0
    have n1 := hR.n1
    have n030 : 0 ≤ (M.1 201 0).toInt ∧ (M.1 201 0).toInt ≤ 30 := ⟨n0.1, by omega⟩
    by_cases z0 : 0 ≤ y ∧ y < 40
    rotate_left
    · skip
      have q0 : (if 0 ≤ y ∧ y < 40 then (1 : Int32) else 0) = 0 := if_neg z0
      have e : r_prices M y v = ((-1000 : Int32), M) := by unfold r_prices; rw [if_neg z0]
      rw [e] at h
      repeat' (first | (with_reducible exact hmn) | (with_reducible exact h) | (with_reducible exact n030) | (with_reducible exact n1) | apply And.intro | exact rfl | (intro hx; with_reducible exact absurd q0 hx) | (intro hx; exact absurd hx (by decide)) | (intro hx; exact absurd (by decide) hx) | decide | intro hx | (refine Exists.intro _ (And.intro rfl ?_)))
      all_goals try first | (with_reducible change am_tI _ _) | (change Ret _ _) | (change Ret _ _ _) | (change Exists _)
      all_goals try dsimp only at *
      all_goals try (with_reducible exact absurd ‹(1000 : Int64) = 0› am_z1000)
      all_goals first | (with_reducible exact h) | (with_reducible exact n0.1) | omega | (simp only [e1, l201, Int32.reduceToInt]; omega) | (show _ < _; simp only [l201]; decide) | exact h | exact n0.1 | skip
    · skip
      have q0 : ¬ ((if 0 ≤ y ∧ y < 40 then (1 : Int32) else 0) = 0) := by rw [if_pos z0]; decide
      by_cases z1 : -100 ≤ v ∧ v ≤ 500
      rotate_left
      · skip
        have q1 : (if (-100 : Int64) ≤ v.toInt64 ∧ v.toInt64 ≤ (500 : Int64) then (1 : Int32) else 0) = 0 := if_neg (fun r => z1 (by simp only [i_le, i_lt, j_le, Int32.toInt_toInt64, Int32.reduceToInt, Int64.reduceToInt] at r ⊢; omega))
        have e : r_prices M y v = ((-1000 : Int32), M) := by unfold r_prices; rw [if_pos z0, if_neg z1]
        rw [e] at h
        repeat' (first | (with_reducible exact hmn) | (with_reducible exact h) | (with_reducible exact n030) | (with_reducible exact n1) | apply And.intro | exact rfl | (intro hx; with_reducible exact absurd hx q0) | (intro hx; with_reducible exact absurd q1 hx) | (intro hx; exact absurd hx (by decide)) | (intro hx; exact absurd (by decide) hx) | decide | intro hx | (refine Exists.intro _ (And.intro rfl ?_)))
        all_goals try first | (with_reducible change am_tI _ _) | (change Ret _ _) | (change Ret _ _ _) | (change Exists _)
        all_goals try dsimp only at *
        all_goals try (with_reducible exact absurd ‹(1000 : Int64) = 0› am_z1000)
        all_goals first | (with_reducible exact h) | (with_reducible exact n0.1) | omega | (simp only [e1, l201, Int32.reduceToInt]; omega) | (show _ < _; simp only [l201]; decide) | exact h | exact n0.1 | skip
      · skip
        have q1 : ¬ ((if (-100 : Int64) ≤ v.toInt64 ∧ v.toInt64 ≤ (500 : Int64) then (1 : Int32) else 0) = 0) := by rw [if_pos (by have q := z1; simp only [i_le, i_lt, j_le, Int32.toInt_toInt64, Int32.reduceToInt, Int64.reduceToInt] at q ⊢; omega)]; decide
        have hy : am_in y 40 := ⟨by have q := z0.1; simp only [i_le, Int32.reduceToInt] at q; omega, by have q := z0.2; simp only [i_lt, Int32.reduceToInt] at q; omega⟩
        have hy1 := hy.1
        have hy2 := hy.2
        have e1 := r_off (c := 518) (x := y) ⟨by decide, by decide⟩ ⟨by omega, by omega⟩
        simp only [Int32.reduceToInt] at e1
        have e : r_prices M y v = (M.1 201 (518 + y).toNatClampNeg, am_wI M 201 (518 + y).toNatClampNeg v) := by unfold r_prices; rw [if_pos z0, if_pos z1]
        rw [e] at h
        repeat' (first | (with_reducible exact hmn) | (with_reducible exact n030) | (with_reducible exact n1) | apply And.intro | exact rfl | (intro hx; with_reducible exact absurd hx q0) | (intro hx; with_reducible exact absurd hx q1) | (intro hx; exact absurd hx (by decide)) | (intro hx; exact absurd (by decide) hx) | decide | intro hx | (refine Exists.intro _ (And.intro rfl ?_)))
        all_goals try first | (with_reducible change am_tI _ _) | (change Ret _ _) | (change Ret _ _ _) | (change Exists _)
        all_goals try dsimp only at *
        all_goals try (with_reducible exact absurd ‹(1000 : Int64) = 0› am_z1000)
        all_goals first | (with_reducible exact h) | (with_reducible exact n0.1) | omega | (simp only [e1, l201, Int32.reduceToInt]; omega) | (show _ < _; simp only [l201]; decide) | exact h | exact n0.1 | skip
  · exact h.elim
theorem hy_X8_isPerson : yX8_isPerson.cls ≠ "java/lang/invoke/MethodHandle" ∧ yX8_isPerson.cls ≠ "java/lang/invoke/VarHandle" ∧ (parseMethodDescriptor yX8_isPerson.desc).map (fun d => d.parameters.length) = some 1 := ⟨by decide +kernel, by decide +kernel, by decide +kernel⟩
set_option maxRecDepth 100000 in
theorem wd_993 : Cond.methodLink "LearnLoansModel" 76 yX8_isPerson ∈ am_ws := am_wt4 (List.mem_of_getElem? (i := 216) (by rfl)) (by decide +kernel)
set_option maxRecDepth 100000 in
theorem wd_995 : Cond.instanceMethod yX8_isPerson ∈ am_ws := am_wt4 (List.mem_of_getElem? (i := 218) (by rfl)) (by decide +kernel)
set_option maxRecDepth 100000 in
theorem wd_27 : Cond.selects "LearnLoansModel" yX8_isPerson yX8_isPerson ∈ am_ws := am_wsi (List.mem_of_getElem? (i := 27) (by rfl)) (by decide +kernel)
set_option maxRecDepth 100000 in
theorem wd_996 : Cond.code yX8_isPerson cX8_isPerson 2 (some .boolean) ∈ am_ws := am_wt4 (List.mem_of_getElem? (i := 219) (by rfl)) (by decide +kernel)
def rwX8_dies : List dz_r := [(0, .aload_n 0, 1), (1, .iload_n 1, 1), (2, .invokevirtual 76, 3), (5, .ifCond .eq 10, 3), (8, .iload_n 2, 1), (9, .invokestatic 72, 3), (12, .ifCond .ne 6, 3), (15, .bipush (-2), 2), (17, .ireturn, 1), (18, .aload_n 0, 1), (19, .getfield 7, 3), (22, .bipush 22, 2), (24, .iload_n 1, 1), (25, .iadd, 1), (26, .iaload, 1), (27, .ifCond .lt 6, 3), (30, .bipush (-3), 2), (32, .ireturn, 1), (33, .aload_n 0, 1), (34, .getfield 7, 3), (37, .bipush 22, 2), (39, .iload_n 1, 1), (40, .iadd, 1), (41, .iload_n 2, 1), (42, .iastore, 1), (43, .iconst 1, 1), (44, .ireturn, 1)]
theorem dzX8_dies : dz cX8_dies rwX8_dies := dz_all 0 (by decide +kernel)
def kX8_dies (live : am_E) (Ret : am_R) : am_code := [(0, am_aload 0 1), (1, am_iload 1 2), (2, am_callV live 8 1 TX8_isPerson 5), (5, am_if1 (fun x => x = 0) 15 8), (8, am_iload 2 9), (9, am_callS live 1 TX8_isYear 12), (12, am_if1 (fun x => x = 0) 15 18), (15, am_const (.int (-2)) 17), (17, am_retI Ret), (18, am_aload 0 19), (19, am_getR live 8 0 22), (22, am_const (.int 22) 24), (24, am_iload 1 25), (25, am_i2 (fun x y => x + y) 26), (26, am_ald live 0 27), (27, am_if1 (fun x => x < 0) 33 30), (30, am_const (.int (-3)) 32), (32, am_retI Ret), (33, am_aload 0 34), (34, am_getR live 8 0 37), (37, am_const (.int 22) 39), (39, am_iload 1 40), (40, am_i2 (fun x y => x + y) 41), (41, am_iload 2 42), (42, am_ast live 0 43), (43, am_const (.int 1) 44), (44, am_retI Ret)]
theorem koX8_dies (live : am_E) (Ret : am_R) : ∀ q ∈ kX8_dies live Ret, am_ok RX8 cX8_dies 3 (some .int) 2 46 live Ret q.1 q.2 :=
  am_kz dzX8_dies <|
  am_kd (fun d => ak_aload_n d rfl rfl) <|
  am_kd (fun d => ak_iload_n d rfl rfl) <|
  am_kd (fun d => ak_callV (C := RX8) (F := TX8) (N := 27) metX8_isPerson rfl ⟨rfl, hy_X8_isPerson⟩ (am_w5 wd_993 wd_995 wd_27 wd_67 wd_996) (by decide) d rfl) <|
  am_kd (fun d => ak_if_eq d (by decide +kernel) rfl) <|
  am_kd (fun d => ak_iload_n d rfl rfl) <|
  am_kd (fun d => ak_callS metX8_isYear ⟨rfl, hy_X8_isYear⟩ (am_w4 wd_982 wd_983 wd_67 wd_984) (by decide) d rfl) <|
  am_kd (fun d => ak_if_ne d (by decide +kernel) rfl) <|
  am_kd (fun d => ak_bipush d (by decide +kernel) rfl) <|
  am_kd (fun d => ak_retI d) <|
  am_kd (fun d => ak_aload_n d rfl rfl) <|
  am_kd (fun d => ak_getR (C := RX8) (T := TX8) (N := 27) rfl inX8w (by decide) rfl rfl rfl wd_895 d rfl) <|
  am_kd (fun d => ak_bipush d (by decide +kernel) rfl) <|
  am_kd (fun d => ak_iload_n d rfl rfl) <|
  am_kd (fun d => ak_iadd d rfl) <|
  am_kd (fun d => ak_iald (t := 0) (fun _ => rfl) rfl d rfl) <|
  am_kd (fun d => ak_if_lt d (by decide +kernel) rfl) <|
  am_kd (fun d => ak_bipush d (by decide +kernel) rfl) <|
  am_kd (fun d => ak_retI d) <|
  am_kd (fun d => ak_aload_n d rfl rfl) <|
  am_kd (fun d => ak_getR (C := RX8) (T := TX8) (N := 27) rfl inX8w (by decide) rfl rfl rfl wd_895 d rfl) <|
  am_kd (fun d => ak_bipush d (by decide +kernel) rfl) <|
  am_kd (fun d => ak_iload_n d rfl rfl) <|
  am_kd (fun d => ak_iadd d rfl) <|
  am_kd (fun d => ak_iload_n d rfl rfl) <|
  am_kd (fun d => ak_iast (t := 0) (fun _ => rfl) rfl d rfl) <|
  am_kd (fun d => ak_iconst d (by decide +kernel) rfl) <|
  am_kd (fun d => ak_retI d) <| am_kdn
def r_dies (M : am_M) (p y : Int32) : Int32 × am_M := if 0 ≤ p ∧ p < M.1 201 0 then (if 0 ≤ y ∧ y < 40 then (if M.1 201 (22 + p).toNatClampNeg < 0 then (1, am_wI M 201 (22 + p).toNatClampNeg y) else ((-3 : Int32), M)) else ((-2 : Int32), M)) else ((-2 : Int32), M)
def TX8_dies : am_T := fun live as M R => match as with
  | [.ref n, .int p, .int y] => am_mn live ∧ n = 200 ∧ r_I M ∧ R (some (.int (r_dies M p y).1)) (r_dies M p y).2
  | _ => False
set_option maxRecDepth 100000 in
set_option maxHeartbeats 4000000 in
theorem metX8_dies : am_Met yX8_dies cX8_dies 3 (some .int) (2) (46) TX8_dies := by
  refine am_met (own := RX8) (by decide +kernel) rfl kX8_dies koX8_dies 200 (fun _ _ _ _ _ => none) (fun live as M Ret h => ?_) (fun _ _ _ _ _ _ _ _ hI => by cases hI)
  unfold TX8_dies at h
  split at h
  · next n p y =>
    refine ⟨Nat.le_of_ble_eq_true rfl, ?_⟩
    change am_wp _ _ _ _ [(0, Value.ref n), (1, Value.int p), (2, Value.int y)] _ _
    obtain ⟨hmn, rfl, hR, h⟩ := h
    have hmn2 := hmn
    obtain ⟨i1, i2, rfl⟩ := hmn2
    have l201 : am_len 201 = 3760 := rfl
    have n0 := hR.n0
    have n1 := hR.n1
    have n030 : 0 ≤ (M.1 201 0).toInt ∧ (M.1 201 0).toInt ≤ 30 := ⟨n0.1, by omega⟩
    by_cases z0 : 0 ≤ p ∧ p < M.1 201 0
    rotate_left
    · skip
      have q0 : (if 0 ≤ p ∧ p < M.1 201 0 then (1 : Int32) else 0) = 0 := if_neg z0
      have e : r_dies M p y = ((-2 : Int32), M) := by unfold r_dies; rw [if_neg z0]
      rw [e] at h
      repeat' (first | (with_reducible exact hmn) | (with_reducible exact h) | (with_reducible exact n030) | (with_reducible exact n1) | apply And.intro | exact rfl | (intro hx; with_reducible exact absurd q0 hx) | (intro hx; exact absurd hx (by decide)) | (intro hx; exact absurd (by decide) hx) | decide | intro hx | (refine Exists.intro _ (And.intro rfl ?_)))
      all_goals try first | (with_reducible change am_tI _ _) | (change Ret _ _) | (change Ret _ _ _) | (change Exists _)
      all_goals try dsimp only at *
      all_goals try (with_reducible exact absurd ‹(1000 : Int64) = 0› am_z1000)
      all_goals first | (with_reducible exact h) | (with_reducible exact n0.1) | omega | (simp only [e1, l201, Int32.reduceToInt]; omega) | (show _ < _; simp only [l201]; decide) | exact h | exact n0.1 | skip
    · skip
      have q0 : ¬ ((if 0 ≤ p ∧ p < M.1 201 0 then (1 : Int32) else 0) = 0) := by rw [if_pos z0]; decide
      by_cases z1 : 0 ≤ y ∧ y < 40
      rotate_left
      · skip
        have q1 : (if 0 ≤ y ∧ y < 40 then (1 : Int32) else 0) = 0 := if_neg z1
        have e : r_dies M p y = ((-2 : Int32), M) := by unfold r_dies; rw [if_pos z0, if_neg z1]
        rw [e] at h
        repeat' (first | (with_reducible exact hmn) | (with_reducible exact h) | (with_reducible exact n030) | (with_reducible exact n1) | apply And.intro | exact rfl | (intro hx; with_reducible exact absurd hx q0) | (intro hx; with_reducible exact absurd q1 hx) | (intro hx; exact absurd hx (by decide)) | (intro hx; exact absurd (by decide) hx) | decide | intro hx | (refine Exists.intro _ (And.intro rfl ?_)))
        all_goals try first | (with_reducible change am_tI _ _) | (change Ret _ _) | (change Ret _ _ _) | (change Exists _)
        all_goals try dsimp only at *
        all_goals try (with_reducible exact absurd ‹(1000 : Int64) = 0› am_z1000)
        all_goals first | (with_reducible exact h) | (with_reducible exact n0.1) | omega | (simp only [e1, l201, Int32.reduceToInt]; omega) | (show _ < _; simp only [l201]; decide) | exact h | exact n0.1 | skip
      · skip
        have q1 : ¬ ((if 0 ≤ y ∧ y < 40 then (1 : Int32) else 0) = 0) := by rw [if_pos z1]; decide
        have hp : am_in p 12 := ⟨by have q := z0.1; simp only [i_le, Int32.reduceToInt] at q; omega, by have q := z0.2; simp only [i_lt] at q; omega⟩
        have hp1 := hp.1
        have hp2 := hp.2
        have e1 := r_off (c := 22) (x := p) ⟨by decide, by decide⟩ ⟨by omega, by omega⟩
        simp only [Int32.reduceToInt] at e1
        by_cases z2 : M.1 201 (22 + p).toNatClampNeg < 0
        rotate_left
        · skip
          have y2 : (0 : Int32) ≤ M.1 201 (22 + p).toNatClampNeg := Int32.not_lt.mp z2
          have e : r_dies M p y = ((-3 : Int32), M) := by unfold r_dies; rw [if_pos z0, if_pos z1, if_neg z2]
          rw [e] at h
          repeat' (first | (with_reducible exact hmn) | (with_reducible exact h) | (with_reducible exact n030) | (with_reducible exact n1) | apply And.intro | exact rfl | (intro hx; with_reducible exact absurd hx q0) | (intro hx; with_reducible exact absurd hx q1) | (intro hx; with_reducible exact absurd hx z2) | (intro hx; with_reducible exact absurd y2 hx) | (intro hx; exact absurd hx (by decide)) | (intro hx; exact absurd (by decide) hx) | decide | intro hx | (refine Exists.intro _ (And.intro rfl ?_)))
          all_goals try first | (with_reducible change am_tI _ _) | (change Ret _ _) | (change Ret _ _ _) | (change Exists _)
          all_goals try dsimp only at *
          all_goals try (with_reducible exact absurd ‹(1000 : Int64) = 0› am_z1000)
          all_goals first | (with_reducible exact h) | (with_reducible exact n0.1) | omega | (simp only [e1, l201, Int32.reduceToInt]; omega) | (show _ < _; simp only [l201]; decide) | exact h | exact n0.1 | skip
        · skip
          have y2 : ¬ (0 : Int32) ≤ M.1 201 (22 + p).toNatClampNeg := Int32.not_le.mpr z2
          have e : r_dies M p y = (1, am_wI M 201 (22 + p).toNatClampNeg y) := by unfold r_dies; rw [if_pos z0, if_pos z1, if_pos z2]
          rw [e] at h
          repeat' (first | (with_reducible exact hmn) | (with_reducible exact n030) | (with_reducible exact n1) | apply And.intro | exact rfl | (intro hx; with_reducible exact absurd hx q0) | (intro hx; with_reducible exact absurd hx q1) | (intro hx; with_reducible exact absurd hx y2) | (intro hx; with_reducible exact absurd z2 hx) | (intro hx; exact absurd hx (by decide)) | (intro hx; exact absurd (by decide) hx) | decide | intro hx | (refine Exists.intro _ (And.intro rfl ?_)))
          all_goals try first | (with_reducible change am_tI _ _) | (change Ret _ _) | (change Ret _ _ _) | (change Exists _)
          all_goals try dsimp only at *
          all_goals try (with_reducible exact absurd ‹(1000 : Int64) = 0› am_z1000)
          all_goals first | (with_reducible exact h) | (with_reducible exact n0.1) | omega | (simp only [e1, l201, Int32.reduceToInt]; omega) | (show _ < _; simp only [l201]; decide) | exact h | exact n0.1 | skip
  · exact h.elim
def rwX8_earn : List dz_r := [(0, .aload_n 0, 1), (1, .iload_n 1, 1), (2, .invokevirtual 76, 3), (5, .ifCond .eq 36, 3), (8, .iload_n 2, 1), (9, .invokestatic 72, 3), (12, .ifCond .eq 29, 3), (15, .iload_n 3, 1), (16, .i2l, 1), (17, .lconst 0, 1), (18, .ldc2_w 87, 3), (21, .invokestatic 66, 3), (24, .ifCond .eq 17, 3), (27, .iload 4, 2), (29, .i2l, 1), (30, .iload_n 2, 1), (31, .i2l, 1), (32, .ldc2_w 64, 3), (35, .invokestatic 66, 3), (38, .ifCond .ne 6, 3), (41, .bipush (-2), 2), (43, .ireturn, 1), (44, .bipush 40, 2), (46, .iload_n 1, 1), (47, .imul, 1), (48, .iload_n 2, 1), (49, .iadd, 1), (50, .istore 5, 2), (52, .aload_n 0, 1), (53, .getfield 7, 3), (56, .sipush 1038, 3), (59, .iload 5, 2), (61, .iadd, 1), (62, .iaload, 1), (63, .ifCond .lt 6, 3), (66, .bipush (-3), 2), (68, .ireturn, 1), (69, .aload_n 0, 1), (70, .getfield 7, 3), (73, .sipush 558, 3), (76, .iload 5, 2), (78, .iadd, 1), (79, .iload_n 3, 1), (80, .iastore, 1), (81, .aload_n 0, 1), (82, .getfield 7, 3), (85, .sipush 1038, 3), (88, .iload 5, 2), (90, .iadd, 1), (91, .iload 4, 2), (93, .iastore, 1), (94, .iconst 1, 1), (95, .ireturn, 1)]
theorem dzX8_earn : dz cX8_earn rwX8_earn := dz_all 0 (by decide +kernel)
def kX8_earn (live : am_E) (Ret : am_R) : am_code := [(0, am_aload 0 1), (1, am_iload 1 2), (2, am_callV live 8 1 TX8_isPerson 5), (5, am_if1 (fun x => x = 0) 41 8), (8, am_iload 2 9), (9, am_callS live 1 TX8_isYear 12), (12, am_if1 (fun x => x = 0) 41 15), (15, am_iload 3 16), (16, am_i2l 17), (17, am_const (.long 0) 18), (18, am_const (.long 10000000) 21), (21, am_callS live 3 TX8_in 24), (24, am_if1 (fun x => x = 0) 41 27), (27, am_iload 4 29), (29, am_i2l 30), (30, am_iload 2 31), (31, am_i2l 32), (32, am_const (.long 39) 35), (35, am_callS live 3 TX8_in 38), (38, am_if1 (fun x => x = 0) 41 44), (41, am_const (.int (-2)) 43), (43, am_retI Ret), (44, am_const (.int 40) 46), (46, am_iload 1 47), (47, am_i2 (fun x y => x * y) 48), (48, am_iload 2 49), (49, am_i2 (fun x y => x + y) 50), (50, am_istore 5 6 52), (52, am_aload 0 53), (53, am_getR live 8 0 56), (56, am_const (.int 1038) 59), (59, am_iload 5 61), (61, am_i2 (fun x y => x + y) 62), (62, am_ald live 0 63), (63, am_if1 (fun x => x < 0) 69 66), (66, am_const (.int (-3)) 68), (68, am_retI Ret), (69, am_aload 0 70), (70, am_getR live 8 0 73), (73, am_const (.int 558) 76), (76, am_iload 5 78), (78, am_i2 (fun x y => x + y) 79), (79, am_iload 3 80), (80, am_ast live 0 81), (81, am_aload 0 82), (82, am_getR live 8 0 85), (85, am_const (.int 1038) 88), (88, am_iload 5 90), (90, am_i2 (fun x y => x + y) 91), (91, am_iload 4 93), (93, am_ast live 0 94), (94, am_const (.int 1) 95), (95, am_retI Ret)]
theorem koX8_earn (live : am_E) (Ret : am_R) : ∀ q ∈ kX8_earn live Ret, am_ok RX8 cX8_earn 6 (some .int) 2 46 live Ret q.1 q.2 :=
  am_kz dzX8_earn <|
  am_kd (fun d => ak_aload_n d rfl rfl) <|
  am_kd (fun d => ak_iload_n d rfl rfl) <|
  am_kd (fun d => ak_callV (C := RX8) (F := TX8) (N := 27) metX8_isPerson rfl ⟨rfl, hy_X8_isPerson⟩ (am_w5 wd_993 wd_995 wd_27 wd_67 wd_996) (by decide) d rfl) <|
  am_kd (fun d => ak_if_eq d (by decide +kernel) rfl) <|
  am_kd (fun d => ak_iload_n d rfl rfl) <|
  am_kd (fun d => ak_callS metX8_isYear ⟨rfl, hy_X8_isYear⟩ (am_w4 wd_982 wd_983 wd_67 wd_984) (by decide) d rfl) <|
  am_kd (fun d => ak_if_eq d (by decide +kernel) rfl) <|
  am_kd (fun d => ak_iload_n d rfl rfl) <|
  am_kd (fun d => ak_i2l d rfl) <|
  am_kd (fun d => ak_lconst d (by decide +kernel) rfl) <|
  am_kd (fun d => ak_ldc2 wd_1017 d rfl) <|
  am_kd (fun d => ak_callS metX8_in ⟨rfl, hy_X8_in⟩ (am_w4 wd_986 wd_987 wd_67 wd_988) (by decide) d rfl) <|
  am_kd (fun d => ak_if_eq d (by decide +kernel) rfl) <|
  am_kd (fun d => ak_iload d rfl) <|
  am_kd (fun d => ak_i2l d rfl) <|
  am_kd (fun d => ak_iload_n d rfl rfl) <|
  am_kd (fun d => ak_i2l d rfl) <|
  am_kd (fun d => ak_ldc2 wd_985 d rfl) <|
  am_kd (fun d => ak_callS metX8_in ⟨rfl, hy_X8_in⟩ (am_w4 wd_986 wd_987 wd_67 wd_988) (by decide) d rfl) <|
  am_kd (fun d => ak_if_ne d (by decide +kernel) rfl) <|
  am_kd (fun d => ak_bipush d (by decide +kernel) rfl) <|
  am_kd (fun d => ak_retI d) <|
  am_kd (fun d => ak_bipush d (by decide +kernel) rfl) <|
  am_kd (fun d => ak_iload_n d rfl rfl) <|
  am_kd (fun d => ak_imul d rfl) <|
  am_kd (fun d => ak_iload_n d rfl rfl) <|
  am_kd (fun d => ak_iadd d rfl) <|
  am_kd (fun d => ak_istore d rfl) <|
  am_kd (fun d => ak_aload_n d rfl rfl) <|
  am_kd (fun d => ak_getR (C := RX8) (T := TX8) (N := 27) rfl inX8w (by decide) rfl rfl rfl wd_895 d rfl) <|
  am_kd (fun d => ak_sipush d (by decide +kernel) rfl) <|
  am_kd (fun d => ak_iload d rfl) <|
  am_kd (fun d => ak_iadd d rfl) <|
  am_kd (fun d => ak_iald (t := 0) (fun _ => rfl) rfl d rfl) <|
  am_kd (fun d => ak_if_lt d (by decide +kernel) rfl) <|
  am_kd (fun d => ak_bipush d (by decide +kernel) rfl) <|
  am_kd (fun d => ak_retI d) <|
  am_kd (fun d => ak_aload_n d rfl rfl) <|
  am_kd (fun d => ak_getR (C := RX8) (T := TX8) (N := 27) rfl inX8w (by decide) rfl rfl rfl wd_895 d rfl) <|
  am_kd (fun d => ak_sipush d (by decide +kernel) rfl) <|
  am_kd (fun d => ak_iload d rfl) <|
  am_kd (fun d => ak_iadd d rfl) <|
  am_kd (fun d => ak_iload_n d rfl rfl) <|
  am_kd (fun d => ak_iast (t := 0) (fun _ => rfl) rfl d rfl) <|
  am_kd (fun d => ak_aload_n d rfl rfl) <|
  am_kd (fun d => ak_getR (C := RX8) (T := TX8) (N := 27) rfl inX8w (by decide) rfl rfl rfl wd_895 d rfl) <|
  am_kd (fun d => ak_sipush d (by decide +kernel) rfl) <|
  am_kd (fun d => ak_iload d rfl) <|
  am_kd (fun d => ak_iadd d rfl) <|
  am_kd (fun d => ak_iload d rfl) <|
  am_kd (fun d => ak_iast (t := 0) (fun _ => rfl) rfl d rfl) <|
  am_kd (fun d => ak_iconst d (by decide +kernel) rfl) <|
  am_kd (fun d => ak_retI d) <| am_kdn
def r_earn (M : am_M) (p y c k : Int32) : Int32 × am_M := if 0 ≤ p ∧ p < M.1 201 0 then (if 0 ≤ y ∧ y < 40 then (if 0 ≤ c ∧ c ≤ 10000000 then (if y ≤ k ∧ k ≤ 39 then (if M.1 201 (1038 + (40 * p + y)).toNatClampNeg < 0 then (1, am_wI (am_wI M 201 (558 + (40 * p + y)).toNatClampNeg c) 201 (1038 + (40 * p + y)).toNatClampNeg k) else ((-3 : Int32), M)) else ((-2 : Int32), M)) else ((-2 : Int32), M)) else ((-2 : Int32), M)) else ((-2 : Int32), M)
def TX8_earn : am_T := fun live as M R => match as with
  | [.ref n, .int p, .int y, .int c, .int k] => am_mn live ∧ n = 200 ∧ r_I M ∧ R (some (.int (r_earn M p y c k).1)) (r_earn M p y c k).2
  | _ => False
set_option maxRecDepth 100000 in
set_option maxHeartbeats 4000000 in
theorem metX8_earn : am_Met yX8_earn cX8_earn 6 (some .int) (2) (46) TX8_earn := by
  refine am_met (own := RX8) (by decide +kernel) rfl kX8_earn koX8_earn 200 (fun _ _ _ _ _ => none) (fun live as M Ret h => ?_) (fun _ _ _ _ _ _ _ _ hI => by cases hI)
  unfold TX8_earn at h
  split at h
  · next n p y c k =>
    refine ⟨Nat.le_of_ble_eq_true rfl, ?_⟩
    change am_wp _ _ _ _ [(0, Value.ref n), (1, Value.int p), (2, Value.int y), (3, Value.int c), (4, Value.int k)] _ _
    obtain ⟨hmn, rfl, hR, h⟩ := h
    have hmn2 := hmn
    obtain ⟨i1, i2, rfl⟩ := hmn2
    have l201 : am_len 201 = 3760 := rfl
    have n0 := hR.n0
    have n1 := hR.n1
    have n030 : 0 ≤ (M.1 201 0).toInt ∧ (M.1 201 0).toInt ≤ 30 := ⟨n0.1, by omega⟩
    by_cases z0 : 0 ≤ p ∧ p < M.1 201 0
    rotate_left
    · skip
      have q0 : (if 0 ≤ p ∧ p < M.1 201 0 then (1 : Int32) else 0) = 0 := if_neg z0
      have e : r_earn M p y c k = ((-2 : Int32), M) := by unfold r_earn; rw [if_neg z0]
      rw [e] at h
      repeat' (first | (with_reducible exact hmn) | (with_reducible exact h) | (with_reducible exact n030) | (with_reducible exact n1) | apply And.intro | exact rfl | (intro hx; with_reducible exact absurd q0 hx) | (intro hx; exact absurd hx (by decide)) | (intro hx; exact absurd (by decide) hx) | decide | intro hx | (refine Exists.intro _ (And.intro rfl ?_)))
      all_goals try first | (with_reducible change am_tI _ _) | (change Ret _ _) | (change Ret _ _ _) | (change Exists _)
      all_goals try dsimp only at *
      all_goals try (with_reducible exact absurd ‹(1000 : Int64) = 0› am_z1000)
      all_goals first | (with_reducible exact h) | (with_reducible exact n0.1) | omega | (simp only [e558, e1038, l201, Int32.reduceToInt]; omega) | (show _ < _; simp only [l201]; decide) | exact h | exact n0.1 | skip
    · skip
      have q0 : ¬ ((if 0 ≤ p ∧ p < M.1 201 0 then (1 : Int32) else 0) = 0) := by rw [if_pos z0]; decide
      by_cases z1 : 0 ≤ y ∧ y < 40
      rotate_left
      · skip
        have q1 : (if 0 ≤ y ∧ y < 40 then (1 : Int32) else 0) = 0 := if_neg z1
        have e : r_earn M p y c k = ((-2 : Int32), M) := by unfold r_earn; rw [if_pos z0, if_neg z1]
        rw [e] at h
        repeat' (first | (with_reducible exact hmn) | (with_reducible exact h) | (with_reducible exact n030) | (with_reducible exact n1) | apply And.intro | exact rfl | (intro hx; with_reducible exact absurd hx q0) | (intro hx; with_reducible exact absurd q1 hx) | (intro hx; exact absurd hx (by decide)) | (intro hx; exact absurd (by decide) hx) | decide | intro hx | (refine Exists.intro _ (And.intro rfl ?_)))
        all_goals try first | (with_reducible change am_tI _ _) | (change Ret _ _) | (change Ret _ _ _) | (change Exists _)
        all_goals try dsimp only at *
        all_goals try (with_reducible exact absurd ‹(1000 : Int64) = 0› am_z1000)
        all_goals first | (with_reducible exact h) | (with_reducible exact n0.1) | omega | (simp only [e558, e1038, l201, Int32.reduceToInt]; omega) | (show _ < _; simp only [l201]; decide) | exact h | exact n0.1 | skip
      · skip
        have q1 : ¬ ((if 0 ≤ y ∧ y < 40 then (1 : Int32) else 0) = 0) := by rw [if_pos z1]; decide
        by_cases z2 : 0 ≤ c ∧ c ≤ 10000000
        rotate_left
        · skip
          have q2 : (if (0 : Int64) ≤ c.toInt64 ∧ c.toInt64 ≤ (10000000 : Int64) then (1 : Int32) else 0) = 0 := if_neg (fun r => z2 (by simp only [i_le, i_lt, j_le, Int32.toInt_toInt64, Int32.reduceToInt, Int64.reduceToInt] at r ⊢; omega))
          have e : r_earn M p y c k = ((-2 : Int32), M) := by unfold r_earn; rw [if_pos z0, if_pos z1, if_neg z2]
          rw [e] at h
          repeat' (first | (with_reducible exact hmn) | (with_reducible exact h) | (with_reducible exact n030) | (with_reducible exact n1) | apply And.intro | exact rfl | (intro hx; with_reducible exact absurd hx q0) | (intro hx; with_reducible exact absurd hx q1) | (intro hx; with_reducible exact absurd q2 hx) | (intro hx; exact absurd hx (by decide)) | (intro hx; exact absurd (by decide) hx) | decide | intro hx | (refine Exists.intro _ (And.intro rfl ?_)))
          all_goals try first | (with_reducible change am_tI _ _) | (change Ret _ _) | (change Ret _ _ _) | (change Exists _)
          all_goals try dsimp only at *
          all_goals try (with_reducible exact absurd ‹(1000 : Int64) = 0› am_z1000)
          all_goals first | (with_reducible exact h) | (with_reducible exact n0.1) | omega | (simp only [e558, e1038, l201, Int32.reduceToInt]; omega) | (show _ < _; simp only [l201]; decide) | exact h | exact n0.1 | skip
        · skip
          have q2 : ¬ ((if (0 : Int64) ≤ c.toInt64 ∧ c.toInt64 ≤ (10000000 : Int64) then (1 : Int32) else 0) = 0) := by rw [if_pos (by have q := z2; simp only [i_le, i_lt, j_le, Int32.toInt_toInt64, Int32.reduceToInt, Int64.reduceToInt] at q ⊢; omega)]; decide
          by_cases z3 : y ≤ k ∧ k ≤ 39
          rotate_left
          · skip
            have q3 : (if y.toInt64 ≤ k.toInt64 ∧ k.toInt64 ≤ (39 : Int64) then (1 : Int32) else 0) = 0 := if_neg (fun r => z3 (by simp only [i_le, i_lt, j_le, Int32.toInt_toInt64, Int32.reduceToInt, Int64.reduceToInt] at r ⊢; omega))
            have e : r_earn M p y c k = ((-2 : Int32), M) := by unfold r_earn; rw [if_pos z0, if_pos z1, if_pos z2, if_neg z3]
            rw [e] at h
            repeat' (first | (with_reducible exact hmn) | (with_reducible exact h) | (with_reducible exact n030) | (with_reducible exact n1) | apply And.intro | exact rfl | (intro hx; with_reducible exact absurd hx q0) | (intro hx; with_reducible exact absurd hx q1) | (intro hx; with_reducible exact absurd hx q2) | (intro hx; with_reducible exact absurd q3 hx) | (intro hx; exact absurd hx (by decide)) | (intro hx; exact absurd (by decide) hx) | decide | intro hx | (refine Exists.intro _ (And.intro rfl ?_)))
            all_goals try first | (with_reducible change am_tI _ _) | (change Ret _ _) | (change Ret _ _ _) | (change Exists _)
            all_goals try dsimp only at *
            all_goals try (with_reducible exact absurd ‹(1000 : Int64) = 0› am_z1000)
            all_goals first | (with_reducible exact h) | (with_reducible exact n0.1) | omega | (simp only [e558, e1038, l201, Int32.reduceToInt]; omega) | (show _ < _; simp only [l201]; decide) | exact h | exact n0.1 | skip
          · skip
            have q3 : ¬ ((if y.toInt64 ≤ k.toInt64 ∧ k.toInt64 ≤ (39 : Int64) then (1 : Int32) else 0) = 0) := by rw [if_pos (by have q := z3; simp only [i_le, i_lt, j_le, Int32.toInt_toInt64, Int32.reduceToInt, Int64.reduceToInt] at q ⊢; omega)]; decide
            have hp : am_in p 12 := ⟨by have q := z0.1; simp only [i_le, Int32.reduceToInt] at q; omega, by have q := z0.2; simp only [i_lt] at q; omega⟩
            have hy : am_in y 40 := ⟨by have q := z1.1; simp only [i_le, Int32.reduceToInt] at q; omega, by have q := z1.2; simp only [i_lt, Int32.reduceToInt] at q; omega⟩
            have hp1 := hp.1
            have hp2 := hp.2
            have hy1 := hy.1
            have hy2 := hy.2
            have e40 := r_mul (c := 40) (x := p) ⟨by decide, by decide⟩ ⟨by omega, by omega⟩
            simp only [Int32.reduceToInt] at e40
            have ey := r_off (c := 40 * p) (x := y) ⟨by rw [e40]; omega, by rw [e40]; omega⟩ ⟨by omega, by omega⟩
            rw [e40] at ey
            have e558 := r_off (c := 558) (x := 40 * p + y) ⟨by decide, by decide⟩ ⟨by rw [ey]; omega, by rw [ey]; omega⟩
            simp only [ey, Int32.reduceToInt] at e558
            have e1038 := r_off (c := 1038) (x := 40 * p + y) ⟨by decide, by decide⟩ ⟨by rw [ey]; omega, by rw [ey]; omega⟩
            simp only [ey, Int32.reduceToInt] at e1038
            by_cases z4 : M.1 201 (1038 + (40 * p + y)).toNatClampNeg < 0
            rotate_left
            · skip
              have y4 : (0 : Int32) ≤ M.1 201 (1038 + (40 * p + y)).toNatClampNeg := Int32.not_lt.mp z4
              have e : r_earn M p y c k = ((-3 : Int32), M) := by unfold r_earn; rw [if_pos z0, if_pos z1, if_pos z2, if_pos z3, if_neg z4]
              rw [e] at h
              repeat' (first | (with_reducible exact hmn) | (with_reducible exact h) | (with_reducible exact n030) | (with_reducible exact n1) | apply And.intro | exact rfl | (intro hx; with_reducible exact absurd hx q0) | (intro hx; with_reducible exact absurd hx q1) | (intro hx; with_reducible exact absurd hx q2) | (intro hx; with_reducible exact absurd hx q3) | (intro hx; with_reducible exact absurd hx z4) | (intro hx; with_reducible exact absurd y4 hx) | (intro hx; exact absurd hx (by decide)) | (intro hx; exact absurd (by decide) hx) | decide | intro hx | (refine Exists.intro _ (And.intro rfl ?_)))
              all_goals try first | (with_reducible change am_tI _ _) | (change Ret _ _) | (change Ret _ _ _) | (change Exists _)
              all_goals try dsimp only at *
              all_goals try (with_reducible exact absurd ‹(1000 : Int64) = 0› am_z1000)
              all_goals first | (with_reducible exact h) | (with_reducible exact n0.1) | omega | (simp only [e558, e1038, l201, Int32.reduceToInt]; omega) | (show _ < _; simp only [l201]; decide) | exact h | exact n0.1 | skip
            · skip
              have y4 : ¬ (0 : Int32) ≤ M.1 201 (1038 + (40 * p + y)).toNatClampNeg := Int32.not_le.mpr z4
              have e : r_earn M p y c k = (1, am_wI (am_wI M 201 (558 + (40 * p + y)).toNatClampNeg c) 201 (1038 + (40 * p + y)).toNatClampNeg k) := by unfold r_earn; rw [if_pos z0, if_pos z1, if_pos z2, if_pos z3, if_pos z4]
              rw [e] at h
              repeat' (first | (with_reducible exact hmn) | (with_reducible exact n030) | (with_reducible exact n1) | apply And.intro | exact rfl | (intro hx; with_reducible exact absurd hx q0) | (intro hx; with_reducible exact absurd hx q1) | (intro hx; with_reducible exact absurd hx q2) | (intro hx; with_reducible exact absurd hx q3) | (intro hx; with_reducible exact absurd hx y4) | (intro hx; with_reducible exact absurd z4 hx) | (intro hx; exact absurd hx (by decide)) | (intro hx; exact absurd (by decide) hx) | decide | intro hx | (refine Exists.intro _ (And.intro rfl ?_)))
              all_goals try first | (with_reducible change am_tI _ _) | (change Ret _ _) | (change Ret _ _ _) | (change Exists _)
              all_goals try dsimp only at *
              all_goals try (with_reducible exact absurd ‹(1000 : Int64) = 0› am_z1000)
              all_goals first | (with_reducible exact h) | (with_reducible exact n0.1) | omega | (simp only [e558, e1038, l201, Int32.reduceToInt]; omega) | (show _ < _; simp only [l201]; decide) | exact h | exact n0.1 | skip
  · exact h.elim
theorem hy_X8_isPlan : yX8_isPlan.cls ≠ "java/lang/invoke/MethodHandle" ∧ yX8_isPlan.cls ≠ "java/lang/invoke/VarHandle" ∧ (parseMethodDescriptor yX8_isPlan.desc).map (fun d => d.parameters.length) = some 1 := ⟨by decide +kernel, by decide +kernel, by decide +kernel⟩
set_option maxRecDepth 100000 in
theorem wd_1034 : Cond.methodLink "LearnLoansModel" 104 yX8_isPlan ∈ am_ws := am_wt5 (List.mem_of_getElem? (i := 17) (by rfl)) (by decide +kernel)
set_option maxRecDepth 100000 in
theorem wd_1035 : Cond.static yX8_isPlan ∈ am_ws := am_wt5 (List.mem_of_getElem? (i := 18) (by rfl)) (by decide +kernel)
set_option maxRecDepth 100000 in
theorem wd_1036 : Cond.code yX8_isPlan cX8_isPlan 1 (some .boolean) ∈ am_ws := am_wt5 (List.mem_of_getElem? (i := 19) (by rfl)) (by decide +kernel)
theorem hy_X8_isWhat : yX8_isWhat.cls ≠ "java/lang/invoke/MethodHandle" ∧ yX8_isWhat.cls ≠ "java/lang/invoke/VarHandle" ∧ (parseMethodDescriptor yX8_isWhat.desc).map (fun d => d.parameters.length) = some 1 := ⟨by decide +kernel, by decide +kernel, by decide +kernel⟩
set_option maxRecDepth 100000 in
theorem wd_1038 : Cond.methodLink "LearnLoansModel" 107 yX8_isWhat ∈ am_ws := am_wt5 (List.mem_of_getElem? (i := 21) (by rfl)) (by decide +kernel)
set_option maxRecDepth 100000 in
theorem wd_1039 : Cond.static yX8_isWhat ∈ am_ws := am_wt5 (List.mem_of_getElem? (i := 22) (by rfl)) (by decide +kernel)
set_option maxRecDepth 100000 in
theorem wd_1040 : Cond.code yX8_isWhat cX8_isWhat 1 (some .boolean) ∈ am_ws := am_wt5 (List.mem_of_getElem? (i := 23) (by rfl)) (by decide +kernel)
theorem hy_X8_mayBe : yX8_mayBe.cls ≠ "java/lang/invoke/MethodHandle" ∧ yX8_mayBe.cls ≠ "java/lang/invoke/VarHandle" ∧ (parseMethodDescriptor yX8_mayBe.desc).map (fun d => d.parameters.length) = some 2 := ⟨by decide +kernel, by decide +kernel, by decide +kernel⟩
set_option maxRecDepth 100000 in
theorem wd_1042 : Cond.methodLink "LearnLoansModel" 110 yX8_mayBe ∈ am_ws := am_wt5 (List.mem_of_getElem? (i := 25) (by rfl)) (by decide +kernel)
set_option maxRecDepth 100000 in
theorem wd_1043 : Cond.static yX8_mayBe ∈ am_ws := am_wt5 (List.mem_of_getElem? (i := 26) (by rfl)) (by decide +kernel)
set_option maxRecDepth 100000 in
theorem wd_1044 : Cond.code yX8_mayBe cX8_mayBe 2 (some .boolean) ∈ am_ws := am_wt5 (List.mem_of_getElem? (i := 27) (by rfl)) (by decide +kernel)
def rwX8_act : List dz_r := [(0, .iload_n 1, 1), (1, .invokestatic 104, 3), (4, .ifCond .eq 49, 3), (7, .iload_n 2, 1), (8, .invokestatic 107, 3), (11, .ifCond .eq 42, 3), (14, .iload_n 2, 1), (15, .iload_n 3, 1), (16, .invokestatic 110, 3), (19, .ifCond .eq 34, 3), (22, .iload 4, 2), (24, .invokestatic 72, 3), (27, .ifCond .eq 26, 3), (30, .iload 5, 2), (32, .invokestatic 72, 3), (35, .ifCond .eq 18, 3), (38, .iload 6, 2), (40, .invokestatic 72, 3), (43, .ifCond .eq 10, 3), (46, .iload 5, 2), (48, .iload 6, 2), (50, .if_icmp .le 6, 3), (53, .bipush (-2), 2), (55, .ireturn, 1), (56, .aload_n 0, 1), (57, .getfield 7, 3), (60, .iconst 2, 1), (61, .iaload, 1), (62, .bipush 60, 2), (64, .if_icmp .ne 6, 3), (67, .bipush (-4), 2), (69, .ireturn, 1), (70, .sipush 2478, 3), (73, .bipush 6, 2), (75, .aload_n 0, 1), (76, .getfield 7, 3), (79, .iconst 2, 1), (80, .iaload, 1), (81, .imul, 1), (82, .iadd, 1), (83, .istore 7, 2), (85, .aload_n 0, 1), (86, .getfield 7, 3), (89, .iload 7, 2), (91, .iload_n 1, 1), (92, .iastore, 1), (93, .aload_n 0, 1), (94, .getfield 7, 3), (97, .iload 7, 2), (99, .iconst 1, 1), (100, .iadd, 1), (101, .iload_n 2, 1), (102, .iastore, 1), (103, .aload_n 0, 1), (104, .getfield 7, 3), (107, .iload 7, 2), (109, .iconst 2, 1), (110, .iadd, 1), (111, .iload_n 3, 1), (112, .iastore, 1), (113, .aload_n 0, 1), (114, .getfield 7, 3), (117, .iload 7, 2), (119, .iconst 3, 1), (120, .iadd, 1), (121, .iload 4, 2), (123, .iastore, 1), (124, .aload_n 0, 1), (125, .getfield 7, 3), (128, .iload 7, 2), (130, .iconst 4, 1), (131, .iadd, 1), (132, .iload 5, 2), (134, .iastore, 1), (135, .aload_n 0, 1), (136, .getfield 7, 3), (139, .iload 7, 2), (141, .iconst 5, 1), (142, .iadd, 1), (143, .iload 6, 2), (145, .iastore, 1), (146, .aload_n 0, 1), (147, .getfield 7, 3), (150, .iconst 2, 1), (151, .dup2, 1), (152, .iaload, 1), (153, .iconst 1, 1), (154, .iadd, 1), (155, .iastore, 1), (156, .aload_n 0, 1), (157, .getfield 7, 3), (160, .iconst 2, 1), (161, .iaload, 1), (162, .iconst 1, 1), (163, .isub, 1), (164, .ireturn, 1)]
theorem dzX8_act : dz cX8_act rwX8_act := dz_all 0 (by decide +kernel)
def kX8_act (live : am_E) (Ret : am_R) : am_code := [(0, am_iload 1 1), (1, am_callS live 1 TX8_isPlan 4), (4, am_if1 (fun x => x = 0) 53 7), (7, am_iload 2 8), (8, am_callS live 1 TX8_isWhat 11), (11, am_if1 (fun x => x = 0) 53 14), (14, am_iload 2 15), (15, am_iload 3 16), (16, am_callS live 2 TX8_mayBe 19), (19, am_if1 (fun x => x = 0) 53 22), (22, am_iload 4 24), (24, am_callS live 1 TX8_isYear 27), (27, am_if1 (fun x => x = 0) 53 30), (30, am_iload 5 32), (32, am_callS live 1 TX8_isYear 35), (35, am_if1 (fun x => x = 0) 53 38), (38, am_iload 6 40), (40, am_callS live 1 TX8_isYear 43), (43, am_if1 (fun x => x = 0) 53 46), (46, am_iload 5 48), (48, am_iload 6 50), (50, am_if2 (fun x y => x ≤ y) 56 53), (53, am_const (.int (-2)) 55), (55, am_retI Ret), (56, am_aload 0 57), (57, am_getR live 8 0 60), (60, am_const (.int 2) 61), (61, am_ald live 0 62), (62, am_const (.int 60) 64), (64, am_if2 (fun x y => x = y) 67 70), (67, am_const (.int (-4)) 69), (69, am_retI Ret), (70, am_const (.int 2478) 73), (73, am_const (.int 6) 75), (75, am_aload 0 76), (76, am_getR live 8 0 79), (79, am_const (.int 2) 80), (80, am_ald live 0 81), (81, am_i2 (fun x y => x * y) 82), (82, am_i2 (fun x y => x + y) 83), (83, am_istore 7 8 85), (85, am_aload 0 86), (86, am_getR live 8 0 89), (89, am_iload 7 91), (91, am_iload 1 92), (92, am_ast live 0 93), (93, am_aload 0 94), (94, am_getR live 8 0 97), (97, am_iload 7 99), (99, am_const (.int 1) 100), (100, am_i2 (fun x y => x + y) 101), (101, am_iload 2 102), (102, am_ast live 0 103), (103, am_aload 0 104), (104, am_getR live 8 0 107), (107, am_iload 7 109), (109, am_const (.int 2) 110), (110, am_i2 (fun x y => x + y) 111), (111, am_iload 3 112), (112, am_ast live 0 113), (113, am_aload 0 114), (114, am_getR live 8 0 117), (117, am_iload 7 119), (119, am_const (.int 3) 120), (120, am_i2 (fun x y => x + y) 121), (121, am_iload 4 123), (123, am_ast live 0 124), (124, am_aload 0 125), (125, am_getR live 8 0 128), (128, am_iload 7 130), (130, am_const (.int 4) 131), (131, am_i2 (fun x y => x + y) 132), (132, am_iload 5 134), (134, am_ast live 0 135), (135, am_aload 0 136), (136, am_getR live 8 0 139), (139, am_iload 7 141), (141, am_const (.int 5) 142), (142, am_i2 (fun x y => x + y) 143), (143, am_iload 6 145), (145, am_ast live 0 146), (146, am_aload 0 147), (147, am_getR live 8 0 150), (150, am_const (.int 2) 151), (151, am_dup2 152), (152, am_ald live 0 153), (153, am_const (.int 1) 154), (154, am_i2 (fun x y => x + y) 155), (155, am_ast live 0 156), (156, am_aload 0 157), (157, am_getR live 8 0 160), (160, am_const (.int 2) 161), (161, am_ald live 0 162), (162, am_const (.int 1) 163), (163, am_i2 (fun x y => x - y) 164), (164, am_retI Ret)]
theorem koX8_act (live : am_E) (Ret : am_R) : ∀ q ∈ kX8_act live Ret, am_ok RX8 cX8_act 8 (some .int) 2 46 live Ret q.1 q.2 :=
  am_kz dzX8_act <|
  am_kd (fun d => ak_iload_n d rfl rfl) <|
  am_kd (fun d => ak_callS metX8_isPlan ⟨rfl, hy_X8_isPlan⟩ (am_w4 wd_1034 wd_1035 wd_67 wd_1036) (by decide) d rfl) <|
  am_kd (fun d => ak_if_eq d (by decide +kernel) rfl) <|
  am_kd (fun d => ak_iload_n d rfl rfl) <|
  am_kd (fun d => ak_callS metX8_isWhat ⟨rfl, hy_X8_isWhat⟩ (am_w4 wd_1038 wd_1039 wd_67 wd_1040) (by decide) d rfl) <|
  am_kd (fun d => ak_if_eq d (by decide +kernel) rfl) <|
  am_kd (fun d => ak_iload_n d rfl rfl) <|
  am_kd (fun d => ak_iload_n d rfl rfl) <|
  am_kd (fun d => ak_callS metX8_mayBe ⟨rfl, hy_X8_mayBe⟩ (am_w4 wd_1042 wd_1043 wd_67 wd_1044) (by decide) d rfl) <|
  am_kd (fun d => ak_if_eq d (by decide +kernel) rfl) <|
  am_kd (fun d => ak_iload d rfl) <|
  am_kd (fun d => ak_callS metX8_isYear ⟨rfl, hy_X8_isYear⟩ (am_w4 wd_982 wd_983 wd_67 wd_984) (by decide) d rfl) <|
  am_kd (fun d => ak_if_eq d (by decide +kernel) rfl) <|
  am_kd (fun d => ak_iload d rfl) <|
  am_kd (fun d => ak_callS metX8_isYear ⟨rfl, hy_X8_isYear⟩ (am_w4 wd_982 wd_983 wd_67 wd_984) (by decide) d rfl) <|
  am_kd (fun d => ak_if_eq d (by decide +kernel) rfl) <|
  am_kd (fun d => ak_iload d rfl) <|
  am_kd (fun d => ak_callS metX8_isYear ⟨rfl, hy_X8_isYear⟩ (am_w4 wd_982 wd_983 wd_67 wd_984) (by decide) d rfl) <|
  am_kd (fun d => ak_if_eq d (by decide +kernel) rfl) <|
  am_kd (fun d => ak_iload d rfl) <|
  am_kd (fun d => ak_iload d rfl) <|
  am_kd (fun d => ak_icmp_le d (by decide +kernel) rfl) <|
  am_kd (fun d => ak_bipush d (by decide +kernel) rfl) <|
  am_kd (fun d => ak_retI d) <|
  am_kd (fun d => ak_aload_n d rfl rfl) <|
  am_kd (fun d => ak_getR (C := RX8) (T := TX8) (N := 27) rfl inX8w (by decide) rfl rfl rfl wd_895 d rfl) <|
  am_kd (fun d => ak_iconst d (by decide +kernel) rfl) <|
  am_kd (fun d => ak_iald (t := 0) (fun _ => rfl) rfl d rfl) <|
  am_kd (fun d => ak_bipush d (by decide +kernel) rfl) <|
  am_kd (fun d => ak_icmp_ne d (by decide +kernel) rfl) <|
  am_kd (fun d => ak_bipush d (by decide +kernel) rfl) <|
  am_kd (fun d => ak_retI d) <|
  am_kd (fun d => ak_sipush d (by decide +kernel) rfl) <|
  am_kd (fun d => ak_bipush d (by decide +kernel) rfl) <|
  am_kd (fun d => ak_aload_n d rfl rfl) <|
  am_kd (fun d => ak_getR (C := RX8) (T := TX8) (N := 27) rfl inX8w (by decide) rfl rfl rfl wd_895 d rfl) <|
  am_kd (fun d => ak_iconst d (by decide +kernel) rfl) <|
  am_kd (fun d => ak_iald (t := 0) (fun _ => rfl) rfl d rfl) <|
  am_kd (fun d => ak_imul d rfl) <|
  am_kd (fun d => ak_iadd d rfl) <|
  am_kd (fun d => ak_istore d rfl) <|
  am_kd (fun d => ak_aload_n d rfl rfl) <|
  am_kd (fun d => ak_getR (C := RX8) (T := TX8) (N := 27) rfl inX8w (by decide) rfl rfl rfl wd_895 d rfl) <|
  am_kd (fun d => ak_iload d rfl) <|
  am_kd (fun d => ak_iload_n d rfl rfl) <|
  am_kd (fun d => ak_iast (t := 0) (fun _ => rfl) rfl d rfl) <|
  am_kd (fun d => ak_aload_n d rfl rfl) <|
  am_kd (fun d => ak_getR (C := RX8) (T := TX8) (N := 27) rfl inX8w (by decide) rfl rfl rfl wd_895 d rfl) <|
  am_kd (fun d => ak_iload d rfl) <|
  am_kd (fun d => ak_iconst d (by decide +kernel) rfl) <|
  am_kd (fun d => ak_iadd d rfl) <|
  am_kd (fun d => ak_iload_n d rfl rfl) <|
  am_kd (fun d => ak_iast (t := 0) (fun _ => rfl) rfl d rfl) <|
  am_kd (fun d => ak_aload_n d rfl rfl) <|
  am_kd (fun d => ak_getR (C := RX8) (T := TX8) (N := 27) rfl inX8w (by decide) rfl rfl rfl wd_895 d rfl) <|
  am_kd (fun d => ak_iload d rfl) <|
  am_kd (fun d => ak_iconst d (by decide +kernel) rfl) <|
  am_kd (fun d => ak_iadd d rfl) <|
  am_kd (fun d => ak_iload_n d rfl rfl) <|
  am_kd (fun d => ak_iast (t := 0) (fun _ => rfl) rfl d rfl) <|
  am_kd (fun d => ak_aload_n d rfl rfl) <|
  am_kd (fun d => ak_getR (C := RX8) (T := TX8) (N := 27) rfl inX8w (by decide) rfl rfl rfl wd_895 d rfl) <|
  am_kd (fun d => ak_iload d rfl) <|
  am_kd (fun d => ak_iconst d (by decide +kernel) rfl) <|
  am_kd (fun d => ak_iadd d rfl) <|
  am_kd (fun d => ak_iload d rfl) <|
  am_kd (fun d => ak_iast (t := 0) (fun _ => rfl) rfl d rfl) <|
  am_kd (fun d => ak_aload_n d rfl rfl) <|
  am_kd (fun d => ak_getR (C := RX8) (T := TX8) (N := 27) rfl inX8w (by decide) rfl rfl rfl wd_895 d rfl) <|
  am_kd (fun d => ak_iload d rfl) <|
  am_kd (fun d => ak_iconst d (by decide +kernel) rfl) <|
  am_kd (fun d => ak_iadd d rfl) <|
  am_kd (fun d => ak_iload d rfl) <|
  am_kd (fun d => ak_iast (t := 0) (fun _ => rfl) rfl d rfl) <|
  am_kd (fun d => ak_aload_n d rfl rfl) <|
  am_kd (fun d => ak_getR (C := RX8) (T := TX8) (N := 27) rfl inX8w (by decide) rfl rfl rfl wd_895 d rfl) <|
  am_kd (fun d => ak_iload d rfl) <|
  am_kd (fun d => ak_iconst d (by decide +kernel) rfl) <|
  am_kd (fun d => ak_iadd d rfl) <|
  am_kd (fun d => ak_iload d rfl) <|
  am_kd (fun d => ak_iast (t := 0) (fun _ => rfl) rfl d rfl) <|
  am_kd (fun d => ak_aload_n d rfl rfl) <|
  am_kd (fun d => ak_getR (C := RX8) (T := TX8) (N := 27) rfl inX8w (by decide) rfl rfl rfl wd_895 d rfl) <|
  am_kd (fun d => ak_iconst d (by decide +kernel) rfl) <|
  am_kd (fun d => ak_dup2 d rfl) <|
  am_kd (fun d => ak_iald (t := 0) (fun _ => rfl) rfl d rfl) <|
  am_kd (fun d => ak_iconst d (by decide +kernel) rfl) <|
  am_kd (fun d => ak_iadd d rfl) <|
  am_kd (fun d => ak_iast (t := 0) (fun _ => rfl) rfl d rfl) <|
  am_kd (fun d => ak_aload_n d rfl rfl) <|
  am_kd (fun d => ak_getR (C := RX8) (T := TX8) (N := 27) rfl inX8w (by decide) rfl rfl rfl wd_895 d rfl) <|
  am_kd (fun d => ak_iconst d (by decide +kernel) rfl) <|
  am_kd (fun d => ak_iald (t := 0) (fun _ => rfl) rfl d rfl) <|
  am_kd (fun d => ak_iconst d (by decide +kernel) rfl) <|
  am_kd (fun d => ak_isub d rfl) <|
  am_kd (fun d => ak_retI d) <| am_kdn
def r_act (M : am_M) (pl w v f b t : Int32) : Int32 × am_M := if 0 ≤ pl ∧ pl < 5 then (if 0 ≤ w ∧ w < 6 then (if (0 ≤ w ∧ w < 6) ∧ am_sf 1 w.toNatClampNeg ≤ v ∧ v ≤ am_sf 2 w.toNatClampNeg then (if 0 ≤ f ∧ f < 40 then (if 0 ≤ b ∧ b < 40 then (if 0 ≤ t ∧ t < 40 then (if b ≤ t then (if M.1 201 (Int32.toNatClampNeg 2) = 60 then ((-4 : Int32), M) else ((fun a : Int32 => (fun M1 : am_M => (fun M2 : am_M => (M2.1 201 (Int32.toNatClampNeg 2) - 1, M2)) (am_wI M1 201 (Int32.toNatClampNeg 2) (M1.1 201 (Int32.toNatClampNeg 2) + 1))) (am_wI (am_wI (am_wI (am_wI (am_wI (am_wI M 201 a.toNatClampNeg pl) 201 (a + 1).toNatClampNeg w) 201 (a + 2).toNatClampNeg v) 201 (a + 3).toNatClampNeg f) 201 (a + 4).toNatClampNeg b) 201 (a + 5).toNatClampNeg t)) (2478 + 6 * M.1 201 (Int32.toNatClampNeg 2)))) else ((-2 : Int32), M)) else ((-2 : Int32), M)) else ((-2 : Int32), M)) else ((-2 : Int32), M)) else ((-2 : Int32), M)) else ((-2 : Int32), M)) else ((-2 : Int32), M)
def TX8_act : am_T := fun live as M R => match as with
  | [.ref n, .int pl, .int w, .int v, .int f, .int b, .int t] => am_mn live ∧ n = 200 ∧ r_I M ∧ R (some (.int (r_act M pl w v f b t).1)) (r_act M pl w v f b t).2
  | _ => False
set_option maxRecDepth 100000 in
set_option maxHeartbeats 4000000 in
theorem metX8_act : am_Met yX8_act cX8_act 8 (some .int) (2) (46) TX8_act := by
  refine am_met (own := RX8) (by decide +kernel) rfl kX8_act koX8_act 200 (fun _ _ _ _ _ => none) (fun live as M Ret h => ?_) (fun _ _ _ _ _ _ _ _ hI => by cases hI)
  unfold TX8_act at h
  split at h
  · next n pl w v f b t =>
    refine ⟨Nat.le_of_ble_eq_true rfl, ?_⟩
    change am_wp _ _ _ _ [(0, Value.ref n), (1, Value.int pl), (2, Value.int w), (3, Value.int v), (4, Value.int f), (5, Value.int b), (6, Value.int t)] _ _
    obtain ⟨hmn, rfl, hR, h⟩ := h
    have hmn2 := hmn
    obtain ⟨i1, i2, rfl⟩ := hmn2
    have l201 : am_len 201 = 3760 := rfl
    have n0 := hR.n0
    have n1 := hR.n1
    have n030 : 0 ≤ (M.1 201 0).toInt ∧ (M.1 201 0).toInt ≤ 30 := ⟨n0.1, by omega⟩
    by_cases z0 : 0 ≤ pl ∧ pl < 5
    rotate_left
    · skip
      have q0 : (if 0 ≤ pl ∧ pl < 5 then (1 : Int32) else 0) = 0 := if_neg z0
      have e : r_act M pl w v f b t = ((-2 : Int32), M) := by unfold r_act; rw [if_neg z0]
      rw [e] at h
      repeat' (first | (with_reducible exact hmn) | (with_reducible exact h) | (with_reducible exact n030) | (with_reducible exact n1) | apply And.intro | exact rfl | (intro hx; with_reducible exact absurd q0 hx) | (intro hx; exact absurd hx (by decide)) | (intro hx; exact absurd (by decide) hx) | decide | intro hx | (refine Exists.intro _ (And.intro rfl ?_)))
      all_goals try first | (with_reducible change am_tI _ _) | (change Ret _ _) | (change Ret _ _ _) | (change Exists _)
      all_goals try dsimp only at *
      all_goals try (with_reducible exact absurd ‹(1000 : Int64) = 0› am_z1000)
      all_goals first | (with_reducible exact h) | (with_reducible exact n0.1) | omega | (with_reducible exact z1.1) | (with_reducible exact z1.2) | (simp only [ea, l201]; omega) | (simp only [ea1, l201]; omega) | (simp only [ea2, l201]; omega) | (simp only [ea3, l201]; omega) | (simp only [ea4, l201]; omega) | (simp only [ea5, l201]; omega) | (show _ < _; simp only [l201]; decide) | exact h | exact n0.1 | exact z1.1 | exact z1.2 | skip
    · skip
      have q0 : ¬ ((if 0 ≤ pl ∧ pl < 5 then (1 : Int32) else 0) = 0) := by rw [if_pos z0]; decide
      by_cases z1 : 0 ≤ w ∧ w < 6
      rotate_left
      · skip
        have q1 : (if 0 ≤ w ∧ w < 6 then (1 : Int32) else 0) = 0 := if_neg z1
        have e : r_act M pl w v f b t = ((-2 : Int32), M) := by unfold r_act; rw [if_pos z0, if_neg z1]
        rw [e] at h
        repeat' (first | (with_reducible exact hmn) | (with_reducible exact h) | (with_reducible exact n030) | (with_reducible exact n1) | apply And.intro | exact rfl | (intro hx; with_reducible exact absurd hx q0) | (intro hx; with_reducible exact absurd q1 hx) | (intro hx; exact absurd hx (by decide)) | (intro hx; exact absurd (by decide) hx) | decide | intro hx | (refine Exists.intro _ (And.intro rfl ?_)))
        all_goals try first | (with_reducible change am_tI _ _) | (change Ret _ _) | (change Ret _ _ _) | (change Exists _)
        all_goals try dsimp only at *
        all_goals try (with_reducible exact absurd ‹(1000 : Int64) = 0› am_z1000)
        all_goals first | (with_reducible exact h) | (with_reducible exact n0.1) | omega | (with_reducible exact z1.1) | (with_reducible exact z1.2) | (simp only [ea, l201]; omega) | (simp only [ea1, l201]; omega) | (simp only [ea2, l201]; omega) | (simp only [ea3, l201]; omega) | (simp only [ea4, l201]; omega) | (simp only [ea5, l201]; omega) | (show _ < _; simp only [l201]; decide) | exact h | exact n0.1 | exact z1.1 | exact z1.2 | skip
      · skip
        have q1 : ¬ ((if 0 ≤ w ∧ w < 6 then (1 : Int32) else 0) = 0) := by rw [if_pos z1]; decide
        by_cases z2 : (0 ≤ w ∧ w < 6) ∧ am_sf 1 w.toNatClampNeg ≤ v ∧ v ≤ am_sf 2 w.toNatClampNeg
        rotate_left
        · skip
          have q2 : ¬ am_isNum w v := z2
          have e : r_act M pl w v f b t = ((-2 : Int32), M) := by unfold r_act; rw [if_pos z0, if_pos z1, if_neg z2]
          rw [e] at h
          repeat' (first | (with_reducible exact hmn) | (with_reducible exact h) | (with_reducible exact n030) | (with_reducible exact n1) | apply And.intro | exact rfl | (intro hx; with_reducible exact absurd hx q0) | (intro hx; with_reducible exact absurd hx q1) | (intro hx; with_reducible exact absurd hx q2) | (intro hx; exact absurd hx (by decide)) | (intro hx; exact absurd (by decide) hx) | decide | intro hx | (refine Exists.intro _ (And.intro rfl ?_)))
          all_goals try first | (with_reducible change am_tI _ _) | (change Ret _ _) | (change Ret _ _ _) | (change Exists _)
          all_goals try dsimp only at *
          all_goals try (with_reducible exact absurd ‹(1000 : Int64) = 0› am_z1000)
          all_goals first | (with_reducible exact h) | (with_reducible exact n0.1) | omega | (with_reducible exact z1.1) | (with_reducible exact z1.2) | (simp only [ea, l201]; omega) | (simp only [ea1, l201]; omega) | (simp only [ea2, l201]; omega) | (simp only [ea3, l201]; omega) | (simp only [ea4, l201]; omega) | (simp only [ea5, l201]; omega) | (show _ < _; simp only [l201]; decide) | exact h | exact n0.1 | exact z1.1 | exact z1.2 | skip
        · skip
          have q2 : am_isNum w v := z2
          by_cases z3 : 0 ≤ f ∧ f < 40
          rotate_left
          · skip
            have q3 : (if 0 ≤ f ∧ f < 40 then (1 : Int32) else 0) = 0 := if_neg z3
            have e : r_act M pl w v f b t = ((-2 : Int32), M) := by unfold r_act; rw [if_pos z0, if_pos z1, if_pos z2, if_neg z3]
            rw [e] at h
            repeat' (first | (with_reducible exact hmn) | (with_reducible exact h) | (with_reducible exact n030) | (with_reducible exact n1) | apply And.intro | exact rfl | (intro hx; with_reducible exact absurd hx q0) | (intro hx; with_reducible exact absurd hx q1) | (intro hx; with_reducible exact absurd q2 hx) | (intro hx; with_reducible exact absurd q3 hx) | (intro hx; exact absurd hx (by decide)) | (intro hx; exact absurd (by decide) hx) | decide | intro hx | (refine Exists.intro _ (And.intro rfl ?_)))
            all_goals try first | (with_reducible change am_tI _ _) | (change Ret _ _) | (change Ret _ _ _) | (change Exists _)
            all_goals try dsimp only at *
            all_goals try (with_reducible exact absurd ‹(1000 : Int64) = 0› am_z1000)
            all_goals first | (with_reducible exact h) | (with_reducible exact n0.1) | omega | (with_reducible exact z1.1) | (with_reducible exact z1.2) | (simp only [ea, l201]; omega) | (simp only [ea1, l201]; omega) | (simp only [ea2, l201]; omega) | (simp only [ea3, l201]; omega) | (simp only [ea4, l201]; omega) | (simp only [ea5, l201]; omega) | (show _ < _; simp only [l201]; decide) | exact h | exact n0.1 | exact z1.1 | exact z1.2 | skip
          · skip
            have q3 : ¬ ((if 0 ≤ f ∧ f < 40 then (1 : Int32) else 0) = 0) := by rw [if_pos z3]; decide
            by_cases z4 : 0 ≤ b ∧ b < 40
            rotate_left
            · skip
              have q4 : (if 0 ≤ b ∧ b < 40 then (1 : Int32) else 0) = 0 := if_neg z4
              have e : r_act M pl w v f b t = ((-2 : Int32), M) := by unfold r_act; rw [if_pos z0, if_pos z1, if_pos z2, if_pos z3, if_neg z4]
              rw [e] at h
              repeat' (first | (with_reducible exact hmn) | (with_reducible exact h) | (with_reducible exact n030) | (with_reducible exact n1) | apply And.intro | exact rfl | (intro hx; with_reducible exact absurd hx q0) | (intro hx; with_reducible exact absurd hx q1) | (intro hx; with_reducible exact absurd hx q3) | (intro hx; with_reducible exact absurd q2 hx) | (intro hx; with_reducible exact absurd q4 hx) | (intro hx; exact absurd hx (by decide)) | (intro hx; exact absurd (by decide) hx) | decide | intro hx | (refine Exists.intro _ (And.intro rfl ?_)))
              all_goals try first | (with_reducible change am_tI _ _) | (change Ret _ _) | (change Ret _ _ _) | (change Exists _)
              all_goals try dsimp only at *
              all_goals try (with_reducible exact absurd ‹(1000 : Int64) = 0› am_z1000)
              all_goals first | (with_reducible exact h) | (with_reducible exact n0.1) | omega | (with_reducible exact z1.1) | (with_reducible exact z1.2) | (simp only [ea, l201]; omega) | (simp only [ea1, l201]; omega) | (simp only [ea2, l201]; omega) | (simp only [ea3, l201]; omega) | (simp only [ea4, l201]; omega) | (simp only [ea5, l201]; omega) | (show _ < _; simp only [l201]; decide) | exact h | exact n0.1 | exact z1.1 | exact z1.2 | skip
            · skip
              have q4 : ¬ ((if 0 ≤ b ∧ b < 40 then (1 : Int32) else 0) = 0) := by rw [if_pos z4]; decide
              by_cases z5 : 0 ≤ t ∧ t < 40
              rotate_left
              · skip
                have q5 : (if 0 ≤ t ∧ t < 40 then (1 : Int32) else 0) = 0 := if_neg z5
                have e : r_act M pl w v f b t = ((-2 : Int32), M) := by unfold r_act; rw [if_pos z0, if_pos z1, if_pos z2, if_pos z3, if_pos z4, if_neg z5]
                rw [e] at h
                repeat' (first | (with_reducible exact hmn) | (with_reducible exact h) | (with_reducible exact n030) | (with_reducible exact n1) | apply And.intro | exact rfl | (intro hx; with_reducible exact absurd hx q0) | (intro hx; with_reducible exact absurd hx q1) | (intro hx; with_reducible exact absurd hx q3) | (intro hx; with_reducible exact absurd hx q4) | (intro hx; with_reducible exact absurd q2 hx) | (intro hx; with_reducible exact absurd q5 hx) | (intro hx; exact absurd hx (by decide)) | (intro hx; exact absurd (by decide) hx) | decide | intro hx | (refine Exists.intro _ (And.intro rfl ?_)))
                all_goals try first | (with_reducible change am_tI _ _) | (change Ret _ _) | (change Ret _ _ _) | (change Exists _)
                all_goals try dsimp only at *
                all_goals try (with_reducible exact absurd ‹(1000 : Int64) = 0› am_z1000)
                all_goals first | (with_reducible exact h) | (with_reducible exact n0.1) | omega | (with_reducible exact z1.1) | (with_reducible exact z1.2) | (simp only [ea, l201]; omega) | (simp only [ea1, l201]; omega) | (simp only [ea2, l201]; omega) | (simp only [ea3, l201]; omega) | (simp only [ea4, l201]; omega) | (simp only [ea5, l201]; omega) | (show _ < _; simp only [l201]; decide) | exact h | exact n0.1 | exact z1.1 | exact z1.2 | skip
              · skip
                have q5 : ¬ ((if 0 ≤ t ∧ t < 40 then (1 : Int32) else 0) = 0) := by rw [if_pos z5]; decide
                by_cases z6 : b ≤ t
                rotate_left
                · skip
                  have y6 : (t : Int32) < b := Int32.not_le.mp z6
                  have e : r_act M pl w v f b t = ((-2 : Int32), M) := by unfold r_act; rw [if_pos z0, if_pos z1, if_pos z2, if_pos z3, if_pos z4, if_pos z5, if_neg z6]
                  rw [e] at h
                  repeat' (first | (with_reducible exact hmn) | (with_reducible exact h) | (with_reducible exact n030) | (with_reducible exact n1) | apply And.intro | exact rfl | (intro hx; with_reducible exact absurd hx q0) | (intro hx; with_reducible exact absurd hx q1) | (intro hx; with_reducible exact absurd hx q3) | (intro hx; with_reducible exact absurd hx q4) | (intro hx; with_reducible exact absurd hx q5) | (intro hx; with_reducible exact absurd hx z6) | (intro hx; with_reducible exact absurd q2 hx) | (intro hx; with_reducible exact absurd y6 hx) | (intro hx; exact absurd hx (by decide)) | (intro hx; exact absurd (by decide) hx) | decide | intro hx | (refine Exists.intro _ (And.intro rfl ?_)))
                  all_goals try first | (with_reducible change am_tI _ _) | (change Ret _ _) | (change Ret _ _ _) | (change Exists _)
                  all_goals try dsimp only at *
                  all_goals try (with_reducible exact absurd ‹(1000 : Int64) = 0› am_z1000)
                  all_goals first | (with_reducible exact h) | (with_reducible exact n0.1) | omega | (with_reducible exact z1.1) | (with_reducible exact z1.2) | (simp only [ea, l201]; omega) | (simp only [ea1, l201]; omega) | (simp only [ea2, l201]; omega) | (simp only [ea3, l201]; omega) | (simp only [ea4, l201]; omega) | (simp only [ea5, l201]; omega) | (show _ < _; simp only [l201]; decide) | exact h | exact n0.1 | exact z1.1 | exact z1.2 | skip
                · skip
                  have y6 : ¬ (t : Int32) < b := Int32.not_lt.mpr z6
                  have nc2 : 0 ≤ (M.1 201 (Int32.toNatClampNeg 2)).toInt ∧ (M.1 201 (Int32.toNatClampNeg 2)).toInt ≤ 60 := hR.n2
                  by_cases z7 : M.1 201 (Int32.toNatClampNeg 2) = 60
                  · skip
                    have e : r_act M pl w v f b t = ((-4 : Int32), M) := by unfold r_act; rw [if_pos z0, if_pos z1, if_pos z2, if_pos z3, if_pos z4, if_pos z5, if_pos z6, if_pos z7]
                    rw [e] at h
                    repeat' (first | (with_reducible exact hmn) | (with_reducible exact h) | (with_reducible exact n030) | (with_reducible exact n1) | apply And.intro | exact rfl | (intro hx; with_reducible exact absurd hx q0) | (intro hx; with_reducible exact absurd hx q1) | (intro hx; with_reducible exact absurd hx q3) | (intro hx; with_reducible exact absurd hx q4) | (intro hx; with_reducible exact absurd hx q5) | (intro hx; with_reducible exact absurd hx y6) | (intro hx; with_reducible exact absurd q2 hx) | (intro hx; with_reducible exact absurd z6 hx) | (intro hx; with_reducible exact absurd z7 hx) | (intro hx; exact absurd hx (by decide)) | (intro hx; exact absurd (by decide) hx) | decide | intro hx | (refine Exists.intro _ (And.intro rfl ?_)))
                    all_goals try first | (with_reducible change am_tI _ _) | (change Ret _ _) | (change Ret _ _ _) | (change Exists _)
                    all_goals try dsimp only at *
                    all_goals try (with_reducible exact absurd ‹(1000 : Int64) = 0› am_z1000)
                    all_goals first | (with_reducible exact h) | (with_reducible exact n0.1) | omega | (with_reducible exact z1.1) | (with_reducible exact z1.2) | (simp only [ea, l201]; omega) | (simp only [ea1, l201]; omega) | (simp only [ea2, l201]; omega) | (simp only [ea3, l201]; omega) | (simp only [ea4, l201]; omega) | (simp only [ea5, l201]; omega) | (show _ < _; simp only [l201]; decide) | exact h | exact n0.1 | exact z1.1 | exact z1.2 | skip
                  · skip
                    have zb : (M.1 201 (Int32.toNatClampNeg 2)).toInt < 60 := by have q := z7; simp only [i_eq, Int32.reduceToInt] at q; omega
                    have e6 := r_mul (c := 6) (x := M.1 201 (Int32.toNatClampNeg 2)) ⟨by decide, by decide⟩ ⟨by omega, by omega⟩
                    simp only [Int32.reduceToInt] at e6
                    have ea := r_off (c := 2478) (x := 6 * M.1 201 (Int32.toNatClampNeg 2)) ⟨by decide, by decide⟩ ⟨by omega, by omega⟩
                    simp only [e6, Int32.reduceToInt] at ea
                    have ea1 := r_off (c := 2478 + 6 * M.1 201 (Int32.toNatClampNeg 2)) (x := 1) ⟨by omega, by omega⟩ ⟨by decide, by decide⟩
                    simp only [ea, Int32.reduceToInt] at ea1
                    have ea2 := r_off (c := 2478 + 6 * M.1 201 (Int32.toNatClampNeg 2)) (x := 2) ⟨by omega, by omega⟩ ⟨by decide, by decide⟩
                    simp only [ea, Int32.reduceToInt] at ea2
                    have ea3 := r_off (c := 2478 + 6 * M.1 201 (Int32.toNatClampNeg 2)) (x := 3) ⟨by omega, by omega⟩ ⟨by decide, by decide⟩
                    simp only [ea, Int32.reduceToInt] at ea3
                    have ea4 := r_off (c := 2478 + 6 * M.1 201 (Int32.toNatClampNeg 2)) (x := 4) ⟨by omega, by omega⟩ ⟨by decide, by decide⟩
                    simp only [ea, Int32.reduceToInt] at ea4
                    have ea5 := r_off (c := 2478 + 6 * M.1 201 (Int32.toNatClampNeg 2)) (x := 5) ⟨by omega, by omega⟩ ⟨by decide, by decide⟩
                    simp only [ea, Int32.reduceToInt] at ea5
                    have e : r_act M pl w v f b t = ((fun a : Int32 => (fun M1 : am_M => (fun M2 : am_M => (M2.1 201 (Int32.toNatClampNeg 2) - 1, M2)) (am_wI M1 201 (Int32.toNatClampNeg 2) (M1.1 201 (Int32.toNatClampNeg 2) + 1))) (am_wI (am_wI (am_wI (am_wI (am_wI (am_wI M 201 a.toNatClampNeg pl) 201 (a + 1).toNatClampNeg w) 201 (a + 2).toNatClampNeg v) 201 (a + 3).toNatClampNeg f) 201 (a + 4).toNatClampNeg b) 201 (a + 5).toNatClampNeg t)) (2478 + 6 * M.1 201 (Int32.toNatClampNeg 2))) := by unfold r_act; rw [if_pos z0, if_pos z1, if_pos z2, if_pos z3, if_pos z4, if_pos z5, if_pos z6, if_neg z7]
                    rw [e] at h
                    repeat' (first | (with_reducible exact hmn) | (with_reducible exact n030) | (with_reducible exact n1) | apply And.intro | exact rfl | (intro hx; with_reducible exact absurd hx q0) | (intro hx; with_reducible exact absurd hx q1) | (intro hx; with_reducible exact absurd hx q3) | (intro hx; with_reducible exact absurd hx q4) | (intro hx; with_reducible exact absurd hx q5) | (intro hx; with_reducible exact absurd hx y6) | (intro hx; with_reducible exact absurd hx z7) | (intro hx; with_reducible exact absurd q2 hx) | (intro hx; with_reducible exact absurd z6 hx) | (intro hx; exact absurd hx (by decide)) | (intro hx; exact absurd (by decide) hx) | decide | intro hx | (refine Exists.intro _ (And.intro rfl ?_)))
                    all_goals try first | (with_reducible change am_tI _ _) | (change Ret _ _) | (change Ret _ _ _) | (change Exists _)
                    all_goals try dsimp only at *
                    all_goals try (with_reducible exact absurd ‹(1000 : Int64) = 0› am_z1000)
                    all_goals first | (with_reducible exact h) | (with_reducible exact n0.1) | omega | (with_reducible exact z1.1) | (with_reducible exact z1.2) | (simp only [ea, l201]; omega) | (simp only [ea1, l201]; omega) | (simp only [ea2, l201]; omega) | (simp only [ea3, l201]; omega) | (simp only [ea4, l201]; omega) | (simp only [ea5, l201]; omega) | (show _ < _; simp only [l201]; decide) | exact h | exact n0.1 | exact z1.1 | exact z1.2 | skip
  · exact h.elim
def rwX8_loan : List dz_r := [(0, .aload_n 0, 1), (1, .iload_n 1, 1), (2, .invokevirtual 76, 3), (5, .ifCond .eq 30, 3), (8, .iload_n 2, 1), (9, .invokestatic 104, 3), (12, .ifCond .eq 23, 3), (15, .iload_n 3, 1), (16, .invokestatic 72, 3), (19, .ifCond .eq 16, 3), (22, .iload 4, 2), (24, .i2l, 1), (25, .lconst 1, 1), (26, .ldc2_w 87, 3), (29, .invokestatic 66, 3), (32, .ifCond .ne 6, 3), (35, .bipush (-2), 2), (37, .ireturn, 1), (38, .aload_n 0, 1), (39, .getfield 7, 3), (42, .iconst 1, 1), (43, .iaload, 1), (44, .bipush 30, 2), (46, .if_icmp .ne 6, 3), (49, .bipush (-4), 2), (51, .ireturn, 1), (52, .sipush 2838, 3), (55, .bipush 8, 2), (57, .aload_n 0, 1), (58, .getfield 7, 3), (61, .iconst 1, 1), (62, .iaload, 1), (63, .imul, 1), (64, .iadd, 1), (65, .istore 6, 2), (67, .aload_n 0, 1), (68, .getfield 7, 3), (71, .iload 6, 2), (73, .iload_n 1, 1), (74, .iastore, 1), (75, .aload_n 0, 1), (76, .getfield 7, 3), (79, .iload 6, 2), (81, .iconst 1, 1), (82, .iadd, 1), (83, .iload_n 2, 1), (84, .iastore, 1), (85, .aload_n 0, 1), (86, .getfield 7, 3), (89, .iload 6, 2), (91, .iconst 2, 1), (92, .iadd, 1), (93, .iload_n 3, 1), (94, .iastore, 1), (95, .aload_n 0, 1), (96, .getfield 7, 3), (99, .iload 6, 2), (101, .iconst 3, 1), (102, .iadd, 1), (103, .iload 4, 2), (105, .iastore, 1), (106, .aload_n 0, 1), (107, .getfield 7, 3), (110, .iload 6, 2), (112, .iconst 4, 1), (113, .iadd, 1), (114, .iload 5, 2), (116, .ifCond .eq 7, 3), (119, .iconst 1, 1), (120, .goto 4, 3), (123, .iconst 0, 1), (124, .iastore, 1), (125, .aload_n 0, 1), (126, .getfield 7, 3), (129, .iload 6, 2), (131, .iconst 5, 1), (132, .iadd, 1), (133, .iconst (-1), 1), (134, .iastore, 1), (135, .aload_n 0, 1), (136, .getfield 7, 3), (139, .iload 6, 2), (141, .bipush 6, 2), (143, .iadd, 1), (144, .iconst (-1), 1), (145, .iastore, 1), (146, .aload_n 0, 1), (147, .getfield 7, 3), (150, .iload 6, 2), (152, .bipush 7, 2), (154, .iadd, 1), (155, .iconst (-1), 1), (156, .iastore, 1), (157, .aload_n 0, 1), (158, .getfield 7, 3), (161, .iconst 1, 1), (162, .dup2, 1), (163, .iaload, 1), (164, .iconst 1, 1), (165, .iadd, 1), (166, .iastore, 1), (167, .aload_n 0, 1), (168, .getfield 7, 3), (171, .iconst 1, 1), (172, .iaload, 1), (173, .iconst 1, 1), (174, .isub, 1), (175, .ireturn, 1)]
theorem dzX8_loan : dz cX8_loan rwX8_loan := dz_all 0 (by decide +kernel)
def kX8_loan (live : am_E) (Ret : am_R) : am_code := [(0, am_aload 0 1), (1, am_iload 1 2), (2, am_callV live 8 1 TX8_isPerson 5), (5, am_if1 (fun x => x = 0) 35 8), (8, am_iload 2 9), (9, am_callS live 1 TX8_isPlan 12), (12, am_if1 (fun x => x = 0) 35 15), (15, am_iload 3 16), (16, am_callS live 1 TX8_isYear 19), (19, am_if1 (fun x => x = 0) 35 22), (22, am_iload 4 24), (24, am_i2l 25), (25, am_const (.long 1) 26), (26, am_const (.long 10000000) 29), (29, am_callS live 3 TX8_in 32), (32, am_if1 (fun x => x = 0) 35 38), (35, am_const (.int (-2)) 37), (37, am_retI Ret), (38, am_aload 0 39), (39, am_getR live 8 0 42), (42, am_const (.int 1) 43), (43, am_ald live 0 44), (44, am_const (.int 30) 46), (46, am_if2 (fun x y => x = y) 49 52), (49, am_const (.int (-4)) 51), (51, am_retI Ret), (52, am_const (.int 2838) 55), (55, am_const (.int 8) 57), (57, am_aload 0 58), (58, am_getR live 8 0 61), (61, am_const (.int 1) 62), (62, am_ald live 0 63), (63, am_i2 (fun x y => x * y) 64), (64, am_i2 (fun x y => x + y) 65), (65, am_istore 6 7 67), (67, am_aload 0 68), (68, am_getR live 8 0 71), (71, am_iload 6 73), (73, am_iload 1 74), (74, am_ast live 0 75), (75, am_aload 0 76), (76, am_getR live 8 0 79), (79, am_iload 6 81), (81, am_const (.int 1) 82), (82, am_i2 (fun x y => x + y) 83), (83, am_iload 2 84), (84, am_ast live 0 85), (85, am_aload 0 86), (86, am_getR live 8 0 89), (89, am_iload 6 91), (91, am_const (.int 2) 92), (92, am_i2 (fun x y => x + y) 93), (93, am_iload 3 94), (94, am_ast live 0 95), (95, am_aload 0 96), (96, am_getR live 8 0 99), (99, am_iload 6 101), (101, am_const (.int 3) 102), (102, am_i2 (fun x y => x + y) 103), (103, am_iload 4 105), (105, am_ast live 0 106), (106, am_aload 0 107), (107, am_getR live 8 0 110), (110, am_iload 6 112), (112, am_const (.int 4) 113), (113, am_i2 (fun x y => x + y) 114), (114, am_iload 5 116), (116, am_if1 (fun x => x = 0) 123 119), (119, am_const (.int 1) 120), (120, am_goto 124), (123, am_const (.int 0) 124), (124, am_ast live 0 125), (125, am_aload 0 126), (126, am_getR live 8 0 129), (129, am_iload 6 131), (131, am_const (.int 5) 132), (132, am_i2 (fun x y => x + y) 133), (133, am_const (.int (-1)) 134), (134, am_ast live 0 135), (135, am_aload 0 136), (136, am_getR live 8 0 139), (139, am_iload 6 141), (141, am_const (.int 6) 143), (143, am_i2 (fun x y => x + y) 144), (144, am_const (.int (-1)) 145), (145, am_ast live 0 146), (146, am_aload 0 147), (147, am_getR live 8 0 150), (150, am_iload 6 152), (152, am_const (.int 7) 154), (154, am_i2 (fun x y => x + y) 155), (155, am_const (.int (-1)) 156), (156, am_ast live 0 157), (157, am_aload 0 158), (158, am_getR live 8 0 161), (161, am_const (.int 1) 162), (162, am_dup2 163), (163, am_ald live 0 164), (164, am_const (.int 1) 165), (165, am_i2 (fun x y => x + y) 166), (166, am_ast live 0 167), (167, am_aload 0 168), (168, am_getR live 8 0 171), (171, am_const (.int 1) 172), (172, am_ald live 0 173), (173, am_const (.int 1) 174), (174, am_i2 (fun x y => x - y) 175), (175, am_retI Ret)]
theorem koX8_loan (live : am_E) (Ret : am_R) : ∀ q ∈ kX8_loan live Ret, am_ok RX8 cX8_loan 7 (some .int) 2 46 live Ret q.1 q.2 :=
  am_kz dzX8_loan <|
  am_kd (fun d => ak_aload_n d rfl rfl) <|
  am_kd (fun d => ak_iload_n d rfl rfl) <|
  am_kd (fun d => ak_callV (C := RX8) (F := TX8) (N := 27) metX8_isPerson rfl ⟨rfl, hy_X8_isPerson⟩ (am_w5 wd_993 wd_995 wd_27 wd_67 wd_996) (by decide) d rfl) <|
  am_kd (fun d => ak_if_eq d (by decide +kernel) rfl) <|
  am_kd (fun d => ak_iload_n d rfl rfl) <|
  am_kd (fun d => ak_callS metX8_isPlan ⟨rfl, hy_X8_isPlan⟩ (am_w4 wd_1034 wd_1035 wd_67 wd_1036) (by decide) d rfl) <|
  am_kd (fun d => ak_if_eq d (by decide +kernel) rfl) <|
  am_kd (fun d => ak_iload_n d rfl rfl) <|
  am_kd (fun d => ak_callS metX8_isYear ⟨rfl, hy_X8_isYear⟩ (am_w4 wd_982 wd_983 wd_67 wd_984) (by decide) d rfl) <|
  am_kd (fun d => ak_if_eq d (by decide +kernel) rfl) <|
  am_kd (fun d => ak_iload d rfl) <|
  am_kd (fun d => ak_i2l d rfl) <|
  am_kd (fun d => ak_lconst d (by decide +kernel) rfl) <|
  am_kd (fun d => ak_ldc2 wd_1017 d rfl) <|
  am_kd (fun d => ak_callS metX8_in ⟨rfl, hy_X8_in⟩ (am_w4 wd_986 wd_987 wd_67 wd_988) (by decide) d rfl) <|
  am_kd (fun d => ak_if_ne d (by decide +kernel) rfl) <|
  am_kd (fun d => ak_bipush d (by decide +kernel) rfl) <|
  am_kd (fun d => ak_retI d) <|
  am_kd (fun d => ak_aload_n d rfl rfl) <|
  am_kd (fun d => ak_getR (C := RX8) (T := TX8) (N := 27) rfl inX8w (by decide) rfl rfl rfl wd_895 d rfl) <|
  am_kd (fun d => ak_iconst d (by decide +kernel) rfl) <|
  am_kd (fun d => ak_iald (t := 0) (fun _ => rfl) rfl d rfl) <|
  am_kd (fun d => ak_bipush d (by decide +kernel) rfl) <|
  am_kd (fun d => ak_icmp_ne d (by decide +kernel) rfl) <|
  am_kd (fun d => ak_bipush d (by decide +kernel) rfl) <|
  am_kd (fun d => ak_retI d) <|
  am_kd (fun d => ak_sipush d (by decide +kernel) rfl) <|
  am_kd (fun d => ak_bipush d (by decide +kernel) rfl) <|
  am_kd (fun d => ak_aload_n d rfl rfl) <|
  am_kd (fun d => ak_getR (C := RX8) (T := TX8) (N := 27) rfl inX8w (by decide) rfl rfl rfl wd_895 d rfl) <|
  am_kd (fun d => ak_iconst d (by decide +kernel) rfl) <|
  am_kd (fun d => ak_iald (t := 0) (fun _ => rfl) rfl d rfl) <|
  am_kd (fun d => ak_imul d rfl) <|
  am_kd (fun d => ak_iadd d rfl) <|
  am_kd (fun d => ak_istore d rfl) <|
  am_kd (fun d => ak_aload_n d rfl rfl) <|
  am_kd (fun d => ak_getR (C := RX8) (T := TX8) (N := 27) rfl inX8w (by decide) rfl rfl rfl wd_895 d rfl) <|
  am_kd (fun d => ak_iload d rfl) <|
  am_kd (fun d => ak_iload_n d rfl rfl) <|
  am_kd (fun d => ak_iast (t := 0) (fun _ => rfl) rfl d rfl) <|
  am_kd (fun d => ak_aload_n d rfl rfl) <|
  am_kd (fun d => ak_getR (C := RX8) (T := TX8) (N := 27) rfl inX8w (by decide) rfl rfl rfl wd_895 d rfl) <|
  am_kd (fun d => ak_iload d rfl) <|
  am_kd (fun d => ak_iconst d (by decide +kernel) rfl) <|
  am_kd (fun d => ak_iadd d rfl) <|
  am_kd (fun d => ak_iload_n d rfl rfl) <|
  am_kd (fun d => ak_iast (t := 0) (fun _ => rfl) rfl d rfl) <|
  am_kd (fun d => ak_aload_n d rfl rfl) <|
  am_kd (fun d => ak_getR (C := RX8) (T := TX8) (N := 27) rfl inX8w (by decide) rfl rfl rfl wd_895 d rfl) <|
  am_kd (fun d => ak_iload d rfl) <|
  am_kd (fun d => ak_iconst d (by decide +kernel) rfl) <|
  am_kd (fun d => ak_iadd d rfl) <|
  am_kd (fun d => ak_iload_n d rfl rfl) <|
  am_kd (fun d => ak_iast (t := 0) (fun _ => rfl) rfl d rfl) <|
  am_kd (fun d => ak_aload_n d rfl rfl) <|
  am_kd (fun d => ak_getR (C := RX8) (T := TX8) (N := 27) rfl inX8w (by decide) rfl rfl rfl wd_895 d rfl) <|
  am_kd (fun d => ak_iload d rfl) <|
  am_kd (fun d => ak_iconst d (by decide +kernel) rfl) <|
  am_kd (fun d => ak_iadd d rfl) <|
  am_kd (fun d => ak_iload d rfl) <|
  am_kd (fun d => ak_iast (t := 0) (fun _ => rfl) rfl d rfl) <|
  am_kd (fun d => ak_aload_n d rfl rfl) <|
  am_kd (fun d => ak_getR (C := RX8) (T := TX8) (N := 27) rfl inX8w (by decide) rfl rfl rfl wd_895 d rfl) <|
  am_kd (fun d => ak_iload d rfl) <|
  am_kd (fun d => ak_iconst d (by decide +kernel) rfl) <|
  am_kd (fun d => ak_iadd d rfl) <|
  am_kd (fun d => ak_iload d rfl) <|
  am_kd (fun d => ak_if_eq d (by decide +kernel) rfl) <|
  am_kd (fun d => ak_iconst d (by decide +kernel) rfl) <|
  am_kd (fun d => ak_goto d (by decide +kernel)) <|
  am_kd (fun d => ak_iconst d (by decide +kernel) rfl) <|
  am_kd (fun d => ak_iast (t := 0) (fun _ => rfl) rfl d rfl) <|
  am_kd (fun d => ak_aload_n d rfl rfl) <|
  am_kd (fun d => ak_getR (C := RX8) (T := TX8) (N := 27) rfl inX8w (by decide) rfl rfl rfl wd_895 d rfl) <|
  am_kd (fun d => ak_iload d rfl) <|
  am_kd (fun d => ak_iconst d (by decide +kernel) rfl) <|
  am_kd (fun d => ak_iadd d rfl) <|
  am_kd (fun d => ak_iconst d (by decide +kernel) rfl) <|
  am_kd (fun d => ak_iast (t := 0) (fun _ => rfl) rfl d rfl) <|
  am_kd (fun d => ak_aload_n d rfl rfl) <|
  am_kd (fun d => ak_getR (C := RX8) (T := TX8) (N := 27) rfl inX8w (by decide) rfl rfl rfl wd_895 d rfl) <|
  am_kd (fun d => ak_iload d rfl) <|
  am_kd (fun d => ak_bipush d (by decide +kernel) rfl) <|
  am_kd (fun d => ak_iadd d rfl) <|
  am_kd (fun d => ak_iconst d (by decide +kernel) rfl) <|
  am_kd (fun d => ak_iast (t := 0) (fun _ => rfl) rfl d rfl) <|
  am_kd (fun d => ak_aload_n d rfl rfl) <|
  am_kd (fun d => ak_getR (C := RX8) (T := TX8) (N := 27) rfl inX8w (by decide) rfl rfl rfl wd_895 d rfl) <|
  am_kd (fun d => ak_iload d rfl) <|
  am_kd (fun d => ak_bipush d (by decide +kernel) rfl) <|
  am_kd (fun d => ak_iadd d rfl) <|
  am_kd (fun d => ak_iconst d (by decide +kernel) rfl) <|
  am_kd (fun d => ak_iast (t := 0) (fun _ => rfl) rfl d rfl) <|
  am_kd (fun d => ak_aload_n d rfl rfl) <|
  am_kd (fun d => ak_getR (C := RX8) (T := TX8) (N := 27) rfl inX8w (by decide) rfl rfl rfl wd_895 d rfl) <|
  am_kd (fun d => ak_iconst d (by decide +kernel) rfl) <|
  am_kd (fun d => ak_dup2 d rfl) <|
  am_kd (fun d => ak_iald (t := 0) (fun _ => rfl) rfl d rfl) <|
  am_kd (fun d => ak_iconst d (by decide +kernel) rfl) <|
  am_kd (fun d => ak_iadd d rfl) <|
  am_kd (fun d => ak_iast (t := 0) (fun _ => rfl) rfl d rfl) <|
  am_kd (fun d => ak_aload_n d rfl rfl) <|
  am_kd (fun d => ak_getR (C := RX8) (T := TX8) (N := 27) rfl inX8w (by decide) rfl rfl rfl wd_895 d rfl) <|
  am_kd (fun d => ak_iconst d (by decide +kernel) rfl) <|
  am_kd (fun d => ak_iald (t := 0) (fun _ => rfl) rfl d rfl) <|
  am_kd (fun d => ak_iconst d (by decide +kernel) rfl) <|
  am_kd (fun d => ak_isub d rfl) <|
  am_kd (fun d => ak_retI d) <| am_kdn
def r_loan (M : am_M) (p pl y s fe : Int32) : Int32 × am_M := if 0 ≤ p ∧ p < M.1 201 0 then (if 0 ≤ pl ∧ pl < 5 then (if 0 ≤ y ∧ y < 40 then (if 1 ≤ s ∧ s ≤ 10000000 then (if M.1 201 (Int32.toNatClampNeg 1) = 30 then ((-4 : Int32), M) else ((fun a : Int32 => (fun M1 : am_M => (fun M2 : am_M => (M2.1 201 (Int32.toNatClampNeg 1) - 1, M2)) (am_wI M1 201 (Int32.toNatClampNeg 1) (M1.1 201 (Int32.toNatClampNeg 1) + 1))) (am_wI (am_wI (am_wI (am_wI (am_wI (am_wI (am_wI (am_wI M 201 a.toNatClampNeg p) 201 (a + 1).toNatClampNeg pl) 201 (a + 2).toNatClampNeg y) 201 (a + 3).toNatClampNeg s) 201 (a + 4).toNatClampNeg fe) 201 (a + 5).toNatClampNeg (-1)) 201 (a + 6).toNatClampNeg (-1)) 201 (a + 7).toNatClampNeg (-1))) (2838 + 8 * M.1 201 (Int32.toNatClampNeg 1)))) else ((-2 : Int32), M)) else ((-2 : Int32), M)) else ((-2 : Int32), M)) else ((-2 : Int32), M)
def TX8_loan : am_T := fun live as M R => match as with
  | [.ref n, .int p, .int pl, .int y, .int s, .int fe] => am_mn live ∧ n = 200 ∧ r_I M ∧ (fe = 0 ∨ fe = 1) ∧ R (some (.int (r_loan M p pl y s fe).1)) (r_loan M p pl y s fe).2
  | _ => False
set_option maxRecDepth 100000 in
set_option maxHeartbeats 4000000 in
theorem metX8_loan : am_Met yX8_loan cX8_loan 7 (some .int) (2) (46) TX8_loan := by
  refine am_met (own := RX8) (by decide +kernel) rfl kX8_loan koX8_loan 200 (fun _ _ _ _ _ => none) (fun live as M Ret h => ?_) (fun _ _ _ _ _ _ _ _ hI => by cases hI)
  unfold TX8_loan at h
  split at h
  · next n p pl y s fe =>
    refine ⟨Nat.le_of_ble_eq_true rfl, ?_⟩
    change am_wp _ _ _ _ [(0, Value.ref n), (1, Value.int p), (2, Value.int pl), (3, Value.int y), (4, Value.int s), (5, Value.int fe)] _ _
    obtain ⟨hmn, rfl, hR, hfe, h⟩ := h
    have hmn2 := hmn
    obtain ⟨i1, i2, rfl⟩ := hmn2
    have l201 : am_len 201 = 3760 := rfl
    have n0 := hR.n0
    have n1 := hR.n1
    have n030 : 0 ≤ (M.1 201 0).toInt ∧ (M.1 201 0).toInt ≤ 30 := ⟨n0.1, by omega⟩
    by_cases z0 : 0 ≤ p ∧ p < M.1 201 0
    rotate_left
    · skip
      have q0 : (if 0 ≤ p ∧ p < M.1 201 0 then (1 : Int32) else 0) = 0 := if_neg z0
      have e : r_loan M p pl y s fe = ((-2 : Int32), M) := by unfold r_loan; rw [if_neg z0]
      rw [e] at h
      repeat' (first | (with_reducible exact hmn) | (with_reducible exact h) | (with_reducible exact n030) | (with_reducible exact n1) | apply And.intro | exact rfl | (intro hx; with_reducible exact absurd q0 hx) | (intro hx; exact absurd hx (by decide)) | (intro hx; exact absurd (by decide) hx) | decide | intro hx | (refine Exists.intro _ (And.intro rfl ?_)))
      all_goals try first | (with_reducible change am_tI _ _) | (change Ret _ _) | (change Ret _ _ _) | (change Exists _)
      all_goals try dsimp only at *
      all_goals try (with_reducible exact absurd ‹(1000 : Int64) = 0› am_z1000)
      all_goals first | (with_reducible exact h) | (with_reducible exact n0.1) | omega | (simp only [ea, l201]; omega) | (simp only [ea1, l201]; omega) | (simp only [ea2, l201]; omega) | (simp only [ea3, l201]; omega) | (simp only [ea4, l201]; omega) | (simp only [ea5, l201]; omega) | (simp only [ea6, l201]; omega) | (simp only [ea7, l201]; omega) | (show _ < _; simp only [l201]; decide) | exact h | exact n0.1 | skip
    · skip
      have q0 : ¬ ((if 0 ≤ p ∧ p < M.1 201 0 then (1 : Int32) else 0) = 0) := by rw [if_pos z0]; decide
      by_cases z1 : 0 ≤ pl ∧ pl < 5
      rotate_left
      · skip
        have q1 : (if 0 ≤ pl ∧ pl < 5 then (1 : Int32) else 0) = 0 := if_neg z1
        have e : r_loan M p pl y s fe = ((-2 : Int32), M) := by unfold r_loan; rw [if_pos z0, if_neg z1]
        rw [e] at h
        repeat' (first | (with_reducible exact hmn) | (with_reducible exact h) | (with_reducible exact n030) | (with_reducible exact n1) | apply And.intro | exact rfl | (intro hx; with_reducible exact absurd hx q0) | (intro hx; with_reducible exact absurd q1 hx) | (intro hx; exact absurd hx (by decide)) | (intro hx; exact absurd (by decide) hx) | decide | intro hx | (refine Exists.intro _ (And.intro rfl ?_)))
        all_goals try first | (with_reducible change am_tI _ _) | (change Ret _ _) | (change Ret _ _ _) | (change Exists _)
        all_goals try dsimp only at *
        all_goals try (with_reducible exact absurd ‹(1000 : Int64) = 0› am_z1000)
        all_goals first | (with_reducible exact h) | (with_reducible exact n0.1) | omega | (simp only [ea, l201]; omega) | (simp only [ea1, l201]; omega) | (simp only [ea2, l201]; omega) | (simp only [ea3, l201]; omega) | (simp only [ea4, l201]; omega) | (simp only [ea5, l201]; omega) | (simp only [ea6, l201]; omega) | (simp only [ea7, l201]; omega) | (show _ < _; simp only [l201]; decide) | exact h | exact n0.1 | skip
      · skip
        have q1 : ¬ ((if 0 ≤ pl ∧ pl < 5 then (1 : Int32) else 0) = 0) := by rw [if_pos z1]; decide
        by_cases z2 : 0 ≤ y ∧ y < 40
        rotate_left
        · skip
          have q2 : (if 0 ≤ y ∧ y < 40 then (1 : Int32) else 0) = 0 := if_neg z2
          have e : r_loan M p pl y s fe = ((-2 : Int32), M) := by unfold r_loan; rw [if_pos z0, if_pos z1, if_neg z2]
          rw [e] at h
          repeat' (first | (with_reducible exact hmn) | (with_reducible exact h) | (with_reducible exact n030) | (with_reducible exact n1) | apply And.intro | exact rfl | (intro hx; with_reducible exact absurd hx q0) | (intro hx; with_reducible exact absurd hx q1) | (intro hx; with_reducible exact absurd q2 hx) | (intro hx; exact absurd hx (by decide)) | (intro hx; exact absurd (by decide) hx) | decide | intro hx | (refine Exists.intro _ (And.intro rfl ?_)))
          all_goals try first | (with_reducible change am_tI _ _) | (change Ret _ _) | (change Ret _ _ _) | (change Exists _)
          all_goals try dsimp only at *
          all_goals try (with_reducible exact absurd ‹(1000 : Int64) = 0› am_z1000)
          all_goals first | (with_reducible exact h) | (with_reducible exact n0.1) | omega | (simp only [ea, l201]; omega) | (simp only [ea1, l201]; omega) | (simp only [ea2, l201]; omega) | (simp only [ea3, l201]; omega) | (simp only [ea4, l201]; omega) | (simp only [ea5, l201]; omega) | (simp only [ea6, l201]; omega) | (simp only [ea7, l201]; omega) | (show _ < _; simp only [l201]; decide) | exact h | exact n0.1 | skip
        · skip
          have q2 : ¬ ((if 0 ≤ y ∧ y < 40 then (1 : Int32) else 0) = 0) := by rw [if_pos z2]; decide
          by_cases z3 : 1 ≤ s ∧ s ≤ 10000000
          rotate_left
          · skip
            have q3 : (if (1 : Int64) ≤ s.toInt64 ∧ s.toInt64 ≤ (10000000 : Int64) then (1 : Int32) else 0) = 0 := if_neg (fun r => z3 (by simp only [i_le, i_lt, j_le, Int32.toInt_toInt64, Int32.reduceToInt, Int64.reduceToInt] at r ⊢; omega))
            have e : r_loan M p pl y s fe = ((-2 : Int32), M) := by unfold r_loan; rw [if_pos z0, if_pos z1, if_pos z2, if_neg z3]
            rw [e] at h
            repeat' (first | (with_reducible exact hmn) | (with_reducible exact h) | (with_reducible exact n030) | (with_reducible exact n1) | apply And.intro | exact rfl | (intro hx; with_reducible exact absurd hx q0) | (intro hx; with_reducible exact absurd hx q1) | (intro hx; with_reducible exact absurd hx q2) | (intro hx; with_reducible exact absurd q3 hx) | (intro hx; exact absurd hx (by decide)) | (intro hx; exact absurd (by decide) hx) | decide | intro hx | (refine Exists.intro _ (And.intro rfl ?_)))
            all_goals try first | (with_reducible change am_tI _ _) | (change Ret _ _) | (change Ret _ _ _) | (change Exists _)
            all_goals try dsimp only at *
            all_goals try (with_reducible exact absurd ‹(1000 : Int64) = 0› am_z1000)
            all_goals first | (with_reducible exact h) | (with_reducible exact n0.1) | omega | (simp only [ea, l201]; omega) | (simp only [ea1, l201]; omega) | (simp only [ea2, l201]; omega) | (simp only [ea3, l201]; omega) | (simp only [ea4, l201]; omega) | (simp only [ea5, l201]; omega) | (simp only [ea6, l201]; omega) | (simp only [ea7, l201]; omega) | (show _ < _; simp only [l201]; decide) | exact h | exact n0.1 | skip
          · skip
            have q3 : ¬ ((if (1 : Int64) ≤ s.toInt64 ∧ s.toInt64 ≤ (10000000 : Int64) then (1 : Int32) else 0) = 0) := by rw [if_pos (by have q := z3; simp only [i_le, i_lt, j_le, Int32.toInt_toInt64, Int32.reduceToInt, Int64.reduceToInt] at q ⊢; omega)]; decide
            have nc1 : 0 ≤ (M.1 201 (Int32.toNatClampNeg 1)).toInt ∧ (M.1 201 (Int32.toNatClampNeg 1)).toInt ≤ 30 := hR.n1
            by_cases z4 : M.1 201 (Int32.toNatClampNeg 1) = 30
            · skip
              have e : r_loan M p pl y s fe = ((-4 : Int32), M) := by unfold r_loan; rw [if_pos z0, if_pos z1, if_pos z2, if_pos z3, if_pos z4]
              rw [e] at h
              repeat' (first | (with_reducible exact hmn) | (with_reducible exact h) | (with_reducible exact n030) | (with_reducible exact n1) | apply And.intro | exact rfl | (intro hx; with_reducible exact absurd hx q0) | (intro hx; with_reducible exact absurd hx q1) | (intro hx; with_reducible exact absurd hx q2) | (intro hx; with_reducible exact absurd hx q3) | (intro hx; with_reducible exact absurd z4 hx) | (intro hx; exact absurd hx (by decide)) | (intro hx; exact absurd (by decide) hx) | decide | intro hx | (refine Exists.intro _ (And.intro rfl ?_)))
              all_goals try first | (with_reducible change am_tI _ _) | (change Ret _ _) | (change Ret _ _ _) | (change Exists _)
              all_goals try dsimp only at *
              all_goals try (with_reducible exact absurd ‹(1000 : Int64) = 0› am_z1000)
              all_goals first | (with_reducible exact h) | (with_reducible exact n0.1) | omega | (simp only [ea, l201]; omega) | (simp only [ea1, l201]; omega) | (simp only [ea2, l201]; omega) | (simp only [ea3, l201]; omega) | (simp only [ea4, l201]; omega) | (simp only [ea5, l201]; omega) | (simp only [ea6, l201]; omega) | (simp only [ea7, l201]; omega) | (show _ < _; simp only [l201]; decide) | exact h | exact n0.1 | skip
            · skip
              have zb : (M.1 201 (Int32.toNatClampNeg 1)).toInt < 30 := by have q := z4; simp only [i_eq, Int32.reduceToInt] at q; omega
              have e6 := r_mul (c := 8) (x := M.1 201 (Int32.toNatClampNeg 1)) ⟨by decide, by decide⟩ ⟨by omega, by omega⟩
              simp only [Int32.reduceToInt] at e6
              have ea := r_off (c := 2838) (x := 8 * M.1 201 (Int32.toNatClampNeg 1)) ⟨by decide, by decide⟩ ⟨by omega, by omega⟩
              simp only [e6, Int32.reduceToInt] at ea
              have ea1 := r_off (c := 2838 + 8 * M.1 201 (Int32.toNatClampNeg 1)) (x := 1) ⟨by omega, by omega⟩ ⟨by decide, by decide⟩
              simp only [ea, Int32.reduceToInt] at ea1
              have ea2 := r_off (c := 2838 + 8 * M.1 201 (Int32.toNatClampNeg 1)) (x := 2) ⟨by omega, by omega⟩ ⟨by decide, by decide⟩
              simp only [ea, Int32.reduceToInt] at ea2
              have ea3 := r_off (c := 2838 + 8 * M.1 201 (Int32.toNatClampNeg 1)) (x := 3) ⟨by omega, by omega⟩ ⟨by decide, by decide⟩
              simp only [ea, Int32.reduceToInt] at ea3
              have ea4 := r_off (c := 2838 + 8 * M.1 201 (Int32.toNatClampNeg 1)) (x := 4) ⟨by omega, by omega⟩ ⟨by decide, by decide⟩
              simp only [ea, Int32.reduceToInt] at ea4
              have ea5 := r_off (c := 2838 + 8 * M.1 201 (Int32.toNatClampNeg 1)) (x := 5) ⟨by omega, by omega⟩ ⟨by decide, by decide⟩
              simp only [ea, Int32.reduceToInt] at ea5
              have ea6 := r_off (c := 2838 + 8 * M.1 201 (Int32.toNatClampNeg 1)) (x := 6) ⟨by omega, by omega⟩ ⟨by decide, by decide⟩
              simp only [ea, Int32.reduceToInt] at ea6
              have ea7 := r_off (c := 2838 + 8 * M.1 201 (Int32.toNatClampNeg 1)) (x := 7) ⟨by omega, by omega⟩ ⟨by decide, by decide⟩
              simp only [ea, Int32.reduceToInt] at ea7
              have e : r_loan M p pl y s fe = ((fun a : Int32 => (fun M1 : am_M => (fun M2 : am_M => (M2.1 201 (Int32.toNatClampNeg 1) - 1, M2)) (am_wI M1 201 (Int32.toNatClampNeg 1) (M1.1 201 (Int32.toNatClampNeg 1) + 1))) (am_wI (am_wI (am_wI (am_wI (am_wI (am_wI (am_wI (am_wI M 201 a.toNatClampNeg p) 201 (a + 1).toNatClampNeg pl) 201 (a + 2).toNatClampNeg y) 201 (a + 3).toNatClampNeg s) 201 (a + 4).toNatClampNeg fe) 201 (a + 5).toNatClampNeg (-1)) 201 (a + 6).toNatClampNeg (-1)) 201 (a + 7).toNatClampNeg (-1))) (2838 + 8 * M.1 201 (Int32.toNatClampNeg 1))) := by unfold r_loan; rw [if_pos z0, if_pos z1, if_pos z2, if_pos z3, if_neg z4]
              rw [e] at h
              rcases hfe with rfl | rfl
              · skip
                repeat' (first | (with_reducible exact hmn) | (with_reducible exact n030) | (with_reducible exact n1) | apply And.intro | exact rfl | (intro hx; with_reducible exact absurd hx q0) | (intro hx; with_reducible exact absurd hx q1) | (intro hx; with_reducible exact absurd hx q2) | (intro hx; with_reducible exact absurd hx q3) | (intro hx; with_reducible exact absurd hx z4) | (intro hx; exact absurd hx (by decide)) | (intro hx; exact absurd (by decide) hx) | decide | intro hx | (refine Exists.intro _ (And.intro rfl ?_)))
                all_goals try first | (with_reducible change am_tI _ _) | (change Ret _ _) | (change Ret _ _ _) | (change Exists _)
                all_goals try dsimp only at *
                all_goals try (with_reducible exact absurd ‹(1000 : Int64) = 0› am_z1000)
                all_goals first | (with_reducible exact h) | (with_reducible exact n0.1) | omega | (simp only [ea, l201]; omega) | (simp only [ea1, l201]; omega) | (simp only [ea2, l201]; omega) | (simp only [ea3, l201]; omega) | (simp only [ea4, l201]; omega) | (simp only [ea5, l201]; omega) | (simp only [ea6, l201]; omega) | (simp only [ea7, l201]; omega) | (show _ < _; simp only [l201]; decide) | exact h | exact n0.1 | skip
              · skip
                repeat' (first | (with_reducible exact hmn) | (with_reducible exact n030) | (with_reducible exact n1) | apply And.intro | exact rfl | (intro hx; with_reducible exact absurd hx q0) | (intro hx; with_reducible exact absurd hx q1) | (intro hx; with_reducible exact absurd hx q2) | (intro hx; with_reducible exact absurd hx q3) | (intro hx; with_reducible exact absurd hx z4) | (intro hx; exact absurd hx (by decide)) | (intro hx; exact absurd (by decide) hx) | decide | intro hx | (refine Exists.intro _ (And.intro rfl ?_)))
                all_goals try first | (with_reducible change am_tI _ _) | (change Ret _ _) | (change Ret _ _ _) | (change Exists _)
                all_goals try dsimp only at *
                all_goals try (with_reducible exact absurd ‹(1000 : Int64) = 0› am_z1000)
                all_goals first | (with_reducible exact h) | (with_reducible exact n0.1) | omega | (simp only [ea, l201]; omega) | (simp only [ea1, l201]; omega) | (simp only [ea2, l201]; omega) | (simp only [ea3, l201]; omega) | (simp only [ea4, l201]; omega) | (simp only [ea5, l201]; omega) | (simp only [ea6, l201]; omega) | (simp only [ea7, l201]; omega) | (show _ < _; simp only [l201]; decide) | exact h | exact n0.1 | skip
  · exact h.elim
theorem hy_X8_isLoan : yX8_isLoan.cls ≠ "java/lang/invoke/MethodHandle" ∧ yX8_isLoan.cls ≠ "java/lang/invoke/VarHandle" ∧ (parseMethodDescriptor yX8_isLoan.desc).map (fun d => d.parameters.length) = some 1 := ⟨by decide +kernel, by decide +kernel, by decide +kernel⟩
set_option maxRecDepth 100000 in
theorem wd_1069 : Cond.methodLink "LearnLoansModel" 131 yX8_isLoan ∈ am_ws := am_wt5 (List.mem_of_getElem? (i := 52) (by rfl)) (by decide +kernel)
set_option maxRecDepth 100000 in
theorem wd_1071 : Cond.instanceMethod yX8_isLoan ∈ am_ws := am_wt5 (List.mem_of_getElem? (i := 54) (by rfl)) (by decide +kernel)
set_option maxRecDepth 100000 in
theorem wd_30 : Cond.selects "LearnLoansModel" yX8_isLoan yX8_isLoan ∈ am_ws := am_wsi (List.mem_of_getElem? (i := 30) (by rfl)) (by decide +kernel)
set_option maxRecDepth 100000 in
theorem wd_1072 : Cond.code yX8_isLoan cX8_isLoan 2 (some .boolean) ∈ am_ws := am_wt5 (List.mem_of_getElem? (i := 55) (by rfl)) (by decide +kernel)
def rwX8_move : List dz_r := [(0, .aload_n 0, 1), (1, .iload_n 1, 1), (2, .invokevirtual 131, 3), (5, .ifCond .eq 17, 3), (8, .iload_n 2, 1), (9, .invokestatic 104, 3), (12, .ifCond .eq 10, 3), (15, .iload_n 3, 1), (16, .invokestatic 72, 3), (19, .ifCond .ne 6, 3), (22, .bipush (-2), 2), (24, .ireturn, 1), (25, .aload_n 0, 1), (26, .getfield 7, 3), (29, .iconst 3, 1), (30, .iaload, 1), (31, .bipush 60, 2), (33, .if_icmp .ne 6, 3), (36, .bipush (-4), 2), (38, .ireturn, 1), (39, .sipush 3078, 3), (42, .iconst 3, 1), (43, .aload_n 0, 1), (44, .getfield 7, 3), (47, .iconst 3, 1), (48, .iaload, 1), (49, .imul, 1), (50, .iadd, 1), (51, .istore 4, 2), (53, .aload_n 0, 1), (54, .getfield 7, 3), (57, .iload 4, 2), (59, .iload_n 1, 1), (60, .iastore, 1), (61, .aload_n 0, 1), (62, .getfield 7, 3), (65, .iload 4, 2), (67, .iconst 1, 1), (68, .iadd, 1), (69, .iload_n 2, 1), (70, .iastore, 1), (71, .aload_n 0, 1), (72, .getfield 7, 3), (75, .iload 4, 2), (77, .iconst 2, 1), (78, .iadd, 1), (79, .iload_n 3, 1), (80, .iastore, 1), (81, .aload_n 0, 1), (82, .getfield 7, 3), (85, .iconst 3, 1), (86, .dup2, 1), (87, .iaload, 1), (88, .iconst 1, 1), (89, .iadd, 1), (90, .iastore, 1), (91, .iconst 1, 1), (92, .ireturn, 1)]
theorem dzX8_move : dz cX8_move rwX8_move := dz_all 0 (by decide +kernel)
def kX8_move (live : am_E) (Ret : am_R) : am_code := [(0, am_aload 0 1), (1, am_iload 1 2), (2, am_callV live 8 1 TX8_isLoan 5), (5, am_if1 (fun x => x = 0) 22 8), (8, am_iload 2 9), (9, am_callS live 1 TX8_isPlan 12), (12, am_if1 (fun x => x = 0) 22 15), (15, am_iload 3 16), (16, am_callS live 1 TX8_isYear 19), (19, am_if1 (fun x => x = 0) 22 25), (22, am_const (.int (-2)) 24), (24, am_retI Ret), (25, am_aload 0 26), (26, am_getR live 8 0 29), (29, am_const (.int 3) 30), (30, am_ald live 0 31), (31, am_const (.int 60) 33), (33, am_if2 (fun x y => x = y) 36 39), (36, am_const (.int (-4)) 38), (38, am_retI Ret), (39, am_const (.int 3078) 42), (42, am_const (.int 3) 43), (43, am_aload 0 44), (44, am_getR live 8 0 47), (47, am_const (.int 3) 48), (48, am_ald live 0 49), (49, am_i2 (fun x y => x * y) 50), (50, am_i2 (fun x y => x + y) 51), (51, am_istore 4 5 53), (53, am_aload 0 54), (54, am_getR live 8 0 57), (57, am_iload 4 59), (59, am_iload 1 60), (60, am_ast live 0 61), (61, am_aload 0 62), (62, am_getR live 8 0 65), (65, am_iload 4 67), (67, am_const (.int 1) 68), (68, am_i2 (fun x y => x + y) 69), (69, am_iload 2 70), (70, am_ast live 0 71), (71, am_aload 0 72), (72, am_getR live 8 0 75), (75, am_iload 4 77), (77, am_const (.int 2) 78), (78, am_i2 (fun x y => x + y) 79), (79, am_iload 3 80), (80, am_ast live 0 81), (81, am_aload 0 82), (82, am_getR live 8 0 85), (85, am_const (.int 3) 86), (86, am_dup2 87), (87, am_ald live 0 88), (88, am_const (.int 1) 89), (89, am_i2 (fun x y => x + y) 90), (90, am_ast live 0 91), (91, am_const (.int 1) 92), (92, am_retI Ret)]
theorem koX8_move (live : am_E) (Ret : am_R) : ∀ q ∈ kX8_move live Ret, am_ok RX8 cX8_move 5 (some .int) 2 46 live Ret q.1 q.2 :=
  am_kz dzX8_move <|
  am_kd (fun d => ak_aload_n d rfl rfl) <|
  am_kd (fun d => ak_iload_n d rfl rfl) <|
  am_kd (fun d => ak_callV (C := RX8) (F := TX8) (N := 27) metX8_isLoan rfl ⟨rfl, hy_X8_isLoan⟩ (am_w5 wd_1069 wd_1071 wd_30 wd_67 wd_1072) (by decide) d rfl) <|
  am_kd (fun d => ak_if_eq d (by decide +kernel) rfl) <|
  am_kd (fun d => ak_iload_n d rfl rfl) <|
  am_kd (fun d => ak_callS metX8_isPlan ⟨rfl, hy_X8_isPlan⟩ (am_w4 wd_1034 wd_1035 wd_67 wd_1036) (by decide) d rfl) <|
  am_kd (fun d => ak_if_eq d (by decide +kernel) rfl) <|
  am_kd (fun d => ak_iload_n d rfl rfl) <|
  am_kd (fun d => ak_callS metX8_isYear ⟨rfl, hy_X8_isYear⟩ (am_w4 wd_982 wd_983 wd_67 wd_984) (by decide) d rfl) <|
  am_kd (fun d => ak_if_ne d (by decide +kernel) rfl) <|
  am_kd (fun d => ak_bipush d (by decide +kernel) rfl) <|
  am_kd (fun d => ak_retI d) <|
  am_kd (fun d => ak_aload_n d rfl rfl) <|
  am_kd (fun d => ak_getR (C := RX8) (T := TX8) (N := 27) rfl inX8w (by decide) rfl rfl rfl wd_895 d rfl) <|
  am_kd (fun d => ak_iconst d (by decide +kernel) rfl) <|
  am_kd (fun d => ak_iald (t := 0) (fun _ => rfl) rfl d rfl) <|
  am_kd (fun d => ak_bipush d (by decide +kernel) rfl) <|
  am_kd (fun d => ak_icmp_ne d (by decide +kernel) rfl) <|
  am_kd (fun d => ak_bipush d (by decide +kernel) rfl) <|
  am_kd (fun d => ak_retI d) <|
  am_kd (fun d => ak_sipush d (by decide +kernel) rfl) <|
  am_kd (fun d => ak_iconst d (by decide +kernel) rfl) <|
  am_kd (fun d => ak_aload_n d rfl rfl) <|
  am_kd (fun d => ak_getR (C := RX8) (T := TX8) (N := 27) rfl inX8w (by decide) rfl rfl rfl wd_895 d rfl) <|
  am_kd (fun d => ak_iconst d (by decide +kernel) rfl) <|
  am_kd (fun d => ak_iald (t := 0) (fun _ => rfl) rfl d rfl) <|
  am_kd (fun d => ak_imul d rfl) <|
  am_kd (fun d => ak_iadd d rfl) <|
  am_kd (fun d => ak_istore d rfl) <|
  am_kd (fun d => ak_aload_n d rfl rfl) <|
  am_kd (fun d => ak_getR (C := RX8) (T := TX8) (N := 27) rfl inX8w (by decide) rfl rfl rfl wd_895 d rfl) <|
  am_kd (fun d => ak_iload d rfl) <|
  am_kd (fun d => ak_iload_n d rfl rfl) <|
  am_kd (fun d => ak_iast (t := 0) (fun _ => rfl) rfl d rfl) <|
  am_kd (fun d => ak_aload_n d rfl rfl) <|
  am_kd (fun d => ak_getR (C := RX8) (T := TX8) (N := 27) rfl inX8w (by decide) rfl rfl rfl wd_895 d rfl) <|
  am_kd (fun d => ak_iload d rfl) <|
  am_kd (fun d => ak_iconst d (by decide +kernel) rfl) <|
  am_kd (fun d => ak_iadd d rfl) <|
  am_kd (fun d => ak_iload_n d rfl rfl) <|
  am_kd (fun d => ak_iast (t := 0) (fun _ => rfl) rfl d rfl) <|
  am_kd (fun d => ak_aload_n d rfl rfl) <|
  am_kd (fun d => ak_getR (C := RX8) (T := TX8) (N := 27) rfl inX8w (by decide) rfl rfl rfl wd_895 d rfl) <|
  am_kd (fun d => ak_iload d rfl) <|
  am_kd (fun d => ak_iconst d (by decide +kernel) rfl) <|
  am_kd (fun d => ak_iadd d rfl) <|
  am_kd (fun d => ak_iload_n d rfl rfl) <|
  am_kd (fun d => ak_iast (t := 0) (fun _ => rfl) rfl d rfl) <|
  am_kd (fun d => ak_aload_n d rfl rfl) <|
  am_kd (fun d => ak_getR (C := RX8) (T := TX8) (N := 27) rfl inX8w (by decide) rfl rfl rfl wd_895 d rfl) <|
  am_kd (fun d => ak_iconst d (by decide +kernel) rfl) <|
  am_kd (fun d => ak_dup2 d rfl) <|
  am_kd (fun d => ak_iald (t := 0) (fun _ => rfl) rfl d rfl) <|
  am_kd (fun d => ak_iconst d (by decide +kernel) rfl) <|
  am_kd (fun d => ak_iadd d rfl) <|
  am_kd (fun d => ak_iast (t := 0) (fun _ => rfl) rfl d rfl) <|
  am_kd (fun d => ak_iconst d (by decide +kernel) rfl) <|
  am_kd (fun d => ak_retI d) <| am_kdn
def r_move (M : am_M) (l pl y : Int32) : Int32 × am_M := if 0 ≤ l ∧ l < M.1 201 1 then (if 0 ≤ pl ∧ pl < 5 then (if 0 ≤ y ∧ y < 40 then (if M.1 201 (Int32.toNatClampNeg 3) = 60 then ((-4 : Int32), M) else ((fun a : Int32 => (fun M1 : am_M => (fun M2 : am_M => ((1 : Int32), M2)) (am_wI M1 201 (Int32.toNatClampNeg 3) (M1.1 201 (Int32.toNatClampNeg 3) + 1))) (am_wI (am_wI (am_wI M 201 a.toNatClampNeg l) 201 (a + 1).toNatClampNeg pl) 201 (a + 2).toNatClampNeg y)) (3078 + 3 * M.1 201 (Int32.toNatClampNeg 3)))) else ((-2 : Int32), M)) else ((-2 : Int32), M)) else ((-2 : Int32), M)
def TX8_move : am_T := fun live as M R => match as with
  | [.ref n, .int l, .int pl, .int y] => am_mn live ∧ n = 200 ∧ r_I M ∧ R (some (.int (r_move M l pl y).1)) (r_move M l pl y).2
  | _ => False
set_option maxRecDepth 100000 in
set_option maxHeartbeats 4000000 in
theorem metX8_move : am_Met yX8_move cX8_move 5 (some .int) (2) (46) TX8_move := by
  refine am_met (own := RX8) (by decide +kernel) rfl kX8_move koX8_move 200 (fun _ _ _ _ _ => none) (fun live as M Ret h => ?_) (fun _ _ _ _ _ _ _ _ hI => by cases hI)
  unfold TX8_move at h
  split at h
  · next n l pl y =>
    refine ⟨Nat.le_of_ble_eq_true rfl, ?_⟩
    change am_wp _ _ _ _ [(0, Value.ref n), (1, Value.int l), (2, Value.int pl), (3, Value.int y)] _ _
    obtain ⟨hmn, rfl, hR, h⟩ := h
    have hmn2 := hmn
    obtain ⟨i1, i2, rfl⟩ := hmn2
    have l201 : am_len 201 = 3760 := rfl
    have n0 := hR.n0
    have n1 := hR.n1
    have n030 : 0 ≤ (M.1 201 0).toInt ∧ (M.1 201 0).toInt ≤ 30 := ⟨n0.1, by omega⟩
    by_cases z0 : 0 ≤ l ∧ l < M.1 201 1
    rotate_left
    · skip
      have q0 : (if 0 ≤ l ∧ l < M.1 201 1 then (1 : Int32) else 0) = 0 := if_neg z0
      have e : r_move M l pl y = ((-2 : Int32), M) := by unfold r_move; rw [if_neg z0]
      rw [e] at h
      repeat' (first | (with_reducible exact hmn) | (with_reducible exact h) | (with_reducible exact n030) | (with_reducible exact n1) | apply And.intro | exact rfl | (intro hx; with_reducible exact absurd q0 hx) | (intro hx; exact absurd hx (by decide)) | (intro hx; exact absurd (by decide) hx) | decide | intro hx | (refine Exists.intro _ (And.intro rfl ?_)))
      all_goals try first | (with_reducible change am_tI _ _) | (change Ret _ _) | (change Ret _ _ _) | (change Exists _)
      all_goals try dsimp only at *
      all_goals try (with_reducible exact absurd ‹(1000 : Int64) = 0› am_z1000)
      all_goals first | (with_reducible exact h) | (with_reducible exact n0.1) | omega | (simp only [ea, l201]; omega) | (simp only [ea1, l201]; omega) | (simp only [ea2, l201]; omega) | (show _ < _; simp only [l201]; decide) | exact h | exact n0.1 | skip
    · skip
      have q0 : ¬ ((if 0 ≤ l ∧ l < M.1 201 1 then (1 : Int32) else 0) = 0) := by rw [if_pos z0]; decide
      by_cases z1 : 0 ≤ pl ∧ pl < 5
      rotate_left
      · skip
        have q1 : (if 0 ≤ pl ∧ pl < 5 then (1 : Int32) else 0) = 0 := if_neg z1
        have e : r_move M l pl y = ((-2 : Int32), M) := by unfold r_move; rw [if_pos z0, if_neg z1]
        rw [e] at h
        repeat' (first | (with_reducible exact hmn) | (with_reducible exact h) | (with_reducible exact n030) | (with_reducible exact n1) | apply And.intro | exact rfl | (intro hx; with_reducible exact absurd hx q0) | (intro hx; with_reducible exact absurd q1 hx) | (intro hx; exact absurd hx (by decide)) | (intro hx; exact absurd (by decide) hx) | decide | intro hx | (refine Exists.intro _ (And.intro rfl ?_)))
        all_goals try first | (with_reducible change am_tI _ _) | (change Ret _ _) | (change Ret _ _ _) | (change Exists _)
        all_goals try dsimp only at *
        all_goals try (with_reducible exact absurd ‹(1000 : Int64) = 0› am_z1000)
        all_goals first | (with_reducible exact h) | (with_reducible exact n0.1) | omega | (simp only [ea, l201]; omega) | (simp only [ea1, l201]; omega) | (simp only [ea2, l201]; omega) | (show _ < _; simp only [l201]; decide) | exact h | exact n0.1 | skip
      · skip
        have q1 : ¬ ((if 0 ≤ pl ∧ pl < 5 then (1 : Int32) else 0) = 0) := by rw [if_pos z1]; decide
        by_cases z2 : 0 ≤ y ∧ y < 40
        rotate_left
        · skip
          have q2 : (if 0 ≤ y ∧ y < 40 then (1 : Int32) else 0) = 0 := if_neg z2
          have e : r_move M l pl y = ((-2 : Int32), M) := by unfold r_move; rw [if_pos z0, if_pos z1, if_neg z2]
          rw [e] at h
          repeat' (first | (with_reducible exact hmn) | (with_reducible exact h) | (with_reducible exact n030) | (with_reducible exact n1) | apply And.intro | exact rfl | (intro hx; with_reducible exact absurd hx q0) | (intro hx; with_reducible exact absurd hx q1) | (intro hx; with_reducible exact absurd q2 hx) | (intro hx; exact absurd hx (by decide)) | (intro hx; exact absurd (by decide) hx) | decide | intro hx | (refine Exists.intro _ (And.intro rfl ?_)))
          all_goals try first | (with_reducible change am_tI _ _) | (change Ret _ _) | (change Ret _ _ _) | (change Exists _)
          all_goals try dsimp only at *
          all_goals try (with_reducible exact absurd ‹(1000 : Int64) = 0› am_z1000)
          all_goals first | (with_reducible exact h) | (with_reducible exact n0.1) | omega | (simp only [ea, l201]; omega) | (simp only [ea1, l201]; omega) | (simp only [ea2, l201]; omega) | (show _ < _; simp only [l201]; decide) | exact h | exact n0.1 | skip
        · skip
          have q2 : ¬ ((if 0 ≤ y ∧ y < 40 then (1 : Int32) else 0) = 0) := by rw [if_pos z2]; decide
          have nc3 : 0 ≤ (M.1 201 (Int32.toNatClampNeg 3)).toInt ∧ (M.1 201 (Int32.toNatClampNeg 3)).toInt ≤ 60 := hR.n3
          by_cases z3 : M.1 201 (Int32.toNatClampNeg 3) = 60
          · skip
            have e : r_move M l pl y = ((-4 : Int32), M) := by unfold r_move; rw [if_pos z0, if_pos z1, if_pos z2, if_pos z3]
            rw [e] at h
            repeat' (first | (with_reducible exact hmn) | (with_reducible exact h) | (with_reducible exact n030) | (with_reducible exact n1) | apply And.intro | exact rfl | (intro hx; with_reducible exact absurd hx q0) | (intro hx; with_reducible exact absurd hx q1) | (intro hx; with_reducible exact absurd hx q2) | (intro hx; with_reducible exact absurd z3 hx) | (intro hx; exact absurd hx (by decide)) | (intro hx; exact absurd (by decide) hx) | decide | intro hx | (refine Exists.intro _ (And.intro rfl ?_)))
            all_goals try first | (with_reducible change am_tI _ _) | (change Ret _ _) | (change Ret _ _ _) | (change Exists _)
            all_goals try dsimp only at *
            all_goals try (with_reducible exact absurd ‹(1000 : Int64) = 0› am_z1000)
            all_goals first | (with_reducible exact h) | (with_reducible exact n0.1) | omega | (simp only [ea, l201]; omega) | (simp only [ea1, l201]; omega) | (simp only [ea2, l201]; omega) | (show _ < _; simp only [l201]; decide) | exact h | exact n0.1 | skip
          · skip
            have zb : (M.1 201 (Int32.toNatClampNeg 3)).toInt < 60 := by have q := z3; simp only [i_eq, Int32.reduceToInt] at q; omega
            have e6 := r_mul (c := 3) (x := M.1 201 (Int32.toNatClampNeg 3)) ⟨by decide, by decide⟩ ⟨by omega, by omega⟩
            simp only [Int32.reduceToInt] at e6
            have ea := r_off (c := 3078) (x := 3 * M.1 201 (Int32.toNatClampNeg 3)) ⟨by decide, by decide⟩ ⟨by omega, by omega⟩
            simp only [e6, Int32.reduceToInt] at ea
            have ea1 := r_off (c := 3078 + 3 * M.1 201 (Int32.toNatClampNeg 3)) (x := 1) ⟨by omega, by omega⟩ ⟨by decide, by decide⟩
            simp only [ea, Int32.reduceToInt] at ea1
            have ea2 := r_off (c := 3078 + 3 * M.1 201 (Int32.toNatClampNeg 3)) (x := 2) ⟨by omega, by omega⟩ ⟨by decide, by decide⟩
            simp only [ea, Int32.reduceToInt] at ea2
            have e : r_move M l pl y = ((fun a : Int32 => (fun M1 : am_M => (fun M2 : am_M => ((1 : Int32), M2)) (am_wI M1 201 (Int32.toNatClampNeg 3) (M1.1 201 (Int32.toNatClampNeg 3) + 1))) (am_wI (am_wI (am_wI M 201 a.toNatClampNeg l) 201 (a + 1).toNatClampNeg pl) 201 (a + 2).toNatClampNeg y)) (3078 + 3 * M.1 201 (Int32.toNatClampNeg 3))) := by unfold r_move; rw [if_pos z0, if_pos z1, if_pos z2, if_neg z3]
            rw [e] at h
            repeat' (first | (with_reducible exact hmn) | (with_reducible exact n030) | (with_reducible exact n1) | apply And.intro | exact rfl | (intro hx; with_reducible exact absurd hx q0) | (intro hx; with_reducible exact absurd hx q1) | (intro hx; with_reducible exact absurd hx q2) | (intro hx; with_reducible exact absurd hx z3) | (intro hx; exact absurd hx (by decide)) | (intro hx; exact absurd (by decide) hx) | decide | intro hx | (refine Exists.intro _ (And.intro rfl ?_)))
            all_goals try first | (with_reducible change am_tI _ _) | (change Ret _ _) | (change Ret _ _ _) | (change Exists _)
            all_goals try dsimp only at *
            all_goals try (with_reducible exact absurd ‹(1000 : Int64) = 0› am_z1000)
            all_goals first | (with_reducible exact h) | (with_reducible exact n0.1) | omega | (simp only [ea, l201]; omega) | (simp only [ea1, l201]; omega) | (simp only [ea2, l201]; omega) | (show _ < _; simp only [l201]; decide) | exact h | exact n0.1 | skip
  · exact h.elim
set_option maxRecDepth 100000 in
theorem wd_1216 : Cond.constantLong "LearnLoansModel" 248 1000000000 ∈ am_ws := am_wt5 (List.mem_of_getElem? (i := 199) (by rfl)) (by decide +kernel)
def rwX8_promise : List dz_r := [(0, .iload_n 1, 1), (1, .i2l, 1), (2, .lconst 0, 1), (3, .ldc2_w 79, 3), (6, .invokestatic 66, 3), (9, .ifCond .eq 22, 3), (12, .iload_n 2, 1), (13, .invokestatic 72, 3), (16, .ifCond .eq 15, 3), (19, .iload_n 3, 1), (20, .i2l, 1), (21, .lconst 1, 1), (22, .ldc2_w 248, 3), (25, .invokestatic 66, 3), (28, .ifCond .ne 6, 3), (31, .bipush (-2), 2), (33, .ireturn, 1), (34, .aload_n 0, 1), (35, .getfield 7, 3), (38, .iconst 4, 1), (39, .iaload, 1), (40, .bipush 20, 2), (42, .if_icmp .ne 6, 3), (45, .bipush (-4), 2), (47, .ireturn, 1), (48, .sipush 3513, 3), (51, .iconst 3, 1), (52, .aload_n 0, 1), (53, .getfield 7, 3), (56, .iconst 4, 1), (57, .iaload, 1), (58, .imul, 1), (59, .iadd, 1), (60, .istore 4, 2), (62, .aload_n 0, 1), (63, .getfield 7, 3), (66, .iload 4, 2), (68, .iload_n 1, 1), (69, .iastore, 1), (70, .aload_n 0, 1), (71, .getfield 7, 3), (74, .iload 4, 2), (76, .iconst 1, 1), (77, .iadd, 1), (78, .iload_n 2, 1), (79, .iastore, 1), (80, .aload_n 0, 1), (81, .getfield 7, 3), (84, .iload 4, 2), (86, .iconst 2, 1), (87, .iadd, 1), (88, .iload_n 3, 1), (89, .iastore, 1), (90, .aload_n 0, 1), (91, .getfield 7, 3), (94, .iconst 4, 1), (95, .dup2, 1), (96, .iaload, 1), (97, .iconst 1, 1), (98, .iadd, 1), (99, .iastore, 1), (100, .aload_n 0, 1), (101, .getfield 7, 3), (104, .iconst 4, 1), (105, .iaload, 1), (106, .ireturn, 1)]
theorem dzX8_promise : dz cX8_promise rwX8_promise := dz_all 0 (by decide +kernel)
def kX8_promise (live : am_E) (Ret : am_R) : am_code := [(0, am_iload 1 1), (1, am_i2l 2), (2, am_const (.long 0) 3), (3, am_const (.long 3) 6), (6, am_callS live 3 TX8_in 9), (9, am_if1 (fun x => x = 0) 31 12), (12, am_iload 2 13), (13, am_callS live 1 TX8_isYear 16), (16, am_if1 (fun x => x = 0) 31 19), (19, am_iload 3 20), (20, am_i2l 21), (21, am_const (.long 1) 22), (22, am_const (.long 1000000000) 25), (25, am_callS live 3 TX8_in 28), (28, am_if1 (fun x => x = 0) 31 34), (31, am_const (.int (-2)) 33), (33, am_retI Ret), (34, am_aload 0 35), (35, am_getR live 8 0 38), (38, am_const (.int 4) 39), (39, am_ald live 0 40), (40, am_const (.int 20) 42), (42, am_if2 (fun x y => x = y) 45 48), (45, am_const (.int (-4)) 47), (47, am_retI Ret), (48, am_const (.int 3513) 51), (51, am_const (.int 3) 52), (52, am_aload 0 53), (53, am_getR live 8 0 56), (56, am_const (.int 4) 57), (57, am_ald live 0 58), (58, am_i2 (fun x y => x * y) 59), (59, am_i2 (fun x y => x + y) 60), (60, am_istore 4 5 62), (62, am_aload 0 63), (63, am_getR live 8 0 66), (66, am_iload 4 68), (68, am_iload 1 69), (69, am_ast live 0 70), (70, am_aload 0 71), (71, am_getR live 8 0 74), (74, am_iload 4 76), (76, am_const (.int 1) 77), (77, am_i2 (fun x y => x + y) 78), (78, am_iload 2 79), (79, am_ast live 0 80), (80, am_aload 0 81), (81, am_getR live 8 0 84), (84, am_iload 4 86), (86, am_const (.int 2) 87), (87, am_i2 (fun x y => x + y) 88), (88, am_iload 3 89), (89, am_ast live 0 90), (90, am_aload 0 91), (91, am_getR live 8 0 94), (94, am_const (.int 4) 95), (95, am_dup2 96), (96, am_ald live 0 97), (97, am_const (.int 1) 98), (98, am_i2 (fun x y => x + y) 99), (99, am_ast live 0 100), (100, am_aload 0 101), (101, am_getR live 8 0 104), (104, am_const (.int 4) 105), (105, am_ald live 0 106), (106, am_retI Ret)]
theorem koX8_promise (live : am_E) (Ret : am_R) : ∀ q ∈ kX8_promise live Ret, am_ok RX8 cX8_promise 5 (some .int) 2 45 live Ret q.1 q.2 :=
  am_kz dzX8_promise <|
  am_kd (fun d => ak_iload_n d rfl rfl) <|
  am_kd (fun d => ak_i2l d rfl) <|
  am_kd (fun d => ak_lconst d (by decide +kernel) rfl) <|
  am_kd (fun d => ak_ldc2 wd_997 d rfl) <|
  am_kd (fun d => ak_callS metX8_in ⟨rfl, hy_X8_in⟩ (am_w4 wd_986 wd_987 wd_67 wd_988) (by decide) d rfl) <|
  am_kd (fun d => ak_if_eq d (by decide +kernel) rfl) <|
  am_kd (fun d => ak_iload_n d rfl rfl) <|
  am_kd (fun d => ak_callS metX8_isYear ⟨rfl, hy_X8_isYear⟩ (am_w4 wd_982 wd_983 wd_67 wd_984) (by decide) d rfl) <|
  am_kd (fun d => ak_if_eq d (by decide +kernel) rfl) <|
  am_kd (fun d => ak_iload_n d rfl rfl) <|
  am_kd (fun d => ak_i2l d rfl) <|
  am_kd (fun d => ak_lconst d (by decide +kernel) rfl) <|
  am_kd (fun d => ak_ldc2 wd_1216 d rfl) <|
  am_kd (fun d => ak_callS metX8_in ⟨rfl, hy_X8_in⟩ (am_w4 wd_986 wd_987 wd_67 wd_988) (by decide) d rfl) <|
  am_kd (fun d => ak_if_ne d (by decide +kernel) rfl) <|
  am_kd (fun d => ak_bipush d (by decide +kernel) rfl) <|
  am_kd (fun d => ak_retI d) <|
  am_kd (fun d => ak_aload_n d rfl rfl) <|
  am_kd (fun d => ak_getR (C := RX8) (T := TX8) (N := 27) rfl inX8w (by decide) rfl rfl rfl wd_895 d rfl) <|
  am_kd (fun d => ak_iconst d (by decide +kernel) rfl) <|
  am_kd (fun d => ak_iald (t := 0) (fun _ => rfl) rfl d rfl) <|
  am_kd (fun d => ak_bipush d (by decide +kernel) rfl) <|
  am_kd (fun d => ak_icmp_ne d (by decide +kernel) rfl) <|
  am_kd (fun d => ak_bipush d (by decide +kernel) rfl) <|
  am_kd (fun d => ak_retI d) <|
  am_kd (fun d => ak_sipush d (by decide +kernel) rfl) <|
  am_kd (fun d => ak_iconst d (by decide +kernel) rfl) <|
  am_kd (fun d => ak_aload_n d rfl rfl) <|
  am_kd (fun d => ak_getR (C := RX8) (T := TX8) (N := 27) rfl inX8w (by decide) rfl rfl rfl wd_895 d rfl) <|
  am_kd (fun d => ak_iconst d (by decide +kernel) rfl) <|
  am_kd (fun d => ak_iald (t := 0) (fun _ => rfl) rfl d rfl) <|
  am_kd (fun d => ak_imul d rfl) <|
  am_kd (fun d => ak_iadd d rfl) <|
  am_kd (fun d => ak_istore d rfl) <|
  am_kd (fun d => ak_aload_n d rfl rfl) <|
  am_kd (fun d => ak_getR (C := RX8) (T := TX8) (N := 27) rfl inX8w (by decide) rfl rfl rfl wd_895 d rfl) <|
  am_kd (fun d => ak_iload d rfl) <|
  am_kd (fun d => ak_iload_n d rfl rfl) <|
  am_kd (fun d => ak_iast (t := 0) (fun _ => rfl) rfl d rfl) <|
  am_kd (fun d => ak_aload_n d rfl rfl) <|
  am_kd (fun d => ak_getR (C := RX8) (T := TX8) (N := 27) rfl inX8w (by decide) rfl rfl rfl wd_895 d rfl) <|
  am_kd (fun d => ak_iload d rfl) <|
  am_kd (fun d => ak_iconst d (by decide +kernel) rfl) <|
  am_kd (fun d => ak_iadd d rfl) <|
  am_kd (fun d => ak_iload_n d rfl rfl) <|
  am_kd (fun d => ak_iast (t := 0) (fun _ => rfl) rfl d rfl) <|
  am_kd (fun d => ak_aload_n d rfl rfl) <|
  am_kd (fun d => ak_getR (C := RX8) (T := TX8) (N := 27) rfl inX8w (by decide) rfl rfl rfl wd_895 d rfl) <|
  am_kd (fun d => ak_iload d rfl) <|
  am_kd (fun d => ak_iconst d (by decide +kernel) rfl) <|
  am_kd (fun d => ak_iadd d rfl) <|
  am_kd (fun d => ak_iload_n d rfl rfl) <|
  am_kd (fun d => ak_iast (t := 0) (fun _ => rfl) rfl d rfl) <|
  am_kd (fun d => ak_aload_n d rfl rfl) <|
  am_kd (fun d => ak_getR (C := RX8) (T := TX8) (N := 27) rfl inX8w (by decide) rfl rfl rfl wd_895 d rfl) <|
  am_kd (fun d => ak_iconst d (by decide +kernel) rfl) <|
  am_kd (fun d => ak_dup2 d rfl) <|
  am_kd (fun d => ak_iald (t := 0) (fun _ => rfl) rfl d rfl) <|
  am_kd (fun d => ak_iconst d (by decide +kernel) rfl) <|
  am_kd (fun d => ak_iadd d rfl) <|
  am_kd (fun d => ak_iast (t := 0) (fun _ => rfl) rfl d rfl) <|
  am_kd (fun d => ak_aload_n d rfl rfl) <|
  am_kd (fun d => ak_getR (C := RX8) (T := TX8) (N := 27) rfl inX8w (by decide) rfl rfl rfl wd_895 d rfl) <|
  am_kd (fun d => ak_iconst d (by decide +kernel) rfl) <|
  am_kd (fun d => ak_iald (t := 0) (fun _ => rfl) rfl d rfl) <|
  am_kd (fun d => ak_retI d) <| am_kdn
def r_promise (M : am_M) (b y c : Int32) : Int32 × am_M := if 0 ≤ b ∧ b ≤ 3 then (if 0 ≤ y ∧ y < 40 then (if 1 ≤ c ∧ c ≤ 1000000000 then (if M.1 201 (Int32.toNatClampNeg 4) = 20 then ((-4 : Int32), M) else ((fun a : Int32 => (fun M1 : am_M => (fun M2 : am_M => (M2.1 201 (Int32.toNatClampNeg 4), M2)) (am_wI M1 201 (Int32.toNatClampNeg 4) (M1.1 201 (Int32.toNatClampNeg 4) + 1))) (am_wI (am_wI (am_wI M 201 a.toNatClampNeg b) 201 (a + 1).toNatClampNeg y) 201 (a + 2).toNatClampNeg c)) (3513 + 3 * M.1 201 (Int32.toNatClampNeg 4)))) else ((-2 : Int32), M)) else ((-2 : Int32), M)) else ((-2 : Int32), M)
def TX8_promise : am_T := fun live as M R => match as with
  | [.ref n, .int b, .int y, .int c] => am_mn live ∧ n = 200 ∧ r_I M ∧ R (some (.int (r_promise M b y c).1)) (r_promise M b y c).2
  | _ => False
set_option maxRecDepth 100000 in
set_option maxHeartbeats 4000000 in
theorem metX8_promise : am_Met yX8_promise cX8_promise 5 (some .int) (2) (45) TX8_promise := by
  refine am_met (own := RX8) (by decide +kernel) rfl kX8_promise koX8_promise 200 (fun _ _ _ _ _ => none) (fun live as M Ret h => ?_) (fun _ _ _ _ _ _ _ _ hI => by cases hI)
  unfold TX8_promise at h
  split at h
  · next n b y c =>
    refine ⟨Nat.le_of_ble_eq_true rfl, ?_⟩
    change am_wp _ _ _ _ [(0, Value.ref n), (1, Value.int b), (2, Value.int y), (3, Value.int c)] _ _
    obtain ⟨hmn, rfl, hR, h⟩ := h
    have hmn2 := hmn
    obtain ⟨i1, i2, rfl⟩ := hmn2
    have l201 : am_len 201 = 3760 := rfl
    have n0 := hR.n0
    have n1 := hR.n1
    have n030 : 0 ≤ (M.1 201 0).toInt ∧ (M.1 201 0).toInt ≤ 30 := ⟨n0.1, by omega⟩
    by_cases z0 : 0 ≤ b ∧ b ≤ 3
    rotate_left
    · skip
      have q0 : (if (0 : Int64) ≤ b.toInt64 ∧ b.toInt64 ≤ (3 : Int64) then (1 : Int32) else 0) = 0 := if_neg (fun r => z0 (by simp only [i_le, i_lt, j_le, Int32.toInt_toInt64, Int32.reduceToInt, Int64.reduceToInt] at r ⊢; omega))
      have e : r_promise M b y c = ((-2 : Int32), M) := by unfold r_promise; rw [if_neg z0]
      rw [e] at h
      repeat' (first | (with_reducible exact hmn) | (with_reducible exact h) | (with_reducible exact n030) | (with_reducible exact n1) | apply And.intro | exact rfl | (intro hx; with_reducible exact absurd q0 hx) | (intro hx; exact absurd hx (by decide)) | (intro hx; exact absurd (by decide) hx) | decide | intro hx | (refine Exists.intro _ (And.intro rfl ?_)))
      all_goals try first | (with_reducible change am_tI _ _) | (change Ret _ _) | (change Ret _ _ _) | (change Exists _)
      all_goals try dsimp only at *
      all_goals try (with_reducible exact absurd ‹(1000 : Int64) = 0› am_z1000)
      all_goals first | (with_reducible exact h) | (with_reducible exact n0.1) | omega | (simp only [ea, l201]; omega) | (simp only [ea1, l201]; omega) | (simp only [ea2, l201]; omega) | (show _ < _; simp only [l201]; decide) | exact h | exact n0.1 | skip
    · skip
      have q0 : ¬ ((if (0 : Int64) ≤ b.toInt64 ∧ b.toInt64 ≤ (3 : Int64) then (1 : Int32) else 0) = 0) := by rw [if_pos (by have q := z0; simp only [i_le, i_lt, j_le, Int32.toInt_toInt64, Int32.reduceToInt, Int64.reduceToInt] at q ⊢; omega)]; decide
      by_cases z1 : 0 ≤ y ∧ y < 40
      rotate_left
      · skip
        have q1 : (if 0 ≤ y ∧ y < 40 then (1 : Int32) else 0) = 0 := if_neg z1
        have e : r_promise M b y c = ((-2 : Int32), M) := by unfold r_promise; rw [if_pos z0, if_neg z1]
        rw [e] at h
        repeat' (first | (with_reducible exact hmn) | (with_reducible exact h) | (with_reducible exact n030) | (with_reducible exact n1) | apply And.intro | exact rfl | (intro hx; with_reducible exact absurd hx q0) | (intro hx; with_reducible exact absurd q1 hx) | (intro hx; exact absurd hx (by decide)) | (intro hx; exact absurd (by decide) hx) | decide | intro hx | (refine Exists.intro _ (And.intro rfl ?_)))
        all_goals try first | (with_reducible change am_tI _ _) | (change Ret _ _) | (change Ret _ _ _) | (change Exists _)
        all_goals try dsimp only at *
        all_goals try (with_reducible exact absurd ‹(1000 : Int64) = 0› am_z1000)
        all_goals first | (with_reducible exact h) | (with_reducible exact n0.1) | omega | (simp only [ea, l201]; omega) | (simp only [ea1, l201]; omega) | (simp only [ea2, l201]; omega) | (show _ < _; simp only [l201]; decide) | exact h | exact n0.1 | skip
      · skip
        have q1 : ¬ ((if 0 ≤ y ∧ y < 40 then (1 : Int32) else 0) = 0) := by rw [if_pos z1]; decide
        by_cases z2 : 1 ≤ c ∧ c ≤ 1000000000
        rotate_left
        · skip
          have q2 : (if (1 : Int64) ≤ c.toInt64 ∧ c.toInt64 ≤ (1000000000 : Int64) then (1 : Int32) else 0) = 0 := if_neg (fun r => z2 (by simp only [i_le, i_lt, j_le, Int32.toInt_toInt64, Int32.reduceToInt, Int64.reduceToInt] at r ⊢; omega))
          have e : r_promise M b y c = ((-2 : Int32), M) := by unfold r_promise; rw [if_pos z0, if_pos z1, if_neg z2]
          rw [e] at h
          repeat' (first | (with_reducible exact hmn) | (with_reducible exact h) | (with_reducible exact n030) | (with_reducible exact n1) | apply And.intro | exact rfl | (intro hx; with_reducible exact absurd hx q0) | (intro hx; with_reducible exact absurd hx q1) | (intro hx; with_reducible exact absurd q2 hx) | (intro hx; exact absurd hx (by decide)) | (intro hx; exact absurd (by decide) hx) | decide | intro hx | (refine Exists.intro _ (And.intro rfl ?_)))
          all_goals try first | (with_reducible change am_tI _ _) | (change Ret _ _) | (change Ret _ _ _) | (change Exists _)
          all_goals try dsimp only at *
          all_goals try (with_reducible exact absurd ‹(1000 : Int64) = 0› am_z1000)
          all_goals first | (with_reducible exact h) | (with_reducible exact n0.1) | omega | (simp only [ea, l201]; omega) | (simp only [ea1, l201]; omega) | (simp only [ea2, l201]; omega) | (show _ < _; simp only [l201]; decide) | exact h | exact n0.1 | skip
        · skip
          have q2 : ¬ ((if (1 : Int64) ≤ c.toInt64 ∧ c.toInt64 ≤ (1000000000 : Int64) then (1 : Int32) else 0) = 0) := by rw [if_pos (by have q := z2; simp only [i_le, i_lt, j_le, Int32.toInt_toInt64, Int32.reduceToInt, Int64.reduceToInt] at q ⊢; omega)]; decide
          have nc4 : 0 ≤ (M.1 201 (Int32.toNatClampNeg 4)).toInt ∧ (M.1 201 (Int32.toNatClampNeg 4)).toInt ≤ 20 := hR.n4
          by_cases z3 : M.1 201 (Int32.toNatClampNeg 4) = 20
          · skip
            have e : r_promise M b y c = ((-4 : Int32), M) := by unfold r_promise; rw [if_pos z0, if_pos z1, if_pos z2, if_pos z3]
            rw [e] at h
            repeat' (first | (with_reducible exact hmn) | (with_reducible exact h) | (with_reducible exact n030) | (with_reducible exact n1) | apply And.intro | exact rfl | (intro hx; with_reducible exact absurd hx q0) | (intro hx; with_reducible exact absurd hx q1) | (intro hx; with_reducible exact absurd hx q2) | (intro hx; with_reducible exact absurd z3 hx) | (intro hx; exact absurd hx (by decide)) | (intro hx; exact absurd (by decide) hx) | decide | intro hx | (refine Exists.intro _ (And.intro rfl ?_)))
            all_goals try first | (with_reducible change am_tI _ _) | (change Ret _ _) | (change Ret _ _ _) | (change Exists _)
            all_goals try dsimp only at *
            all_goals try (with_reducible exact absurd ‹(1000 : Int64) = 0› am_z1000)
            all_goals first | (with_reducible exact h) | (with_reducible exact n0.1) | omega | (simp only [ea, l201]; omega) | (simp only [ea1, l201]; omega) | (simp only [ea2, l201]; omega) | (show _ < _; simp only [l201]; decide) | exact h | exact n0.1 | skip
          · skip
            have zb : (M.1 201 (Int32.toNatClampNeg 4)).toInt < 20 := by have q := z3; simp only [i_eq, Int32.reduceToInt] at q; omega
            have e6 := r_mul (c := 3) (x := M.1 201 (Int32.toNatClampNeg 4)) ⟨by decide, by decide⟩ ⟨by omega, by omega⟩
            simp only [Int32.reduceToInt] at e6
            have ea := r_off (c := 3513) (x := 3 * M.1 201 (Int32.toNatClampNeg 4)) ⟨by decide, by decide⟩ ⟨by omega, by omega⟩
            simp only [e6, Int32.reduceToInt] at ea
            have ea1 := r_off (c := 3513 + 3 * M.1 201 (Int32.toNatClampNeg 4)) (x := 1) ⟨by omega, by omega⟩ ⟨by decide, by decide⟩
            simp only [ea, Int32.reduceToInt] at ea1
            have ea2 := r_off (c := 3513 + 3 * M.1 201 (Int32.toNatClampNeg 4)) (x := 2) ⟨by omega, by omega⟩ ⟨by decide, by decide⟩
            simp only [ea, Int32.reduceToInt] at ea2
            have e : r_promise M b y c = ((fun a : Int32 => (fun M1 : am_M => (fun M2 : am_M => (M2.1 201 (Int32.toNatClampNeg 4), M2)) (am_wI M1 201 (Int32.toNatClampNeg 4) (M1.1 201 (Int32.toNatClampNeg 4) + 1))) (am_wI (am_wI (am_wI M 201 a.toNatClampNeg b) 201 (a + 1).toNatClampNeg y) 201 (a + 2).toNatClampNeg c)) (3513 + 3 * M.1 201 (Int32.toNatClampNeg 4))) := by unfold r_promise; rw [if_pos z0, if_pos z1, if_pos z2, if_neg z3]
            rw [e] at h
            repeat' (first | (with_reducible exact hmn) | (with_reducible exact n030) | (with_reducible exact n1) | apply And.intro | exact rfl | (intro hx; with_reducible exact absurd hx q0) | (intro hx; with_reducible exact absurd hx q1) | (intro hx; with_reducible exact absurd hx q2) | (intro hx; with_reducible exact absurd hx z3) | (intro hx; exact absurd hx (by decide)) | (intro hx; exact absurd (by decide) hx) | decide | intro hx | (refine Exists.intro _ (And.intro rfl ?_)))
            all_goals try first | (with_reducible change am_tI _ _) | (change Ret _ _) | (change Ret _ _ _) | (change Exists _)
            all_goals try dsimp only at *
            all_goals try (with_reducible exact absurd ‹(1000 : Int64) = 0› am_z1000)
            all_goals first | (with_reducible exact h) | (with_reducible exact n0.1) | omega | (simp only [ea, l201]; omega) | (simp only [ea1, l201]; omega) | (simp only [ea2, l201]; omega) | (show _ < _; simp only [l201]; decide) | exact h | exact n0.1 | skip
  · exact h.elim
def rwX8_tell : List dz_r := [(0, .iload_n 1, 1), (1, .i2l, 1), (2, .lconst 0, 1), (3, .ldc2_w 87, 3), (6, .invokestatic 66, 3), (9, .ifCond .ne 6, 3), (12, .bipush (-2), 2), (14, .ireturn, 1), (15, .aload_n 0, 1), (16, .getfield 7, 3), (19, .iconst 5, 1), (20, .iaload, 1), (21, .bipush 9, 2), (23, .if_icmp .ne 6, 3), (26, .bipush (-4), 2), (28, .ireturn, 1), (29, .aload_n 0, 1), (30, .getfield 7, 3), (33, .sipush 3745, 3), (36, .aload_n 0, 1), (37, .getfield 7, 3), (40, .iconst 5, 1), (41, .iaload, 1), (42, .iadd, 1), (43, .iload_n 1, 1), (44, .iastore, 1), (45, .aload_n 0, 1), (46, .getfield 7, 3), (49, .iconst 5, 1), (50, .dup2, 1), (51, .iaload, 1), (52, .iconst 1, 1), (53, .iadd, 1), (54, .iastore, 1), (55, .aload_n 0, 1), (56, .getfield 7, 3), (59, .iconst 5, 1), (60, .iaload, 1), (61, .ireturn, 1)]
theorem dzX8_tell : dz cX8_tell rwX8_tell := dz_all 0 (by decide +kernel)
def kX8_tell (live : am_E) (Ret : am_R) : am_code := [(0, am_iload 1 1), (1, am_i2l 2), (2, am_const (.long 0) 3), (3, am_const (.long 10000000) 6), (6, am_callS live 3 TX8_in 9), (9, am_if1 (fun x => x = 0) 12 15), (12, am_const (.int (-2)) 14), (14, am_retI Ret), (15, am_aload 0 16), (16, am_getR live 8 0 19), (19, am_const (.int 5) 20), (20, am_ald live 0 21), (21, am_const (.int 9) 23), (23, am_if2 (fun x y => x = y) 26 29), (26, am_const (.int (-4)) 28), (28, am_retI Ret), (29, am_aload 0 30), (30, am_getR live 8 0 33), (33, am_const (.int 3745) 36), (36, am_aload 0 37), (37, am_getR live 8 0 40), (40, am_const (.int 5) 41), (41, am_ald live 0 42), (42, am_i2 (fun x y => x + y) 43), (43, am_iload 1 44), (44, am_ast live 0 45), (45, am_aload 0 46), (46, am_getR live 8 0 49), (49, am_const (.int 5) 50), (50, am_dup2 51), (51, am_ald live 0 52), (52, am_const (.int 1) 53), (53, am_i2 (fun x y => x + y) 54), (54, am_ast live 0 55), (55, am_aload 0 56), (56, am_getR live 8 0 59), (59, am_const (.int 5) 60), (60, am_ald live 0 61), (61, am_retI Ret)]
theorem koX8_tell (live : am_E) (Ret : am_R) : ∀ q ∈ kX8_tell live Ret, am_ok RX8 cX8_tell 2 (some .int) 1 25 live Ret q.1 q.2 :=
  am_kz dzX8_tell <|
  am_kd (fun d => ak_iload_n d rfl rfl) <|
  am_kd (fun d => ak_i2l d rfl) <|
  am_kd (fun d => ak_lconst d (by decide +kernel) rfl) <|
  am_kd (fun d => ak_ldc2 wd_1017 d rfl) <|
  am_kd (fun d => ak_callS metX8_in ⟨rfl, hy_X8_in⟩ (am_w4 wd_986 wd_987 wd_67 wd_988) (by decide) d rfl) <|
  am_kd (fun d => ak_if_ne d (by decide +kernel) rfl) <|
  am_kd (fun d => ak_bipush d (by decide +kernel) rfl) <|
  am_kd (fun d => ak_retI d) <|
  am_kd (fun d => ak_aload_n d rfl rfl) <|
  am_kd (fun d => ak_getR (C := RX8) (T := TX8) (N := 27) rfl inX8w (by decide) rfl rfl rfl wd_895 d rfl) <|
  am_kd (fun d => ak_iconst d (by decide +kernel) rfl) <|
  am_kd (fun d => ak_iald (t := 0) (fun _ => rfl) rfl d rfl) <|
  am_kd (fun d => ak_bipush d (by decide +kernel) rfl) <|
  am_kd (fun d => ak_icmp_ne d (by decide +kernel) rfl) <|
  am_kd (fun d => ak_bipush d (by decide +kernel) rfl) <|
  am_kd (fun d => ak_retI d) <|
  am_kd (fun d => ak_aload_n d rfl rfl) <|
  am_kd (fun d => ak_getR (C := RX8) (T := TX8) (N := 27) rfl inX8w (by decide) rfl rfl rfl wd_895 d rfl) <|
  am_kd (fun d => ak_sipush d (by decide +kernel) rfl) <|
  am_kd (fun d => ak_aload_n d rfl rfl) <|
  am_kd (fun d => ak_getR (C := RX8) (T := TX8) (N := 27) rfl inX8w (by decide) rfl rfl rfl wd_895 d rfl) <|
  am_kd (fun d => ak_iconst d (by decide +kernel) rfl) <|
  am_kd (fun d => ak_iald (t := 0) (fun _ => rfl) rfl d rfl) <|
  am_kd (fun d => ak_iadd d rfl) <|
  am_kd (fun d => ak_iload_n d rfl rfl) <|
  am_kd (fun d => ak_iast (t := 0) (fun _ => rfl) rfl d rfl) <|
  am_kd (fun d => ak_aload_n d rfl rfl) <|
  am_kd (fun d => ak_getR (C := RX8) (T := TX8) (N := 27) rfl inX8w (by decide) rfl rfl rfl wd_895 d rfl) <|
  am_kd (fun d => ak_iconst d (by decide +kernel) rfl) <|
  am_kd (fun d => ak_dup2 d rfl) <|
  am_kd (fun d => ak_iald (t := 0) (fun _ => rfl) rfl d rfl) <|
  am_kd (fun d => ak_iconst d (by decide +kernel) rfl) <|
  am_kd (fun d => ak_iadd d rfl) <|
  am_kd (fun d => ak_iast (t := 0) (fun _ => rfl) rfl d rfl) <|
  am_kd (fun d => ak_aload_n d rfl rfl) <|
  am_kd (fun d => ak_getR (C := RX8) (T := TX8) (N := 27) rfl inX8w (by decide) rfl rfl rfl wd_895 d rfl) <|
  am_kd (fun d => ak_iconst d (by decide +kernel) rfl) <|
  am_kd (fun d => ak_iald (t := 0) (fun _ => rfl) rfl d rfl) <|
  am_kd (fun d => ak_retI d) <| am_kdn
def r_tell (M : am_M) (v : Int32) : Int32 × am_M := if 0 ≤ v ∧ v ≤ 10000000 then (if M.1 201 (Int32.toNatClampNeg 5) = 9 then ((-4 : Int32), M) else ((fun M1 : am_M => (fun M2 : am_M => (M2.1 201 (Int32.toNatClampNeg 5), M2)) (am_wI M1 201 (Int32.toNatClampNeg 5) (M1.1 201 (Int32.toNatClampNeg 5) + 1))) (am_wI M 201 (3745 + M.1 201 (Int32.toNatClampNeg 5)).toNatClampNeg v))) else ((-2 : Int32), M)
def TX8_tell : am_T := fun live as M R => match as with
  | [.ref n, .int v] => am_mn live ∧ n = 200 ∧ r_I M ∧ R (some (.int (r_tell M v).1)) (r_tell M v).2
  | _ => False
set_option maxRecDepth 100000 in
set_option maxHeartbeats 4000000 in
theorem metX8_tell : am_Met yX8_tell cX8_tell 2 (some .int) (1) (25) TX8_tell := by
  refine am_met (own := RX8) (by decide +kernel) rfl kX8_tell koX8_tell 200 (fun _ _ _ _ _ => none) (fun live as M Ret h => ?_) (fun _ _ _ _ _ _ _ _ hI => by cases hI)
  unfold TX8_tell at h
  split at h
  · next n v =>
    refine ⟨Nat.le_of_ble_eq_true rfl, ?_⟩
    change am_wp _ _ _ _ [(0, Value.ref n), (1, Value.int v)] _ _
    obtain ⟨hmn, rfl, hR, h⟩ := h
    have hmn2 := hmn
    obtain ⟨i1, i2, rfl⟩ := hmn2
    have l201 : am_len 201 = 3760 := rfl
    have n0 := hR.n0
    have n1 := hR.n1
    have n030 : 0 ≤ (M.1 201 0).toInt ∧ (M.1 201 0).toInt ≤ 30 := ⟨n0.1, by omega⟩
    by_cases z0 : 0 ≤ v ∧ v ≤ 10000000
    rotate_left
    · skip
      have q0 : (if (0 : Int64) ≤ v.toInt64 ∧ v.toInt64 ≤ (10000000 : Int64) then (1 : Int32) else 0) = 0 := if_neg (fun r => z0 (by simp only [i_le, i_lt, j_le, Int32.toInt_toInt64, Int32.reduceToInt, Int64.reduceToInt] at r ⊢; omega))
      have e : r_tell M v = ((-2 : Int32), M) := by unfold r_tell; rw [if_neg z0]
      rw [e] at h
      repeat' (first | (with_reducible exact hmn) | (with_reducible exact h) | (with_reducible exact n030) | (with_reducible exact n1) | apply And.intro | exact rfl | (intro hx; with_reducible exact absurd q0 hx) | (intro hx; exact absurd hx (by decide)) | (intro hx; exact absurd (by decide) hx) | decide | intro hx | (refine Exists.intro _ (And.intro rfl ?_)))
      all_goals try first | (with_reducible change am_tI _ _) | (change Ret _ _) | (change Ret _ _ _) | (change Exists _)
      all_goals try dsimp only at *
      all_goals try (with_reducible exact absurd ‹(1000 : Int64) = 0› am_z1000)
      all_goals first | (with_reducible exact h) | (with_reducible exact n0.1) | omega | (simp only [e1, l201, Int32.reduceToInt]; omega) | (show _ < _; simp only [l201]; decide) | exact h | exact n0.1 | skip
    · skip
      have q0 : ¬ ((if (0 : Int64) ≤ v.toInt64 ∧ v.toInt64 ≤ (10000000 : Int64) then (1 : Int32) else 0) = 0) := by rw [if_pos (by have q := z0; simp only [i_le, i_lt, j_le, Int32.toInt_toInt64, Int32.reduceToInt, Int64.reduceToInt] at q ⊢; omega)]; decide
      have nc5 : 0 ≤ (M.1 201 (Int32.toNatClampNeg 5)).toInt ∧ (M.1 201 (Int32.toNatClampNeg 5)).toInt ≤ 9 := hR.n5
      by_cases z1 : M.1 201 (Int32.toNatClampNeg 5) = 9
      · skip
        have e : r_tell M v = ((-4 : Int32), M) := by unfold r_tell; rw [if_pos z0, if_pos z1]
        rw [e] at h
        repeat' (first | (with_reducible exact hmn) | (with_reducible exact h) | (with_reducible exact n030) | (with_reducible exact n1) | apply And.intro | exact rfl | (intro hx; with_reducible exact absurd hx q0) | (intro hx; with_reducible exact absurd z1 hx) | (intro hx; exact absurd hx (by decide)) | (intro hx; exact absurd (by decide) hx) | decide | intro hx | (refine Exists.intro _ (And.intro rfl ?_)))
        all_goals try first | (with_reducible change am_tI _ _) | (change Ret _ _) | (change Ret _ _ _) | (change Exists _)
        all_goals try dsimp only at *
        all_goals try (with_reducible exact absurd ‹(1000 : Int64) = 0› am_z1000)
        all_goals first | (with_reducible exact h) | (with_reducible exact n0.1) | omega | (simp only [e1, l201, Int32.reduceToInt]; omega) | (show _ < _; simp only [l201]; decide) | exact h | exact n0.1 | skip
      · skip
        have zb : (M.1 201 (Int32.toNatClampNeg 5)).toInt < 9 := by have q := z1; simp only [i_eq, Int32.reduceToInt] at q; omega
        have e1 := r_off (c := 3745) (x := M.1 201 (Int32.toNatClampNeg 5)) ⟨by decide, by decide⟩ ⟨by omega, by omega⟩
        simp only [Int32.reduceToInt] at e1
        have e : r_tell M v = ((fun M1 : am_M => (fun M2 : am_M => (M2.1 201 (Int32.toNatClampNeg 5), M2)) (am_wI M1 201 (Int32.toNatClampNeg 5) (M1.1 201 (Int32.toNatClampNeg 5) + 1))) (am_wI M 201 (3745 + M.1 201 (Int32.toNatClampNeg 5)).toNatClampNeg v)) := by unfold r_tell; rw [if_pos z0, if_neg z1]
        rw [e] at h
        repeat' (first | (with_reducible exact hmn) | (with_reducible exact n030) | (with_reducible exact n1) | apply And.intro | exact rfl | (intro hx; with_reducible exact absurd hx q0) | (intro hx; with_reducible exact absurd hx z1) | (intro hx; exact absurd hx (by decide)) | (intro hx; exact absurd (by decide) hx) | decide | intro hx | (refine Exists.intro _ (And.intro rfl ?_)))
        all_goals try first | (with_reducible change am_tI _ _) | (change Ret _ _) | (change Ret _ _ _) | (change Exists _)
        all_goals try dsimp only at *
        all_goals try (with_reducible exact absurd ‹(1000 : Int64) = 0› am_z1000)
        all_goals first | (with_reducible exact h) | (with_reducible exact n0.1) | omega | (simp only [e1, l201, Int32.reduceToInt]; omega) | (show _ < _; simp only [l201]; decide) | exact h | exact n0.1 | skip
  · exact h.elim
def rwX8_untell : List dz_r := [(0, .aload_n 0, 1), (1, .getfield 7, 3), (4, .iconst 5, 1), (5, .iaload, 1), (6, .istore_n 1, 1), (7, .aload_n 0, 1), (8, .getfield 7, 3), (11, .iconst 5, 1), (12, .iconst 0, 1), (13, .iastore, 1), (14, .iload_n 1, 1), (15, .ireturn, 1)]
theorem dzX8_untell : dz cX8_untell rwX8_untell := dz_all 0 (by decide +kernel)
def kX8_untell (live : am_E) (Ret : am_R) : am_code := [(0, am_aload 0 1), (1, am_getR live 8 0 4), (4, am_const (.int 5) 5), (5, am_ald live 0 6), (6, am_istore 1 2 7), (7, am_aload 0 8), (8, am_getR live 8 0 11), (11, am_const (.int 5) 12), (12, am_const (.int 0) 13), (13, am_ast live 0 14), (14, am_iload 1 15), (15, am_retI Ret)]
theorem koX8_untell (live : am_E) (Ret : am_R) : ∀ q ∈ kX8_untell live Ret, am_ok RX8 cX8_untell 2 (some .int) 0 0 live Ret q.1 q.2 :=
  am_kz dzX8_untell <|
  am_kd (fun d => ak_aload_n d rfl rfl) <|
  am_kd (fun d => ak_getR (C := RX8) (T := TX8) (N := 27) rfl inX8w (by decide) rfl rfl rfl wd_895 d rfl) <|
  am_kd (fun d => ak_iconst d (by decide +kernel) rfl) <|
  am_kd (fun d => ak_iald (t := 0) (fun _ => rfl) rfl d rfl) <|
  am_kd (fun d => ak_istore_n d rfl rfl) <|
  am_kd (fun d => ak_aload_n d rfl rfl) <|
  am_kd (fun d => ak_getR (C := RX8) (T := TX8) (N := 27) rfl inX8w (by decide) rfl rfl rfl wd_895 d rfl) <|
  am_kd (fun d => ak_iconst d (by decide +kernel) rfl) <|
  am_kd (fun d => ak_iconst d (by decide +kernel) rfl) <|
  am_kd (fun d => ak_iast (t := 0) (fun _ => rfl) rfl d rfl) <|
  am_kd (fun d => ak_iload_n d rfl rfl) <|
  am_kd (fun d => ak_retI d) <| am_kdn
def r_untell (M : am_M) : Int32 × am_M := (M.1 201 (Int32.toNatClampNeg 5), am_wI M 201 (Int32.toNatClampNeg 5) 0)
def TX8_untell : am_T := fun live as M R => match as with
  | [.ref n] => am_mn live ∧ n = 200 ∧ r_I M ∧ R (some (.int (r_untell M).1)) (r_untell M).2
  | _ => False
set_option maxRecDepth 100000 in
set_option maxHeartbeats 4000000 in
theorem metX8_untell : am_Met yX8_untell cX8_untell 2 (some .int) (0) (0) TX8_untell := by
  refine am_met (own := RX8) (by decide +kernel) rfl kX8_untell koX8_untell 200 (fun _ _ _ _ _ => none) (fun live as M Ret h => ?_) (fun _ _ _ _ _ _ _ _ hI => by cases hI)
  unfold TX8_untell at h
  split at h
  · next n =>
    refine ⟨Nat.le_of_ble_eq_true rfl, ?_⟩
    change am_wp _ _ _ _ [(0, Value.ref n)] _ _
    obtain ⟨hmn, rfl, hR, h⟩ := h
    have hmn2 := hmn
    obtain ⟨i1, i2, rfl⟩ := hmn2
    have l201 : am_len 201 = 3760 := rfl
    have n0 := hR.n0
    have n1 := hR.n1
    have n030 : 0 ≤ (M.1 201 0).toInt ∧ (M.1 201 0).toInt ≤ 30 := ⟨n0.1, by omega⟩
    have e : r_untell M = (M.1 201 (Int32.toNatClampNeg 5), am_wI M 201 (Int32.toNatClampNeg 5) 0) := by rfl
    rw [e] at h
    repeat' (first | (with_reducible exact hmn) | (with_reducible exact n030) | (with_reducible exact n1) | apply And.intro | exact rfl | (intro hx; exact absurd hx (by decide)) | (intro hx; exact absurd (by decide) hx) | decide | intro hx | (refine Exists.intro _ (And.intro rfl ?_)))
    all_goals try first | (with_reducible change am_tI _ _) | (change Ret _ _) | (change Ret _ _ _) | (change Exists _)
    all_goals try dsimp only at *
    all_goals try (with_reducible exact absurd ‹(1000 : Int64) = 0› am_z1000)
    all_goals first | (with_reducible exact h) | (with_reducible exact n0.1) | omega | (show _ < _; simp only [l201]; decide) | exact h | exact n0.1 | skip
  · exact h.elim
set_option maxRecDepth 100000 in
theorem wd_1093 : Cond.constantLong "LearnLoansModel" 144 127 ∈ am_ws := am_wt5 (List.mem_of_getElem? (i := 76) (by rfl)) (by decide +kernel)
def rwX8_write : List dz_r := [(0, .iload_n 1, 1), (1, .invokestatic 104, 3), (4, .ifCond .eq 15, 3), (7, .iload_n 2, 1), (8, .i2l, 1), (9, .lconst 0, 1), (10, .ldc2_w 144, 3), (13, .invokestatic 66, 3), (16, .ifCond .ne 6, 3), (19, .bipush (-2), 2), (21, .ireturn, 1), (22, .aload_n 0, 1), (23, .getfield 7, 3), (26, .sipush 3508, 3), (29, .iload_n 1, 1), (30, .iadd, 1), (31, .iaload, 1), (32, .istore_n 3, 1), (33, .iload_n 3, 1), (34, .bipush 50, 2), (36, .if_icmp .ne 6, 3), (39, .bipush (-4), 2), (41, .ireturn, 1), (42, .aload_n 0, 1), (43, .getfield 7, 3), (46, .sipush 3258, 3), (49, .bipush 50, 2), (51, .iload_n 1, 1), (52, .imul, 1), (53, .iadd, 1), (54, .iload_n 3, 1), (55, .iadd, 1), (56, .iload_n 2, 1), (57, .iastore, 1), (58, .aload_n 0, 1), (59, .getfield 7, 3), (62, .sipush 3508, 3), (65, .iload_n 1, 1), (66, .iadd, 1), (67, .dup2, 1), (68, .iaload, 1), (69, .iconst 1, 1), (70, .iadd, 1), (71, .iastore, 1), (72, .iload_n 3, 1), (73, .iconst 1, 1), (74, .iadd, 1), (75, .ireturn, 1)]
theorem dzX8_write : dz cX8_write rwX8_write := dz_all 0 (by decide +kernel)
def kX8_write (live : am_E) (Ret : am_R) : am_code := [(0, am_iload 1 1), (1, am_callS live 1 TX8_isPlan 4), (4, am_if1 (fun x => x = 0) 19 7), (7, am_iload 2 8), (8, am_i2l 9), (9, am_const (.long 0) 10), (10, am_const (.long 127) 13), (13, am_callS live 3 TX8_in 16), (16, am_if1 (fun x => x = 0) 19 22), (19, am_const (.int (-2)) 21), (21, am_retI Ret), (22, am_aload 0 23), (23, am_getR live 8 0 26), (26, am_const (.int 3508) 29), (29, am_iload 1 30), (30, am_i2 (fun x y => x + y) 31), (31, am_ald live 0 32), (32, am_istore 3 4 33), (33, am_iload 3 34), (34, am_const (.int 50) 36), (36, am_if2 (fun x y => x = y) 39 42), (39, am_const (.int (-4)) 41), (41, am_retI Ret), (42, am_aload 0 43), (43, am_getR live 8 0 46), (46, am_const (.int 3258) 49), (49, am_const (.int 50) 51), (51, am_iload 1 52), (52, am_i2 (fun x y => x * y) 53), (53, am_i2 (fun x y => x + y) 54), (54, am_iload 3 55), (55, am_i2 (fun x y => x + y) 56), (56, am_iload 2 57), (57, am_ast live 0 58), (58, am_aload 0 59), (59, am_getR live 8 0 62), (62, am_const (.int 3508) 65), (65, am_iload 1 66), (66, am_i2 (fun x y => x + y) 67), (67, am_dup2 68), (68, am_ald live 0 69), (69, am_const (.int 1) 70), (70, am_i2 (fun x y => x + y) 71), (71, am_ast live 0 72), (72, am_iload 3 73), (73, am_const (.int 1) 74), (74, am_i2 (fun x y => x + y) 75), (75, am_retI Ret)]
theorem koX8_write (live : am_E) (Ret : am_R) : ∀ q ∈ kX8_write live Ret, am_ok RX8 cX8_write 4 (some .int) 2 45 live Ret q.1 q.2 :=
  am_kz dzX8_write <|
  am_kd (fun d => ak_iload_n d rfl rfl) <|
  am_kd (fun d => ak_callS metX8_isPlan ⟨rfl, hy_X8_isPlan⟩ (am_w4 wd_1034 wd_1035 wd_67 wd_1036) (by decide) d rfl) <|
  am_kd (fun d => ak_if_eq d (by decide +kernel) rfl) <|
  am_kd (fun d => ak_iload_n d rfl rfl) <|
  am_kd (fun d => ak_i2l d rfl) <|
  am_kd (fun d => ak_lconst d (by decide +kernel) rfl) <|
  am_kd (fun d => ak_ldc2 wd_1093 d rfl) <|
  am_kd (fun d => ak_callS metX8_in ⟨rfl, hy_X8_in⟩ (am_w4 wd_986 wd_987 wd_67 wd_988) (by decide) d rfl) <|
  am_kd (fun d => ak_if_ne d (by decide +kernel) rfl) <|
  am_kd (fun d => ak_bipush d (by decide +kernel) rfl) <|
  am_kd (fun d => ak_retI d) <|
  am_kd (fun d => ak_aload_n d rfl rfl) <|
  am_kd (fun d => ak_getR (C := RX8) (T := TX8) (N := 27) rfl inX8w (by decide) rfl rfl rfl wd_895 d rfl) <|
  am_kd (fun d => ak_sipush d (by decide +kernel) rfl) <|
  am_kd (fun d => ak_iload_n d rfl rfl) <|
  am_kd (fun d => ak_iadd d rfl) <|
  am_kd (fun d => ak_iald (t := 0) (fun _ => rfl) rfl d rfl) <|
  am_kd (fun d => ak_istore_n d rfl rfl) <|
  am_kd (fun d => ak_iload_n d rfl rfl) <|
  am_kd (fun d => ak_bipush d (by decide +kernel) rfl) <|
  am_kd (fun d => ak_icmp_ne d (by decide +kernel) rfl) <|
  am_kd (fun d => ak_bipush d (by decide +kernel) rfl) <|
  am_kd (fun d => ak_retI d) <|
  am_kd (fun d => ak_aload_n d rfl rfl) <|
  am_kd (fun d => ak_getR (C := RX8) (T := TX8) (N := 27) rfl inX8w (by decide) rfl rfl rfl wd_895 d rfl) <|
  am_kd (fun d => ak_sipush d (by decide +kernel) rfl) <|
  am_kd (fun d => ak_bipush d (by decide +kernel) rfl) <|
  am_kd (fun d => ak_iload_n d rfl rfl) <|
  am_kd (fun d => ak_imul d rfl) <|
  am_kd (fun d => ak_iadd d rfl) <|
  am_kd (fun d => ak_iload_n d rfl rfl) <|
  am_kd (fun d => ak_iadd d rfl) <|
  am_kd (fun d => ak_iload_n d rfl rfl) <|
  am_kd (fun d => ak_iast (t := 0) (fun _ => rfl) rfl d rfl) <|
  am_kd (fun d => ak_aload_n d rfl rfl) <|
  am_kd (fun d => ak_getR (C := RX8) (T := TX8) (N := 27) rfl inX8w (by decide) rfl rfl rfl wd_895 d rfl) <|
  am_kd (fun d => ak_sipush d (by decide +kernel) rfl) <|
  am_kd (fun d => ak_iload_n d rfl rfl) <|
  am_kd (fun d => ak_iadd d rfl) <|
  am_kd (fun d => ak_dup2 d rfl) <|
  am_kd (fun d => ak_iald (t := 0) (fun _ => rfl) rfl d rfl) <|
  am_kd (fun d => ak_iconst d (by decide +kernel) rfl) <|
  am_kd (fun d => ak_iadd d rfl) <|
  am_kd (fun d => ak_iast (t := 0) (fun _ => rfl) rfl d rfl) <|
  am_kd (fun d => ak_iload_n d rfl rfl) <|
  am_kd (fun d => ak_iconst d (by decide +kernel) rfl) <|
  am_kd (fun d => ak_iadd d rfl) <|
  am_kd (fun d => ak_retI d) <| am_kdn
def r_write (M : am_M) (pl g : Int32) : Int32 × am_M := if 0 ≤ pl ∧ pl < 5 then (if 0 ≤ g ∧ g ≤ 127 then (if M.1 201 (3508 + pl).toNatClampNeg = 50 then ((-4 : Int32), M) else ((fun M1 : am_M => (M.1 201 (3508 + pl).toNatClampNeg + 1, am_wI M1 201 (3508 + pl).toNatClampNeg (M1.1 201 (3508 + pl).toNatClampNeg + 1))) (am_wI M 201 (3258 + 50 * pl + M.1 201 (3508 + pl).toNatClampNeg).toNatClampNeg g))) else ((-2 : Int32), M)) else ((-2 : Int32), M)
def TX8_write : am_T := fun live as M R => match as with
  | [.ref n, .int pl, .int g] => am_mn live ∧ n = 200 ∧ r_I M ∧ R (some (.int (r_write M pl g).1)) (r_write M pl g).2
  | _ => False
set_option maxRecDepth 100000 in
set_option maxHeartbeats 4000000 in
theorem metX8_write : am_Met yX8_write cX8_write 4 (some .int) (2) (45) TX8_write := by
  refine am_met (own := RX8) (by decide +kernel) rfl kX8_write koX8_write 200 (fun _ _ _ _ _ => none) (fun live as M Ret h => ?_) (fun _ _ _ _ _ _ _ _ hI => by cases hI)
  unfold TX8_write at h
  split at h
  · next n pl g =>
    refine ⟨Nat.le_of_ble_eq_true rfl, ?_⟩
    change am_wp _ _ _ _ [(0, Value.ref n), (1, Value.int pl), (2, Value.int g)] _ _
    obtain ⟨hmn, rfl, hR, h⟩ := h
    have hmn2 := hmn
    obtain ⟨i1, i2, rfl⟩ := hmn2
    have l201 : am_len 201 = 3760 := rfl
    have n0 := hR.n0
    have n1 := hR.n1
    have n030 : 0 ≤ (M.1 201 0).toInt ∧ (M.1 201 0).toInt ≤ 30 := ⟨n0.1, by omega⟩
    by_cases z0 : 0 ≤ pl ∧ pl < 5
    rotate_left
    · skip
      have q0 : (if 0 ≤ pl ∧ pl < 5 then (1 : Int32) else 0) = 0 := if_neg z0
      have e : r_write M pl g = ((-2 : Int32), M) := by unfold r_write; rw [if_neg z0]
      rw [e] at h
      repeat' (first | (with_reducible exact hmn) | (with_reducible exact h) | (with_reducible exact n030) | (with_reducible exact n1) | apply And.intro | exact rfl | (intro hx; with_reducible exact absurd q0 hx) | (intro hx; exact absurd hx (by decide)) | (intro hx; exact absurd (by decide) hx) | decide | intro hx | (refine Exists.intro _ (And.intro rfl ?_)))
      all_goals try first | (with_reducible change am_tI _ _) | (change Ret _ _) | (change Ret _ _ _) | (change Exists _)
      all_goals try dsimp only at *
      all_goals try (with_reducible exact absurd ‹(1000 : Int64) = 0› am_z1000)
      all_goals first | (with_reducible exact h) | (with_reducible exact n0.1) | omega | (simp only [e1, l201, Int32.reduceToInt]; omega) | (simp only [ec, l201]; omega) | (show _ < _; simp only [l201]; decide) | exact h | exact n0.1 | skip
    · skip
      have q0 : ¬ ((if 0 ≤ pl ∧ pl < 5 then (1 : Int32) else 0) = 0) := by rw [if_pos z0]; decide
      by_cases z1 : 0 ≤ g ∧ g ≤ 127
      rotate_left
      · skip
        have q1 : (if (0 : Int64) ≤ g.toInt64 ∧ g.toInt64 ≤ (127 : Int64) then (1 : Int32) else 0) = 0 := if_neg (fun r => z1 (by simp only [i_le, i_lt, j_le, Int32.toInt_toInt64, Int32.reduceToInt, Int64.reduceToInt] at r ⊢; omega))
        have e : r_write M pl g = ((-2 : Int32), M) := by unfold r_write; rw [if_pos z0, if_neg z1]
        rw [e] at h
        repeat' (first | (with_reducible exact hmn) | (with_reducible exact h) | (with_reducible exact n030) | (with_reducible exact n1) | apply And.intro | exact rfl | (intro hx; with_reducible exact absurd hx q0) | (intro hx; with_reducible exact absurd q1 hx) | (intro hx; exact absurd hx (by decide)) | (intro hx; exact absurd (by decide) hx) | decide | intro hx | (refine Exists.intro _ (And.intro rfl ?_)))
        all_goals try first | (with_reducible change am_tI _ _) | (change Ret _ _) | (change Ret _ _ _) | (change Exists _)
        all_goals try dsimp only at *
        all_goals try (with_reducible exact absurd ‹(1000 : Int64) = 0› am_z1000)
        all_goals first | (with_reducible exact h) | (with_reducible exact n0.1) | omega | (simp only [e1, l201, Int32.reduceToInt]; omega) | (simp only [ec, l201]; omega) | (show _ < _; simp only [l201]; decide) | exact h | exact n0.1 | skip
      · skip
        have q1 : ¬ ((if (0 : Int64) ≤ g.toInt64 ∧ g.toInt64 ≤ (127 : Int64) then (1 : Int32) else 0) = 0) := by rw [if_pos (by have q := z1; simp only [i_le, i_lt, j_le, Int32.toInt_toInt64, Int32.reduceToInt, Int64.reduceToInt] at q ⊢; omega)]; decide
        have hpl : am_in pl 5 := ⟨by have q := z0.1; simp only [i_le, Int32.reduceToInt] at q; omega, by have q := z0.2; simp only [i_lt, Int32.reduceToInt] at q; omega⟩
        have hpl1 := hpl.1
        have hpl2 := hpl.2
        have e1 := r_off (c := 3508) (x := pl) ⟨by decide, by decide⟩ ⟨by omega, by omega⟩
        simp only [Int32.reduceToInt] at e1
        have ntx : 0 ≤ (M.1 201 (3508 + pl).toNatClampNeg).toInt ∧ (M.1 201 (3508 + pl).toNatClampNeg).toInt ≤ 50 := by have q := hR.tx (g_cl hpl); have q2 := i_clamp (x := 3508 + pl) (by omega); have q3 := i_clamp (x := pl) hpl1; rw [show (3508 + pl).toNatClampNeg = 3508 + pl.toNatClampNeg by omega]; exact q
        by_cases z2 : M.1 201 (3508 + pl).toNatClampNeg = 50
        · skip
          have e : r_write M pl g = ((-4 : Int32), M) := by unfold r_write; rw [if_pos z0, if_pos z1, if_pos z2]
          rw [e] at h
          repeat' (first | (with_reducible exact hmn) | (with_reducible exact h) | (with_reducible exact n030) | (with_reducible exact n1) | apply And.intro | exact rfl | (intro hx; with_reducible exact absurd hx q0) | (intro hx; with_reducible exact absurd hx q1) | (intro hx; with_reducible exact absurd z2 hx) | (intro hx; exact absurd hx (by decide)) | (intro hx; exact absurd (by decide) hx) | decide | intro hx | (refine Exists.intro _ (And.intro rfl ?_)))
          all_goals try first | (with_reducible change am_tI _ _) | (change Ret _ _) | (change Ret _ _ _) | (change Exists _)
          all_goals try dsimp only at *
          all_goals try (with_reducible exact absurd ‹(1000 : Int64) = 0› am_z1000)
          all_goals first | (with_reducible exact h) | (with_reducible exact n0.1) | omega | (simp only [e1, l201, Int32.reduceToInt]; omega) | (simp only [ec, l201]; omega) | (show _ < _; simp only [l201]; decide) | exact h | exact n0.1 | skip
        · skip
          have e50 := r_mul (c := 50) (x := pl) ⟨by decide, by decide⟩ ⟨by omega, by omega⟩
          simp only [Int32.reduceToInt] at e50
          have eb := r_off (c := 3258) (x := 50 * pl) ⟨by decide, by decide⟩ ⟨by omega, by omega⟩
          simp only [e50, Int32.reduceToInt] at eb
          have zb : (M.1 201 (3508 + pl).toNatClampNeg).toInt < 50 := by have q := z2; simp only [i_eq, Int32.reduceToInt] at q; omega
          have ec := r_off (c := 3258 + 50 * pl) (x := M.1 201 (3508 + pl).toNatClampNeg) ⟨by omega, by omega⟩ ⟨by omega, by omega⟩
          rw [eb] at ec
          have e : r_write M pl g = ((fun M1 : am_M => (M.1 201 (3508 + pl).toNatClampNeg + 1, am_wI M1 201 (3508 + pl).toNatClampNeg (M1.1 201 (3508 + pl).toNatClampNeg + 1))) (am_wI M 201 (3258 + 50 * pl + M.1 201 (3508 + pl).toNatClampNeg).toNatClampNeg g)) := by unfold r_write; rw [if_pos z0, if_pos z1, if_neg z2]
          rw [e] at h
          repeat' (first | (with_reducible exact hmn) | (with_reducible exact n030) | (with_reducible exact n1) | apply And.intro | exact rfl | (intro hx; with_reducible exact absurd hx q0) | (intro hx; with_reducible exact absurd hx q1) | (intro hx; with_reducible exact absurd hx z2) | (intro hx; exact absurd hx (by decide)) | (intro hx; exact absurd (by decide) hx) | decide | intro hx | (refine Exists.intro _ (And.intro rfl ?_)))
          all_goals try first | (with_reducible change am_tI _ _) | (change Ret _ _) | (change Ret _ _ _) | (change Exists _)
          all_goals try dsimp only at *
          all_goals try (with_reducible exact absurd ‹(1000 : Int64) = 0› am_z1000)
          all_goals first | (with_reducible exact h) | (with_reducible exact n0.1) | omega | (simp only [e1, l201, Int32.reduceToInt]; omega) | (simp only [ec, l201]; omega) | (show _ < _; simp only [l201]; decide) | exact h | exact n0.1 | skip
  · exact h.elim
def rwX8_erase : List dz_r := [(0, .iload_n 1, 1), (1, .invokestatic 104, 3), (4, .ifCond .ne 6, 3), (7, .bipush (-2), 2), (9, .ireturn, 1), (10, .aload_n 0, 1), (11, .getfield 7, 3), (14, .sipush 3508, 3), (17, .iload_n 1, 1), (18, .iadd, 1), (19, .iaload, 1), (20, .istore_n 2, 1), (21, .aload_n 0, 1), (22, .getfield 7, 3), (25, .sipush 3508, 3), (28, .iload_n 1, 1), (29, .iadd, 1), (30, .iconst 0, 1), (31, .iastore, 1), (32, .iload_n 2, 1), (33, .ireturn, 1)]
theorem dzX8_erase : dz cX8_erase rwX8_erase := dz_all 0 (by decide +kernel)
def kX8_erase (live : am_E) (Ret : am_R) : am_code := [(0, am_iload 1 1), (1, am_callS live 1 TX8_isPlan 4), (4, am_if1 (fun x => x = 0) 7 10), (7, am_const (.int (-2)) 9), (9, am_retI Ret), (10, am_aload 0 11), (11, am_getR live 8 0 14), (14, am_const (.int 3508) 17), (17, am_iload 1 18), (18, am_i2 (fun x y => x + y) 19), (19, am_ald live 0 20), (20, am_istore 2 3 21), (21, am_aload 0 22), (22, am_getR live 8 0 25), (25, am_const (.int 3508) 28), (28, am_iload 1 29), (29, am_i2 (fun x y => x + y) 30), (30, am_const (.int 0) 31), (31, am_ast live 0 32), (32, am_iload 2 33), (33, am_retI Ret)]
theorem koX8_erase (live : am_E) (Ret : am_R) : ∀ q ∈ kX8_erase live Ret, am_ok RX8 cX8_erase 3 (some .int) 2 45 live Ret q.1 q.2 :=
  am_kz dzX8_erase <|
  am_kd (fun d => ak_iload_n d rfl rfl) <|
  am_kd (fun d => ak_callS metX8_isPlan ⟨rfl, hy_X8_isPlan⟩ (am_w4 wd_1034 wd_1035 wd_67 wd_1036) (by decide) d rfl) <|
  am_kd (fun d => ak_if_ne d (by decide +kernel) rfl) <|
  am_kd (fun d => ak_bipush d (by decide +kernel) rfl) <|
  am_kd (fun d => ak_retI d) <|
  am_kd (fun d => ak_aload_n d rfl rfl) <|
  am_kd (fun d => ak_getR (C := RX8) (T := TX8) (N := 27) rfl inX8w (by decide) rfl rfl rfl wd_895 d rfl) <|
  am_kd (fun d => ak_sipush d (by decide +kernel) rfl) <|
  am_kd (fun d => ak_iload_n d rfl rfl) <|
  am_kd (fun d => ak_iadd d rfl) <|
  am_kd (fun d => ak_iald (t := 0) (fun _ => rfl) rfl d rfl) <|
  am_kd (fun d => ak_istore_n d rfl rfl) <|
  am_kd (fun d => ak_aload_n d rfl rfl) <|
  am_kd (fun d => ak_getR (C := RX8) (T := TX8) (N := 27) rfl inX8w (by decide) rfl rfl rfl wd_895 d rfl) <|
  am_kd (fun d => ak_sipush d (by decide +kernel) rfl) <|
  am_kd (fun d => ak_iload_n d rfl rfl) <|
  am_kd (fun d => ak_iadd d rfl) <|
  am_kd (fun d => ak_iconst d (by decide +kernel) rfl) <|
  am_kd (fun d => ak_iast (t := 0) (fun _ => rfl) rfl d rfl) <|
  am_kd (fun d => ak_iload_n d rfl rfl) <|
  am_kd (fun d => ak_retI d) <| am_kdn
def r_erase (M : am_M) (pl : Int32) : Int32 × am_M := if 0 ≤ pl ∧ pl < 5 then (M.1 201 (3508 + pl).toNatClampNeg, am_wI M 201 (3508 + pl).toNatClampNeg 0) else ((-2 : Int32), M)
def TX8_erase : am_T := fun live as M R => match as with
  | [.ref n, .int pl] => am_mn live ∧ n = 200 ∧ r_I M ∧ R (some (.int (r_erase M pl).1)) (r_erase M pl).2
  | _ => False
set_option maxRecDepth 100000 in
set_option maxHeartbeats 4000000 in
theorem metX8_erase : am_Met yX8_erase cX8_erase 3 (some .int) (2) (45) TX8_erase := by
  refine am_met (own := RX8) (by decide +kernel) rfl kX8_erase koX8_erase 200 (fun _ _ _ _ _ => none) (fun live as M Ret h => ?_) (fun _ _ _ _ _ _ _ _ hI => by cases hI)
  unfold TX8_erase at h
  split at h
  · next n pl =>
    refine ⟨Nat.le_of_ble_eq_true rfl, ?_⟩
    change am_wp _ _ _ _ [(0, Value.ref n), (1, Value.int pl)] _ _
    obtain ⟨hmn, rfl, hR, h⟩ := h
    have hmn2 := hmn
    obtain ⟨i1, i2, rfl⟩ := hmn2
    have l201 : am_len 201 = 3760 := rfl
    have n0 := hR.n0
    have n1 := hR.n1
    have n030 : 0 ≤ (M.1 201 0).toInt ∧ (M.1 201 0).toInt ≤ 30 := ⟨n0.1, by omega⟩
    by_cases z0 : 0 ≤ pl ∧ pl < 5
    rotate_left
    · skip
      have q0 : (if 0 ≤ pl ∧ pl < 5 then (1 : Int32) else 0) = 0 := if_neg z0
      have e : r_erase M pl = ((-2 : Int32), M) := by unfold r_erase; rw [if_neg z0]
      rw [e] at h
      repeat' (first | (with_reducible exact hmn) | (with_reducible exact h) | (with_reducible exact n030) | (with_reducible exact n1) | apply And.intro | exact rfl | (intro hx; with_reducible exact absurd q0 hx) | (intro hx; exact absurd hx (by decide)) | (intro hx; exact absurd (by decide) hx) | decide | intro hx | (refine Exists.intro _ (And.intro rfl ?_)))
      all_goals try first | (with_reducible change am_tI _ _) | (change Ret _ _) | (change Ret _ _ _) | (change Exists _)
      all_goals try dsimp only at *
      all_goals try (with_reducible exact absurd ‹(1000 : Int64) = 0› am_z1000)
      all_goals first | (with_reducible exact h) | (with_reducible exact n0.1) | omega | (simp only [e1, l201, Int32.reduceToInt]; omega) | (show _ < _; simp only [l201]; decide) | exact h | exact n0.1 | skip
    · skip
      have q0 : ¬ ((if 0 ≤ pl ∧ pl < 5 then (1 : Int32) else 0) = 0) := by rw [if_pos z0]; decide
      have hpl : am_in pl 5 := ⟨by have q := z0.1; simp only [i_le, Int32.reduceToInt] at q; omega, by have q := z0.2; simp only [i_lt, Int32.reduceToInt] at q; omega⟩
      have hpl1 := hpl.1
      have hpl2 := hpl.2
      have e1 := r_off (c := 3508) (x := pl) ⟨by decide, by decide⟩ ⟨by omega, by omega⟩
      simp only [Int32.reduceToInt] at e1
      have e : r_erase M pl = (M.1 201 (3508 + pl).toNatClampNeg, am_wI M 201 (3508 + pl).toNatClampNeg 0) := by unfold r_erase; rw [if_pos z0]
      rw [e] at h
      repeat' (first | (with_reducible exact hmn) | (with_reducible exact n030) | (with_reducible exact n1) | apply And.intro | exact rfl | (intro hx; with_reducible exact absurd hx q0) | (intro hx; exact absurd hx (by decide)) | (intro hx; exact absurd (by decide) hx) | decide | intro hx | (refine Exists.intro _ (And.intro rfl ?_)))
      all_goals try first | (with_reducible change am_tI _ _) | (change Ret _ _) | (change Ret _ _ _) | (change Exists _)
      all_goals try dsimp only at *
      all_goals try (with_reducible exact absurd ‹(1000 : Int64) = 0› am_z1000)
      all_goals first | (with_reducible exact h) | (with_reducible exact n0.1) | omega | (simp only [e1, l201, Int32.reduceToInt]; omega) | (show _ < _; simp only [l201]; decide) | exact h | exact n0.1 | skip
  · exact h.elim
set_option maxRecDepth 100000 in
theorem wd_1244 : Cond.constantLong "LearnLoansModel" 257 2 ∈ am_ws := am_wt5 (List.mem_of_getElem? (i := 227) (by rfl)) (by decide +kernel)
set_option maxRecDepth 100000 in
theorem wd_1108 : Cond.constantLong "LearnLoansModel" 188 10 ∈ am_ws := am_wt5 (List.mem_of_getElem? (i := 91) (by rfl)) (by decide +kernel)
def rwX8_chances : List dz_r := [(0, .iload_n 1, 1), (1, .i2l, 1), (2, .lconst 0, 1), (3, .ldc2_w 257, 3), (6, .invokestatic 66, 3), (9, .ifCond .eq 67, 3), (12, .iload_n 2, 1), (13, .i2l, 1), (14, .lconst 0, 1), (15, .ldc2_w 188, 3), (18, .invokestatic 66, 3), (21, .ifCond .eq 55, 3), (24, .iload_n 3, 1), (25, .i2l, 1), (26, .lconst 0, 1), (27, .ldc2_w 188, 3), (30, .invokestatic 66, 3), (33, .ifCond .eq 43, 3), (36, .iload 4, 2), (38, .i2l, 1), (39, .lconst 0, 1), (40, .ldc2_w 188, 3), (43, .invokestatic 66, 3), (46, .ifCond .eq 30, 3), (49, .iload 5, 2), (51, .i2l, 1), (52, .lconst 0, 1), (53, .ldc2_w 188, 3), (56, .invokestatic 66, 3), (59, .ifCond .eq 17, 3), (62, .iload_n 2, 1), (63, .iload_n 3, 1), (64, .iadd, 1), (65, .iload 4, 2), (67, .iadd, 1), (68, .iload 5, 2), (70, .iadd, 1), (71, .bipush 10, 2), (73, .if_icmp .eq 6, 3), (76, .bipush (-2), 2), (78, .ireturn, 1), (79, .aload_n 0, 1), (80, .getfield 7, 3), (83, .sipush 3733, 3), (86, .iconst 4, 1), (87, .iload_n 1, 1), (88, .imul, 1), (89, .iadd, 1), (90, .iload_n 2, 1), (91, .iastore, 1), (92, .aload_n 0, 1), (93, .getfield 7, 3), (96, .sipush 3733, 3), (99, .iconst 4, 1), (100, .iload_n 1, 1), (101, .imul, 1), (102, .iadd, 1), (103, .iconst 1, 1), (104, .iadd, 1), (105, .iload_n 3, 1), (106, .iastore, 1), (107, .aload_n 0, 1), (108, .getfield 7, 3), (111, .sipush 3733, 3), (114, .iconst 4, 1), (115, .iload_n 1, 1), (116, .imul, 1), (117, .iadd, 1), (118, .iconst 2, 1), (119, .iadd, 1), (120, .iload 4, 2), (122, .iastore, 1), (123, .aload_n 0, 1), (124, .getfield 7, 3), (127, .sipush 3733, 3), (130, .iconst 4, 1), (131, .iload_n 1, 1), (132, .imul, 1), (133, .iadd, 1), (134, .iconst 3, 1), (135, .iadd, 1), (136, .iload 5, 2), (138, .iastore, 1), (139, .iconst 1, 1), (140, .ireturn, 1)]
theorem dzX8_chances : dz cX8_chances rwX8_chances := dz_all 0 (by decide +kernel)
def kX8_chances (live : am_E) (Ret : am_R) : am_code := [(0, am_iload 1 1), (1, am_i2l 2), (2, am_const (.long 0) 3), (3, am_const (.long 2) 6), (6, am_callS live 3 TX8_in 9), (9, am_if1 (fun x => x = 0) 76 12), (12, am_iload 2 13), (13, am_i2l 14), (14, am_const (.long 0) 15), (15, am_const (.long 10) 18), (18, am_callS live 3 TX8_in 21), (21, am_if1 (fun x => x = 0) 76 24), (24, am_iload 3 25), (25, am_i2l 26), (26, am_const (.long 0) 27), (27, am_const (.long 10) 30), (30, am_callS live 3 TX8_in 33), (33, am_if1 (fun x => x = 0) 76 36), (36, am_iload 4 38), (38, am_i2l 39), (39, am_const (.long 0) 40), (40, am_const (.long 10) 43), (43, am_callS live 3 TX8_in 46), (46, am_if1 (fun x => x = 0) 76 49), (49, am_iload 5 51), (51, am_i2l 52), (52, am_const (.long 0) 53), (53, am_const (.long 10) 56), (56, am_callS live 3 TX8_in 59), (59, am_if1 (fun x => x = 0) 76 62), (62, am_iload 2 63), (63, am_iload 3 64), (64, am_i2 (fun x y => x + y) 65), (65, am_iload 4 67), (67, am_i2 (fun x y => x + y) 68), (68, am_iload 5 70), (70, am_i2 (fun x y => x + y) 71), (71, am_const (.int 10) 73), (73, am_if2 (fun x y => x = y) 79 76), (76, am_const (.int (-2)) 78), (78, am_retI Ret), (79, am_aload 0 80), (80, am_getR live 8 0 83), (83, am_const (.int 3733) 86), (86, am_const (.int 4) 87), (87, am_iload 1 88), (88, am_i2 (fun x y => x * y) 89), (89, am_i2 (fun x y => x + y) 90), (90, am_iload 2 91), (91, am_ast live 0 92), (92, am_aload 0 93), (93, am_getR live 8 0 96), (96, am_const (.int 3733) 99), (99, am_const (.int 4) 100), (100, am_iload 1 101), (101, am_i2 (fun x y => x * y) 102), (102, am_i2 (fun x y => x + y) 103), (103, am_const (.int 1) 104), (104, am_i2 (fun x y => x + y) 105), (105, am_iload 3 106), (106, am_ast live 0 107), (107, am_aload 0 108), (108, am_getR live 8 0 111), (111, am_const (.int 3733) 114), (114, am_const (.int 4) 115), (115, am_iload 1 116), (116, am_i2 (fun x y => x * y) 117), (117, am_i2 (fun x y => x + y) 118), (118, am_const (.int 2) 119), (119, am_i2 (fun x y => x + y) 120), (120, am_iload 4 122), (122, am_ast live 0 123), (123, am_aload 0 124), (124, am_getR live 8 0 127), (127, am_const (.int 3733) 130), (130, am_const (.int 4) 131), (131, am_iload 1 132), (132, am_i2 (fun x y => x * y) 133), (133, am_i2 (fun x y => x + y) 134), (134, am_const (.int 3) 135), (135, am_i2 (fun x y => x + y) 136), (136, am_iload 5 138), (138, am_ast live 0 139), (139, am_const (.int 1) 140), (140, am_retI Ret)]
theorem koX8_chances (live : am_E) (Ret : am_R) : ∀ q ∈ kX8_chances live Ret, am_ok RX8 cX8_chances 6 (some .int) 1 25 live Ret q.1 q.2 :=
  am_kz dzX8_chances <|
  am_kd (fun d => ak_iload_n d rfl rfl) <|
  am_kd (fun d => ak_i2l d rfl) <|
  am_kd (fun d => ak_lconst d (by decide +kernel) rfl) <|
  am_kd (fun d => ak_ldc2 wd_1244 d rfl) <|
  am_kd (fun d => ak_callS metX8_in ⟨rfl, hy_X8_in⟩ (am_w4 wd_986 wd_987 wd_67 wd_988) (by decide) d rfl) <|
  am_kd (fun d => ak_if_eq d (by decide +kernel) rfl) <|
  am_kd (fun d => ak_iload_n d rfl rfl) <|
  am_kd (fun d => ak_i2l d rfl) <|
  am_kd (fun d => ak_lconst d (by decide +kernel) rfl) <|
  am_kd (fun d => ak_ldc2 wd_1108 d rfl) <|
  am_kd (fun d => ak_callS metX8_in ⟨rfl, hy_X8_in⟩ (am_w4 wd_986 wd_987 wd_67 wd_988) (by decide) d rfl) <|
  am_kd (fun d => ak_if_eq d (by decide +kernel) rfl) <|
  am_kd (fun d => ak_iload_n d rfl rfl) <|
  am_kd (fun d => ak_i2l d rfl) <|
  am_kd (fun d => ak_lconst d (by decide +kernel) rfl) <|
  am_kd (fun d => ak_ldc2 wd_1108 d rfl) <|
  am_kd (fun d => ak_callS metX8_in ⟨rfl, hy_X8_in⟩ (am_w4 wd_986 wd_987 wd_67 wd_988) (by decide) d rfl) <|
  am_kd (fun d => ak_if_eq d (by decide +kernel) rfl) <|
  am_kd (fun d => ak_iload d rfl) <|
  am_kd (fun d => ak_i2l d rfl) <|
  am_kd (fun d => ak_lconst d (by decide +kernel) rfl) <|
  am_kd (fun d => ak_ldc2 wd_1108 d rfl) <|
  am_kd (fun d => ak_callS metX8_in ⟨rfl, hy_X8_in⟩ (am_w4 wd_986 wd_987 wd_67 wd_988) (by decide) d rfl) <|
  am_kd (fun d => ak_if_eq d (by decide +kernel) rfl) <|
  am_kd (fun d => ak_iload d rfl) <|
  am_kd (fun d => ak_i2l d rfl) <|
  am_kd (fun d => ak_lconst d (by decide +kernel) rfl) <|
  am_kd (fun d => ak_ldc2 wd_1108 d rfl) <|
  am_kd (fun d => ak_callS metX8_in ⟨rfl, hy_X8_in⟩ (am_w4 wd_986 wd_987 wd_67 wd_988) (by decide) d rfl) <|
  am_kd (fun d => ak_if_eq d (by decide +kernel) rfl) <|
  am_kd (fun d => ak_iload_n d rfl rfl) <|
  am_kd (fun d => ak_iload_n d rfl rfl) <|
  am_kd (fun d => ak_iadd d rfl) <|
  am_kd (fun d => ak_iload d rfl) <|
  am_kd (fun d => ak_iadd d rfl) <|
  am_kd (fun d => ak_iload d rfl) <|
  am_kd (fun d => ak_iadd d rfl) <|
  am_kd (fun d => ak_bipush d (by decide +kernel) rfl) <|
  am_kd (fun d => ak_icmp_eq d (by decide +kernel) rfl) <|
  am_kd (fun d => ak_bipush d (by decide +kernel) rfl) <|
  am_kd (fun d => ak_retI d) <|
  am_kd (fun d => ak_aload_n d rfl rfl) <|
  am_kd (fun d => ak_getR (C := RX8) (T := TX8) (N := 27) rfl inX8w (by decide) rfl rfl rfl wd_895 d rfl) <|
  am_kd (fun d => ak_sipush d (by decide +kernel) rfl) <|
  am_kd (fun d => ak_iconst d (by decide +kernel) rfl) <|
  am_kd (fun d => ak_iload_n d rfl rfl) <|
  am_kd (fun d => ak_imul d rfl) <|
  am_kd (fun d => ak_iadd d rfl) <|
  am_kd (fun d => ak_iload_n d rfl rfl) <|
  am_kd (fun d => ak_iast (t := 0) (fun _ => rfl) rfl d rfl) <|
  am_kd (fun d => ak_aload_n d rfl rfl) <|
  am_kd (fun d => ak_getR (C := RX8) (T := TX8) (N := 27) rfl inX8w (by decide) rfl rfl rfl wd_895 d rfl) <|
  am_kd (fun d => ak_sipush d (by decide +kernel) rfl) <|
  am_kd (fun d => ak_iconst d (by decide +kernel) rfl) <|
  am_kd (fun d => ak_iload_n d rfl rfl) <|
  am_kd (fun d => ak_imul d rfl) <|
  am_kd (fun d => ak_iadd d rfl) <|
  am_kd (fun d => ak_iconst d (by decide +kernel) rfl) <|
  am_kd (fun d => ak_iadd d rfl) <|
  am_kd (fun d => ak_iload_n d rfl rfl) <|
  am_kd (fun d => ak_iast (t := 0) (fun _ => rfl) rfl d rfl) <|
  am_kd (fun d => ak_aload_n d rfl rfl) <|
  am_kd (fun d => ak_getR (C := RX8) (T := TX8) (N := 27) rfl inX8w (by decide) rfl rfl rfl wd_895 d rfl) <|
  am_kd (fun d => ak_sipush d (by decide +kernel) rfl) <|
  am_kd (fun d => ak_iconst d (by decide +kernel) rfl) <|
  am_kd (fun d => ak_iload_n d rfl rfl) <|
  am_kd (fun d => ak_imul d rfl) <|
  am_kd (fun d => ak_iadd d rfl) <|
  am_kd (fun d => ak_iconst d (by decide +kernel) rfl) <|
  am_kd (fun d => ak_iadd d rfl) <|
  am_kd (fun d => ak_iload d rfl) <|
  am_kd (fun d => ak_iast (t := 0) (fun _ => rfl) rfl d rfl) <|
  am_kd (fun d => ak_aload_n d rfl rfl) <|
  am_kd (fun d => ak_getR (C := RX8) (T := TX8) (N := 27) rfl inX8w (by decide) rfl rfl rfl wd_895 d rfl) <|
  am_kd (fun d => ak_sipush d (by decide +kernel) rfl) <|
  am_kd (fun d => ak_iconst d (by decide +kernel) rfl) <|
  am_kd (fun d => ak_iload_n d rfl rfl) <|
  am_kd (fun d => ak_imul d rfl) <|
  am_kd (fun d => ak_iadd d rfl) <|
  am_kd (fun d => ak_iconst d (by decide +kernel) rfl) <|
  am_kd (fun d => ak_iadd d rfl) <|
  am_kd (fun d => ak_iload d rfl) <|
  am_kd (fun d => ak_iast (t := 0) (fun _ => rfl) rfl d rfl) <|
  am_kd (fun d => ak_iconst d (by decide +kernel) rfl) <|
  am_kd (fun d => ak_retI d) <| am_kdn
def r_chances (M : am_M) (s w g a d : Int32) : Int32 × am_M := if 0 ≤ s ∧ s ≤ 2 then (if 0 ≤ w ∧ w ≤ 10 then (if 0 ≤ g ∧ g ≤ 10 then (if 0 ≤ a ∧ a ≤ 10 then (if 0 ≤ d ∧ d ≤ 10 then (if w + g + a + d = 10 then (1, am_wI (am_wI (am_wI (am_wI M 201 (3733 + 4 * s).toNatClampNeg w) 201 (3733 + 4 * s + 1).toNatClampNeg g) 201 (3733 + 4 * s + 2).toNatClampNeg a) 201 (3733 + 4 * s + 3).toNatClampNeg d) else ((-2 : Int32), M)) else ((-2 : Int32), M)) else ((-2 : Int32), M)) else ((-2 : Int32), M)) else ((-2 : Int32), M)) else ((-2 : Int32), M)
def TX8_chances : am_T := fun live as M R => match as with
  | [.ref n, .int s, .int w, .int g, .int a, .int d] => am_mn live ∧ n = 200 ∧ r_I M ∧ R (some (.int (r_chances M s w g a d).1)) (r_chances M s w g a d).2
  | _ => False
def JX8_chances : am_E → List Value → am_M → am_R → am_inv := fun live as M R pc => match as with
  | [.ref n, .int s, .int w, .int g, .int a, .int d] => (match pc with
    | 12 => some ([0, 1, 2, 3, 4, 5], fun k L st M' => L = [(0, .ref 200), (1, .int s), (2, .int w), (3, .int g), (4, .int a), (5, .int d)] ∧ st = [] ∧ M' = M ∧ k = (7, 0) ∧ (0 ≤ s ∧ s ≤ 2))
    | 24 => some ([0, 1, 2, 3, 4, 5], fun k L st M' => L = [(0, .ref 200), (1, .int s), (2, .int w), (3, .int g), (4, .int a), (5, .int d)] ∧ st = [] ∧ M' = M ∧ k = (6, 0) ∧ (0 ≤ s ∧ s ≤ 2) ∧ (0 ≤ w ∧ w ≤ 10))
    | 36 => some ([0, 1, 2, 3, 4, 5], fun k L st M' => L = [(0, .ref 200), (1, .int s), (2, .int w), (3, .int g), (4, .int a), (5, .int d)] ∧ st = [] ∧ M' = M ∧ k = (5, 0) ∧ (0 ≤ s ∧ s ≤ 2) ∧ (0 ≤ w ∧ w ≤ 10) ∧ (0 ≤ g ∧ g ≤ 10))
    | 49 => some ([0, 1, 2, 3, 4, 5], fun k L st M' => L = [(0, .ref 200), (1, .int s), (2, .int w), (3, .int g), (4, .int a), (5, .int d)] ∧ st = [] ∧ M' = M ∧ k = (4, 0) ∧ (0 ≤ s ∧ s ≤ 2) ∧ (0 ≤ w ∧ w ≤ 10) ∧ (0 ≤ g ∧ g ≤ 10) ∧ (0 ≤ a ∧ a ≤ 10))
    | 62 => some ([0, 1, 2, 3, 4, 5], fun k L st M' => L = [(0, .ref 200), (1, .int s), (2, .int w), (3, .int g), (4, .int a), (5, .int d)] ∧ st = [] ∧ M' = M ∧ k = (3, 0) ∧ (0 ≤ s ∧ s ≤ 2) ∧ (0 ≤ w ∧ w ≤ 10) ∧ (0 ≤ g ∧ g ≤ 10) ∧ (0 ≤ a ∧ a ≤ 10) ∧ (0 ≤ d ∧ d ≤ 10))
    | 79 => some ([0, 1, 2, 3, 4, 5], fun k L st M' => L = [(0, .ref 200), (1, .int s), (2, .int w), (3, .int g), (4, .int a), (5, .int d)] ∧ st = [] ∧ M' = M ∧ k = (2, 0) ∧ (0 ≤ s ∧ s ≤ 2) ∧ (0 ≤ w ∧ w ≤ 10) ∧ (0 ≤ g ∧ g ≤ 10) ∧ (0 ≤ a ∧ a ≤ 10) ∧ (0 ≤ d ∧ d ≤ 10) ∧ w + g + a + d = 10)
    | _ => none)
  | _ => none
set_option maxRecDepth 100000 in
set_option maxHeartbeats 4000000 in
theorem metX8_chances : am_Met yX8_chances cX8_chances 6 (some .int) (1) (25) TX8_chances := by
  refine am_met (own := RX8) (by decide +kernel) rfl kX8_chances koX8_chances 100 JX8_chances ?_ ?_
  · intro live as M Ret h
    unfold TX8_chances at h
    split at h
    · next n s w g a d =>
      refine ⟨Nat.le_of_ble_eq_true rfl, ?_⟩
      change am_wp _ _ _ _ [(0, Value.ref n), (1, Value.int s), (2, Value.int w), (3, Value.int g), (4, Value.int a), (5, Value.int d)] _ _
      obtain ⟨hmn, rfl, hR, h⟩ := h
      obtain ⟨i1, i2, rfl⟩ := hmn
      by_cases z0 : (0 ≤ s ∧ s ≤ 2)
      rotate_left
      · skip
        have q0 : (if (0 : Int64) ≤ s.toInt64 ∧ s.toInt64 ≤ (2 : Int64) then (1 : Int32) else 0) = 0 := if_neg (fun r => z0 (by simp only [i_le, i_lt, j_le, Int32.toInt_toInt64, Int32.reduceToInt, Int64.reduceToInt] at r ⊢; omega))
        have e : r_chances M s w g a d = ((-2 : Int32), M) := by unfold r_chances; rw [if_neg z0]
        rw [e] at h
        repeat' (first | (with_reducible exact h) | apply And.intro | exact rfl | (intro hx; with_reducible exact absurd q0 hx) | intro hx | (refine Exists.intro _ (And.intro rfl ?_)))
        all_goals try first | (with_reducible change am_tI _ _) | (change Ret _ _) | (change Ret _ _ _) | (change Exists _)
        all_goals try dsimp only at *
        all_goals try (with_reducible exact absurd ‹(1000 : Int64) = 0› am_z1000)
        all_goals exact h
      · skip
        have q0 : ¬ ((if (0 : Int64) ≤ s.toInt64 ∧ s.toInt64 ≤ (2 : Int64) then (1 : Int32) else 0) = 0) := by rw [if_pos (by have q := z0; simp only [i_le, i_lt, j_le, Int32.toInt_toInt64, Int32.reduceToInt, Int64.reduceToInt] at q ⊢; omega)]; decide
        repeat' (first | apply And.intro | exact rfl | (intro hx; with_reducible exact absurd hx q0) | intro hx | (refine Exists.intro _ (And.intro rfl ?_)))
        all_goals try first | (with_reducible change am_tI _ _) | (change Ret _ _) | (change Ret _ _ _) | (change Exists _)
        all_goals try dsimp only at *
        all_goals try (with_reducible exact absurd ‹(1000 : Int64) = 0› am_z1000)
        all_goals exact ⟨_, rfl, rfl, rfl, rfl, z0⟩
    · exact h.elim
  · intro live as M0 Ret h k pc I hI L st M hi
    unfold TX8_chances at h
    split at h
    · next n s w g a d =>
      obtain ⟨hmn, rfl, hR, h⟩ := h
      obtain ⟨i1, i2, rfl⟩ := hmn
      have l201 : am_len 201 = 3760 := rfl
      change (match pc with | 12 => _ | 24 => _ | 36 => _ | 49 => _ | 62 => _ | 79 => _ | _ => none) = _ at hI
      split at hI
      · cases hI
        obtain ⟨rfl, rfl, rfl, rfl, z0⟩ := hi
        by_cases z1 : (0 ≤ w ∧ w ≤ 10)
        rotate_left
        · skip
          have q1 : (if (0 : Int64) ≤ w.toInt64 ∧ w.toInt64 ≤ (10 : Int64) then (1 : Int32) else 0) = 0 := if_neg (fun r => z1 (by simp only [i_le, i_lt, j_le, Int32.toInt_toInt64, Int32.reduceToInt, Int64.reduceToInt] at r ⊢; omega))
          have e : r_chances M s w g a d = ((-2 : Int32), M) := by unfold r_chances; rw [if_pos z0, if_neg z1]
          rw [e] at h
          repeat' (first | (with_reducible exact h) | apply And.intro | exact rfl | (intro hx; with_reducible exact absurd q1 hx) | intro hx | (refine Exists.intro _ (And.intro rfl ?_)))
          all_goals try first | (with_reducible change am_tI _ _) | (change Ret _ _) | (change Ret _ _ _) | (change Exists _)
          all_goals try dsimp only at *
          all_goals try (with_reducible exact absurd ‹(1000 : Int64) = 0› am_z1000)
          all_goals exact h
        · skip
          have q1 : ¬ ((if (0 : Int64) ≤ w.toInt64 ∧ w.toInt64 ≤ (10 : Int64) then (1 : Int32) else 0) = 0) := by rw [if_pos (by have q := z1; simp only [i_le, i_lt, j_le, Int32.toInt_toInt64, Int32.reduceToInt, Int64.reduceToInt] at q ⊢; omega)]; decide
          repeat' (first | apply And.intro | exact rfl | (intro hx; with_reducible exact absurd hx q1) | intro hx | (refine Exists.intro _ (And.intro rfl ?_)))
          all_goals try first | (with_reducible change am_tI _ _) | (change Ret _ _) | (change Ret _ _ _) | (change Exists _)
          all_goals try dsimp only at *
          all_goals try (with_reducible exact absurd ‹(1000 : Int64) = 0› am_z1000)
          all_goals exact ⟨_, am_lt_l (by decide), rfl, rfl, rfl, rfl, z0, z1⟩
      · cases hI
        obtain ⟨rfl, rfl, rfl, rfl, z0, z1⟩ := hi
        by_cases z2 : (0 ≤ g ∧ g ≤ 10)
        rotate_left
        · skip
          have q2 : (if (0 : Int64) ≤ g.toInt64 ∧ g.toInt64 ≤ (10 : Int64) then (1 : Int32) else 0) = 0 := if_neg (fun r => z2 (by simp only [i_le, i_lt, j_le, Int32.toInt_toInt64, Int32.reduceToInt, Int64.reduceToInt] at r ⊢; omega))
          have e : r_chances M s w g a d = ((-2 : Int32), M) := by unfold r_chances; rw [if_pos z0, if_pos z1, if_neg z2]
          rw [e] at h
          repeat' (first | (with_reducible exact h) | apply And.intro | exact rfl | (intro hx; with_reducible exact absurd q2 hx) | intro hx | (refine Exists.intro _ (And.intro rfl ?_)))
          all_goals try first | (with_reducible change am_tI _ _) | (change Ret _ _) | (change Ret _ _ _) | (change Exists _)
          all_goals try dsimp only at *
          all_goals try (with_reducible exact absurd ‹(1000 : Int64) = 0› am_z1000)
          all_goals exact h
        · skip
          have q2 : ¬ ((if (0 : Int64) ≤ g.toInt64 ∧ g.toInt64 ≤ (10 : Int64) then (1 : Int32) else 0) = 0) := by rw [if_pos (by have q := z2; simp only [i_le, i_lt, j_le, Int32.toInt_toInt64, Int32.reduceToInt, Int64.reduceToInt] at q ⊢; omega)]; decide
          repeat' (first | apply And.intro | exact rfl | (intro hx; with_reducible exact absurd hx q2) | intro hx | (refine Exists.intro _ (And.intro rfl ?_)))
          all_goals try first | (with_reducible change am_tI _ _) | (change Ret _ _) | (change Ret _ _ _) | (change Exists _)
          all_goals try dsimp only at *
          all_goals try (with_reducible exact absurd ‹(1000 : Int64) = 0› am_z1000)
          all_goals exact ⟨_, am_lt_l (by decide), rfl, rfl, rfl, rfl, z0, z1, z2⟩
      · cases hI
        obtain ⟨rfl, rfl, rfl, rfl, z0, z1, z2⟩ := hi
        by_cases z3 : (0 ≤ a ∧ a ≤ 10)
        rotate_left
        · skip
          have q3 : (if (0 : Int64) ≤ a.toInt64 ∧ a.toInt64 ≤ (10 : Int64) then (1 : Int32) else 0) = 0 := if_neg (fun r => z3 (by simp only [i_le, i_lt, j_le, Int32.toInt_toInt64, Int32.reduceToInt, Int64.reduceToInt] at r ⊢; omega))
          have e : r_chances M s w g a d = ((-2 : Int32), M) := by unfold r_chances; rw [if_pos z0, if_pos z1, if_pos z2, if_neg z3]
          rw [e] at h
          repeat' (first | (with_reducible exact h) | apply And.intro | exact rfl | (intro hx; with_reducible exact absurd q3 hx) | intro hx | (refine Exists.intro _ (And.intro rfl ?_)))
          all_goals try first | (with_reducible change am_tI _ _) | (change Ret _ _) | (change Ret _ _ _) | (change Exists _)
          all_goals try dsimp only at *
          all_goals try (with_reducible exact absurd ‹(1000 : Int64) = 0› am_z1000)
          all_goals exact h
        · skip
          have q3 : ¬ ((if (0 : Int64) ≤ a.toInt64 ∧ a.toInt64 ≤ (10 : Int64) then (1 : Int32) else 0) = 0) := by rw [if_pos (by have q := z3; simp only [i_le, i_lt, j_le, Int32.toInt_toInt64, Int32.reduceToInt, Int64.reduceToInt] at q ⊢; omega)]; decide
          repeat' (first | apply And.intro | exact rfl | (intro hx; with_reducible exact absurd hx q3) | intro hx | (refine Exists.intro _ (And.intro rfl ?_)))
          all_goals try first | (with_reducible change am_tI _ _) | (change Ret _ _) | (change Ret _ _ _) | (change Exists _)
          all_goals try dsimp only at *
          all_goals try (with_reducible exact absurd ‹(1000 : Int64) = 0› am_z1000)
          all_goals exact ⟨_, am_lt_l (by decide), rfl, rfl, rfl, rfl, z0, z1, z2, z3⟩
      · cases hI
        obtain ⟨rfl, rfl, rfl, rfl, z0, z1, z2, z3⟩ := hi
        by_cases z4 : (0 ≤ d ∧ d ≤ 10)
        rotate_left
        · skip
          have q4 : (if (0 : Int64) ≤ d.toInt64 ∧ d.toInt64 ≤ (10 : Int64) then (1 : Int32) else 0) = 0 := if_neg (fun r => z4 (by simp only [i_le, i_lt, j_le, Int32.toInt_toInt64, Int32.reduceToInt, Int64.reduceToInt] at r ⊢; omega))
          have e : r_chances M s w g a d = ((-2 : Int32), M) := by unfold r_chances; rw [if_pos z0, if_pos z1, if_pos z2, if_pos z3, if_neg z4]
          rw [e] at h
          repeat' (first | (with_reducible exact h) | apply And.intro | exact rfl | (intro hx; with_reducible exact absurd q4 hx) | intro hx | (refine Exists.intro _ (And.intro rfl ?_)))
          all_goals try first | (with_reducible change am_tI _ _) | (change Ret _ _) | (change Ret _ _ _) | (change Exists _)
          all_goals try dsimp only at *
          all_goals try (with_reducible exact absurd ‹(1000 : Int64) = 0› am_z1000)
          all_goals exact h
        · skip
          have q4 : ¬ ((if (0 : Int64) ≤ d.toInt64 ∧ d.toInt64 ≤ (10 : Int64) then (1 : Int32) else 0) = 0) := by rw [if_pos (by have q := z4; simp only [i_le, i_lt, j_le, Int32.toInt_toInt64, Int32.reduceToInt, Int64.reduceToInt] at q ⊢; omega)]; decide
          repeat' (first | apply And.intro | exact rfl | (intro hx; with_reducible exact absurd hx q4) | intro hx | (refine Exists.intro _ (And.intro rfl ?_)))
          all_goals try first | (with_reducible change am_tI _ _) | (change Ret _ _) | (change Ret _ _ _) | (change Exists _)
          all_goals try dsimp only at *
          all_goals try (with_reducible exact absurd ‹(1000 : Int64) = 0› am_z1000)
          all_goals exact ⟨_, am_lt_l (by decide), rfl, rfl, rfl, rfl, z0, z1, z2, z3, z4⟩
      · cases hI
        obtain ⟨rfl, rfl, rfl, rfl, z0, z1, z2, z3, z4⟩ := hi
        by_cases z5 : w + g + a + d = 10
        rotate_left
        · skip
          have e : r_chances M s w g a d = ((-2 : Int32), M) := by unfold r_chances; rw [if_pos z0, if_pos z1, if_pos z2, if_pos z3, if_pos z4, if_neg z5]
          rw [e] at h
          repeat' (first | (with_reducible exact h) | apply And.intro | exact rfl | (intro hx; with_reducible exact absurd hx z5) | intro hx | (refine Exists.intro _ (And.intro rfl ?_)))
          all_goals try first | (with_reducible change am_tI _ _) | (change Ret _ _) | (change Ret _ _ _) | (change Exists _)
          all_goals try dsimp only at *
          all_goals try (with_reducible exact absurd ‹(1000 : Int64) = 0› am_z1000)
          all_goals exact h
        · skip
          repeat' (first | apply And.intro | exact rfl | (intro hx; with_reducible exact absurd z5 hx) | intro hx | (refine Exists.intro _ (And.intro rfl ?_)))
          all_goals try first | (with_reducible change am_tI _ _) | (change Ret _ _) | (change Ret _ _ _) | (change Exists _)
          all_goals try dsimp only at *
          all_goals try (with_reducible exact absurd ‹(1000 : Int64) = 0› am_z1000)
          all_goals exact ⟨_, am_lt_l (by decide), rfl, rfl, rfl, rfl, z0, z1, z2, z3, z4, z5⟩
      · cases hI
        obtain ⟨rfl, rfl, rfl, rfl, z0, z1, z2, z3, z4, z5⟩ := hi
        have e : r_chances M s w g a d = (1, am_wI (am_wI (am_wI (am_wI M 201 (3733 + 4 * s).toNatClampNeg w) 201 (3733 + 4 * s + 1).toNatClampNeg g) 201 (3733 + 4 * s + 2).toNatClampNeg a) 201 (3733 + 4 * s + 3).toNatClampNeg d) := by unfold r_chances; rw [if_pos z0, if_pos z1, if_pos z2, if_pos z3, if_pos z4, if_pos z5]
        rw [e] at h
        have hs : am_in s 3 := ⟨by have q := z0.1; simp only [i_le, Int32.reduceToInt] at q; omega, by have q := z0.2; simp only [i_le, Int32.reduceToInt] at q; omega⟩
        have hs1 := hs.1
        have hs2 := hs.2
        have e4 := r_mul (c := 4) (x := s) ⟨by decide, by decide⟩ ⟨by omega, by omega⟩
        simp only [Int32.reduceToInt] at e4
        have ea := r_off (c := 3733) (x := 4 * s) ⟨by decide, by decide⟩ ⟨by omega, by omega⟩
        simp only [e4, Int32.reduceToInt] at ea
        have ea1 := r_off (c := 3733 + 4 * s) (x := 1) ⟨by omega, by omega⟩ ⟨by decide, by decide⟩
        simp only [ea, Int32.reduceToInt] at ea1
        have ea2 := r_off (c := 3733 + 4 * s) (x := 2) ⟨by omega, by omega⟩ ⟨by decide, by decide⟩
        simp only [ea, Int32.reduceToInt] at ea2
        have ea3 := r_off (c := 3733 + 4 * s) (x := 3) ⟨by omega, by omega⟩ ⟨by decide, by decide⟩
        simp only [ea, Int32.reduceToInt] at ea3
        repeat' (first | apply And.intro | exact rfl | intro hx | (refine Exists.intro _ (And.intro rfl ?_)))
        all_goals try first | (with_reducible change am_tI _ _) | (change Ret _ _) | (change Ret _ _ _) | (change Exists _)
        all_goals try dsimp only at *
        all_goals try (with_reducible exact absurd ‹(1000 : Int64) = 0› am_z1000)
        all_goals first | (with_reducible exact h) | (simp only [ea, l201]; omega) | (simp only [ea1, l201]; omega) | (simp only [ea2, l201]; omega) | (simp only [ea3, l201]; omega) | exact h
      · cases hI
    · exact h.elim
