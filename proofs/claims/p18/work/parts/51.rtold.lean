/-! general: the reference's calls that tell: each answers r_NAME, and leaves what it says -/
set_option maxRecDepth 100000 in
theorem wd_982 : Cond.methodLink "LearnLoansModel" 72 yX8_isYear ∈ am_ws := am_wsi (List.mem_of_getElem? (i := 982) (by rfl)) (by decide +kernel)
set_option maxRecDepth 100000 in
theorem wd_983 : Cond.static yX8_isYear ∈ am_ws := am_wsi (List.mem_of_getElem? (i := 983) (by rfl)) (by decide +kernel)
set_option maxRecDepth 100000 in
theorem wd_984 : Cond.code yX8_isYear cX8_isYear 1 (some .boolean) ∈ am_ws := am_wsi (List.mem_of_getElem? (i := 984) (by rfl)) (by decide +kernel)
theorem dX8_person_0 : decode cX8_person 0 = .ok (.iload_n 1, 1) := by decide +kernel
theorem dX8_person_1 : decode cX8_person 1 = .ok (.invokestatic 72, 3) := by decide +kernel
theorem dX8_person_4 : decode cX8_person 4 = .ok (.ifCond .ne 6, 3) := by decide +kernel
theorem dX8_person_7 : decode cX8_person 7 = .ok (.bipush (-2), 2) := by decide +kernel
theorem dX8_person_9 : decode cX8_person 9 = .ok (.ireturn, 1) := by decide +kernel
theorem dX8_person_10 : decode cX8_person 10 = .ok (.aload_n 0, 1) := by decide +kernel
theorem dX8_person_11 : decode cX8_person 11 = .ok (.getfield 7, 3) := by decide +kernel
theorem dX8_person_14 : decode cX8_person 14 = .ok (.iconst 0, 1) := by decide +kernel
theorem dX8_person_15 : decode cX8_person 15 = .ok (.iaload, 1) := by decide +kernel
theorem dX8_person_16 : decode cX8_person 16 = .ok (.bipush 12, 2) := by decide +kernel
theorem dX8_person_18 : decode cX8_person 18 = .ok (.if_icmp .ne 6, 3) := by decide +kernel
theorem dX8_person_21 : decode cX8_person 21 = .ok (.bipush (-4), 2) := by decide +kernel
theorem dX8_person_23 : decode cX8_person 23 = .ok (.ireturn, 1) := by decide +kernel
theorem dX8_person_24 : decode cX8_person 24 = .ok (.aload_n 0, 1) := by decide +kernel
theorem dX8_person_25 : decode cX8_person 25 = .ok (.getfield 7, 3) := by decide +kernel
theorem dX8_person_28 : decode cX8_person 28 = .ok (.bipush 10, 2) := by decide +kernel
theorem dX8_person_30 : decode cX8_person 30 = .ok (.aload_n 0, 1) := by decide +kernel
theorem dX8_person_31 : decode cX8_person 31 = .ok (.getfield 7, 3) := by decide +kernel
theorem dX8_person_34 : decode cX8_person 34 = .ok (.iconst 0, 1) := by decide +kernel
theorem dX8_person_35 : decode cX8_person 35 = .ok (.iaload, 1) := by decide +kernel
theorem dX8_person_36 : decode cX8_person 36 = .ok (.iadd, 1) := by decide +kernel
theorem dX8_person_37 : decode cX8_person 37 = .ok (.iload_n 1, 1) := by decide +kernel
theorem dX8_person_38 : decode cX8_person 38 = .ok (.iastore, 1) := by decide +kernel
theorem dX8_person_39 : decode cX8_person 39 = .ok (.aload_n 0, 1) := by decide +kernel
theorem dX8_person_40 : decode cX8_person 40 = .ok (.getfield 7, 3) := by decide +kernel
theorem dX8_person_43 : decode cX8_person 43 = .ok (.iconst 0, 1) := by decide +kernel
theorem dX8_person_44 : decode cX8_person 44 = .ok (.dup2, 1) := by decide +kernel
theorem dX8_person_45 : decode cX8_person 45 = .ok (.iaload, 1) := by decide +kernel
theorem dX8_person_46 : decode cX8_person 46 = .ok (.iconst 1, 1) := by decide +kernel
theorem dX8_person_47 : decode cX8_person 47 = .ok (.iadd, 1) := by decide +kernel
theorem dX8_person_48 : decode cX8_person 48 = .ok (.iastore, 1) := by decide +kernel
theorem dX8_person_49 : decode cX8_person 49 = .ok (.aload_n 0, 1) := by decide +kernel
theorem dX8_person_50 : decode cX8_person 50 = .ok (.getfield 7, 3) := by decide +kernel
theorem dX8_person_53 : decode cX8_person 53 = .ok (.iconst 0, 1) := by decide +kernel
theorem dX8_person_54 : decode cX8_person 54 = .ok (.iaload, 1) := by decide +kernel
theorem dX8_person_55 : decode cX8_person 55 = .ok (.iconst 1, 1) := by decide +kernel
theorem dX8_person_56 : decode cX8_person 56 = .ok (.isub, 1) := by decide +kernel
theorem dX8_person_57 : decode cX8_person 57 = .ok (.ireturn, 1) := by decide +kernel
def kX8_person (live : am_E) (Ret : am_R) : am_code := [(0, am_iload 1 1), (1, am_callS live 1 TX8_isYear 4), (4, am_if1 (fun x => x = 0) 7 10), (7, am_const (.int (-2)) 9), (9, am_retI Ret), (10, am_aload 0 11), (11, am_getR live 8 0 14), (14, am_const (.int 0) 15), (15, am_ald live 0 16), (16, am_const (.int 12) 18), (18, am_if2 (fun x y => x = y) 21 24), (21, am_const (.int (-4)) 23), (23, am_retI Ret), (24, am_aload 0 25), (25, am_getR live 8 0 28), (28, am_const (.int 10) 30), (30, am_aload 0 31), (31, am_getR live 8 0 34), (34, am_const (.int 0) 35), (35, am_ald live 0 36), (36, am_i2 (fun x y => x + y) 37), (37, am_iload 1 38), (38, am_ast live 0 39), (39, am_aload 0 40), (40, am_getR live 8 0 43), (43, am_const (.int 0) 44), (44, am_dup2 45), (45, am_ald live 0 46), (46, am_const (.int 1) 47), (47, am_i2 (fun x y => x + y) 48), (48, am_ast live 0 49), (49, am_aload 0 50), (50, am_getR live 8 0 53), (53, am_const (.int 0) 54), (54, am_ald live 0 55), (55, am_const (.int 1) 56), (56, am_i2 (fun x y => x - y) 57), (57, am_retI Ret)]
theorem koX8_person (live : am_E) (Ret : am_R) : ∀ q ∈ kX8_person live Ret, am_ok RX8 cX8_person 2 (some .int) 2 45 live Ret q.1 q.2 :=
  am_kc (ak_iload_n dX8_person_0 rfl rfl) <|
  am_kc (ak_callS metX8_isYear ⟨rfl, by decide +kernel, by decide +kernel, by decide +kernel⟩ (am_w4 wd_982 wd_983 wd_67 wd_984) (by decide) dX8_person_1 rfl) <|
  am_kc (ak_if_ne dX8_person_4 (by decide +kernel) rfl) <|
  am_kc (ak_bipush dX8_person_7 (by decide +kernel) rfl) <|
  am_kc (ak_retI dX8_person_9) <|
  am_kc (ak_aload_n dX8_person_10 rfl rfl) <|
  am_kc (ak_getR (C := RX8) (T := TX8) (N := 27) rfl inX8w (by decide) rfl rfl rfl wd_895 dX8_person_11 rfl) <|
  am_kc (ak_iconst dX8_person_14 (by decide +kernel) rfl) <|
  am_kc (ak_iald (t := 0) (fun _ => rfl) rfl dX8_person_15 rfl) <|
  am_kc (ak_bipush dX8_person_16 (by decide +kernel) rfl) <|
  am_kc (ak_icmp_ne dX8_person_18 (by decide +kernel) rfl) <|
  am_kc (ak_bipush dX8_person_21 (by decide +kernel) rfl) <|
  am_kc (ak_retI dX8_person_23) <|
  am_kc (ak_aload_n dX8_person_24 rfl rfl) <|
  am_kc (ak_getR (C := RX8) (T := TX8) (N := 27) rfl inX8w (by decide) rfl rfl rfl wd_895 dX8_person_25 rfl) <|
  am_kc (ak_bipush dX8_person_28 (by decide +kernel) rfl) <|
  am_kc (ak_aload_n dX8_person_30 rfl rfl) <|
  am_kc (ak_getR (C := RX8) (T := TX8) (N := 27) rfl inX8w (by decide) rfl rfl rfl wd_895 dX8_person_31 rfl) <|
  am_kc (ak_iconst dX8_person_34 (by decide +kernel) rfl) <|
  am_kc (ak_iald (t := 0) (fun _ => rfl) rfl dX8_person_35 rfl) <|
  am_kc (ak_iadd dX8_person_36 rfl) <|
  am_kc (ak_iload_n dX8_person_37 rfl rfl) <|
  am_kc (ak_iast (t := 0) (fun _ => rfl) rfl dX8_person_38 rfl) <|
  am_kc (ak_aload_n dX8_person_39 rfl rfl) <|
  am_kc (ak_getR (C := RX8) (T := TX8) (N := 27) rfl inX8w (by decide) rfl rfl rfl wd_895 dX8_person_40 rfl) <|
  am_kc (ak_iconst dX8_person_43 (by decide +kernel) rfl) <|
  am_kc (ak_dup2 dX8_person_44 rfl) <|
  am_kc (ak_iald (t := 0) (fun _ => rfl) rfl dX8_person_45 rfl) <|
  am_kc (ak_iconst dX8_person_46 (by decide +kernel) rfl) <|
  am_kc (ak_iadd dX8_person_47 rfl) <|
  am_kc (ak_iast (t := 0) (fun _ => rfl) rfl dX8_person_48 rfl) <|
  am_kc (ak_aload_n dX8_person_49 rfl rfl) <|
  am_kc (ak_getR (C := RX8) (T := TX8) (N := 27) rfl inX8w (by decide) rfl rfl rfl wd_895 dX8_person_50 rfl) <|
  am_kc (ak_iconst dX8_person_53 (by decide +kernel) rfl) <|
  am_kc (ak_iald (t := 0) (fun _ => rfl) rfl dX8_person_54 rfl) <|
  am_kc (ak_iconst dX8_person_55 (by decide +kernel) rfl) <|
  am_kc (ak_isub dX8_person_56 rfl) <|
  am_kc (ak_retI dX8_person_57) <| am_kn
def r_person (M : am_M) (b : Int32) : Int32 × am_M := if 0 ≤ b ∧ b < 40 then (if M.1 201 (Int32.toNatClampNeg 0) = 12 then ((-4 : Int32), M) else ((fun M1 : am_M => (fun M2 : am_M => (M2.1 201 (Int32.toNatClampNeg 0) - 1, M2)) (am_wI M1 201 (Int32.toNatClampNeg 0) (M1.1 201 (Int32.toNatClampNeg 0) + 1))) (am_wI M 201 (10 + M.1 201 (Int32.toNatClampNeg 0)).toNatClampNeg b))) else ((-2 : Int32), M)
def TX8_person : am_T := fun live as M R => match as with
  | [.ref n, .int b] => am_mn live ∧ n = 200 ∧ r_I M ∧ R (some (.int (r_person M b).1)) (r_person M b).2
  | _ => False
set_option maxRecDepth 100000 in
set_option maxHeartbeats 4000000 in
theorem metX8_person : am_Met yX8_person cX8_person 2 (some .int) (2) (45) TX8_person := by
  refine am_met (own := RX8) (by decide +kernel) rfl kX8_person koX8_person 200 (fun _ _ _ _ _ => none) (fun live as M Ret h => ?_) (fun _ _ _ _ _ _ _ _ hI => by cases hI)
  unfold TX8_person at h
  split at h
  · next n b =>
    refine ⟨Nat.le_of_ble_eq_true rfl, ?_⟩
    change am_wp _ _ _ _ [(0, Value.ref n), (1, Value.int b)] _ _
    obtain ⟨hmn, rfl, hR, h⟩ := h
    have hmn2 := hmn
    obtain ⟨i1, i2, rfl⟩ := hmn2
    have l201 : am_len 201 = 3760 := rfl
    have n0 := hR.n0
    have n1 := hR.n1
    have n030 : 0 ≤ (M.1 201 0).toInt ∧ (M.1 201 0).toInt ≤ 30 := ⟨n0.1, by omega⟩
    by_cases z0 : 0 ≤ b ∧ b < 40
    rotate_left
    · skip
      have q0 : (if 0 ≤ b ∧ b < 40 then (1 : Int32) else 0) = 0 := if_neg z0
      have e : r_person M b = ((-2 : Int32), M) := by unfold r_person; rw [if_neg z0]
      rw [e] at h
      repeat' (first | (with_reducible exact hmn) | (with_reducible exact h) | (with_reducible exact n030) | (with_reducible exact n1) | apply And.intro | exact rfl | (intro hx; with_reducible exact absurd q0 hx) | (intro hx; exact absurd hx (by decide)) | (intro hx; exact absurd (by decide) hx) | decide | intro hx | (refine Exists.intro _ (And.intro rfl ?_)))
      all_goals try first | (with_reducible change am_tI _ _) | (change Ret _ _) | (change Ret _ _ _) | (change Exists _)
      all_goals try dsimp only at *
      all_goals try exact absurd ‹(1000 : Int64) = 0› (by decide)
      all_goals first | exact h | exact n0.1 | omega | (simp only [e1, l201, Int32.reduceToInt]; omega) | (show _ < _; simp only [l201]; decide) | skip
    · skip
      have q0 : ¬ ((if 0 ≤ b ∧ b < 40 then (1 : Int32) else 0) = 0) := by rw [if_pos z0]; decide
      by_cases z1 : M.1 201 (Int32.toNatClampNeg 0) = 12
      · skip
        have e : r_person M b = ((-4 : Int32), M) := by unfold r_person; rw [if_pos z0, if_pos z1]
        rw [e] at h
        repeat' (first | (with_reducible exact hmn) | (with_reducible exact h) | (with_reducible exact n030) | (with_reducible exact n1) | apply And.intro | exact rfl | (intro hx; with_reducible exact absurd hx q0) | (intro hx; with_reducible exact absurd z1 hx) | (intro hx; exact absurd hx (by decide)) | (intro hx; exact absurd (by decide) hx) | decide | intro hx | (refine Exists.intro _ (And.intro rfl ?_)))
        all_goals try first | (with_reducible change am_tI _ _) | (change Ret _ _) | (change Ret _ _ _) | (change Exists _)
        all_goals try dsimp only at *
        all_goals try exact absurd ‹(1000 : Int64) = 0› (by decide)
        all_goals first | exact h | exact n0.1 | omega | (simp only [e1, l201, Int32.reduceToInt]; omega) | (show _ < _; simp only [l201]; decide) | skip
      · skip
        have nc0 : 0 ≤ (M.1 201 (Int32.toNatClampNeg 0)).toInt ∧ (M.1 201 (Int32.toNatClampNeg 0)).toInt ≤ 12 := hR.n0
        have zb : (M.1 201 (Int32.toNatClampNeg 0)).toInt < 12 := by have q := z1; simp only [i_eq, Int32.reduceToInt] at q; omega
        have e1 := r_off (c := 10) (x := M.1 201 (Int32.toNatClampNeg 0)) ⟨by decide, by decide⟩ ⟨by omega, by omega⟩
        simp only [Int32.reduceToInt] at e1
        have e : r_person M b = ((fun M1 : am_M => (fun M2 : am_M => (M2.1 201 (Int32.toNatClampNeg 0) - 1, M2)) (am_wI M1 201 (Int32.toNatClampNeg 0) (M1.1 201 (Int32.toNatClampNeg 0) + 1))) (am_wI M 201 (10 + M.1 201 (Int32.toNatClampNeg 0)).toNatClampNeg b)) := by unfold r_person; rw [if_pos z0, if_neg z1]
        rw [e] at h
        repeat' (first | (with_reducible exact hmn) | (with_reducible exact n030) | (with_reducible exact n1) | apply And.intro | exact rfl | (intro hx; with_reducible exact absurd hx q0) | (intro hx; with_reducible exact absurd hx z1) | (intro hx; exact absurd hx (by decide)) | (intro hx; exact absurd (by decide) hx) | decide | intro hx | (refine Exists.intro _ (And.intro rfl ?_)))
        all_goals try first | (with_reducible change am_tI _ _) | (change Ret _ _) | (change Ret _ _ _) | (change Exists _)
        all_goals try dsimp only at *
        all_goals try exact absurd ‹(1000 : Int64) = 0› (by decide)
        all_goals first | exact h | exact n0.1 | omega | (simp only [e1, l201, Int32.reduceToInt]; omega) | (show _ < _; simp only [l201]; decide) | skip
  · exact h.elim
set_option maxRecDepth 100000 in
theorem wd_1002 : Cond.constantLong "LearnLoansModel" 81 5000 ∈ am_ws := am_wsi (List.mem_of_getElem? (i := 1002) (by rfl)) (by decide +kernel)
theorem dX8_scale_0 : decode cX8_scale 0 = .ok (.iload_n 1, 1) := by decide +kernel
theorem dX8_scale_1 : decode cX8_scale 1 = .ok (.i2l, 1) := by decide +kernel
theorem dX8_scale_2 : decode cX8_scale 2 = .ok (.lconst 0, 1) := by decide +kernel
theorem dX8_scale_3 : decode cX8_scale 3 = .ok (.ldc2_w 79, 3) := by decide +kernel
theorem dX8_scale_6 : decode cX8_scale 6 = .ok (.invokestatic 66, 3) := by decide +kernel
theorem dX8_scale_9 : decode cX8_scale 9 = .ok (.ifCond .eq 15, 3) := by decide +kernel
theorem dX8_scale_12 : decode cX8_scale 12 = .ok (.iload_n 2, 1) := by decide +kernel
theorem dX8_scale_13 : decode cX8_scale 13 = .ok (.i2l, 1) := by decide +kernel
theorem dX8_scale_14 : decode cX8_scale 14 = .ok (.lconst 1, 1) := by decide +kernel
theorem dX8_scale_15 : decode cX8_scale 15 = .ok (.ldc2_w 81, 3) := by decide +kernel
theorem dX8_scale_18 : decode cX8_scale 18 = .ok (.invokestatic 66, 3) := by decide +kernel
theorem dX8_scale_21 : decode cX8_scale 21 = .ok (.ifCond .ne 6, 3) := by decide +kernel
theorem dX8_scale_24 : decode cX8_scale 24 = .ok (.bipush (-2), 2) := by decide +kernel
theorem dX8_scale_26 : decode cX8_scale 26 = .ok (.ireturn, 1) := by decide +kernel
theorem dX8_scale_27 : decode cX8_scale 27 = .ok (.aload_n 0, 1) := by decide +kernel
theorem dX8_scale_28 : decode cX8_scale 28 = .ok (.getfield 7, 3) := by decide +kernel
theorem dX8_scale_31 : decode cX8_scale 31 = .ok (.sipush 514, 3) := by decide +kernel
theorem dX8_scale_34 : decode cX8_scale 34 = .ok (.iload_n 1, 1) := by decide +kernel
theorem dX8_scale_35 : decode cX8_scale 35 = .ok (.iadd, 1) := by decide +kernel
theorem dX8_scale_36 : decode cX8_scale 36 = .ok (.iaload, 1) := by decide +kernel
theorem dX8_scale_37 : decode cX8_scale 37 = .ok (.istore_n 3, 1) := by decide +kernel
theorem dX8_scale_38 : decode cX8_scale 38 = .ok (.aload_n 0, 1) := by decide +kernel
theorem dX8_scale_39 : decode cX8_scale 39 = .ok (.getfield 7, 3) := by decide +kernel
theorem dX8_scale_42 : decode cX8_scale 42 = .ok (.sipush 514, 3) := by decide +kernel
theorem dX8_scale_45 : decode cX8_scale 45 = .ok (.iload_n 1, 1) := by decide +kernel
theorem dX8_scale_46 : decode cX8_scale 46 = .ok (.iadd, 1) := by decide +kernel
theorem dX8_scale_47 : decode cX8_scale 47 = .ok (.iload_n 2, 1) := by decide +kernel
theorem dX8_scale_48 : decode cX8_scale 48 = .ok (.iastore, 1) := by decide +kernel
theorem dX8_scale_49 : decode cX8_scale 49 = .ok (.iload_n 3, 1) := by decide +kernel
theorem dX8_scale_50 : decode cX8_scale 50 = .ok (.ireturn, 1) := by decide +kernel
def kX8_scale (live : am_E) (Ret : am_R) : am_code := [(0, am_iload 1 1), (1, am_i2l 2), (2, am_const (.long 0) 3), (3, am_const (.long 3) 6), (6, am_callS live 3 TX8_in 9), (9, am_if1 (fun x => x = 0) 24 12), (12, am_iload 2 13), (13, am_i2l 14), (14, am_const (.long 1) 15), (15, am_const (.long 5000) 18), (18, am_callS live 3 TX8_in 21), (21, am_if1 (fun x => x = 0) 24 27), (24, am_const (.int (-2)) 26), (26, am_retI Ret), (27, am_aload 0 28), (28, am_getR live 8 0 31), (31, am_const (.int 514) 34), (34, am_iload 1 35), (35, am_i2 (fun x y => x + y) 36), (36, am_ald live 0 37), (37, am_istore 3 4 38), (38, am_aload 0 39), (39, am_getR live 8 0 42), (42, am_const (.int 514) 45), (45, am_iload 1 46), (46, am_i2 (fun x y => x + y) 47), (47, am_iload 2 48), (48, am_ast live 0 49), (49, am_iload 3 50), (50, am_retI Ret)]
theorem koX8_scale (live : am_E) (Ret : am_R) : ∀ q ∈ kX8_scale live Ret, am_ok RX8 cX8_scale 4 (some .int) 1 25 live Ret q.1 q.2 :=
  am_kc (ak_iload_n dX8_scale_0 rfl rfl) <|
  am_kc (ak_i2l dX8_scale_1 rfl) <|
  am_kc (ak_lconst dX8_scale_2 (by decide +kernel) rfl) <|
  am_kc (ak_ldc2 wd_997 dX8_scale_3 rfl) <|
  am_kc (ak_callS metX8_in ⟨rfl, by decide +kernel, by decide +kernel, by decide +kernel⟩ (am_w4 wd_986 wd_987 wd_67 wd_988) (by decide) dX8_scale_6 rfl) <|
  am_kc (ak_if_eq dX8_scale_9 (by decide +kernel) rfl) <|
  am_kc (ak_iload_n dX8_scale_12 rfl rfl) <|
  am_kc (ak_i2l dX8_scale_13 rfl) <|
  am_kc (ak_lconst dX8_scale_14 (by decide +kernel) rfl) <|
  am_kc (ak_ldc2 wd_1002 dX8_scale_15 rfl) <|
  am_kc (ak_callS metX8_in ⟨rfl, by decide +kernel, by decide +kernel, by decide +kernel⟩ (am_w4 wd_986 wd_987 wd_67 wd_988) (by decide) dX8_scale_18 rfl) <|
  am_kc (ak_if_ne dX8_scale_21 (by decide +kernel) rfl) <|
  am_kc (ak_bipush dX8_scale_24 (by decide +kernel) rfl) <|
  am_kc (ak_retI dX8_scale_26) <|
  am_kc (ak_aload_n dX8_scale_27 rfl rfl) <|
  am_kc (ak_getR (C := RX8) (T := TX8) (N := 27) rfl inX8w (by decide) rfl rfl rfl wd_895 dX8_scale_28 rfl) <|
  am_kc (ak_sipush dX8_scale_31 (by decide +kernel) rfl) <|
  am_kc (ak_iload_n dX8_scale_34 rfl rfl) <|
  am_kc (ak_iadd dX8_scale_35 rfl) <|
  am_kc (ak_iald (t := 0) (fun _ => rfl) rfl dX8_scale_36 rfl) <|
  am_kc (ak_istore_n dX8_scale_37 rfl rfl) <|
  am_kc (ak_aload_n dX8_scale_38 rfl rfl) <|
  am_kc (ak_getR (C := RX8) (T := TX8) (N := 27) rfl inX8w (by decide) rfl rfl rfl wd_895 dX8_scale_39 rfl) <|
  am_kc (ak_sipush dX8_scale_42 (by decide +kernel) rfl) <|
  am_kc (ak_iload_n dX8_scale_45 rfl rfl) <|
  am_kc (ak_iadd dX8_scale_46 rfl) <|
  am_kc (ak_iload_n dX8_scale_47 rfl rfl) <|
  am_kc (ak_iast (t := 0) (fun _ => rfl) rfl dX8_scale_48 rfl) <|
  am_kc (ak_iload_n dX8_scale_49 rfl rfl) <|
  am_kc (ak_retI dX8_scale_50) <| am_kn
def r_scale (M : am_M) (l v : Int32) : Int32 × am_M := if 0 ≤ l ∧ l ≤ 3 then (if 1 ≤ v ∧ v ≤ 5000 then (M.1 201 (514 + l).toNatClampNeg, am_wI M 201 (514 + l).toNatClampNeg v) else ((-2 : Int32), M)) else ((-2 : Int32), M)
def TX8_scale : am_T := fun live as M R => match as with
  | [.ref n, .int l, .int v] => am_mn live ∧ n = 200 ∧ r_I M ∧ R (some (.int (r_scale M l v).1)) (r_scale M l v).2
  | _ => False
set_option maxRecDepth 100000 in
set_option maxHeartbeats 4000000 in
theorem metX8_scale : am_Met yX8_scale cX8_scale 4 (some .int) (1) (25) TX8_scale := by
  refine am_met (own := RX8) (by decide +kernel) rfl kX8_scale koX8_scale 200 (fun _ _ _ _ _ => none) (fun live as M Ret h => ?_) (fun _ _ _ _ _ _ _ _ hI => by cases hI)
  unfold TX8_scale at h
  split at h
  · next n l v =>
    refine ⟨Nat.le_of_ble_eq_true rfl, ?_⟩
    change am_wp _ _ _ _ [(0, Value.ref n), (1, Value.int l), (2, Value.int v)] _ _
    obtain ⟨hmn, rfl, hR, h⟩ := h
    have hmn2 := hmn
    obtain ⟨i1, i2, rfl⟩ := hmn2
    have l201 : am_len 201 = 3760 := rfl
    have n0 := hR.n0
    have n1 := hR.n1
    have n030 : 0 ≤ (M.1 201 0).toInt ∧ (M.1 201 0).toInt ≤ 30 := ⟨n0.1, by omega⟩
    by_cases z0 : 0 ≤ l ∧ l ≤ 3
    rotate_left
    · skip
      have q0 : (if (0 : Int64) ≤ l.toInt64 ∧ l.toInt64 ≤ (3 : Int64) then (1 : Int32) else 0) = 0 := if_neg (fun r => z0 (by simp only [i_le, i_lt, j_le, Int32.toInt_toInt64, Int32.reduceToInt, Int64.reduceToInt] at r ⊢; omega))
      have e : r_scale M l v = ((-2 : Int32), M) := by unfold r_scale; rw [if_neg z0]
      rw [e] at h
      repeat' (first | (with_reducible exact hmn) | (with_reducible exact h) | (with_reducible exact n030) | (with_reducible exact n1) | apply And.intro | exact rfl | (intro hx; with_reducible exact absurd q0 hx) | (intro hx; exact absurd hx (by decide)) | (intro hx; exact absurd (by decide) hx) | decide | intro hx | (refine Exists.intro _ (And.intro rfl ?_)))
      all_goals try first | (with_reducible change am_tI _ _) | (change Ret _ _) | (change Ret _ _ _) | (change Exists _)
      all_goals try dsimp only at *
      all_goals try exact absurd ‹(1000 : Int64) = 0› (by decide)
      all_goals first | exact h | exact n0.1 | omega | (simp only [e1, l201, Int32.reduceToInt]; omega) | (show _ < _; simp only [l201]; decide) | skip
    · skip
      have q0 : ¬ ((if (0 : Int64) ≤ l.toInt64 ∧ l.toInt64 ≤ (3 : Int64) then (1 : Int32) else 0) = 0) := by rw [if_pos (by have q := z0; simp only [i_le, i_lt, j_le, Int32.toInt_toInt64, Int32.reduceToInt, Int64.reduceToInt] at q ⊢; omega)]; decide
      by_cases z1 : 1 ≤ v ∧ v ≤ 5000
      rotate_left
      · skip
        have q1 : (if (1 : Int64) ≤ v.toInt64 ∧ v.toInt64 ≤ (5000 : Int64) then (1 : Int32) else 0) = 0 := if_neg (fun r => z1 (by simp only [i_le, i_lt, j_le, Int32.toInt_toInt64, Int32.reduceToInt, Int64.reduceToInt] at r ⊢; omega))
        have e : r_scale M l v = ((-2 : Int32), M) := by unfold r_scale; rw [if_pos z0, if_neg z1]
        rw [e] at h
        repeat' (first | (with_reducible exact hmn) | (with_reducible exact h) | (with_reducible exact n030) | (with_reducible exact n1) | apply And.intro | exact rfl | (intro hx; with_reducible exact absurd hx q0) | (intro hx; with_reducible exact absurd q1 hx) | (intro hx; exact absurd hx (by decide)) | (intro hx; exact absurd (by decide) hx) | decide | intro hx | (refine Exists.intro _ (And.intro rfl ?_)))
        all_goals try first | (with_reducible change am_tI _ _) | (change Ret _ _) | (change Ret _ _ _) | (change Exists _)
        all_goals try dsimp only at *
        all_goals try exact absurd ‹(1000 : Int64) = 0› (by decide)
        all_goals first | exact h | exact n0.1 | omega | (simp only [e1, l201, Int32.reduceToInt]; omega) | (show _ < _; simp only [l201]; decide) | skip
      · skip
        have q1 : ¬ ((if (1 : Int64) ≤ v.toInt64 ∧ v.toInt64 ≤ (5000 : Int64) then (1 : Int32) else 0) = 0) := by rw [if_pos (by have q := z1; simp only [i_le, i_lt, j_le, Int32.toInt_toInt64, Int32.reduceToInt, Int64.reduceToInt] at q ⊢; omega)]; decide
        have hl : am_in l 4 := ⟨by have q := z0.1; simp only [i_le, Int32.reduceToInt] at q; omega, by have q := z0.2; simp only [i_le, Int32.reduceToInt] at q; omega⟩
        have hl1 := hl.1
        have hl2 := hl.2
        have e1 := r_off (c := 514) (x := l) ⟨by decide, by decide⟩ ⟨by omega, by omega⟩
        simp only [Int32.reduceToInt] at e1
        have e : r_scale M l v = (M.1 201 (514 + l).toNatClampNeg, am_wI M 201 (514 + l).toNatClampNeg v) := by unfold r_scale; rw [if_pos z0, if_pos z1]
        rw [e] at h
        repeat' (first | (with_reducible exact hmn) | (with_reducible exact n030) | (with_reducible exact n1) | apply And.intro | exact rfl | (intro hx; with_reducible exact absurd hx q0) | (intro hx; with_reducible exact absurd hx q1) | (intro hx; exact absurd hx (by decide)) | (intro hx; exact absurd (by decide) hx) | decide | intro hx | (refine Exists.intro _ (And.intro rfl ?_)))
        all_goals try first | (with_reducible change am_tI _ _) | (change Ret _ _) | (change Ret _ _ _) | (change Exists _)
        all_goals try dsimp only at *
        all_goals try exact absurd ‹(1000 : Int64) = 0› (by decide)
        all_goals first | exact h | exact n0.1 | omega | (simp only [e1, l201, Int32.reduceToInt]; omega) | (show _ < _; simp only [l201]; decide) | skip
  · exact h.elim
set_option maxRecDepth 100000 in
theorem wd_1007 : Cond.constantLong "LearnLoansModel" 83 (-100) ∈ am_ws := am_wsi (List.mem_of_getElem? (i := 1007) (by rfl)) (by decide +kernel)
theorem dX8_prices_0 : decode cX8_prices 0 = .ok (.iload_n 1, 1) := by decide +kernel
theorem dX8_prices_1 : decode cX8_prices 1 = .ok (.invokestatic 72, 3) := by decide +kernel
theorem dX8_prices_4 : decode cX8_prices 4 = .ok (.ifCond .eq 17, 3) := by decide +kernel
theorem dX8_prices_7 : decode cX8_prices 7 = .ok (.iload_n 2, 1) := by decide +kernel
theorem dX8_prices_8 : decode cX8_prices 8 = .ok (.i2l, 1) := by decide +kernel
theorem dX8_prices_9 : decode cX8_prices 9 = .ok (.ldc2_w 83, 3) := by decide +kernel
theorem dX8_prices_12 : decode cX8_prices 12 = .ok (.ldc2_w 85, 3) := by decide +kernel
theorem dX8_prices_15 : decode cX8_prices 15 = .ok (.invokestatic 66, 3) := by decide +kernel
theorem dX8_prices_18 : decode cX8_prices 18 = .ok (.ifCond .ne 7, 3) := by decide +kernel
theorem dX8_prices_21 : decode cX8_prices 21 = .ok (.sipush (-1000), 3) := by decide +kernel
theorem dX8_prices_24 : decode cX8_prices 24 = .ok (.ireturn, 1) := by decide +kernel
theorem dX8_prices_25 : decode cX8_prices 25 = .ok (.aload_n 0, 1) := by decide +kernel
theorem dX8_prices_26 : decode cX8_prices 26 = .ok (.getfield 7, 3) := by decide +kernel
theorem dX8_prices_29 : decode cX8_prices 29 = .ok (.sipush 518, 3) := by decide +kernel
theorem dX8_prices_32 : decode cX8_prices 32 = .ok (.iload_n 1, 1) := by decide +kernel
theorem dX8_prices_33 : decode cX8_prices 33 = .ok (.iadd, 1) := by decide +kernel
theorem dX8_prices_34 : decode cX8_prices 34 = .ok (.iaload, 1) := by decide +kernel
theorem dX8_prices_35 : decode cX8_prices 35 = .ok (.istore_n 3, 1) := by decide +kernel
theorem dX8_prices_36 : decode cX8_prices 36 = .ok (.aload_n 0, 1) := by decide +kernel
theorem dX8_prices_37 : decode cX8_prices 37 = .ok (.getfield 7, 3) := by decide +kernel
theorem dX8_prices_40 : decode cX8_prices 40 = .ok (.sipush 518, 3) := by decide +kernel
theorem dX8_prices_43 : decode cX8_prices 43 = .ok (.iload_n 1, 1) := by decide +kernel
theorem dX8_prices_44 : decode cX8_prices 44 = .ok (.iadd, 1) := by decide +kernel
theorem dX8_prices_45 : decode cX8_prices 45 = .ok (.iload_n 2, 1) := by decide +kernel
theorem dX8_prices_46 : decode cX8_prices 46 = .ok (.iastore, 1) := by decide +kernel
theorem dX8_prices_47 : decode cX8_prices 47 = .ok (.iload_n 3, 1) := by decide +kernel
theorem dX8_prices_48 : decode cX8_prices 48 = .ok (.ireturn, 1) := by decide +kernel
def kX8_prices (live : am_E) (Ret : am_R) : am_code := [(0, am_iload 1 1), (1, am_callS live 1 TX8_isYear 4), (4, am_if1 (fun x => x = 0) 21 7), (7, am_iload 2 8), (8, am_i2l 9), (9, am_const (.long (-100)) 12), (12, am_const (.long 500) 15), (15, am_callS live 3 TX8_in 18), (18, am_if1 (fun x => x = 0) 21 25), (21, am_const (.int (-1000)) 24), (24, am_retI Ret), (25, am_aload 0 26), (26, am_getR live 8 0 29), (29, am_const (.int 518) 32), (32, am_iload 1 33), (33, am_i2 (fun x y => x + y) 34), (34, am_ald live 0 35), (35, am_istore 3 4 36), (36, am_aload 0 37), (37, am_getR live 8 0 40), (40, am_const (.int 518) 43), (43, am_iload 1 44), (44, am_i2 (fun x y => x + y) 45), (45, am_iload 2 46), (46, am_ast live 0 47), (47, am_iload 3 48), (48, am_retI Ret)]
theorem koX8_prices (live : am_E) (Ret : am_R) : ∀ q ∈ kX8_prices live Ret, am_ok RX8 cX8_prices 4 (some .int) 2 45 live Ret q.1 q.2 :=
  am_kc (ak_iload_n dX8_prices_0 rfl rfl) <|
  am_kc (ak_callS metX8_isYear ⟨rfl, by decide +kernel, by decide +kernel, by decide +kernel⟩ (am_w4 wd_982 wd_983 wd_67 wd_984) (by decide) dX8_prices_1 rfl) <|
  am_kc (ak_if_eq dX8_prices_4 (by decide +kernel) rfl) <|
  am_kc (ak_iload_n dX8_prices_7 rfl rfl) <|
  am_kc (ak_i2l dX8_prices_8 rfl) <|
  am_kc (ak_ldc2 wd_1007 dX8_prices_9 rfl) <|
  am_kc (ak_ldc2 wd_1008 dX8_prices_12 rfl) <|
  am_kc (ak_callS metX8_in ⟨rfl, by decide +kernel, by decide +kernel, by decide +kernel⟩ (am_w4 wd_986 wd_987 wd_67 wd_988) (by decide) dX8_prices_15 rfl) <|
  am_kc (ak_if_ne dX8_prices_18 (by decide +kernel) rfl) <|
  am_kc (ak_sipush dX8_prices_21 (by decide +kernel) rfl) <|
  am_kc (ak_retI dX8_prices_24) <|
  am_kc (ak_aload_n dX8_prices_25 rfl rfl) <|
  am_kc (ak_getR (C := RX8) (T := TX8) (N := 27) rfl inX8w (by decide) rfl rfl rfl wd_895 dX8_prices_26 rfl) <|
  am_kc (ak_sipush dX8_prices_29 (by decide +kernel) rfl) <|
  am_kc (ak_iload_n dX8_prices_32 rfl rfl) <|
  am_kc (ak_iadd dX8_prices_33 rfl) <|
  am_kc (ak_iald (t := 0) (fun _ => rfl) rfl dX8_prices_34 rfl) <|
  am_kc (ak_istore_n dX8_prices_35 rfl rfl) <|
  am_kc (ak_aload_n dX8_prices_36 rfl rfl) <|
  am_kc (ak_getR (C := RX8) (T := TX8) (N := 27) rfl inX8w (by decide) rfl rfl rfl wd_895 dX8_prices_37 rfl) <|
  am_kc (ak_sipush dX8_prices_40 (by decide +kernel) rfl) <|
  am_kc (ak_iload_n dX8_prices_43 rfl rfl) <|
  am_kc (ak_iadd dX8_prices_44 rfl) <|
  am_kc (ak_iload_n dX8_prices_45 rfl rfl) <|
  am_kc (ak_iast (t := 0) (fun _ => rfl) rfl dX8_prices_46 rfl) <|
  am_kc (ak_iload_n dX8_prices_47 rfl rfl) <|
  am_kc (ak_retI dX8_prices_48) <| am_kn
def r_prices (M : am_M) (y v : Int32) : Int32 × am_M := if 0 ≤ y ∧ y < 40 then (if -100 ≤ v ∧ v ≤ 500 then (M.1 201 (518 + y).toNatClampNeg, am_wI M 201 (518 + y).toNatClampNeg v) else ((-1000 : Int32), M)) else ((-1000 : Int32), M)
def TX8_prices : am_T := fun live as M R => match as with
  | [.ref n, .int y, .int v] => am_mn live ∧ n = 200 ∧ r_I M ∧ R (some (.int (r_prices M y v).1)) (r_prices M y v).2
  | _ => False
set_option maxRecDepth 100000 in
set_option maxHeartbeats 4000000 in
theorem metX8_prices : am_Met yX8_prices cX8_prices 4 (some .int) (2) (45) TX8_prices := by
  refine am_met (own := RX8) (by decide +kernel) rfl kX8_prices koX8_prices 200 (fun _ _ _ _ _ => none) (fun live as M Ret h => ?_) (fun _ _ _ _ _ _ _ _ hI => by cases hI)
  unfold TX8_prices at h
  split at h
  · next n y v =>
    refine ⟨Nat.le_of_ble_eq_true rfl, ?_⟩
    change am_wp _ _ _ _ [(0, Value.ref n), (1, Value.int y), (2, Value.int v)] _ _
    obtain ⟨hmn, rfl, hR, h⟩ := h
    have hmn2 := hmn
    obtain ⟨i1, i2, rfl⟩ := hmn2
    have l201 : am_len 201 = 3760 := rfl
    have n0 := hR.n0
    have n1 := hR.n1
    have n030 : 0 ≤ (M.1 201 0).toInt ∧ (M.1 201 0).toInt ≤ 30 := ⟨n0.1, by omega⟩
    by_cases z0 : 0 ≤ y ∧ y < 40
    rotate_left
    · skip
      have q0 : (if 0 ≤ y ∧ y < 40 then (1 : Int32) else 0) = 0 := if_neg z0
      have e : r_prices M y v = ((-1000 : Int32), M) := by unfold r_prices; rw [if_neg z0]
      rw [e] at h
      repeat' (first | (with_reducible exact hmn) | (with_reducible exact h) | (with_reducible exact n030) | (with_reducible exact n1) | apply And.intro | exact rfl | (intro hx; with_reducible exact absurd q0 hx) | (intro hx; exact absurd hx (by decide)) | (intro hx; exact absurd (by decide) hx) | decide | intro hx | (refine Exists.intro _ (And.intro rfl ?_)))
      all_goals try first | (with_reducible change am_tI _ _) | (change Ret _ _) | (change Ret _ _ _) | (change Exists _)
      all_goals try dsimp only at *
      all_goals try exact absurd ‹(1000 : Int64) = 0› (by decide)
      all_goals first | exact h | exact n0.1 | omega | (simp only [e1, l201, Int32.reduceToInt]; omega) | (show _ < _; simp only [l201]; decide) | skip
    · skip
      have q0 : ¬ ((if 0 ≤ y ∧ y < 40 then (1 : Int32) else 0) = 0) := by rw [if_pos z0]; decide
      by_cases z1 : -100 ≤ v ∧ v ≤ 500
      rotate_left
      · skip
        have q1 : (if (-100 : Int64) ≤ v.toInt64 ∧ v.toInt64 ≤ (500 : Int64) then (1 : Int32) else 0) = 0 := if_neg (fun r => z1 (by simp only [i_le, i_lt, j_le, Int32.toInt_toInt64, Int32.reduceToInt, Int64.reduceToInt] at r ⊢; omega))
        have e : r_prices M y v = ((-1000 : Int32), M) := by unfold r_prices; rw [if_pos z0, if_neg z1]
        rw [e] at h
        repeat' (first | (with_reducible exact hmn) | (with_reducible exact h) | (with_reducible exact n030) | (with_reducible exact n1) | apply And.intro | exact rfl | (intro hx; with_reducible exact absurd hx q0) | (intro hx; with_reducible exact absurd q1 hx) | (intro hx; exact absurd hx (by decide)) | (intro hx; exact absurd (by decide) hx) | decide | intro hx | (refine Exists.intro _ (And.intro rfl ?_)))
        all_goals try first | (with_reducible change am_tI _ _) | (change Ret _ _) | (change Ret _ _ _) | (change Exists _)
        all_goals try dsimp only at *
        all_goals try exact absurd ‹(1000 : Int64) = 0› (by decide)
        all_goals first | exact h | exact n0.1 | omega | (simp only [e1, l201, Int32.reduceToInt]; omega) | (show _ < _; simp only [l201]; decide) | skip
      · skip
        have q1 : ¬ ((if (-100 : Int64) ≤ v.toInt64 ∧ v.toInt64 ≤ (500 : Int64) then (1 : Int32) else 0) = 0) := by rw [if_pos (by have q := z1; simp only [i_le, i_lt, j_le, Int32.toInt_toInt64, Int32.reduceToInt, Int64.reduceToInt] at q ⊢; omega)]; decide
        have hy : am_in y 40 := ⟨by have q := z0.1; simp only [i_le, Int32.reduceToInt] at q; omega, by have q := z0.2; simp only [i_lt, Int32.reduceToInt] at q; omega⟩
        have hy1 := hy.1
        have hy2 := hy.2
        have e1 := r_off (c := 518) (x := y) ⟨by decide, by decide⟩ ⟨by omega, by omega⟩
        simp only [Int32.reduceToInt] at e1
        have e : r_prices M y v = (M.1 201 (518 + y).toNatClampNeg, am_wI M 201 (518 + y).toNatClampNeg v) := by unfold r_prices; rw [if_pos z0, if_pos z1]
        rw [e] at h
        repeat' (first | (with_reducible exact hmn) | (with_reducible exact n030) | (with_reducible exact n1) | apply And.intro | exact rfl | (intro hx; with_reducible exact absurd hx q0) | (intro hx; with_reducible exact absurd hx q1) | (intro hx; exact absurd hx (by decide)) | (intro hx; exact absurd (by decide) hx) | decide | intro hx | (refine Exists.intro _ (And.intro rfl ?_)))
        all_goals try first | (with_reducible change am_tI _ _) | (change Ret _ _) | (change Ret _ _ _) | (change Exists _)
        all_goals try dsimp only at *
        all_goals try exact absurd ‹(1000 : Int64) = 0› (by decide)
        all_goals first | exact h | exact n0.1 | omega | (simp only [e1, l201, Int32.reduceToInt]; omega) | (show _ < _; simp only [l201]; decide) | skip
  · exact h.elim
set_option maxRecDepth 100000 in
theorem wd_993 : Cond.methodLink "LearnLoansModel" 76 yX8_isPerson ∈ am_ws := am_wsi (List.mem_of_getElem? (i := 993) (by rfl)) (by decide +kernel)
set_option maxRecDepth 100000 in
theorem wd_995 : Cond.instanceMethod yX8_isPerson ∈ am_ws := am_wsi (List.mem_of_getElem? (i := 995) (by rfl)) (by decide +kernel)
set_option maxRecDepth 100000 in
theorem wd_27 : Cond.selects "LearnLoansModel" yX8_isPerson yX8_isPerson ∈ am_ws := am_wsi (List.mem_of_getElem? (i := 27) (by rfl)) (by decide +kernel)
set_option maxRecDepth 100000 in
theorem wd_996 : Cond.code yX8_isPerson cX8_isPerson 2 (some .boolean) ∈ am_ws := am_wsi (List.mem_of_getElem? (i := 996) (by rfl)) (by decide +kernel)
theorem dX8_dies_0 : decode cX8_dies 0 = .ok (.aload_n 0, 1) := by decide +kernel
theorem dX8_dies_1 : decode cX8_dies 1 = .ok (.iload_n 1, 1) := by decide +kernel
theorem dX8_dies_2 : decode cX8_dies 2 = .ok (.invokevirtual 76, 3) := by decide +kernel
theorem dX8_dies_5 : decode cX8_dies 5 = .ok (.ifCond .eq 10, 3) := by decide +kernel
theorem dX8_dies_8 : decode cX8_dies 8 = .ok (.iload_n 2, 1) := by decide +kernel
theorem dX8_dies_9 : decode cX8_dies 9 = .ok (.invokestatic 72, 3) := by decide +kernel
theorem dX8_dies_12 : decode cX8_dies 12 = .ok (.ifCond .ne 6, 3) := by decide +kernel
theorem dX8_dies_15 : decode cX8_dies 15 = .ok (.bipush (-2), 2) := by decide +kernel
theorem dX8_dies_17 : decode cX8_dies 17 = .ok (.ireturn, 1) := by decide +kernel
theorem dX8_dies_18 : decode cX8_dies 18 = .ok (.aload_n 0, 1) := by decide +kernel
theorem dX8_dies_19 : decode cX8_dies 19 = .ok (.getfield 7, 3) := by decide +kernel
theorem dX8_dies_22 : decode cX8_dies 22 = .ok (.bipush 22, 2) := by decide +kernel
theorem dX8_dies_24 : decode cX8_dies 24 = .ok (.iload_n 1, 1) := by decide +kernel
theorem dX8_dies_25 : decode cX8_dies 25 = .ok (.iadd, 1) := by decide +kernel
theorem dX8_dies_26 : decode cX8_dies 26 = .ok (.iaload, 1) := by decide +kernel
theorem dX8_dies_27 : decode cX8_dies 27 = .ok (.ifCond .lt 6, 3) := by decide +kernel
theorem dX8_dies_30 : decode cX8_dies 30 = .ok (.bipush (-3), 2) := by decide +kernel
theorem dX8_dies_32 : decode cX8_dies 32 = .ok (.ireturn, 1) := by decide +kernel
theorem dX8_dies_33 : decode cX8_dies 33 = .ok (.aload_n 0, 1) := by decide +kernel
theorem dX8_dies_34 : decode cX8_dies 34 = .ok (.getfield 7, 3) := by decide +kernel
theorem dX8_dies_37 : decode cX8_dies 37 = .ok (.bipush 22, 2) := by decide +kernel
theorem dX8_dies_39 : decode cX8_dies 39 = .ok (.iload_n 1, 1) := by decide +kernel
theorem dX8_dies_40 : decode cX8_dies 40 = .ok (.iadd, 1) := by decide +kernel
theorem dX8_dies_41 : decode cX8_dies 41 = .ok (.iload_n 2, 1) := by decide +kernel
theorem dX8_dies_42 : decode cX8_dies 42 = .ok (.iastore, 1) := by decide +kernel
theorem dX8_dies_43 : decode cX8_dies 43 = .ok (.iconst 1, 1) := by decide +kernel
theorem dX8_dies_44 : decode cX8_dies 44 = .ok (.ireturn, 1) := by decide +kernel
def kX8_dies (live : am_E) (Ret : am_R) : am_code := [(0, am_aload 0 1), (1, am_iload 1 2), (2, am_callV live 8 1 TX8_isPerson 5), (5, am_if1 (fun x => x = 0) 15 8), (8, am_iload 2 9), (9, am_callS live 1 TX8_isYear 12), (12, am_if1 (fun x => x = 0) 15 18), (15, am_const (.int (-2)) 17), (17, am_retI Ret), (18, am_aload 0 19), (19, am_getR live 8 0 22), (22, am_const (.int 22) 24), (24, am_iload 1 25), (25, am_i2 (fun x y => x + y) 26), (26, am_ald live 0 27), (27, am_if1 (fun x => x < 0) 33 30), (30, am_const (.int (-3)) 32), (32, am_retI Ret), (33, am_aload 0 34), (34, am_getR live 8 0 37), (37, am_const (.int 22) 39), (39, am_iload 1 40), (40, am_i2 (fun x y => x + y) 41), (41, am_iload 2 42), (42, am_ast live 0 43), (43, am_const (.int 1) 44), (44, am_retI Ret)]
theorem koX8_dies (live : am_E) (Ret : am_R) : ∀ q ∈ kX8_dies live Ret, am_ok RX8 cX8_dies 3 (some .int) 2 46 live Ret q.1 q.2 :=
  am_kc (ak_aload_n dX8_dies_0 rfl rfl) <|
  am_kc (ak_iload_n dX8_dies_1 rfl rfl) <|
  am_kc (ak_callV (C := RX8) (F := TX8) (N := 27) metX8_isPerson rfl ⟨rfl, by decide +kernel, by decide +kernel, by decide +kernel⟩ (am_w5 wd_993 wd_995 wd_27 wd_67 wd_996) (by decide) dX8_dies_2 rfl) <|
  am_kc (ak_if_eq dX8_dies_5 (by decide +kernel) rfl) <|
  am_kc (ak_iload_n dX8_dies_8 rfl rfl) <|
  am_kc (ak_callS metX8_isYear ⟨rfl, by decide +kernel, by decide +kernel, by decide +kernel⟩ (am_w4 wd_982 wd_983 wd_67 wd_984) (by decide) dX8_dies_9 rfl) <|
  am_kc (ak_if_ne dX8_dies_12 (by decide +kernel) rfl) <|
  am_kc (ak_bipush dX8_dies_15 (by decide +kernel) rfl) <|
  am_kc (ak_retI dX8_dies_17) <|
  am_kc (ak_aload_n dX8_dies_18 rfl rfl) <|
  am_kc (ak_getR (C := RX8) (T := TX8) (N := 27) rfl inX8w (by decide) rfl rfl rfl wd_895 dX8_dies_19 rfl) <|
  am_kc (ak_bipush dX8_dies_22 (by decide +kernel) rfl) <|
  am_kc (ak_iload_n dX8_dies_24 rfl rfl) <|
  am_kc (ak_iadd dX8_dies_25 rfl) <|
  am_kc (ak_iald (t := 0) (fun _ => rfl) rfl dX8_dies_26 rfl) <|
  am_kc (ak_if_lt dX8_dies_27 (by decide +kernel) rfl) <|
  am_kc (ak_bipush dX8_dies_30 (by decide +kernel) rfl) <|
  am_kc (ak_retI dX8_dies_32) <|
  am_kc (ak_aload_n dX8_dies_33 rfl rfl) <|
  am_kc (ak_getR (C := RX8) (T := TX8) (N := 27) rfl inX8w (by decide) rfl rfl rfl wd_895 dX8_dies_34 rfl) <|
  am_kc (ak_bipush dX8_dies_37 (by decide +kernel) rfl) <|
  am_kc (ak_iload_n dX8_dies_39 rfl rfl) <|
  am_kc (ak_iadd dX8_dies_40 rfl) <|
  am_kc (ak_iload_n dX8_dies_41 rfl rfl) <|
  am_kc (ak_iast (t := 0) (fun _ => rfl) rfl dX8_dies_42 rfl) <|
  am_kc (ak_iconst dX8_dies_43 (by decide +kernel) rfl) <|
  am_kc (ak_retI dX8_dies_44) <| am_kn
def r_dies (M : am_M) (p y : Int32) : Int32 × am_M := if 0 ≤ p ∧ p < M.1 201 0 then (if 0 ≤ y ∧ y < 40 then (if M.1 201 (22 + p).toNatClampNeg < 0 then (1, am_wI M 201 (22 + p).toNatClampNeg y) else ((-3 : Int32), M)) else ((-2 : Int32), M)) else ((-2 : Int32), M)
def TX8_dies : am_T := fun live as M R => match as with
  | [.ref n, .int p, .int y] => am_mn live ∧ n = 200 ∧ r_I M ∧ R (some (.int (r_dies M p y).1)) (r_dies M p y).2
  | _ => False
set_option maxRecDepth 100000 in
set_option maxHeartbeats 4000000 in
theorem metX8_dies : am_Met yX8_dies cX8_dies 3 (some .int) (2) (46) TX8_dies := by
  refine am_met (own := RX8) (by decide +kernel) rfl kX8_dies koX8_dies 200 (fun _ _ _ _ _ => none) (fun live as M Ret h => ?_) (fun _ _ _ _ _ _ _ _ hI => by cases hI)
  unfold TX8_dies at h
  split at h
  · next n p y =>
    refine ⟨Nat.le_of_ble_eq_true rfl, ?_⟩
    change am_wp _ _ _ _ [(0, Value.ref n), (1, Value.int p), (2, Value.int y)] _ _
    obtain ⟨hmn, rfl, hR, h⟩ := h
    have hmn2 := hmn
    obtain ⟨i1, i2, rfl⟩ := hmn2
    have l201 : am_len 201 = 3760 := rfl
    have n0 := hR.n0
    have n1 := hR.n1
    have n030 : 0 ≤ (M.1 201 0).toInt ∧ (M.1 201 0).toInt ≤ 30 := ⟨n0.1, by omega⟩
    by_cases z0 : 0 ≤ p ∧ p < M.1 201 0
    rotate_left
    · skip
      have q0 : (if 0 ≤ p ∧ p < M.1 201 0 then (1 : Int32) else 0) = 0 := if_neg z0
      have e : r_dies M p y = ((-2 : Int32), M) := by unfold r_dies; rw [if_neg z0]
      rw [e] at h
      repeat' (first | (with_reducible exact hmn) | (with_reducible exact h) | (with_reducible exact n030) | (with_reducible exact n1) | apply And.intro | exact rfl | (intro hx; with_reducible exact absurd q0 hx) | (intro hx; exact absurd hx (by decide)) | (intro hx; exact absurd (by decide) hx) | decide | intro hx | (refine Exists.intro _ (And.intro rfl ?_)))
      all_goals try first | (with_reducible change am_tI _ _) | (change Ret _ _) | (change Ret _ _ _) | (change Exists _)
      all_goals try dsimp only at *
      all_goals try exact absurd ‹(1000 : Int64) = 0› (by decide)
      all_goals first | exact h | exact n0.1 | omega | (simp only [e1, l201, Int32.reduceToInt]; omega) | (show _ < _; simp only [l201]; decide) | skip
    · skip
      have q0 : ¬ ((if 0 ≤ p ∧ p < M.1 201 0 then (1 : Int32) else 0) = 0) := by rw [if_pos z0]; decide
      by_cases z1 : 0 ≤ y ∧ y < 40
      rotate_left
      · skip
        have q1 : (if 0 ≤ y ∧ y < 40 then (1 : Int32) else 0) = 0 := if_neg z1
        have e : r_dies M p y = ((-2 : Int32), M) := by unfold r_dies; rw [if_pos z0, if_neg z1]
        rw [e] at h
        repeat' (first | (with_reducible exact hmn) | (with_reducible exact h) | (with_reducible exact n030) | (with_reducible exact n1) | apply And.intro | exact rfl | (intro hx; with_reducible exact absurd hx q0) | (intro hx; with_reducible exact absurd q1 hx) | (intro hx; exact absurd hx (by decide)) | (intro hx; exact absurd (by decide) hx) | decide | intro hx | (refine Exists.intro _ (And.intro rfl ?_)))
        all_goals try first | (with_reducible change am_tI _ _) | (change Ret _ _) | (change Ret _ _ _) | (change Exists _)
        all_goals try dsimp only at *
        all_goals try exact absurd ‹(1000 : Int64) = 0› (by decide)
        all_goals first | exact h | exact n0.1 | omega | (simp only [e1, l201, Int32.reduceToInt]; omega) | (show _ < _; simp only [l201]; decide) | skip
      · skip
        have q1 : ¬ ((if 0 ≤ y ∧ y < 40 then (1 : Int32) else 0) = 0) := by rw [if_pos z1]; decide
        have hp : am_in p 12 := ⟨by have q := z0.1; simp only [i_le, Int32.reduceToInt] at q; omega, by have q := z0.2; simp only [i_lt] at q; omega⟩
        have hp1 := hp.1
        have hp2 := hp.2
        have e1 := r_off (c := 22) (x := p) ⟨by decide, by decide⟩ ⟨by omega, by omega⟩
        simp only [Int32.reduceToInt] at e1
        by_cases z2 : M.1 201 (22 + p).toNatClampNeg < 0
        rotate_left
        · skip
          have y2 : (0 : Int32) ≤ M.1 201 (22 + p).toNatClampNeg := Int32.not_lt.mp z2
          have e : r_dies M p y = ((-3 : Int32), M) := by unfold r_dies; rw [if_pos z0, if_pos z1, if_neg z2]
          rw [e] at h
          repeat' (first | (with_reducible exact hmn) | (with_reducible exact h) | (with_reducible exact n030) | (with_reducible exact n1) | apply And.intro | exact rfl | (intro hx; with_reducible exact absurd hx q0) | (intro hx; with_reducible exact absurd hx q1) | (intro hx; with_reducible exact absurd hx z2) | (intro hx; with_reducible exact absurd y2 hx) | (intro hx; exact absurd hx (by decide)) | (intro hx; exact absurd (by decide) hx) | decide | intro hx | (refine Exists.intro _ (And.intro rfl ?_)))
          all_goals try first | (with_reducible change am_tI _ _) | (change Ret _ _) | (change Ret _ _ _) | (change Exists _)
          all_goals try dsimp only at *
          all_goals try exact absurd ‹(1000 : Int64) = 0› (by decide)
          all_goals first | exact h | exact n0.1 | omega | (simp only [e1, l201, Int32.reduceToInt]; omega) | (show _ < _; simp only [l201]; decide) | skip
        · skip
          have y2 : ¬ (0 : Int32) ≤ M.1 201 (22 + p).toNatClampNeg := Int32.not_le.mpr z2
          have e : r_dies M p y = (1, am_wI M 201 (22 + p).toNatClampNeg y) := by unfold r_dies; rw [if_pos z0, if_pos z1, if_pos z2]
          rw [e] at h
          repeat' (first | (with_reducible exact hmn) | (with_reducible exact n030) | (with_reducible exact n1) | apply And.intro | exact rfl | (intro hx; with_reducible exact absurd hx q0) | (intro hx; with_reducible exact absurd hx q1) | (intro hx; with_reducible exact absurd hx y2) | (intro hx; with_reducible exact absurd z2 hx) | (intro hx; exact absurd hx (by decide)) | (intro hx; exact absurd (by decide) hx) | decide | intro hx | (refine Exists.intro _ (And.intro rfl ?_)))
          all_goals try first | (with_reducible change am_tI _ _) | (change Ret _ _) | (change Ret _ _ _) | (change Exists _)
          all_goals try dsimp only at *
          all_goals try exact absurd ‹(1000 : Int64) = 0› (by decide)
          all_goals first | exact h | exact n0.1 | omega | (simp only [e1, l201, Int32.reduceToInt]; omega) | (show _ < _; simp only [l201]; decide) | skip
  · exact h.elim
theorem dX8_earn_0 : decode cX8_earn 0 = .ok (.aload_n 0, 1) := by decide +kernel
theorem dX8_earn_1 : decode cX8_earn 1 = .ok (.iload_n 1, 1) := by decide +kernel
theorem dX8_earn_2 : decode cX8_earn 2 = .ok (.invokevirtual 76, 3) := by decide +kernel
theorem dX8_earn_5 : decode cX8_earn 5 = .ok (.ifCond .eq 36, 3) := by decide +kernel
theorem dX8_earn_8 : decode cX8_earn 8 = .ok (.iload_n 2, 1) := by decide +kernel
theorem dX8_earn_9 : decode cX8_earn 9 = .ok (.invokestatic 72, 3) := by decide +kernel
theorem dX8_earn_12 : decode cX8_earn 12 = .ok (.ifCond .eq 29, 3) := by decide +kernel
theorem dX8_earn_15 : decode cX8_earn 15 = .ok (.iload_n 3, 1) := by decide +kernel
theorem dX8_earn_16 : decode cX8_earn 16 = .ok (.i2l, 1) := by decide +kernel
theorem dX8_earn_17 : decode cX8_earn 17 = .ok (.lconst 0, 1) := by decide +kernel
theorem dX8_earn_18 : decode cX8_earn 18 = .ok (.ldc2_w 87, 3) := by decide +kernel
theorem dX8_earn_21 : decode cX8_earn 21 = .ok (.invokestatic 66, 3) := by decide +kernel
theorem dX8_earn_24 : decode cX8_earn 24 = .ok (.ifCond .eq 17, 3) := by decide +kernel
theorem dX8_earn_27 : decode cX8_earn 27 = .ok (.iload 4, 2) := by decide +kernel
theorem dX8_earn_29 : decode cX8_earn 29 = .ok (.i2l, 1) := by decide +kernel
theorem dX8_earn_30 : decode cX8_earn 30 = .ok (.iload_n 2, 1) := by decide +kernel
theorem dX8_earn_31 : decode cX8_earn 31 = .ok (.i2l, 1) := by decide +kernel
theorem dX8_earn_32 : decode cX8_earn 32 = .ok (.ldc2_w 64, 3) := by decide +kernel
theorem dX8_earn_35 : decode cX8_earn 35 = .ok (.invokestatic 66, 3) := by decide +kernel
theorem dX8_earn_38 : decode cX8_earn 38 = .ok (.ifCond .ne 6, 3) := by decide +kernel
theorem dX8_earn_41 : decode cX8_earn 41 = .ok (.bipush (-2), 2) := by decide +kernel
theorem dX8_earn_43 : decode cX8_earn 43 = .ok (.ireturn, 1) := by decide +kernel
theorem dX8_earn_44 : decode cX8_earn 44 = .ok (.bipush 40, 2) := by decide +kernel
theorem dX8_earn_46 : decode cX8_earn 46 = .ok (.iload_n 1, 1) := by decide +kernel
theorem dX8_earn_47 : decode cX8_earn 47 = .ok (.imul, 1) := by decide +kernel
theorem dX8_earn_48 : decode cX8_earn 48 = .ok (.iload_n 2, 1) := by decide +kernel
theorem dX8_earn_49 : decode cX8_earn 49 = .ok (.iadd, 1) := by decide +kernel
theorem dX8_earn_50 : decode cX8_earn 50 = .ok (.istore 5, 2) := by decide +kernel
theorem dX8_earn_52 : decode cX8_earn 52 = .ok (.aload_n 0, 1) := by decide +kernel
theorem dX8_earn_53 : decode cX8_earn 53 = .ok (.getfield 7, 3) := by decide +kernel
theorem dX8_earn_56 : decode cX8_earn 56 = .ok (.sipush 1038, 3) := by decide +kernel
theorem dX8_earn_59 : decode cX8_earn 59 = .ok (.iload 5, 2) := by decide +kernel
theorem dX8_earn_61 : decode cX8_earn 61 = .ok (.iadd, 1) := by decide +kernel
theorem dX8_earn_62 : decode cX8_earn 62 = .ok (.iaload, 1) := by decide +kernel
theorem dX8_earn_63 : decode cX8_earn 63 = .ok (.ifCond .lt 6, 3) := by decide +kernel
theorem dX8_earn_66 : decode cX8_earn 66 = .ok (.bipush (-3), 2) := by decide +kernel
theorem dX8_earn_68 : decode cX8_earn 68 = .ok (.ireturn, 1) := by decide +kernel
theorem dX8_earn_69 : decode cX8_earn 69 = .ok (.aload_n 0, 1) := by decide +kernel
theorem dX8_earn_70 : decode cX8_earn 70 = .ok (.getfield 7, 3) := by decide +kernel
theorem dX8_earn_73 : decode cX8_earn 73 = .ok (.sipush 558, 3) := by decide +kernel
theorem dX8_earn_76 : decode cX8_earn 76 = .ok (.iload 5, 2) := by decide +kernel
theorem dX8_earn_78 : decode cX8_earn 78 = .ok (.iadd, 1) := by decide +kernel
theorem dX8_earn_79 : decode cX8_earn 79 = .ok (.iload_n 3, 1) := by decide +kernel
theorem dX8_earn_80 : decode cX8_earn 80 = .ok (.iastore, 1) := by decide +kernel
theorem dX8_earn_81 : decode cX8_earn 81 = .ok (.aload_n 0, 1) := by decide +kernel
theorem dX8_earn_82 : decode cX8_earn 82 = .ok (.getfield 7, 3) := by decide +kernel
theorem dX8_earn_85 : decode cX8_earn 85 = .ok (.sipush 1038, 3) := by decide +kernel
theorem dX8_earn_88 : decode cX8_earn 88 = .ok (.iload 5, 2) := by decide +kernel
theorem dX8_earn_90 : decode cX8_earn 90 = .ok (.iadd, 1) := by decide +kernel
theorem dX8_earn_91 : decode cX8_earn 91 = .ok (.iload 4, 2) := by decide +kernel
theorem dX8_earn_93 : decode cX8_earn 93 = .ok (.iastore, 1) := by decide +kernel
theorem dX8_earn_94 : decode cX8_earn 94 = .ok (.iconst 1, 1) := by decide +kernel
theorem dX8_earn_95 : decode cX8_earn 95 = .ok (.ireturn, 1) := by decide +kernel
def kX8_earn (live : am_E) (Ret : am_R) : am_code := [(0, am_aload 0 1), (1, am_iload 1 2), (2, am_callV live 8 1 TX8_isPerson 5), (5, am_if1 (fun x => x = 0) 41 8), (8, am_iload 2 9), (9, am_callS live 1 TX8_isYear 12), (12, am_if1 (fun x => x = 0) 41 15), (15, am_iload 3 16), (16, am_i2l 17), (17, am_const (.long 0) 18), (18, am_const (.long 10000000) 21), (21, am_callS live 3 TX8_in 24), (24, am_if1 (fun x => x = 0) 41 27), (27, am_iload 4 29), (29, am_i2l 30), (30, am_iload 2 31), (31, am_i2l 32), (32, am_const (.long 39) 35), (35, am_callS live 3 TX8_in 38), (38, am_if1 (fun x => x = 0) 41 44), (41, am_const (.int (-2)) 43), (43, am_retI Ret), (44, am_const (.int 40) 46), (46, am_iload 1 47), (47, am_i2 (fun x y => x * y) 48), (48, am_iload 2 49), (49, am_i2 (fun x y => x + y) 50), (50, am_istore 5 6 52), (52, am_aload 0 53), (53, am_getR live 8 0 56), (56, am_const (.int 1038) 59), (59, am_iload 5 61), (61, am_i2 (fun x y => x + y) 62), (62, am_ald live 0 63), (63, am_if1 (fun x => x < 0) 69 66), (66, am_const (.int (-3)) 68), (68, am_retI Ret), (69, am_aload 0 70), (70, am_getR live 8 0 73), (73, am_const (.int 558) 76), (76, am_iload 5 78), (78, am_i2 (fun x y => x + y) 79), (79, am_iload 3 80), (80, am_ast live 0 81), (81, am_aload 0 82), (82, am_getR live 8 0 85), (85, am_const (.int 1038) 88), (88, am_iload 5 90), (90, am_i2 (fun x y => x + y) 91), (91, am_iload 4 93), (93, am_ast live 0 94), (94, am_const (.int 1) 95), (95, am_retI Ret)]
theorem koX8_earn (live : am_E) (Ret : am_R) : ∀ q ∈ kX8_earn live Ret, am_ok RX8 cX8_earn 6 (some .int) 2 46 live Ret q.1 q.2 :=
  am_kc (ak_aload_n dX8_earn_0 rfl rfl) <|
  am_kc (ak_iload_n dX8_earn_1 rfl rfl) <|
  am_kc (ak_callV (C := RX8) (F := TX8) (N := 27) metX8_isPerson rfl ⟨rfl, by decide +kernel, by decide +kernel, by decide +kernel⟩ (am_w5 wd_993 wd_995 wd_27 wd_67 wd_996) (by decide) dX8_earn_2 rfl) <|
  am_kc (ak_if_eq dX8_earn_5 (by decide +kernel) rfl) <|
  am_kc (ak_iload_n dX8_earn_8 rfl rfl) <|
  am_kc (ak_callS metX8_isYear ⟨rfl, by decide +kernel, by decide +kernel, by decide +kernel⟩ (am_w4 wd_982 wd_983 wd_67 wd_984) (by decide) dX8_earn_9 rfl) <|
  am_kc (ak_if_eq dX8_earn_12 (by decide +kernel) rfl) <|
  am_kc (ak_iload_n dX8_earn_15 rfl rfl) <|
  am_kc (ak_i2l dX8_earn_16 rfl) <|
  am_kc (ak_lconst dX8_earn_17 (by decide +kernel) rfl) <|
  am_kc (ak_ldc2 wd_1017 dX8_earn_18 rfl) <|
  am_kc (ak_callS metX8_in ⟨rfl, by decide +kernel, by decide +kernel, by decide +kernel⟩ (am_w4 wd_986 wd_987 wd_67 wd_988) (by decide) dX8_earn_21 rfl) <|
  am_kc (ak_if_eq dX8_earn_24 (by decide +kernel) rfl) <|
  am_kc (ak_iload dX8_earn_27 rfl) <|
  am_kc (ak_i2l dX8_earn_29 rfl) <|
  am_kc (ak_iload_n dX8_earn_30 rfl rfl) <|
  am_kc (ak_i2l dX8_earn_31 rfl) <|
  am_kc (ak_ldc2 wd_985 dX8_earn_32 rfl) <|
  am_kc (ak_callS metX8_in ⟨rfl, by decide +kernel, by decide +kernel, by decide +kernel⟩ (am_w4 wd_986 wd_987 wd_67 wd_988) (by decide) dX8_earn_35 rfl) <|
  am_kc (ak_if_ne dX8_earn_38 (by decide +kernel) rfl) <|
  am_kc (ak_bipush dX8_earn_41 (by decide +kernel) rfl) <|
  am_kc (ak_retI dX8_earn_43) <|
  am_kc (ak_bipush dX8_earn_44 (by decide +kernel) rfl) <|
  am_kc (ak_iload_n dX8_earn_46 rfl rfl) <|
  am_kc (ak_imul dX8_earn_47 rfl) <|
  am_kc (ak_iload_n dX8_earn_48 rfl rfl) <|
  am_kc (ak_iadd dX8_earn_49 rfl) <|
  am_kc (ak_istore dX8_earn_50 rfl) <|
  am_kc (ak_aload_n dX8_earn_52 rfl rfl) <|
  am_kc (ak_getR (C := RX8) (T := TX8) (N := 27) rfl inX8w (by decide) rfl rfl rfl wd_895 dX8_earn_53 rfl) <|
  am_kc (ak_sipush dX8_earn_56 (by decide +kernel) rfl) <|
  am_kc (ak_iload dX8_earn_59 rfl) <|
  am_kc (ak_iadd dX8_earn_61 rfl) <|
  am_kc (ak_iald (t := 0) (fun _ => rfl) rfl dX8_earn_62 rfl) <|
  am_kc (ak_if_lt dX8_earn_63 (by decide +kernel) rfl) <|
  am_kc (ak_bipush dX8_earn_66 (by decide +kernel) rfl) <|
  am_kc (ak_retI dX8_earn_68) <|
  am_kc (ak_aload_n dX8_earn_69 rfl rfl) <|
  am_kc (ak_getR (C := RX8) (T := TX8) (N := 27) rfl inX8w (by decide) rfl rfl rfl wd_895 dX8_earn_70 rfl) <|
  am_kc (ak_sipush dX8_earn_73 (by decide +kernel) rfl) <|
  am_kc (ak_iload dX8_earn_76 rfl) <|
  am_kc (ak_iadd dX8_earn_78 rfl) <|
  am_kc (ak_iload_n dX8_earn_79 rfl rfl) <|
  am_kc (ak_iast (t := 0) (fun _ => rfl) rfl dX8_earn_80 rfl) <|
  am_kc (ak_aload_n dX8_earn_81 rfl rfl) <|
  am_kc (ak_getR (C := RX8) (T := TX8) (N := 27) rfl inX8w (by decide) rfl rfl rfl wd_895 dX8_earn_82 rfl) <|
  am_kc (ak_sipush dX8_earn_85 (by decide +kernel) rfl) <|
  am_kc (ak_iload dX8_earn_88 rfl) <|
  am_kc (ak_iadd dX8_earn_90 rfl) <|
  am_kc (ak_iload dX8_earn_91 rfl) <|
  am_kc (ak_iast (t := 0) (fun _ => rfl) rfl dX8_earn_93 rfl) <|
  am_kc (ak_iconst dX8_earn_94 (by decide +kernel) rfl) <|
  am_kc (ak_retI dX8_earn_95) <| am_kn
def r_earn (M : am_M) (p y c k : Int32) : Int32 × am_M := if 0 ≤ p ∧ p < M.1 201 0 then (if 0 ≤ y ∧ y < 40 then (if 0 ≤ c ∧ c ≤ 10000000 then (if y ≤ k ∧ k ≤ 39 then (if M.1 201 (1038 + (40 * p + y)).toNatClampNeg < 0 then (1, am_wI (am_wI M 201 (558 + (40 * p + y)).toNatClampNeg c) 201 (1038 + (40 * p + y)).toNatClampNeg k) else ((-3 : Int32), M)) else ((-2 : Int32), M)) else ((-2 : Int32), M)) else ((-2 : Int32), M)) else ((-2 : Int32), M)
def TX8_earn : am_T := fun live as M R => match as with
  | [.ref n, .int p, .int y, .int c, .int k] => am_mn live ∧ n = 200 ∧ r_I M ∧ R (some (.int (r_earn M p y c k).1)) (r_earn M p y c k).2
  | _ => False
set_option maxRecDepth 100000 in
set_option maxHeartbeats 4000000 in
theorem metX8_earn : am_Met yX8_earn cX8_earn 6 (some .int) (2) (46) TX8_earn := by
  refine am_met (own := RX8) (by decide +kernel) rfl kX8_earn koX8_earn 200 (fun _ _ _ _ _ => none) (fun live as M Ret h => ?_) (fun _ _ _ _ _ _ _ _ hI => by cases hI)
  unfold TX8_earn at h
  split at h
  · next n p y c k =>
    refine ⟨Nat.le_of_ble_eq_true rfl, ?_⟩
    change am_wp _ _ _ _ [(0, Value.ref n), (1, Value.int p), (2, Value.int y), (3, Value.int c), (4, Value.int k)] _ _
    obtain ⟨hmn, rfl, hR, h⟩ := h
    have hmn2 := hmn
    obtain ⟨i1, i2, rfl⟩ := hmn2
    have l201 : am_len 201 = 3760 := rfl
    have n0 := hR.n0
    have n1 := hR.n1
    have n030 : 0 ≤ (M.1 201 0).toInt ∧ (M.1 201 0).toInt ≤ 30 := ⟨n0.1, by omega⟩
    by_cases z0 : 0 ≤ p ∧ p < M.1 201 0
    rotate_left
    · skip
      have q0 : (if 0 ≤ p ∧ p < M.1 201 0 then (1 : Int32) else 0) = 0 := if_neg z0
      have e : r_earn M p y c k = ((-2 : Int32), M) := by unfold r_earn; rw [if_neg z0]
      rw [e] at h
      repeat' (first | (with_reducible exact hmn) | (with_reducible exact h) | (with_reducible exact n030) | (with_reducible exact n1) | apply And.intro | exact rfl | (intro hx; with_reducible exact absurd q0 hx) | (intro hx; exact absurd hx (by decide)) | (intro hx; exact absurd (by decide) hx) | decide | intro hx | (refine Exists.intro _ (And.intro rfl ?_)))
      all_goals try first | (with_reducible change am_tI _ _) | (change Ret _ _) | (change Ret _ _ _) | (change Exists _)
      all_goals try dsimp only at *
      all_goals try exact absurd ‹(1000 : Int64) = 0› (by decide)
      all_goals first | exact h | exact n0.1 | omega | (simp only [e558, e1038, l201, Int32.reduceToInt]; omega) | (show _ < _; simp only [l201]; decide) | skip
    · skip
      have q0 : ¬ ((if 0 ≤ p ∧ p < M.1 201 0 then (1 : Int32) else 0) = 0) := by rw [if_pos z0]; decide
      by_cases z1 : 0 ≤ y ∧ y < 40
      rotate_left
      · skip
        have q1 : (if 0 ≤ y ∧ y < 40 then (1 : Int32) else 0) = 0 := if_neg z1
        have e : r_earn M p y c k = ((-2 : Int32), M) := by unfold r_earn; rw [if_pos z0, if_neg z1]
        rw [e] at h
        repeat' (first | (with_reducible exact hmn) | (with_reducible exact h) | (with_reducible exact n030) | (with_reducible exact n1) | apply And.intro | exact rfl | (intro hx; with_reducible exact absurd hx q0) | (intro hx; with_reducible exact absurd q1 hx) | (intro hx; exact absurd hx (by decide)) | (intro hx; exact absurd (by decide) hx) | decide | intro hx | (refine Exists.intro _ (And.intro rfl ?_)))
        all_goals try first | (with_reducible change am_tI _ _) | (change Ret _ _) | (change Ret _ _ _) | (change Exists _)
        all_goals try dsimp only at *
        all_goals try exact absurd ‹(1000 : Int64) = 0› (by decide)
        all_goals first | exact h | exact n0.1 | omega | (simp only [e558, e1038, l201, Int32.reduceToInt]; omega) | (show _ < _; simp only [l201]; decide) | skip
      · skip
        have q1 : ¬ ((if 0 ≤ y ∧ y < 40 then (1 : Int32) else 0) = 0) := by rw [if_pos z1]; decide
        by_cases z2 : 0 ≤ c ∧ c ≤ 10000000
        rotate_left
        · skip
          have q2 : (if (0 : Int64) ≤ c.toInt64 ∧ c.toInt64 ≤ (10000000 : Int64) then (1 : Int32) else 0) = 0 := if_neg (fun r => z2 (by simp only [i_le, i_lt, j_le, Int32.toInt_toInt64, Int32.reduceToInt, Int64.reduceToInt] at r ⊢; omega))
          have e : r_earn M p y c k = ((-2 : Int32), M) := by unfold r_earn; rw [if_pos z0, if_pos z1, if_neg z2]
          rw [e] at h
          repeat' (first | (with_reducible exact hmn) | (with_reducible exact h) | (with_reducible exact n030) | (with_reducible exact n1) | apply And.intro | exact rfl | (intro hx; with_reducible exact absurd hx q0) | (intro hx; with_reducible exact absurd hx q1) | (intro hx; with_reducible exact absurd q2 hx) | (intro hx; exact absurd hx (by decide)) | (intro hx; exact absurd (by decide) hx) | decide | intro hx | (refine Exists.intro _ (And.intro rfl ?_)))
          all_goals try first | (with_reducible change am_tI _ _) | (change Ret _ _) | (change Ret _ _ _) | (change Exists _)
          all_goals try dsimp only at *
          all_goals try exact absurd ‹(1000 : Int64) = 0› (by decide)
          all_goals first | exact h | exact n0.1 | omega | (simp only [e558, e1038, l201, Int32.reduceToInt]; omega) | (show _ < _; simp only [l201]; decide) | skip
        · skip
          have q2 : ¬ ((if (0 : Int64) ≤ c.toInt64 ∧ c.toInt64 ≤ (10000000 : Int64) then (1 : Int32) else 0) = 0) := by rw [if_pos (by have q := z2; simp only [i_le, i_lt, j_le, Int32.toInt_toInt64, Int32.reduceToInt, Int64.reduceToInt] at q ⊢; omega)]; decide
          by_cases z3 : y ≤ k ∧ k ≤ 39
          rotate_left
          · skip
            have q3 : (if y.toInt64 ≤ k.toInt64 ∧ k.toInt64 ≤ (39 : Int64) then (1 : Int32) else 0) = 0 := if_neg (fun r => z3 (by simp only [i_le, i_lt, j_le, Int32.toInt_toInt64, Int32.reduceToInt, Int64.reduceToInt] at r ⊢; omega))
            have e : r_earn M p y c k = ((-2 : Int32), M) := by unfold r_earn; rw [if_pos z0, if_pos z1, if_pos z2, if_neg z3]
            rw [e] at h
            repeat' (first | (with_reducible exact hmn) | (with_reducible exact h) | (with_reducible exact n030) | (with_reducible exact n1) | apply And.intro | exact rfl | (intro hx; with_reducible exact absurd hx q0) | (intro hx; with_reducible exact absurd hx q1) | (intro hx; with_reducible exact absurd hx q2) | (intro hx; with_reducible exact absurd q3 hx) | (intro hx; exact absurd hx (by decide)) | (intro hx; exact absurd (by decide) hx) | decide | intro hx | (refine Exists.intro _ (And.intro rfl ?_)))
            all_goals try first | (with_reducible change am_tI _ _) | (change Ret _ _) | (change Ret _ _ _) | (change Exists _)
            all_goals try dsimp only at *
            all_goals try exact absurd ‹(1000 : Int64) = 0› (by decide)
            all_goals first | exact h | exact n0.1 | omega | (simp only [e558, e1038, l201, Int32.reduceToInt]; omega) | (show _ < _; simp only [l201]; decide) | skip
          · skip
            have q3 : ¬ ((if y.toInt64 ≤ k.toInt64 ∧ k.toInt64 ≤ (39 : Int64) then (1 : Int32) else 0) = 0) := by rw [if_pos (by have q := z3; simp only [i_le, i_lt, j_le, Int32.toInt_toInt64, Int32.reduceToInt, Int64.reduceToInt] at q ⊢; omega)]; decide
            have hp : am_in p 12 := ⟨by have q := z0.1; simp only [i_le, Int32.reduceToInt] at q; omega, by have q := z0.2; simp only [i_lt] at q; omega⟩
            have hy : am_in y 40 := ⟨by have q := z1.1; simp only [i_le, Int32.reduceToInt] at q; omega, by have q := z1.2; simp only [i_lt, Int32.reduceToInt] at q; omega⟩
            have hp1 := hp.1
            have hp2 := hp.2
            have hy1 := hy.1
            have hy2 := hy.2
            have e40 := r_mul (c := 40) (x := p) ⟨by decide, by decide⟩ ⟨by omega, by omega⟩
            simp only [Int32.reduceToInt] at e40
            have ey := r_off (c := 40 * p) (x := y) ⟨by rw [e40]; omega, by rw [e40]; omega⟩ ⟨by omega, by omega⟩
            rw [e40] at ey
            have e558 := r_off (c := 558) (x := 40 * p + y) ⟨by decide, by decide⟩ ⟨by rw [ey]; omega, by rw [ey]; omega⟩
            simp only [ey, Int32.reduceToInt] at e558
            have e1038 := r_off (c := 1038) (x := 40 * p + y) ⟨by decide, by decide⟩ ⟨by rw [ey]; omega, by rw [ey]; omega⟩
            simp only [ey, Int32.reduceToInt] at e1038
            by_cases z4 : M.1 201 (1038 + (40 * p + y)).toNatClampNeg < 0
            rotate_left
            · skip
              have y4 : (0 : Int32) ≤ M.1 201 (1038 + (40 * p + y)).toNatClampNeg := Int32.not_lt.mp z4
              have e : r_earn M p y c k = ((-3 : Int32), M) := by unfold r_earn; rw [if_pos z0, if_pos z1, if_pos z2, if_pos z3, if_neg z4]
              rw [e] at h
              repeat' (first | (with_reducible exact hmn) | (with_reducible exact h) | (with_reducible exact n030) | (with_reducible exact n1) | apply And.intro | exact rfl | (intro hx; with_reducible exact absurd hx q0) | (intro hx; with_reducible exact absurd hx q1) | (intro hx; with_reducible exact absurd hx q2) | (intro hx; with_reducible exact absurd hx q3) | (intro hx; with_reducible exact absurd hx z4) | (intro hx; with_reducible exact absurd y4 hx) | (intro hx; exact absurd hx (by decide)) | (intro hx; exact absurd (by decide) hx) | decide | intro hx | (refine Exists.intro _ (And.intro rfl ?_)))
              all_goals try first | (with_reducible change am_tI _ _) | (change Ret _ _) | (change Ret _ _ _) | (change Exists _)
              all_goals try dsimp only at *
              all_goals try exact absurd ‹(1000 : Int64) = 0› (by decide)
              all_goals first | exact h | exact n0.1 | omega | (simp only [e558, e1038, l201, Int32.reduceToInt]; omega) | (show _ < _; simp only [l201]; decide) | skip
            · skip
              have y4 : ¬ (0 : Int32) ≤ M.1 201 (1038 + (40 * p + y)).toNatClampNeg := Int32.not_le.mpr z4
              have e : r_earn M p y c k = (1, am_wI (am_wI M 201 (558 + (40 * p + y)).toNatClampNeg c) 201 (1038 + (40 * p + y)).toNatClampNeg k) := by unfold r_earn; rw [if_pos z0, if_pos z1, if_pos z2, if_pos z3, if_pos z4]
              rw [e] at h
              repeat' (first | (with_reducible exact hmn) | (with_reducible exact n030) | (with_reducible exact n1) | apply And.intro | exact rfl | (intro hx; with_reducible exact absurd hx q0) | (intro hx; with_reducible exact absurd hx q1) | (intro hx; with_reducible exact absurd hx q2) | (intro hx; with_reducible exact absurd hx q3) | (intro hx; with_reducible exact absurd hx y4) | (intro hx; with_reducible exact absurd z4 hx) | (intro hx; exact absurd hx (by decide)) | (intro hx; exact absurd (by decide) hx) | decide | intro hx | (refine Exists.intro _ (And.intro rfl ?_)))
              all_goals try first | (with_reducible change am_tI _ _) | (change Ret _ _) | (change Ret _ _ _) | (change Exists _)
              all_goals try dsimp only at *
              all_goals try exact absurd ‹(1000 : Int64) = 0› (by decide)
              all_goals first | exact h | exact n0.1 | omega | (simp only [e558, e1038, l201, Int32.reduceToInt]; omega) | (show _ < _; simp only [l201]; decide) | skip
  · exact h.elim
set_option maxRecDepth 100000 in
theorem wd_1034 : Cond.methodLink "LearnLoansModel" 104 yX8_isPlan ∈ am_ws := am_wsi (List.mem_of_getElem? (i := 1034) (by rfl)) (by decide +kernel)
set_option maxRecDepth 100000 in
theorem wd_1035 : Cond.static yX8_isPlan ∈ am_ws := am_wsi (List.mem_of_getElem? (i := 1035) (by rfl)) (by decide +kernel)
set_option maxRecDepth 100000 in
theorem wd_1036 : Cond.code yX8_isPlan cX8_isPlan 1 (some .boolean) ∈ am_ws := am_wsi (List.mem_of_getElem? (i := 1036) (by rfl)) (by decide +kernel)
set_option maxRecDepth 100000 in
theorem wd_1038 : Cond.methodLink "LearnLoansModel" 107 yX8_isWhat ∈ am_ws := am_wsi (List.mem_of_getElem? (i := 1038) (by rfl)) (by decide +kernel)
set_option maxRecDepth 100000 in
theorem wd_1039 : Cond.static yX8_isWhat ∈ am_ws := am_wsi (List.mem_of_getElem? (i := 1039) (by rfl)) (by decide +kernel)
set_option maxRecDepth 100000 in
theorem wd_1040 : Cond.code yX8_isWhat cX8_isWhat 1 (some .boolean) ∈ am_ws := am_wsi (List.mem_of_getElem? (i := 1040) (by rfl)) (by decide +kernel)
set_option maxRecDepth 100000 in
theorem wd_1042 : Cond.methodLink "LearnLoansModel" 110 yX8_mayBe ∈ am_ws := am_wsi (List.mem_of_getElem? (i := 1042) (by rfl)) (by decide +kernel)
set_option maxRecDepth 100000 in
theorem wd_1043 : Cond.static yX8_mayBe ∈ am_ws := am_wsi (List.mem_of_getElem? (i := 1043) (by rfl)) (by decide +kernel)
set_option maxRecDepth 100000 in
theorem wd_1044 : Cond.code yX8_mayBe cX8_mayBe 2 (some .boolean) ∈ am_ws := am_wsi (List.mem_of_getElem? (i := 1044) (by rfl)) (by decide +kernel)
theorem dX8_act_0 : decode cX8_act 0 = .ok (.iload_n 1, 1) := by decide +kernel
theorem dX8_act_1 : decode cX8_act 1 = .ok (.invokestatic 104, 3) := by decide +kernel
theorem dX8_act_4 : decode cX8_act 4 = .ok (.ifCond .eq 49, 3) := by decide +kernel
theorem dX8_act_7 : decode cX8_act 7 = .ok (.iload_n 2, 1) := by decide +kernel
theorem dX8_act_8 : decode cX8_act 8 = .ok (.invokestatic 107, 3) := by decide +kernel
theorem dX8_act_11 : decode cX8_act 11 = .ok (.ifCond .eq 42, 3) := by decide +kernel
theorem dX8_act_14 : decode cX8_act 14 = .ok (.iload_n 2, 1) := by decide +kernel
theorem dX8_act_15 : decode cX8_act 15 = .ok (.iload_n 3, 1) := by decide +kernel
theorem dX8_act_16 : decode cX8_act 16 = .ok (.invokestatic 110, 3) := by decide +kernel
theorem dX8_act_19 : decode cX8_act 19 = .ok (.ifCond .eq 34, 3) := by decide +kernel
theorem dX8_act_22 : decode cX8_act 22 = .ok (.iload 4, 2) := by decide +kernel
theorem dX8_act_24 : decode cX8_act 24 = .ok (.invokestatic 72, 3) := by decide +kernel
theorem dX8_act_27 : decode cX8_act 27 = .ok (.ifCond .eq 26, 3) := by decide +kernel
theorem dX8_act_30 : decode cX8_act 30 = .ok (.iload 5, 2) := by decide +kernel
theorem dX8_act_32 : decode cX8_act 32 = .ok (.invokestatic 72, 3) := by decide +kernel
theorem dX8_act_35 : decode cX8_act 35 = .ok (.ifCond .eq 18, 3) := by decide +kernel
theorem dX8_act_38 : decode cX8_act 38 = .ok (.iload 6, 2) := by decide +kernel
theorem dX8_act_40 : decode cX8_act 40 = .ok (.invokestatic 72, 3) := by decide +kernel
theorem dX8_act_43 : decode cX8_act 43 = .ok (.ifCond .eq 10, 3) := by decide +kernel
theorem dX8_act_46 : decode cX8_act 46 = .ok (.iload 5, 2) := by decide +kernel
theorem dX8_act_48 : decode cX8_act 48 = .ok (.iload 6, 2) := by decide +kernel
theorem dX8_act_50 : decode cX8_act 50 = .ok (.if_icmp .le 6, 3) := by decide +kernel
theorem dX8_act_53 : decode cX8_act 53 = .ok (.bipush (-2), 2) := by decide +kernel
theorem dX8_act_55 : decode cX8_act 55 = .ok (.ireturn, 1) := by decide +kernel
theorem dX8_act_56 : decode cX8_act 56 = .ok (.aload_n 0, 1) := by decide +kernel
theorem dX8_act_57 : decode cX8_act 57 = .ok (.getfield 7, 3) := by decide +kernel
theorem dX8_act_60 : decode cX8_act 60 = .ok (.iconst 2, 1) := by decide +kernel
theorem dX8_act_61 : decode cX8_act 61 = .ok (.iaload, 1) := by decide +kernel
theorem dX8_act_62 : decode cX8_act 62 = .ok (.bipush 60, 2) := by decide +kernel
theorem dX8_act_64 : decode cX8_act 64 = .ok (.if_icmp .ne 6, 3) := by decide +kernel
theorem dX8_act_67 : decode cX8_act 67 = .ok (.bipush (-4), 2) := by decide +kernel
theorem dX8_act_69 : decode cX8_act 69 = .ok (.ireturn, 1) := by decide +kernel
theorem dX8_act_70 : decode cX8_act 70 = .ok (.sipush 2478, 3) := by decide +kernel
theorem dX8_act_73 : decode cX8_act 73 = .ok (.bipush 6, 2) := by decide +kernel
theorem dX8_act_75 : decode cX8_act 75 = .ok (.aload_n 0, 1) := by decide +kernel
theorem dX8_act_76 : decode cX8_act 76 = .ok (.getfield 7, 3) := by decide +kernel
theorem dX8_act_79 : decode cX8_act 79 = .ok (.iconst 2, 1) := by decide +kernel
theorem dX8_act_80 : decode cX8_act 80 = .ok (.iaload, 1) := by decide +kernel
theorem dX8_act_81 : decode cX8_act 81 = .ok (.imul, 1) := by decide +kernel
theorem dX8_act_82 : decode cX8_act 82 = .ok (.iadd, 1) := by decide +kernel
theorem dX8_act_83 : decode cX8_act 83 = .ok (.istore 7, 2) := by decide +kernel
theorem dX8_act_85 : decode cX8_act 85 = .ok (.aload_n 0, 1) := by decide +kernel
theorem dX8_act_86 : decode cX8_act 86 = .ok (.getfield 7, 3) := by decide +kernel
theorem dX8_act_89 : decode cX8_act 89 = .ok (.iload 7, 2) := by decide +kernel
theorem dX8_act_91 : decode cX8_act 91 = .ok (.iload_n 1, 1) := by decide +kernel
theorem dX8_act_92 : decode cX8_act 92 = .ok (.iastore, 1) := by decide +kernel
theorem dX8_act_93 : decode cX8_act 93 = .ok (.aload_n 0, 1) := by decide +kernel
theorem dX8_act_94 : decode cX8_act 94 = .ok (.getfield 7, 3) := by decide +kernel
theorem dX8_act_97 : decode cX8_act 97 = .ok (.iload 7, 2) := by decide +kernel
theorem dX8_act_99 : decode cX8_act 99 = .ok (.iconst 1, 1) := by decide +kernel
theorem dX8_act_100 : decode cX8_act 100 = .ok (.iadd, 1) := by decide +kernel
theorem dX8_act_101 : decode cX8_act 101 = .ok (.iload_n 2, 1) := by decide +kernel
theorem dX8_act_102 : decode cX8_act 102 = .ok (.iastore, 1) := by decide +kernel
theorem dX8_act_103 : decode cX8_act 103 = .ok (.aload_n 0, 1) := by decide +kernel
theorem dX8_act_104 : decode cX8_act 104 = .ok (.getfield 7, 3) := by decide +kernel
theorem dX8_act_107 : decode cX8_act 107 = .ok (.iload 7, 2) := by decide +kernel
theorem dX8_act_109 : decode cX8_act 109 = .ok (.iconst 2, 1) := by decide +kernel
theorem dX8_act_110 : decode cX8_act 110 = .ok (.iadd, 1) := by decide +kernel
theorem dX8_act_111 : decode cX8_act 111 = .ok (.iload_n 3, 1) := by decide +kernel
theorem dX8_act_112 : decode cX8_act 112 = .ok (.iastore, 1) := by decide +kernel
theorem dX8_act_113 : decode cX8_act 113 = .ok (.aload_n 0, 1) := by decide +kernel
theorem dX8_act_114 : decode cX8_act 114 = .ok (.getfield 7, 3) := by decide +kernel
theorem dX8_act_117 : decode cX8_act 117 = .ok (.iload 7, 2) := by decide +kernel
theorem dX8_act_119 : decode cX8_act 119 = .ok (.iconst 3, 1) := by decide +kernel
theorem dX8_act_120 : decode cX8_act 120 = .ok (.iadd, 1) := by decide +kernel
theorem dX8_act_121 : decode cX8_act 121 = .ok (.iload 4, 2) := by decide +kernel
theorem dX8_act_123 : decode cX8_act 123 = .ok (.iastore, 1) := by decide +kernel
theorem dX8_act_124 : decode cX8_act 124 = .ok (.aload_n 0, 1) := by decide +kernel
theorem dX8_act_125 : decode cX8_act 125 = .ok (.getfield 7, 3) := by decide +kernel
theorem dX8_act_128 : decode cX8_act 128 = .ok (.iload 7, 2) := by decide +kernel
theorem dX8_act_130 : decode cX8_act 130 = .ok (.iconst 4, 1) := by decide +kernel
theorem dX8_act_131 : decode cX8_act 131 = .ok (.iadd, 1) := by decide +kernel
theorem dX8_act_132 : decode cX8_act 132 = .ok (.iload 5, 2) := by decide +kernel
theorem dX8_act_134 : decode cX8_act 134 = .ok (.iastore, 1) := by decide +kernel
theorem dX8_act_135 : decode cX8_act 135 = .ok (.aload_n 0, 1) := by decide +kernel
theorem dX8_act_136 : decode cX8_act 136 = .ok (.getfield 7, 3) := by decide +kernel
theorem dX8_act_139 : decode cX8_act 139 = .ok (.iload 7, 2) := by decide +kernel
theorem dX8_act_141 : decode cX8_act 141 = .ok (.iconst 5, 1) := by decide +kernel
theorem dX8_act_142 : decode cX8_act 142 = .ok (.iadd, 1) := by decide +kernel
theorem dX8_act_143 : decode cX8_act 143 = .ok (.iload 6, 2) := by decide +kernel
theorem dX8_act_145 : decode cX8_act 145 = .ok (.iastore, 1) := by decide +kernel
theorem dX8_act_146 : decode cX8_act 146 = .ok (.aload_n 0, 1) := by decide +kernel
theorem dX8_act_147 : decode cX8_act 147 = .ok (.getfield 7, 3) := by decide +kernel
theorem dX8_act_150 : decode cX8_act 150 = .ok (.iconst 2, 1) := by decide +kernel
theorem dX8_act_151 : decode cX8_act 151 = .ok (.dup2, 1) := by decide +kernel
theorem dX8_act_152 : decode cX8_act 152 = .ok (.iaload, 1) := by decide +kernel
theorem dX8_act_153 : decode cX8_act 153 = .ok (.iconst 1, 1) := by decide +kernel
theorem dX8_act_154 : decode cX8_act 154 = .ok (.iadd, 1) := by decide +kernel
theorem dX8_act_155 : decode cX8_act 155 = .ok (.iastore, 1) := by decide +kernel
theorem dX8_act_156 : decode cX8_act 156 = .ok (.aload_n 0, 1) := by decide +kernel
theorem dX8_act_157 : decode cX8_act 157 = .ok (.getfield 7, 3) := by decide +kernel
theorem dX8_act_160 : decode cX8_act 160 = .ok (.iconst 2, 1) := by decide +kernel
theorem dX8_act_161 : decode cX8_act 161 = .ok (.iaload, 1) := by decide +kernel
theorem dX8_act_162 : decode cX8_act 162 = .ok (.iconst 1, 1) := by decide +kernel
theorem dX8_act_163 : decode cX8_act 163 = .ok (.isub, 1) := by decide +kernel
theorem dX8_act_164 : decode cX8_act 164 = .ok (.ireturn, 1) := by decide +kernel
def kX8_act (live : am_E) (Ret : am_R) : am_code := [(0, am_iload 1 1), (1, am_callS live 1 TX8_isPlan 4), (4, am_if1 (fun x => x = 0) 53 7), (7, am_iload 2 8), (8, am_callS live 1 TX8_isWhat 11), (11, am_if1 (fun x => x = 0) 53 14), (14, am_iload 2 15), (15, am_iload 3 16), (16, am_callS live 2 TX8_mayBe 19), (19, am_if1 (fun x => x = 0) 53 22), (22, am_iload 4 24), (24, am_callS live 1 TX8_isYear 27), (27, am_if1 (fun x => x = 0) 53 30), (30, am_iload 5 32), (32, am_callS live 1 TX8_isYear 35), (35, am_if1 (fun x => x = 0) 53 38), (38, am_iload 6 40), (40, am_callS live 1 TX8_isYear 43), (43, am_if1 (fun x => x = 0) 53 46), (46, am_iload 5 48), (48, am_iload 6 50), (50, am_if2 (fun x y => x ≤ y) 56 53), (53, am_const (.int (-2)) 55), (55, am_retI Ret), (56, am_aload 0 57), (57, am_getR live 8 0 60), (60, am_const (.int 2) 61), (61, am_ald live 0 62), (62, am_const (.int 60) 64), (64, am_if2 (fun x y => x = y) 67 70), (67, am_const (.int (-4)) 69), (69, am_retI Ret), (70, am_const (.int 2478) 73), (73, am_const (.int 6) 75), (75, am_aload 0 76), (76, am_getR live 8 0 79), (79, am_const (.int 2) 80), (80, am_ald live 0 81), (81, am_i2 (fun x y => x * y) 82), (82, am_i2 (fun x y => x + y) 83), (83, am_istore 7 8 85), (85, am_aload 0 86), (86, am_getR live 8 0 89), (89, am_iload 7 91), (91, am_iload 1 92), (92, am_ast live 0 93), (93, am_aload 0 94), (94, am_getR live 8 0 97), (97, am_iload 7 99), (99, am_const (.int 1) 100), (100, am_i2 (fun x y => x + y) 101), (101, am_iload 2 102), (102, am_ast live 0 103), (103, am_aload 0 104), (104, am_getR live 8 0 107), (107, am_iload 7 109), (109, am_const (.int 2) 110), (110, am_i2 (fun x y => x + y) 111), (111, am_iload 3 112), (112, am_ast live 0 113), (113, am_aload 0 114), (114, am_getR live 8 0 117), (117, am_iload 7 119), (119, am_const (.int 3) 120), (120, am_i2 (fun x y => x + y) 121), (121, am_iload 4 123), (123, am_ast live 0 124), (124, am_aload 0 125), (125, am_getR live 8 0 128), (128, am_iload 7 130), (130, am_const (.int 4) 131), (131, am_i2 (fun x y => x + y) 132), (132, am_iload 5 134), (134, am_ast live 0 135), (135, am_aload 0 136), (136, am_getR live 8 0 139), (139, am_iload 7 141), (141, am_const (.int 5) 142), (142, am_i2 (fun x y => x + y) 143), (143, am_iload 6 145), (145, am_ast live 0 146), (146, am_aload 0 147), (147, am_getR live 8 0 150), (150, am_const (.int 2) 151), (151, am_dup2 152), (152, am_ald live 0 153), (153, am_const (.int 1) 154), (154, am_i2 (fun x y => x + y) 155), (155, am_ast live 0 156), (156, am_aload 0 157), (157, am_getR live 8 0 160), (160, am_const (.int 2) 161), (161, am_ald live 0 162), (162, am_const (.int 1) 163), (163, am_i2 (fun x y => x - y) 164), (164, am_retI Ret)]
theorem koX8_act (live : am_E) (Ret : am_R) : ∀ q ∈ kX8_act live Ret, am_ok RX8 cX8_act 8 (some .int) 2 46 live Ret q.1 q.2 :=
  am_kc (ak_iload_n dX8_act_0 rfl rfl) <|
  am_kc (ak_callS metX8_isPlan ⟨rfl, by decide +kernel, by decide +kernel, by decide +kernel⟩ (am_w4 wd_1034 wd_1035 wd_67 wd_1036) (by decide) dX8_act_1 rfl) <|
  am_kc (ak_if_eq dX8_act_4 (by decide +kernel) rfl) <|
  am_kc (ak_iload_n dX8_act_7 rfl rfl) <|
  am_kc (ak_callS metX8_isWhat ⟨rfl, by decide +kernel, by decide +kernel, by decide +kernel⟩ (am_w4 wd_1038 wd_1039 wd_67 wd_1040) (by decide) dX8_act_8 rfl) <|
  am_kc (ak_if_eq dX8_act_11 (by decide +kernel) rfl) <|
  am_kc (ak_iload_n dX8_act_14 rfl rfl) <|
  am_kc (ak_iload_n dX8_act_15 rfl rfl) <|
  am_kc (ak_callS metX8_mayBe ⟨rfl, by decide +kernel, by decide +kernel, by decide +kernel⟩ (am_w4 wd_1042 wd_1043 wd_67 wd_1044) (by decide) dX8_act_16 rfl) <|
  am_kc (ak_if_eq dX8_act_19 (by decide +kernel) rfl) <|
  am_kc (ak_iload dX8_act_22 rfl) <|
  am_kc (ak_callS metX8_isYear ⟨rfl, by decide +kernel, by decide +kernel, by decide +kernel⟩ (am_w4 wd_982 wd_983 wd_67 wd_984) (by decide) dX8_act_24 rfl) <|
  am_kc (ak_if_eq dX8_act_27 (by decide +kernel) rfl) <|
  am_kc (ak_iload dX8_act_30 rfl) <|
  am_kc (ak_callS metX8_isYear ⟨rfl, by decide +kernel, by decide +kernel, by decide +kernel⟩ (am_w4 wd_982 wd_983 wd_67 wd_984) (by decide) dX8_act_32 rfl) <|
  am_kc (ak_if_eq dX8_act_35 (by decide +kernel) rfl) <|
  am_kc (ak_iload dX8_act_38 rfl) <|
  am_kc (ak_callS metX8_isYear ⟨rfl, by decide +kernel, by decide +kernel, by decide +kernel⟩ (am_w4 wd_982 wd_983 wd_67 wd_984) (by decide) dX8_act_40 rfl) <|
  am_kc (ak_if_eq dX8_act_43 (by decide +kernel) rfl) <|
  am_kc (ak_iload dX8_act_46 rfl) <|
  am_kc (ak_iload dX8_act_48 rfl) <|
  am_kc (ak_icmp_le dX8_act_50 (by decide +kernel) rfl) <|
  am_kc (ak_bipush dX8_act_53 (by decide +kernel) rfl) <|
  am_kc (ak_retI dX8_act_55) <|
  am_kc (ak_aload_n dX8_act_56 rfl rfl) <|
  am_kc (ak_getR (C := RX8) (T := TX8) (N := 27) rfl inX8w (by decide) rfl rfl rfl wd_895 dX8_act_57 rfl) <|
  am_kc (ak_iconst dX8_act_60 (by decide +kernel) rfl) <|
  am_kc (ak_iald (t := 0) (fun _ => rfl) rfl dX8_act_61 rfl) <|
  am_kc (ak_bipush dX8_act_62 (by decide +kernel) rfl) <|
  am_kc (ak_icmp_ne dX8_act_64 (by decide +kernel) rfl) <|
  am_kc (ak_bipush dX8_act_67 (by decide +kernel) rfl) <|
  am_kc (ak_retI dX8_act_69) <|
  am_kc (ak_sipush dX8_act_70 (by decide +kernel) rfl) <|
  am_kc (ak_bipush dX8_act_73 (by decide +kernel) rfl) <|
  am_kc (ak_aload_n dX8_act_75 rfl rfl) <|
  am_kc (ak_getR (C := RX8) (T := TX8) (N := 27) rfl inX8w (by decide) rfl rfl rfl wd_895 dX8_act_76 rfl) <|
  am_kc (ak_iconst dX8_act_79 (by decide +kernel) rfl) <|
  am_kc (ak_iald (t := 0) (fun _ => rfl) rfl dX8_act_80 rfl) <|
  am_kc (ak_imul dX8_act_81 rfl) <|
  am_kc (ak_iadd dX8_act_82 rfl) <|
  am_kc (ak_istore dX8_act_83 rfl) <|
  am_kc (ak_aload_n dX8_act_85 rfl rfl) <|
  am_kc (ak_getR (C := RX8) (T := TX8) (N := 27) rfl inX8w (by decide) rfl rfl rfl wd_895 dX8_act_86 rfl) <|
  am_kc (ak_iload dX8_act_89 rfl) <|
  am_kc (ak_iload_n dX8_act_91 rfl rfl) <|
  am_kc (ak_iast (t := 0) (fun _ => rfl) rfl dX8_act_92 rfl) <|
  am_kc (ak_aload_n dX8_act_93 rfl rfl) <|
  am_kc (ak_getR (C := RX8) (T := TX8) (N := 27) rfl inX8w (by decide) rfl rfl rfl wd_895 dX8_act_94 rfl) <|
  am_kc (ak_iload dX8_act_97 rfl) <|
  am_kc (ak_iconst dX8_act_99 (by decide +kernel) rfl) <|
  am_kc (ak_iadd dX8_act_100 rfl) <|
  am_kc (ak_iload_n dX8_act_101 rfl rfl) <|
  am_kc (ak_iast (t := 0) (fun _ => rfl) rfl dX8_act_102 rfl) <|
  am_kc (ak_aload_n dX8_act_103 rfl rfl) <|
  am_kc (ak_getR (C := RX8) (T := TX8) (N := 27) rfl inX8w (by decide) rfl rfl rfl wd_895 dX8_act_104 rfl) <|
  am_kc (ak_iload dX8_act_107 rfl) <|
  am_kc (ak_iconst dX8_act_109 (by decide +kernel) rfl) <|
  am_kc (ak_iadd dX8_act_110 rfl) <|
  am_kc (ak_iload_n dX8_act_111 rfl rfl) <|
  am_kc (ak_iast (t := 0) (fun _ => rfl) rfl dX8_act_112 rfl) <|
  am_kc (ak_aload_n dX8_act_113 rfl rfl) <|
  am_kc (ak_getR (C := RX8) (T := TX8) (N := 27) rfl inX8w (by decide) rfl rfl rfl wd_895 dX8_act_114 rfl) <|
  am_kc (ak_iload dX8_act_117 rfl) <|
  am_kc (ak_iconst dX8_act_119 (by decide +kernel) rfl) <|
  am_kc (ak_iadd dX8_act_120 rfl) <|
  am_kc (ak_iload dX8_act_121 rfl) <|
  am_kc (ak_iast (t := 0) (fun _ => rfl) rfl dX8_act_123 rfl) <|
  am_kc (ak_aload_n dX8_act_124 rfl rfl) <|
  am_kc (ak_getR (C := RX8) (T := TX8) (N := 27) rfl inX8w (by decide) rfl rfl rfl wd_895 dX8_act_125 rfl) <|
  am_kc (ak_iload dX8_act_128 rfl) <|
  am_kc (ak_iconst dX8_act_130 (by decide +kernel) rfl) <|
  am_kc (ak_iadd dX8_act_131 rfl) <|
  am_kc (ak_iload dX8_act_132 rfl) <|
  am_kc (ak_iast (t := 0) (fun _ => rfl) rfl dX8_act_134 rfl) <|
  am_kc (ak_aload_n dX8_act_135 rfl rfl) <|
  am_kc (ak_getR (C := RX8) (T := TX8) (N := 27) rfl inX8w (by decide) rfl rfl rfl wd_895 dX8_act_136 rfl) <|
  am_kc (ak_iload dX8_act_139 rfl) <|
  am_kc (ak_iconst dX8_act_141 (by decide +kernel) rfl) <|
  am_kc (ak_iadd dX8_act_142 rfl) <|
  am_kc (ak_iload dX8_act_143 rfl) <|
  am_kc (ak_iast (t := 0) (fun _ => rfl) rfl dX8_act_145 rfl) <|
  am_kc (ak_aload_n dX8_act_146 rfl rfl) <|
  am_kc (ak_getR (C := RX8) (T := TX8) (N := 27) rfl inX8w (by decide) rfl rfl rfl wd_895 dX8_act_147 rfl) <|
  am_kc (ak_iconst dX8_act_150 (by decide +kernel) rfl) <|
  am_kc (ak_dup2 dX8_act_151 rfl) <|
  am_kc (ak_iald (t := 0) (fun _ => rfl) rfl dX8_act_152 rfl) <|
  am_kc (ak_iconst dX8_act_153 (by decide +kernel) rfl) <|
  am_kc (ak_iadd dX8_act_154 rfl) <|
  am_kc (ak_iast (t := 0) (fun _ => rfl) rfl dX8_act_155 rfl) <|
  am_kc (ak_aload_n dX8_act_156 rfl rfl) <|
  am_kc (ak_getR (C := RX8) (T := TX8) (N := 27) rfl inX8w (by decide) rfl rfl rfl wd_895 dX8_act_157 rfl) <|
  am_kc (ak_iconst dX8_act_160 (by decide +kernel) rfl) <|
  am_kc (ak_iald (t := 0) (fun _ => rfl) rfl dX8_act_161 rfl) <|
  am_kc (ak_iconst dX8_act_162 (by decide +kernel) rfl) <|
  am_kc (ak_isub dX8_act_163 rfl) <|
  am_kc (ak_retI dX8_act_164) <| am_kn
def r_act (M : am_M) (pl w v f b t : Int32) : Int32 × am_M := if 0 ≤ pl ∧ pl < 5 then (if 0 ≤ w ∧ w < 6 then (if (0 ≤ w ∧ w < 6) ∧ am_sf 1 w.toNatClampNeg ≤ v ∧ v ≤ am_sf 2 w.toNatClampNeg then (if 0 ≤ f ∧ f < 40 then (if 0 ≤ b ∧ b < 40 then (if 0 ≤ t ∧ t < 40 then (if b ≤ t then (if M.1 201 (Int32.toNatClampNeg 2) = 60 then ((-4 : Int32), M) else ((fun a : Int32 => (fun M1 : am_M => (fun M2 : am_M => (M2.1 201 (Int32.toNatClampNeg 2) - 1, M2)) (am_wI M1 201 (Int32.toNatClampNeg 2) (M1.1 201 (Int32.toNatClampNeg 2) + 1))) (am_wI (am_wI (am_wI (am_wI (am_wI (am_wI M 201 a.toNatClampNeg pl) 201 (a + 1).toNatClampNeg w) 201 (a + 2).toNatClampNeg v) 201 (a + 3).toNatClampNeg f) 201 (a + 4).toNatClampNeg b) 201 (a + 5).toNatClampNeg t)) (2478 + 6 * M.1 201 (Int32.toNatClampNeg 2)))) else ((-2 : Int32), M)) else ((-2 : Int32), M)) else ((-2 : Int32), M)) else ((-2 : Int32), M)) else ((-2 : Int32), M)) else ((-2 : Int32), M)) else ((-2 : Int32), M)
def TX8_act : am_T := fun live as M R => match as with
  | [.ref n, .int pl, .int w, .int v, .int f, .int b, .int t] => am_mn live ∧ n = 200 ∧ r_I M ∧ R (some (.int (r_act M pl w v f b t).1)) (r_act M pl w v f b t).2
  | _ => False
set_option maxRecDepth 100000 in
set_option maxHeartbeats 4000000 in
theorem metX8_act : am_Met yX8_act cX8_act 8 (some .int) (2) (46) TX8_act := by
  refine am_met (own := RX8) (by decide +kernel) rfl kX8_act koX8_act 200 (fun _ _ _ _ _ => none) (fun live as M Ret h => ?_) (fun _ _ _ _ _ _ _ _ hI => by cases hI)
  unfold TX8_act at h
  split at h
  · next n pl w v f b t =>
    refine ⟨Nat.le_of_ble_eq_true rfl, ?_⟩
    change am_wp _ _ _ _ [(0, Value.ref n), (1, Value.int pl), (2, Value.int w), (3, Value.int v), (4, Value.int f), (5, Value.int b), (6, Value.int t)] _ _
    obtain ⟨hmn, rfl, hR, h⟩ := h
    have hmn2 := hmn
    obtain ⟨i1, i2, rfl⟩ := hmn2
    have l201 : am_len 201 = 3760 := rfl
    have n0 := hR.n0
    have n1 := hR.n1
    have n030 : 0 ≤ (M.1 201 0).toInt ∧ (M.1 201 0).toInt ≤ 30 := ⟨n0.1, by omega⟩
    by_cases z0 : 0 ≤ pl ∧ pl < 5
    rotate_left
    · skip
      have q0 : (if 0 ≤ pl ∧ pl < 5 then (1 : Int32) else 0) = 0 := if_neg z0
      have e : r_act M pl w v f b t = ((-2 : Int32), M) := by unfold r_act; rw [if_neg z0]
      rw [e] at h
      repeat' (first | (with_reducible exact hmn) | (with_reducible exact h) | (with_reducible exact n030) | (with_reducible exact n1) | apply And.intro | exact rfl | (intro hx; with_reducible exact absurd q0 hx) | (intro hx; exact absurd hx (by decide)) | (intro hx; exact absurd (by decide) hx) | decide | intro hx | (refine Exists.intro _ (And.intro rfl ?_)))
      all_goals try first | (with_reducible change am_tI _ _) | (change Ret _ _) | (change Ret _ _ _) | (change Exists _)
      all_goals try dsimp only at *
      all_goals try exact absurd ‹(1000 : Int64) = 0› (by decide)
      all_goals first | exact h | exact n0.1 | omega | exact z1.1 | exact z1.2 | (simp only [ea, l201]; omega) | (simp only [ea1, l201]; omega) | (simp only [ea2, l201]; omega) | (simp only [ea3, l201]; omega) | (simp only [ea4, l201]; omega) | (simp only [ea5, l201]; omega) | (show _ < _; simp only [l201]; decide) | skip
    · skip
      have q0 : ¬ ((if 0 ≤ pl ∧ pl < 5 then (1 : Int32) else 0) = 0) := by rw [if_pos z0]; decide
      by_cases z1 : 0 ≤ w ∧ w < 6
      rotate_left
      · skip
        have q1 : (if 0 ≤ w ∧ w < 6 then (1 : Int32) else 0) = 0 := if_neg z1
        have e : r_act M pl w v f b t = ((-2 : Int32), M) := by unfold r_act; rw [if_pos z0, if_neg z1]
        rw [e] at h
        repeat' (first | (with_reducible exact hmn) | (with_reducible exact h) | (with_reducible exact n030) | (with_reducible exact n1) | apply And.intro | exact rfl | (intro hx; with_reducible exact absurd hx q0) | (intro hx; with_reducible exact absurd q1 hx) | (intro hx; exact absurd hx (by decide)) | (intro hx; exact absurd (by decide) hx) | decide | intro hx | (refine Exists.intro _ (And.intro rfl ?_)))
        all_goals try first | (with_reducible change am_tI _ _) | (change Ret _ _) | (change Ret _ _ _) | (change Exists _)
        all_goals try dsimp only at *
        all_goals try exact absurd ‹(1000 : Int64) = 0› (by decide)
        all_goals first | exact h | exact n0.1 | omega | exact z1.1 | exact z1.2 | (simp only [ea, l201]; omega) | (simp only [ea1, l201]; omega) | (simp only [ea2, l201]; omega) | (simp only [ea3, l201]; omega) | (simp only [ea4, l201]; omega) | (simp only [ea5, l201]; omega) | (show _ < _; simp only [l201]; decide) | skip
      · skip
        have q1 : ¬ ((if 0 ≤ w ∧ w < 6 then (1 : Int32) else 0) = 0) := by rw [if_pos z1]; decide
        by_cases z2 : (0 ≤ w ∧ w < 6) ∧ am_sf 1 w.toNatClampNeg ≤ v ∧ v ≤ am_sf 2 w.toNatClampNeg
        rotate_left
        · skip
          have q2 : ¬ am_isNum w v := z2
          have e : r_act M pl w v f b t = ((-2 : Int32), M) := by unfold r_act; rw [if_pos z0, if_pos z1, if_neg z2]
          rw [e] at h
          repeat' (first | (with_reducible exact hmn) | (with_reducible exact h) | (with_reducible exact n030) | (with_reducible exact n1) | apply And.intro | exact rfl | (intro hx; with_reducible exact absurd hx q0) | (intro hx; with_reducible exact absurd hx q1) | (intro hx; with_reducible exact absurd hx q2) | (intro hx; exact absurd hx (by decide)) | (intro hx; exact absurd (by decide) hx) | decide | intro hx | (refine Exists.intro _ (And.intro rfl ?_)))
          all_goals try first | (with_reducible change am_tI _ _) | (change Ret _ _) | (change Ret _ _ _) | (change Exists _)
          all_goals try dsimp only at *
          all_goals try exact absurd ‹(1000 : Int64) = 0› (by decide)
          all_goals first | exact h | exact n0.1 | omega | exact z1.1 | exact z1.2 | (simp only [ea, l201]; omega) | (simp only [ea1, l201]; omega) | (simp only [ea2, l201]; omega) | (simp only [ea3, l201]; omega) | (simp only [ea4, l201]; omega) | (simp only [ea5, l201]; omega) | (show _ < _; simp only [l201]; decide) | skip
        · skip
          have q2 : am_isNum w v := z2
          by_cases z3 : 0 ≤ f ∧ f < 40
          rotate_left
          · skip
            have q3 : (if 0 ≤ f ∧ f < 40 then (1 : Int32) else 0) = 0 := if_neg z3
            have e : r_act M pl w v f b t = ((-2 : Int32), M) := by unfold r_act; rw [if_pos z0, if_pos z1, if_pos z2, if_neg z3]
            rw [e] at h
            repeat' (first | (with_reducible exact hmn) | (with_reducible exact h) | (with_reducible exact n030) | (with_reducible exact n1) | apply And.intro | exact rfl | (intro hx; with_reducible exact absurd hx q0) | (intro hx; with_reducible exact absurd hx q1) | (intro hx; with_reducible exact absurd q2 hx) | (intro hx; with_reducible exact absurd q3 hx) | (intro hx; exact absurd hx (by decide)) | (intro hx; exact absurd (by decide) hx) | decide | intro hx | (refine Exists.intro _ (And.intro rfl ?_)))
            all_goals try first | (with_reducible change am_tI _ _) | (change Ret _ _) | (change Ret _ _ _) | (change Exists _)
            all_goals try dsimp only at *
            all_goals try exact absurd ‹(1000 : Int64) = 0› (by decide)
            all_goals first | exact h | exact n0.1 | omega | exact z1.1 | exact z1.2 | (simp only [ea, l201]; omega) | (simp only [ea1, l201]; omega) | (simp only [ea2, l201]; omega) | (simp only [ea3, l201]; omega) | (simp only [ea4, l201]; omega) | (simp only [ea5, l201]; omega) | (show _ < _; simp only [l201]; decide) | skip
          · skip
            have q3 : ¬ ((if 0 ≤ f ∧ f < 40 then (1 : Int32) else 0) = 0) := by rw [if_pos z3]; decide
            by_cases z4 : 0 ≤ b ∧ b < 40
            rotate_left
            · skip
              have q4 : (if 0 ≤ b ∧ b < 40 then (1 : Int32) else 0) = 0 := if_neg z4
              have e : r_act M pl w v f b t = ((-2 : Int32), M) := by unfold r_act; rw [if_pos z0, if_pos z1, if_pos z2, if_pos z3, if_neg z4]
              rw [e] at h
              repeat' (first | (with_reducible exact hmn) | (with_reducible exact h) | (with_reducible exact n030) | (with_reducible exact n1) | apply And.intro | exact rfl | (intro hx; with_reducible exact absurd hx q0) | (intro hx; with_reducible exact absurd hx q1) | (intro hx; with_reducible exact absurd hx q3) | (intro hx; with_reducible exact absurd q2 hx) | (intro hx; with_reducible exact absurd q4 hx) | (intro hx; exact absurd hx (by decide)) | (intro hx; exact absurd (by decide) hx) | decide | intro hx | (refine Exists.intro _ (And.intro rfl ?_)))
              all_goals try first | (with_reducible change am_tI _ _) | (change Ret _ _) | (change Ret _ _ _) | (change Exists _)
              all_goals try dsimp only at *
              all_goals try exact absurd ‹(1000 : Int64) = 0› (by decide)
              all_goals first | exact h | exact n0.1 | omega | exact z1.1 | exact z1.2 | (simp only [ea, l201]; omega) | (simp only [ea1, l201]; omega) | (simp only [ea2, l201]; omega) | (simp only [ea3, l201]; omega) | (simp only [ea4, l201]; omega) | (simp only [ea5, l201]; omega) | (show _ < _; simp only [l201]; decide) | skip
            · skip
              have q4 : ¬ ((if 0 ≤ b ∧ b < 40 then (1 : Int32) else 0) = 0) := by rw [if_pos z4]; decide
              by_cases z5 : 0 ≤ t ∧ t < 40
              rotate_left
              · skip
                have q5 : (if 0 ≤ t ∧ t < 40 then (1 : Int32) else 0) = 0 := if_neg z5
                have e : r_act M pl w v f b t = ((-2 : Int32), M) := by unfold r_act; rw [if_pos z0, if_pos z1, if_pos z2, if_pos z3, if_pos z4, if_neg z5]
                rw [e] at h
                repeat' (first | (with_reducible exact hmn) | (with_reducible exact h) | (with_reducible exact n030) | (with_reducible exact n1) | apply And.intro | exact rfl | (intro hx; with_reducible exact absurd hx q0) | (intro hx; with_reducible exact absurd hx q1) | (intro hx; with_reducible exact absurd hx q3) | (intro hx; with_reducible exact absurd hx q4) | (intro hx; with_reducible exact absurd q2 hx) | (intro hx; with_reducible exact absurd q5 hx) | (intro hx; exact absurd hx (by decide)) | (intro hx; exact absurd (by decide) hx) | decide | intro hx | (refine Exists.intro _ (And.intro rfl ?_)))
                all_goals try first | (with_reducible change am_tI _ _) | (change Ret _ _) | (change Ret _ _ _) | (change Exists _)
                all_goals try dsimp only at *
                all_goals try exact absurd ‹(1000 : Int64) = 0› (by decide)
                all_goals first | exact h | exact n0.1 | omega | exact z1.1 | exact z1.2 | (simp only [ea, l201]; omega) | (simp only [ea1, l201]; omega) | (simp only [ea2, l201]; omega) | (simp only [ea3, l201]; omega) | (simp only [ea4, l201]; omega) | (simp only [ea5, l201]; omega) | (show _ < _; simp only [l201]; decide) | skip
              · skip
                have q5 : ¬ ((if 0 ≤ t ∧ t < 40 then (1 : Int32) else 0) = 0) := by rw [if_pos z5]; decide
                by_cases z6 : b ≤ t
                rotate_left
                · skip
                  have y6 : (t : Int32) < b := Int32.not_le.mp z6
                  have e : r_act M pl w v f b t = ((-2 : Int32), M) := by unfold r_act; rw [if_pos z0, if_pos z1, if_pos z2, if_pos z3, if_pos z4, if_pos z5, if_neg z6]
                  rw [e] at h
                  repeat' (first | (with_reducible exact hmn) | (with_reducible exact h) | (with_reducible exact n030) | (with_reducible exact n1) | apply And.intro | exact rfl | (intro hx; with_reducible exact absurd hx q0) | (intro hx; with_reducible exact absurd hx q1) | (intro hx; with_reducible exact absurd hx q3) | (intro hx; with_reducible exact absurd hx q4) | (intro hx; with_reducible exact absurd hx q5) | (intro hx; with_reducible exact absurd hx z6) | (intro hx; with_reducible exact absurd q2 hx) | (intro hx; with_reducible exact absurd y6 hx) | (intro hx; exact absurd hx (by decide)) | (intro hx; exact absurd (by decide) hx) | decide | intro hx | (refine Exists.intro _ (And.intro rfl ?_)))
                  all_goals try first | (with_reducible change am_tI _ _) | (change Ret _ _) | (change Ret _ _ _) | (change Exists _)
                  all_goals try dsimp only at *
                  all_goals try exact absurd ‹(1000 : Int64) = 0› (by decide)
                  all_goals first | exact h | exact n0.1 | omega | exact z1.1 | exact z1.2 | (simp only [ea, l201]; omega) | (simp only [ea1, l201]; omega) | (simp only [ea2, l201]; omega) | (simp only [ea3, l201]; omega) | (simp only [ea4, l201]; omega) | (simp only [ea5, l201]; omega) | (show _ < _; simp only [l201]; decide) | skip
                · skip
                  have y6 : ¬ (t : Int32) < b := Int32.not_lt.mpr z6
                  have nc2 : 0 ≤ (M.1 201 (Int32.toNatClampNeg 2)).toInt ∧ (M.1 201 (Int32.toNatClampNeg 2)).toInt ≤ 60 := hR.n2
                  by_cases z7 : M.1 201 (Int32.toNatClampNeg 2) = 60
                  · skip
                    have e : r_act M pl w v f b t = ((-4 : Int32), M) := by unfold r_act; rw [if_pos z0, if_pos z1, if_pos z2, if_pos z3, if_pos z4, if_pos z5, if_pos z6, if_pos z7]
                    rw [e] at h
                    repeat' (first | (with_reducible exact hmn) | (with_reducible exact h) | (with_reducible exact n030) | (with_reducible exact n1) | apply And.intro | exact rfl | (intro hx; with_reducible exact absurd hx q0) | (intro hx; with_reducible exact absurd hx q1) | (intro hx; with_reducible exact absurd hx q3) | (intro hx; with_reducible exact absurd hx q4) | (intro hx; with_reducible exact absurd hx q5) | (intro hx; with_reducible exact absurd hx y6) | (intro hx; with_reducible exact absurd q2 hx) | (intro hx; with_reducible exact absurd z6 hx) | (intro hx; with_reducible exact absurd z7 hx) | (intro hx; exact absurd hx (by decide)) | (intro hx; exact absurd (by decide) hx) | decide | intro hx | (refine Exists.intro _ (And.intro rfl ?_)))
                    all_goals try first | (with_reducible change am_tI _ _) | (change Ret _ _) | (change Ret _ _ _) | (change Exists _)
                    all_goals try dsimp only at *
                    all_goals try exact absurd ‹(1000 : Int64) = 0› (by decide)
                    all_goals first | exact h | exact n0.1 | omega | exact z1.1 | exact z1.2 | (simp only [ea, l201]; omega) | (simp only [ea1, l201]; omega) | (simp only [ea2, l201]; omega) | (simp only [ea3, l201]; omega) | (simp only [ea4, l201]; omega) | (simp only [ea5, l201]; omega) | (show _ < _; simp only [l201]; decide) | skip
                  · skip
                    have zb : (M.1 201 (Int32.toNatClampNeg 2)).toInt < 60 := by have q := z7; simp only [i_eq, Int32.reduceToInt] at q; omega
                    have e6 := r_mul (c := 6) (x := M.1 201 (Int32.toNatClampNeg 2)) ⟨by decide, by decide⟩ ⟨by omega, by omega⟩
                    simp only [Int32.reduceToInt] at e6
                    have ea := r_off (c := 2478) (x := 6 * M.1 201 (Int32.toNatClampNeg 2)) ⟨by decide, by decide⟩ ⟨by omega, by omega⟩
                    simp only [e6, Int32.reduceToInt] at ea
                    have ea1 := r_off (c := 2478 + 6 * M.1 201 (Int32.toNatClampNeg 2)) (x := 1) ⟨by omega, by omega⟩ ⟨by decide, by decide⟩
                    simp only [ea, Int32.reduceToInt] at ea1
                    have ea2 := r_off (c := 2478 + 6 * M.1 201 (Int32.toNatClampNeg 2)) (x := 2) ⟨by omega, by omega⟩ ⟨by decide, by decide⟩
                    simp only [ea, Int32.reduceToInt] at ea2
                    have ea3 := r_off (c := 2478 + 6 * M.1 201 (Int32.toNatClampNeg 2)) (x := 3) ⟨by omega, by omega⟩ ⟨by decide, by decide⟩
                    simp only [ea, Int32.reduceToInt] at ea3
                    have ea4 := r_off (c := 2478 + 6 * M.1 201 (Int32.toNatClampNeg 2)) (x := 4) ⟨by omega, by omega⟩ ⟨by decide, by decide⟩
                    simp only [ea, Int32.reduceToInt] at ea4
                    have ea5 := r_off (c := 2478 + 6 * M.1 201 (Int32.toNatClampNeg 2)) (x := 5) ⟨by omega, by omega⟩ ⟨by decide, by decide⟩
                    simp only [ea, Int32.reduceToInt] at ea5
                    have e : r_act M pl w v f b t = ((fun a : Int32 => (fun M1 : am_M => (fun M2 : am_M => (M2.1 201 (Int32.toNatClampNeg 2) - 1, M2)) (am_wI M1 201 (Int32.toNatClampNeg 2) (M1.1 201 (Int32.toNatClampNeg 2) + 1))) (am_wI (am_wI (am_wI (am_wI (am_wI (am_wI M 201 a.toNatClampNeg pl) 201 (a + 1).toNatClampNeg w) 201 (a + 2).toNatClampNeg v) 201 (a + 3).toNatClampNeg f) 201 (a + 4).toNatClampNeg b) 201 (a + 5).toNatClampNeg t)) (2478 + 6 * M.1 201 (Int32.toNatClampNeg 2))) := by unfold r_act; rw [if_pos z0, if_pos z1, if_pos z2, if_pos z3, if_pos z4, if_pos z5, if_pos z6, if_neg z7]
                    rw [e] at h
                    repeat' (first | (with_reducible exact hmn) | (with_reducible exact n030) | (with_reducible exact n1) | apply And.intro | exact rfl | (intro hx; with_reducible exact absurd hx q0) | (intro hx; with_reducible exact absurd hx q1) | (intro hx; with_reducible exact absurd hx q3) | (intro hx; with_reducible exact absurd hx q4) | (intro hx; with_reducible exact absurd hx q5) | (intro hx; with_reducible exact absurd hx y6) | (intro hx; with_reducible exact absurd hx z7) | (intro hx; with_reducible exact absurd q2 hx) | (intro hx; with_reducible exact absurd z6 hx) | (intro hx; exact absurd hx (by decide)) | (intro hx; exact absurd (by decide) hx) | decide | intro hx | (refine Exists.intro _ (And.intro rfl ?_)))
                    all_goals try first | (with_reducible change am_tI _ _) | (change Ret _ _) | (change Ret _ _ _) | (change Exists _)
                    all_goals try dsimp only at *
                    all_goals try exact absurd ‹(1000 : Int64) = 0› (by decide)
                    all_goals first | exact h | exact n0.1 | omega | exact z1.1 | exact z1.2 | (simp only [ea, l201]; omega) | (simp only [ea1, l201]; omega) | (simp only [ea2, l201]; omega) | (simp only [ea3, l201]; omega) | (simp only [ea4, l201]; omega) | (simp only [ea5, l201]; omega) | (show _ < _; simp only [l201]; decide) | skip
  · exact h.elim
theorem dX8_loan_0 : decode cX8_loan 0 = .ok (.aload_n 0, 1) := by decide +kernel
theorem dX8_loan_1 : decode cX8_loan 1 = .ok (.iload_n 1, 1) := by decide +kernel
theorem dX8_loan_2 : decode cX8_loan 2 = .ok (.invokevirtual 76, 3) := by decide +kernel
theorem dX8_loan_5 : decode cX8_loan 5 = .ok (.ifCond .eq 30, 3) := by decide +kernel
theorem dX8_loan_8 : decode cX8_loan 8 = .ok (.iload_n 2, 1) := by decide +kernel
theorem dX8_loan_9 : decode cX8_loan 9 = .ok (.invokestatic 104, 3) := by decide +kernel
theorem dX8_loan_12 : decode cX8_loan 12 = .ok (.ifCond .eq 23, 3) := by decide +kernel
theorem dX8_loan_15 : decode cX8_loan 15 = .ok (.iload_n 3, 1) := by decide +kernel
theorem dX8_loan_16 : decode cX8_loan 16 = .ok (.invokestatic 72, 3) := by decide +kernel
theorem dX8_loan_19 : decode cX8_loan 19 = .ok (.ifCond .eq 16, 3) := by decide +kernel
theorem dX8_loan_22 : decode cX8_loan 22 = .ok (.iload 4, 2) := by decide +kernel
theorem dX8_loan_24 : decode cX8_loan 24 = .ok (.i2l, 1) := by decide +kernel
theorem dX8_loan_25 : decode cX8_loan 25 = .ok (.lconst 1, 1) := by decide +kernel
theorem dX8_loan_26 : decode cX8_loan 26 = .ok (.ldc2_w 87, 3) := by decide +kernel
theorem dX8_loan_29 : decode cX8_loan 29 = .ok (.invokestatic 66, 3) := by decide +kernel
theorem dX8_loan_32 : decode cX8_loan 32 = .ok (.ifCond .ne 6, 3) := by decide +kernel
theorem dX8_loan_35 : decode cX8_loan 35 = .ok (.bipush (-2), 2) := by decide +kernel
theorem dX8_loan_37 : decode cX8_loan 37 = .ok (.ireturn, 1) := by decide +kernel
theorem dX8_loan_38 : decode cX8_loan 38 = .ok (.aload_n 0, 1) := by decide +kernel
theorem dX8_loan_39 : decode cX8_loan 39 = .ok (.getfield 7, 3) := by decide +kernel
theorem dX8_loan_42 : decode cX8_loan 42 = .ok (.iconst 1, 1) := by decide +kernel
theorem dX8_loan_43 : decode cX8_loan 43 = .ok (.iaload, 1) := by decide +kernel
theorem dX8_loan_44 : decode cX8_loan 44 = .ok (.bipush 30, 2) := by decide +kernel
theorem dX8_loan_46 : decode cX8_loan 46 = .ok (.if_icmp .ne 6, 3) := by decide +kernel
theorem dX8_loan_49 : decode cX8_loan 49 = .ok (.bipush (-4), 2) := by decide +kernel
theorem dX8_loan_51 : decode cX8_loan 51 = .ok (.ireturn, 1) := by decide +kernel
theorem dX8_loan_52 : decode cX8_loan 52 = .ok (.sipush 2838, 3) := by decide +kernel
theorem dX8_loan_55 : decode cX8_loan 55 = .ok (.bipush 8, 2) := by decide +kernel
theorem dX8_loan_57 : decode cX8_loan 57 = .ok (.aload_n 0, 1) := by decide +kernel
theorem dX8_loan_58 : decode cX8_loan 58 = .ok (.getfield 7, 3) := by decide +kernel
theorem dX8_loan_61 : decode cX8_loan 61 = .ok (.iconst 1, 1) := by decide +kernel
theorem dX8_loan_62 : decode cX8_loan 62 = .ok (.iaload, 1) := by decide +kernel
theorem dX8_loan_63 : decode cX8_loan 63 = .ok (.imul, 1) := by decide +kernel
theorem dX8_loan_64 : decode cX8_loan 64 = .ok (.iadd, 1) := by decide +kernel
theorem dX8_loan_65 : decode cX8_loan 65 = .ok (.istore 6, 2) := by decide +kernel
theorem dX8_loan_67 : decode cX8_loan 67 = .ok (.aload_n 0, 1) := by decide +kernel
theorem dX8_loan_68 : decode cX8_loan 68 = .ok (.getfield 7, 3) := by decide +kernel
theorem dX8_loan_71 : decode cX8_loan 71 = .ok (.iload 6, 2) := by decide +kernel
theorem dX8_loan_73 : decode cX8_loan 73 = .ok (.iload_n 1, 1) := by decide +kernel
theorem dX8_loan_74 : decode cX8_loan 74 = .ok (.iastore, 1) := by decide +kernel
theorem dX8_loan_75 : decode cX8_loan 75 = .ok (.aload_n 0, 1) := by decide +kernel
theorem dX8_loan_76 : decode cX8_loan 76 = .ok (.getfield 7, 3) := by decide +kernel
theorem dX8_loan_79 : decode cX8_loan 79 = .ok (.iload 6, 2) := by decide +kernel
theorem dX8_loan_81 : decode cX8_loan 81 = .ok (.iconst 1, 1) := by decide +kernel
theorem dX8_loan_82 : decode cX8_loan 82 = .ok (.iadd, 1) := by decide +kernel
theorem dX8_loan_83 : decode cX8_loan 83 = .ok (.iload_n 2, 1) := by decide +kernel
theorem dX8_loan_84 : decode cX8_loan 84 = .ok (.iastore, 1) := by decide +kernel
theorem dX8_loan_85 : decode cX8_loan 85 = .ok (.aload_n 0, 1) := by decide +kernel
theorem dX8_loan_86 : decode cX8_loan 86 = .ok (.getfield 7, 3) := by decide +kernel
theorem dX8_loan_89 : decode cX8_loan 89 = .ok (.iload 6, 2) := by decide +kernel
theorem dX8_loan_91 : decode cX8_loan 91 = .ok (.iconst 2, 1) := by decide +kernel
theorem dX8_loan_92 : decode cX8_loan 92 = .ok (.iadd, 1) := by decide +kernel
theorem dX8_loan_93 : decode cX8_loan 93 = .ok (.iload_n 3, 1) := by decide +kernel
theorem dX8_loan_94 : decode cX8_loan 94 = .ok (.iastore, 1) := by decide +kernel
theorem dX8_loan_95 : decode cX8_loan 95 = .ok (.aload_n 0, 1) := by decide +kernel
theorem dX8_loan_96 : decode cX8_loan 96 = .ok (.getfield 7, 3) := by decide +kernel
theorem dX8_loan_99 : decode cX8_loan 99 = .ok (.iload 6, 2) := by decide +kernel
theorem dX8_loan_101 : decode cX8_loan 101 = .ok (.iconst 3, 1) := by decide +kernel
theorem dX8_loan_102 : decode cX8_loan 102 = .ok (.iadd, 1) := by decide +kernel
theorem dX8_loan_103 : decode cX8_loan 103 = .ok (.iload 4, 2) := by decide +kernel
theorem dX8_loan_105 : decode cX8_loan 105 = .ok (.iastore, 1) := by decide +kernel
theorem dX8_loan_106 : decode cX8_loan 106 = .ok (.aload_n 0, 1) := by decide +kernel
theorem dX8_loan_107 : decode cX8_loan 107 = .ok (.getfield 7, 3) := by decide +kernel
theorem dX8_loan_110 : decode cX8_loan 110 = .ok (.iload 6, 2) := by decide +kernel
theorem dX8_loan_112 : decode cX8_loan 112 = .ok (.iconst 4, 1) := by decide +kernel
theorem dX8_loan_113 : decode cX8_loan 113 = .ok (.iadd, 1) := by decide +kernel
theorem dX8_loan_114 : decode cX8_loan 114 = .ok (.iload 5, 2) := by decide +kernel
theorem dX8_loan_116 : decode cX8_loan 116 = .ok (.ifCond .eq 7, 3) := by decide +kernel
theorem dX8_loan_119 : decode cX8_loan 119 = .ok (.iconst 1, 1) := by decide +kernel
theorem dX8_loan_120 : decode cX8_loan 120 = .ok (.goto 4, 3) := by decide +kernel
theorem dX8_loan_123 : decode cX8_loan 123 = .ok (.iconst 0, 1) := by decide +kernel
theorem dX8_loan_124 : decode cX8_loan 124 = .ok (.iastore, 1) := by decide +kernel
theorem dX8_loan_125 : decode cX8_loan 125 = .ok (.aload_n 0, 1) := by decide +kernel
theorem dX8_loan_126 : decode cX8_loan 126 = .ok (.getfield 7, 3) := by decide +kernel
theorem dX8_loan_129 : decode cX8_loan 129 = .ok (.iload 6, 2) := by decide +kernel
theorem dX8_loan_131 : decode cX8_loan 131 = .ok (.iconst 5, 1) := by decide +kernel
theorem dX8_loan_132 : decode cX8_loan 132 = .ok (.iadd, 1) := by decide +kernel
theorem dX8_loan_133 : decode cX8_loan 133 = .ok (.iconst (-1), 1) := by decide +kernel
theorem dX8_loan_134 : decode cX8_loan 134 = .ok (.iastore, 1) := by decide +kernel
theorem dX8_loan_135 : decode cX8_loan 135 = .ok (.aload_n 0, 1) := by decide +kernel
theorem dX8_loan_136 : decode cX8_loan 136 = .ok (.getfield 7, 3) := by decide +kernel
theorem dX8_loan_139 : decode cX8_loan 139 = .ok (.iload 6, 2) := by decide +kernel
theorem dX8_loan_141 : decode cX8_loan 141 = .ok (.bipush 6, 2) := by decide +kernel
theorem dX8_loan_143 : decode cX8_loan 143 = .ok (.iadd, 1) := by decide +kernel
theorem dX8_loan_144 : decode cX8_loan 144 = .ok (.iconst (-1), 1) := by decide +kernel
theorem dX8_loan_145 : decode cX8_loan 145 = .ok (.iastore, 1) := by decide +kernel
theorem dX8_loan_146 : decode cX8_loan 146 = .ok (.aload_n 0, 1) := by decide +kernel
theorem dX8_loan_147 : decode cX8_loan 147 = .ok (.getfield 7, 3) := by decide +kernel
theorem dX8_loan_150 : decode cX8_loan 150 = .ok (.iload 6, 2) := by decide +kernel
theorem dX8_loan_152 : decode cX8_loan 152 = .ok (.bipush 7, 2) := by decide +kernel
theorem dX8_loan_154 : decode cX8_loan 154 = .ok (.iadd, 1) := by decide +kernel
theorem dX8_loan_155 : decode cX8_loan 155 = .ok (.iconst (-1), 1) := by decide +kernel
theorem dX8_loan_156 : decode cX8_loan 156 = .ok (.iastore, 1) := by decide +kernel
theorem dX8_loan_157 : decode cX8_loan 157 = .ok (.aload_n 0, 1) := by decide +kernel
theorem dX8_loan_158 : decode cX8_loan 158 = .ok (.getfield 7, 3) := by decide +kernel
theorem dX8_loan_161 : decode cX8_loan 161 = .ok (.iconst 1, 1) := by decide +kernel
theorem dX8_loan_162 : decode cX8_loan 162 = .ok (.dup2, 1) := by decide +kernel
theorem dX8_loan_163 : decode cX8_loan 163 = .ok (.iaload, 1) := by decide +kernel
theorem dX8_loan_164 : decode cX8_loan 164 = .ok (.iconst 1, 1) := by decide +kernel
theorem dX8_loan_165 : decode cX8_loan 165 = .ok (.iadd, 1) := by decide +kernel
theorem dX8_loan_166 : decode cX8_loan 166 = .ok (.iastore, 1) := by decide +kernel
theorem dX8_loan_167 : decode cX8_loan 167 = .ok (.aload_n 0, 1) := by decide +kernel
theorem dX8_loan_168 : decode cX8_loan 168 = .ok (.getfield 7, 3) := by decide +kernel
theorem dX8_loan_171 : decode cX8_loan 171 = .ok (.iconst 1, 1) := by decide +kernel
theorem dX8_loan_172 : decode cX8_loan 172 = .ok (.iaload, 1) := by decide +kernel
theorem dX8_loan_173 : decode cX8_loan 173 = .ok (.iconst 1, 1) := by decide +kernel
theorem dX8_loan_174 : decode cX8_loan 174 = .ok (.isub, 1) := by decide +kernel
theorem dX8_loan_175 : decode cX8_loan 175 = .ok (.ireturn, 1) := by decide +kernel
def kX8_loan (live : am_E) (Ret : am_R) : am_code := [(0, am_aload 0 1), (1, am_iload 1 2), (2, am_callV live 8 1 TX8_isPerson 5), (5, am_if1 (fun x => x = 0) 35 8), (8, am_iload 2 9), (9, am_callS live 1 TX8_isPlan 12), (12, am_if1 (fun x => x = 0) 35 15), (15, am_iload 3 16), (16, am_callS live 1 TX8_isYear 19), (19, am_if1 (fun x => x = 0) 35 22), (22, am_iload 4 24), (24, am_i2l 25), (25, am_const (.long 1) 26), (26, am_const (.long 10000000) 29), (29, am_callS live 3 TX8_in 32), (32, am_if1 (fun x => x = 0) 35 38), (35, am_const (.int (-2)) 37), (37, am_retI Ret), (38, am_aload 0 39), (39, am_getR live 8 0 42), (42, am_const (.int 1) 43), (43, am_ald live 0 44), (44, am_const (.int 30) 46), (46, am_if2 (fun x y => x = y) 49 52), (49, am_const (.int (-4)) 51), (51, am_retI Ret), (52, am_const (.int 2838) 55), (55, am_const (.int 8) 57), (57, am_aload 0 58), (58, am_getR live 8 0 61), (61, am_const (.int 1) 62), (62, am_ald live 0 63), (63, am_i2 (fun x y => x * y) 64), (64, am_i2 (fun x y => x + y) 65), (65, am_istore 6 7 67), (67, am_aload 0 68), (68, am_getR live 8 0 71), (71, am_iload 6 73), (73, am_iload 1 74), (74, am_ast live 0 75), (75, am_aload 0 76), (76, am_getR live 8 0 79), (79, am_iload 6 81), (81, am_const (.int 1) 82), (82, am_i2 (fun x y => x + y) 83), (83, am_iload 2 84), (84, am_ast live 0 85), (85, am_aload 0 86), (86, am_getR live 8 0 89), (89, am_iload 6 91), (91, am_const (.int 2) 92), (92, am_i2 (fun x y => x + y) 93), (93, am_iload 3 94), (94, am_ast live 0 95), (95, am_aload 0 96), (96, am_getR live 8 0 99), (99, am_iload 6 101), (101, am_const (.int 3) 102), (102, am_i2 (fun x y => x + y) 103), (103, am_iload 4 105), (105, am_ast live 0 106), (106, am_aload 0 107), (107, am_getR live 8 0 110), (110, am_iload 6 112), (112, am_const (.int 4) 113), (113, am_i2 (fun x y => x + y) 114), (114, am_iload 5 116), (116, am_if1 (fun x => x = 0) 123 119), (119, am_const (.int 1) 120), (120, am_goto 124), (123, am_const (.int 0) 124), (124, am_ast live 0 125), (125, am_aload 0 126), (126, am_getR live 8 0 129), (129, am_iload 6 131), (131, am_const (.int 5) 132), (132, am_i2 (fun x y => x + y) 133), (133, am_const (.int (-1)) 134), (134, am_ast live 0 135), (135, am_aload 0 136), (136, am_getR live 8 0 139), (139, am_iload 6 141), (141, am_const (.int 6) 143), (143, am_i2 (fun x y => x + y) 144), (144, am_const (.int (-1)) 145), (145, am_ast live 0 146), (146, am_aload 0 147), (147, am_getR live 8 0 150), (150, am_iload 6 152), (152, am_const (.int 7) 154), (154, am_i2 (fun x y => x + y) 155), (155, am_const (.int (-1)) 156), (156, am_ast live 0 157), (157, am_aload 0 158), (158, am_getR live 8 0 161), (161, am_const (.int 1) 162), (162, am_dup2 163), (163, am_ald live 0 164), (164, am_const (.int 1) 165), (165, am_i2 (fun x y => x + y) 166), (166, am_ast live 0 167), (167, am_aload 0 168), (168, am_getR live 8 0 171), (171, am_const (.int 1) 172), (172, am_ald live 0 173), (173, am_const (.int 1) 174), (174, am_i2 (fun x y => x - y) 175), (175, am_retI Ret)]
theorem koX8_loan (live : am_E) (Ret : am_R) : ∀ q ∈ kX8_loan live Ret, am_ok RX8 cX8_loan 7 (some .int) 2 46 live Ret q.1 q.2 :=
  am_kc (ak_aload_n dX8_loan_0 rfl rfl) <|
  am_kc (ak_iload_n dX8_loan_1 rfl rfl) <|
  am_kc (ak_callV (C := RX8) (F := TX8) (N := 27) metX8_isPerson rfl ⟨rfl, by decide +kernel, by decide +kernel, by decide +kernel⟩ (am_w5 wd_993 wd_995 wd_27 wd_67 wd_996) (by decide) dX8_loan_2 rfl) <|
  am_kc (ak_if_eq dX8_loan_5 (by decide +kernel) rfl) <|
  am_kc (ak_iload_n dX8_loan_8 rfl rfl) <|
  am_kc (ak_callS metX8_isPlan ⟨rfl, by decide +kernel, by decide +kernel, by decide +kernel⟩ (am_w4 wd_1034 wd_1035 wd_67 wd_1036) (by decide) dX8_loan_9 rfl) <|
  am_kc (ak_if_eq dX8_loan_12 (by decide +kernel) rfl) <|
  am_kc (ak_iload_n dX8_loan_15 rfl rfl) <|
  am_kc (ak_callS metX8_isYear ⟨rfl, by decide +kernel, by decide +kernel, by decide +kernel⟩ (am_w4 wd_982 wd_983 wd_67 wd_984) (by decide) dX8_loan_16 rfl) <|
  am_kc (ak_if_eq dX8_loan_19 (by decide +kernel) rfl) <|
  am_kc (ak_iload dX8_loan_22 rfl) <|
  am_kc (ak_i2l dX8_loan_24 rfl) <|
  am_kc (ak_lconst dX8_loan_25 (by decide +kernel) rfl) <|
  am_kc (ak_ldc2 wd_1017 dX8_loan_26 rfl) <|
  am_kc (ak_callS metX8_in ⟨rfl, by decide +kernel, by decide +kernel, by decide +kernel⟩ (am_w4 wd_986 wd_987 wd_67 wd_988) (by decide) dX8_loan_29 rfl) <|
  am_kc (ak_if_ne dX8_loan_32 (by decide +kernel) rfl) <|
  am_kc (ak_bipush dX8_loan_35 (by decide +kernel) rfl) <|
  am_kc (ak_retI dX8_loan_37) <|
  am_kc (ak_aload_n dX8_loan_38 rfl rfl) <|
  am_kc (ak_getR (C := RX8) (T := TX8) (N := 27) rfl inX8w (by decide) rfl rfl rfl wd_895 dX8_loan_39 rfl) <|
  am_kc (ak_iconst dX8_loan_42 (by decide +kernel) rfl) <|
  am_kc (ak_iald (t := 0) (fun _ => rfl) rfl dX8_loan_43 rfl) <|
  am_kc (ak_bipush dX8_loan_44 (by decide +kernel) rfl) <|
  am_kc (ak_icmp_ne dX8_loan_46 (by decide +kernel) rfl) <|
  am_kc (ak_bipush dX8_loan_49 (by decide +kernel) rfl) <|
  am_kc (ak_retI dX8_loan_51) <|
  am_kc (ak_sipush dX8_loan_52 (by decide +kernel) rfl) <|
  am_kc (ak_bipush dX8_loan_55 (by decide +kernel) rfl) <|
  am_kc (ak_aload_n dX8_loan_57 rfl rfl) <|
  am_kc (ak_getR (C := RX8) (T := TX8) (N := 27) rfl inX8w (by decide) rfl rfl rfl wd_895 dX8_loan_58 rfl) <|
  am_kc (ak_iconst dX8_loan_61 (by decide +kernel) rfl) <|
  am_kc (ak_iald (t := 0) (fun _ => rfl) rfl dX8_loan_62 rfl) <|
  am_kc (ak_imul dX8_loan_63 rfl) <|
  am_kc (ak_iadd dX8_loan_64 rfl) <|
  am_kc (ak_istore dX8_loan_65 rfl) <|
  am_kc (ak_aload_n dX8_loan_67 rfl rfl) <|
  am_kc (ak_getR (C := RX8) (T := TX8) (N := 27) rfl inX8w (by decide) rfl rfl rfl wd_895 dX8_loan_68 rfl) <|
  am_kc (ak_iload dX8_loan_71 rfl) <|
  am_kc (ak_iload_n dX8_loan_73 rfl rfl) <|
  am_kc (ak_iast (t := 0) (fun _ => rfl) rfl dX8_loan_74 rfl) <|
  am_kc (ak_aload_n dX8_loan_75 rfl rfl) <|
  am_kc (ak_getR (C := RX8) (T := TX8) (N := 27) rfl inX8w (by decide) rfl rfl rfl wd_895 dX8_loan_76 rfl) <|
  am_kc (ak_iload dX8_loan_79 rfl) <|
  am_kc (ak_iconst dX8_loan_81 (by decide +kernel) rfl) <|
  am_kc (ak_iadd dX8_loan_82 rfl) <|
  am_kc (ak_iload_n dX8_loan_83 rfl rfl) <|
  am_kc (ak_iast (t := 0) (fun _ => rfl) rfl dX8_loan_84 rfl) <|
  am_kc (ak_aload_n dX8_loan_85 rfl rfl) <|
  am_kc (ak_getR (C := RX8) (T := TX8) (N := 27) rfl inX8w (by decide) rfl rfl rfl wd_895 dX8_loan_86 rfl) <|
  am_kc (ak_iload dX8_loan_89 rfl) <|
  am_kc (ak_iconst dX8_loan_91 (by decide +kernel) rfl) <|
  am_kc (ak_iadd dX8_loan_92 rfl) <|
  am_kc (ak_iload_n dX8_loan_93 rfl rfl) <|
  am_kc (ak_iast (t := 0) (fun _ => rfl) rfl dX8_loan_94 rfl) <|
  am_kc (ak_aload_n dX8_loan_95 rfl rfl) <|
  am_kc (ak_getR (C := RX8) (T := TX8) (N := 27) rfl inX8w (by decide) rfl rfl rfl wd_895 dX8_loan_96 rfl) <|
  am_kc (ak_iload dX8_loan_99 rfl) <|
  am_kc (ak_iconst dX8_loan_101 (by decide +kernel) rfl) <|
  am_kc (ak_iadd dX8_loan_102 rfl) <|
  am_kc (ak_iload dX8_loan_103 rfl) <|
  am_kc (ak_iast (t := 0) (fun _ => rfl) rfl dX8_loan_105 rfl) <|
  am_kc (ak_aload_n dX8_loan_106 rfl rfl) <|
  am_kc (ak_getR (C := RX8) (T := TX8) (N := 27) rfl inX8w (by decide) rfl rfl rfl wd_895 dX8_loan_107 rfl) <|
  am_kc (ak_iload dX8_loan_110 rfl) <|
  am_kc (ak_iconst dX8_loan_112 (by decide +kernel) rfl) <|
  am_kc (ak_iadd dX8_loan_113 rfl) <|
  am_kc (ak_iload dX8_loan_114 rfl) <|
  am_kc (ak_if_eq dX8_loan_116 (by decide +kernel) rfl) <|
  am_kc (ak_iconst dX8_loan_119 (by decide +kernel) rfl) <|
  am_kc (ak_goto dX8_loan_120 (by decide +kernel)) <|
  am_kc (ak_iconst dX8_loan_123 (by decide +kernel) rfl) <|
  am_kc (ak_iast (t := 0) (fun _ => rfl) rfl dX8_loan_124 rfl) <|
  am_kc (ak_aload_n dX8_loan_125 rfl rfl) <|
  am_kc (ak_getR (C := RX8) (T := TX8) (N := 27) rfl inX8w (by decide) rfl rfl rfl wd_895 dX8_loan_126 rfl) <|
  am_kc (ak_iload dX8_loan_129 rfl) <|
  am_kc (ak_iconst dX8_loan_131 (by decide +kernel) rfl) <|
  am_kc (ak_iadd dX8_loan_132 rfl) <|
  am_kc (ak_iconst dX8_loan_133 (by decide +kernel) rfl) <|
  am_kc (ak_iast (t := 0) (fun _ => rfl) rfl dX8_loan_134 rfl) <|
  am_kc (ak_aload_n dX8_loan_135 rfl rfl) <|
  am_kc (ak_getR (C := RX8) (T := TX8) (N := 27) rfl inX8w (by decide) rfl rfl rfl wd_895 dX8_loan_136 rfl) <|
  am_kc (ak_iload dX8_loan_139 rfl) <|
  am_kc (ak_bipush dX8_loan_141 (by decide +kernel) rfl) <|
  am_kc (ak_iadd dX8_loan_143 rfl) <|
  am_kc (ak_iconst dX8_loan_144 (by decide +kernel) rfl) <|
  am_kc (ak_iast (t := 0) (fun _ => rfl) rfl dX8_loan_145 rfl) <|
  am_kc (ak_aload_n dX8_loan_146 rfl rfl) <|
  am_kc (ak_getR (C := RX8) (T := TX8) (N := 27) rfl inX8w (by decide) rfl rfl rfl wd_895 dX8_loan_147 rfl) <|
  am_kc (ak_iload dX8_loan_150 rfl) <|
  am_kc (ak_bipush dX8_loan_152 (by decide +kernel) rfl) <|
  am_kc (ak_iadd dX8_loan_154 rfl) <|
  am_kc (ak_iconst dX8_loan_155 (by decide +kernel) rfl) <|
  am_kc (ak_iast (t := 0) (fun _ => rfl) rfl dX8_loan_156 rfl) <|
  am_kc (ak_aload_n dX8_loan_157 rfl rfl) <|
  am_kc (ak_getR (C := RX8) (T := TX8) (N := 27) rfl inX8w (by decide) rfl rfl rfl wd_895 dX8_loan_158 rfl) <|
  am_kc (ak_iconst dX8_loan_161 (by decide +kernel) rfl) <|
  am_kc (ak_dup2 dX8_loan_162 rfl) <|
  am_kc (ak_iald (t := 0) (fun _ => rfl) rfl dX8_loan_163 rfl) <|
  am_kc (ak_iconst dX8_loan_164 (by decide +kernel) rfl) <|
  am_kc (ak_iadd dX8_loan_165 rfl) <|
  am_kc (ak_iast (t := 0) (fun _ => rfl) rfl dX8_loan_166 rfl) <|
  am_kc (ak_aload_n dX8_loan_167 rfl rfl) <|
  am_kc (ak_getR (C := RX8) (T := TX8) (N := 27) rfl inX8w (by decide) rfl rfl rfl wd_895 dX8_loan_168 rfl) <|
  am_kc (ak_iconst dX8_loan_171 (by decide +kernel) rfl) <|
  am_kc (ak_iald (t := 0) (fun _ => rfl) rfl dX8_loan_172 rfl) <|
  am_kc (ak_iconst dX8_loan_173 (by decide +kernel) rfl) <|
  am_kc (ak_isub dX8_loan_174 rfl) <|
  am_kc (ak_retI dX8_loan_175) <| am_kn
def r_loan (M : am_M) (p pl y s fe : Int32) : Int32 × am_M := if 0 ≤ p ∧ p < M.1 201 0 then (if 0 ≤ pl ∧ pl < 5 then (if 0 ≤ y ∧ y < 40 then (if 1 ≤ s ∧ s ≤ 10000000 then (if M.1 201 (Int32.toNatClampNeg 1) = 30 then ((-4 : Int32), M) else ((fun a : Int32 => (fun M1 : am_M => (fun M2 : am_M => (M2.1 201 (Int32.toNatClampNeg 1) - 1, M2)) (am_wI M1 201 (Int32.toNatClampNeg 1) (M1.1 201 (Int32.toNatClampNeg 1) + 1))) (am_wI (am_wI (am_wI (am_wI (am_wI (am_wI (am_wI (am_wI M 201 a.toNatClampNeg p) 201 (a + 1).toNatClampNeg pl) 201 (a + 2).toNatClampNeg y) 201 (a + 3).toNatClampNeg s) 201 (a + 4).toNatClampNeg fe) 201 (a + 5).toNatClampNeg (-1)) 201 (a + 6).toNatClampNeg (-1)) 201 (a + 7).toNatClampNeg (-1))) (2838 + 8 * M.1 201 (Int32.toNatClampNeg 1)))) else ((-2 : Int32), M)) else ((-2 : Int32), M)) else ((-2 : Int32), M)) else ((-2 : Int32), M)
def TX8_loan : am_T := fun live as M R => match as with
  | [.ref n, .int p, .int pl, .int y, .int s, .int fe] => am_mn live ∧ n = 200 ∧ r_I M ∧ (fe = 0 ∨ fe = 1) ∧ R (some (.int (r_loan M p pl y s fe).1)) (r_loan M p pl y s fe).2
  | _ => False
set_option maxRecDepth 100000 in
set_option maxHeartbeats 4000000 in
theorem metX8_loan : am_Met yX8_loan cX8_loan 7 (some .int) (2) (46) TX8_loan := by
  refine am_met (own := RX8) (by decide +kernel) rfl kX8_loan koX8_loan 200 (fun _ _ _ _ _ => none) (fun live as M Ret h => ?_) (fun _ _ _ _ _ _ _ _ hI => by cases hI)
  unfold TX8_loan at h
  split at h
  · next n p pl y s fe =>
    refine ⟨Nat.le_of_ble_eq_true rfl, ?_⟩
    change am_wp _ _ _ _ [(0, Value.ref n), (1, Value.int p), (2, Value.int pl), (3, Value.int y), (4, Value.int s), (5, Value.int fe)] _ _
    obtain ⟨hmn, rfl, hR, hfe, h⟩ := h
    have hmn2 := hmn
    obtain ⟨i1, i2, rfl⟩ := hmn2
    have l201 : am_len 201 = 3760 := rfl
    have n0 := hR.n0
    have n1 := hR.n1
    have n030 : 0 ≤ (M.1 201 0).toInt ∧ (M.1 201 0).toInt ≤ 30 := ⟨n0.1, by omega⟩
    by_cases z0 : 0 ≤ p ∧ p < M.1 201 0
    rotate_left
    · skip
      have q0 : (if 0 ≤ p ∧ p < M.1 201 0 then (1 : Int32) else 0) = 0 := if_neg z0
      have e : r_loan M p pl y s fe = ((-2 : Int32), M) := by unfold r_loan; rw [if_neg z0]
      rw [e] at h
      repeat' (first | (with_reducible exact hmn) | (with_reducible exact h) | (with_reducible exact n030) | (with_reducible exact n1) | apply And.intro | exact rfl | (intro hx; with_reducible exact absurd q0 hx) | (intro hx; exact absurd hx (by decide)) | (intro hx; exact absurd (by decide) hx) | decide | intro hx | (refine Exists.intro _ (And.intro rfl ?_)))
      all_goals try first | (with_reducible change am_tI _ _) | (change Ret _ _) | (change Ret _ _ _) | (change Exists _)
      all_goals try dsimp only at *
      all_goals try exact absurd ‹(1000 : Int64) = 0› (by decide)
      all_goals first | exact h | exact n0.1 | omega | (simp only [ea, l201]; omega) | (simp only [ea1, l201]; omega) | (simp only [ea2, l201]; omega) | (simp only [ea3, l201]; omega) | (simp only [ea4, l201]; omega) | (simp only [ea5, l201]; omega) | (simp only [ea6, l201]; omega) | (simp only [ea7, l201]; omega) | (show _ < _; simp only [l201]; decide) | skip
    · skip
      have q0 : ¬ ((if 0 ≤ p ∧ p < M.1 201 0 then (1 : Int32) else 0) = 0) := by rw [if_pos z0]; decide
      by_cases z1 : 0 ≤ pl ∧ pl < 5
      rotate_left
      · skip
        have q1 : (if 0 ≤ pl ∧ pl < 5 then (1 : Int32) else 0) = 0 := if_neg z1
        have e : r_loan M p pl y s fe = ((-2 : Int32), M) := by unfold r_loan; rw [if_pos z0, if_neg z1]
        rw [e] at h
        repeat' (first | (with_reducible exact hmn) | (with_reducible exact h) | (with_reducible exact n030) | (with_reducible exact n1) | apply And.intro | exact rfl | (intro hx; with_reducible exact absurd hx q0) | (intro hx; with_reducible exact absurd q1 hx) | (intro hx; exact absurd hx (by decide)) | (intro hx; exact absurd (by decide) hx) | decide | intro hx | (refine Exists.intro _ (And.intro rfl ?_)))
        all_goals try first | (with_reducible change am_tI _ _) | (change Ret _ _) | (change Ret _ _ _) | (change Exists _)
        all_goals try dsimp only at *
        all_goals try exact absurd ‹(1000 : Int64) = 0› (by decide)
        all_goals first | exact h | exact n0.1 | omega | (simp only [ea, l201]; omega) | (simp only [ea1, l201]; omega) | (simp only [ea2, l201]; omega) | (simp only [ea3, l201]; omega) | (simp only [ea4, l201]; omega) | (simp only [ea5, l201]; omega) | (simp only [ea6, l201]; omega) | (simp only [ea7, l201]; omega) | (show _ < _; simp only [l201]; decide) | skip
      · skip
        have q1 : ¬ ((if 0 ≤ pl ∧ pl < 5 then (1 : Int32) else 0) = 0) := by rw [if_pos z1]; decide
        by_cases z2 : 0 ≤ y ∧ y < 40
        rotate_left
        · skip
          have q2 : (if 0 ≤ y ∧ y < 40 then (1 : Int32) else 0) = 0 := if_neg z2
          have e : r_loan M p pl y s fe = ((-2 : Int32), M) := by unfold r_loan; rw [if_pos z0, if_pos z1, if_neg z2]
          rw [e] at h
          repeat' (first | (with_reducible exact hmn) | (with_reducible exact h) | (with_reducible exact n030) | (with_reducible exact n1) | apply And.intro | exact rfl | (intro hx; with_reducible exact absurd hx q0) | (intro hx; with_reducible exact absurd hx q1) | (intro hx; with_reducible exact absurd q2 hx) | (intro hx; exact absurd hx (by decide)) | (intro hx; exact absurd (by decide) hx) | decide | intro hx | (refine Exists.intro _ (And.intro rfl ?_)))
          all_goals try first | (with_reducible change am_tI _ _) | (change Ret _ _) | (change Ret _ _ _) | (change Exists _)
          all_goals try dsimp only at *
          all_goals try exact absurd ‹(1000 : Int64) = 0› (by decide)
          all_goals first | exact h | exact n0.1 | omega | (simp only [ea, l201]; omega) | (simp only [ea1, l201]; omega) | (simp only [ea2, l201]; omega) | (simp only [ea3, l201]; omega) | (simp only [ea4, l201]; omega) | (simp only [ea5, l201]; omega) | (simp only [ea6, l201]; omega) | (simp only [ea7, l201]; omega) | (show _ < _; simp only [l201]; decide) | skip
        · skip
          have q2 : ¬ ((if 0 ≤ y ∧ y < 40 then (1 : Int32) else 0) = 0) := by rw [if_pos z2]; decide
          by_cases z3 : 1 ≤ s ∧ s ≤ 10000000
          rotate_left
          · skip
            have q3 : (if (1 : Int64) ≤ s.toInt64 ∧ s.toInt64 ≤ (10000000 : Int64) then (1 : Int32) else 0) = 0 := if_neg (fun r => z3 (by simp only [i_le, i_lt, j_le, Int32.toInt_toInt64, Int32.reduceToInt, Int64.reduceToInt] at r ⊢; omega))
            have e : r_loan M p pl y s fe = ((-2 : Int32), M) := by unfold r_loan; rw [if_pos z0, if_pos z1, if_pos z2, if_neg z3]
            rw [e] at h
            repeat' (first | (with_reducible exact hmn) | (with_reducible exact h) | (with_reducible exact n030) | (with_reducible exact n1) | apply And.intro | exact rfl | (intro hx; with_reducible exact absurd hx q0) | (intro hx; with_reducible exact absurd hx q1) | (intro hx; with_reducible exact absurd hx q2) | (intro hx; with_reducible exact absurd q3 hx) | (intro hx; exact absurd hx (by decide)) | (intro hx; exact absurd (by decide) hx) | decide | intro hx | (refine Exists.intro _ (And.intro rfl ?_)))
            all_goals try first | (with_reducible change am_tI _ _) | (change Ret _ _) | (change Ret _ _ _) | (change Exists _)
            all_goals try dsimp only at *
            all_goals try exact absurd ‹(1000 : Int64) = 0› (by decide)
            all_goals first | exact h | exact n0.1 | omega | (simp only [ea, l201]; omega) | (simp only [ea1, l201]; omega) | (simp only [ea2, l201]; omega) | (simp only [ea3, l201]; omega) | (simp only [ea4, l201]; omega) | (simp only [ea5, l201]; omega) | (simp only [ea6, l201]; omega) | (simp only [ea7, l201]; omega) | (show _ < _; simp only [l201]; decide) | skip
          · skip
            have q3 : ¬ ((if (1 : Int64) ≤ s.toInt64 ∧ s.toInt64 ≤ (10000000 : Int64) then (1 : Int32) else 0) = 0) := by rw [if_pos (by have q := z3; simp only [i_le, i_lt, j_le, Int32.toInt_toInt64, Int32.reduceToInt, Int64.reduceToInt] at q ⊢; omega)]; decide
            have nc1 : 0 ≤ (M.1 201 (Int32.toNatClampNeg 1)).toInt ∧ (M.1 201 (Int32.toNatClampNeg 1)).toInt ≤ 30 := hR.n1
            by_cases z4 : M.1 201 (Int32.toNatClampNeg 1) = 30
            · skip
              have e : r_loan M p pl y s fe = ((-4 : Int32), M) := by unfold r_loan; rw [if_pos z0, if_pos z1, if_pos z2, if_pos z3, if_pos z4]
              rw [e] at h
              repeat' (first | (with_reducible exact hmn) | (with_reducible exact h) | (with_reducible exact n030) | (with_reducible exact n1) | apply And.intro | exact rfl | (intro hx; with_reducible exact absurd hx q0) | (intro hx; with_reducible exact absurd hx q1) | (intro hx; with_reducible exact absurd hx q2) | (intro hx; with_reducible exact absurd hx q3) | (intro hx; with_reducible exact absurd z4 hx) | (intro hx; exact absurd hx (by decide)) | (intro hx; exact absurd (by decide) hx) | decide | intro hx | (refine Exists.intro _ (And.intro rfl ?_)))
              all_goals try first | (with_reducible change am_tI _ _) | (change Ret _ _) | (change Ret _ _ _) | (change Exists _)
              all_goals try dsimp only at *
              all_goals try exact absurd ‹(1000 : Int64) = 0› (by decide)
              all_goals first | exact h | exact n0.1 | omega | (simp only [ea, l201]; omega) | (simp only [ea1, l201]; omega) | (simp only [ea2, l201]; omega) | (simp only [ea3, l201]; omega) | (simp only [ea4, l201]; omega) | (simp only [ea5, l201]; omega) | (simp only [ea6, l201]; omega) | (simp only [ea7, l201]; omega) | (show _ < _; simp only [l201]; decide) | skip
            · skip
              have zb : (M.1 201 (Int32.toNatClampNeg 1)).toInt < 30 := by have q := z4; simp only [i_eq, Int32.reduceToInt] at q; omega
              have e6 := r_mul (c := 8) (x := M.1 201 (Int32.toNatClampNeg 1)) ⟨by decide, by decide⟩ ⟨by omega, by omega⟩
              simp only [Int32.reduceToInt] at e6
              have ea := r_off (c := 2838) (x := 8 * M.1 201 (Int32.toNatClampNeg 1)) ⟨by decide, by decide⟩ ⟨by omega, by omega⟩
              simp only [e6, Int32.reduceToInt] at ea
              have ea1 := r_off (c := 2838 + 8 * M.1 201 (Int32.toNatClampNeg 1)) (x := 1) ⟨by omega, by omega⟩ ⟨by decide, by decide⟩
              simp only [ea, Int32.reduceToInt] at ea1
              have ea2 := r_off (c := 2838 + 8 * M.1 201 (Int32.toNatClampNeg 1)) (x := 2) ⟨by omega, by omega⟩ ⟨by decide, by decide⟩
              simp only [ea, Int32.reduceToInt] at ea2
              have ea3 := r_off (c := 2838 + 8 * M.1 201 (Int32.toNatClampNeg 1)) (x := 3) ⟨by omega, by omega⟩ ⟨by decide, by decide⟩
              simp only [ea, Int32.reduceToInt] at ea3
              have ea4 := r_off (c := 2838 + 8 * M.1 201 (Int32.toNatClampNeg 1)) (x := 4) ⟨by omega, by omega⟩ ⟨by decide, by decide⟩
              simp only [ea, Int32.reduceToInt] at ea4
              have ea5 := r_off (c := 2838 + 8 * M.1 201 (Int32.toNatClampNeg 1)) (x := 5) ⟨by omega, by omega⟩ ⟨by decide, by decide⟩
              simp only [ea, Int32.reduceToInt] at ea5
              have ea6 := r_off (c := 2838 + 8 * M.1 201 (Int32.toNatClampNeg 1)) (x := 6) ⟨by omega, by omega⟩ ⟨by decide, by decide⟩
              simp only [ea, Int32.reduceToInt] at ea6
              have ea7 := r_off (c := 2838 + 8 * M.1 201 (Int32.toNatClampNeg 1)) (x := 7) ⟨by omega, by omega⟩ ⟨by decide, by decide⟩
              simp only [ea, Int32.reduceToInt] at ea7
              have e : r_loan M p pl y s fe = ((fun a : Int32 => (fun M1 : am_M => (fun M2 : am_M => (M2.1 201 (Int32.toNatClampNeg 1) - 1, M2)) (am_wI M1 201 (Int32.toNatClampNeg 1) (M1.1 201 (Int32.toNatClampNeg 1) + 1))) (am_wI (am_wI (am_wI (am_wI (am_wI (am_wI (am_wI (am_wI M 201 a.toNatClampNeg p) 201 (a + 1).toNatClampNeg pl) 201 (a + 2).toNatClampNeg y) 201 (a + 3).toNatClampNeg s) 201 (a + 4).toNatClampNeg fe) 201 (a + 5).toNatClampNeg (-1)) 201 (a + 6).toNatClampNeg (-1)) 201 (a + 7).toNatClampNeg (-1))) (2838 + 8 * M.1 201 (Int32.toNatClampNeg 1))) := by unfold r_loan; rw [if_pos z0, if_pos z1, if_pos z2, if_pos z3, if_neg z4]
              rw [e] at h
              rcases hfe with rfl | rfl
              · skip
                repeat' (first | (with_reducible exact hmn) | (with_reducible exact n030) | (with_reducible exact n1) | apply And.intro | exact rfl | (intro hx; with_reducible exact absurd hx q0) | (intro hx; with_reducible exact absurd hx q1) | (intro hx; with_reducible exact absurd hx q2) | (intro hx; with_reducible exact absurd hx q3) | (intro hx; with_reducible exact absurd hx z4) | (intro hx; exact absurd hx (by decide)) | (intro hx; exact absurd (by decide) hx) | decide | intro hx | (refine Exists.intro _ (And.intro rfl ?_)))
                all_goals try first | (with_reducible change am_tI _ _) | (change Ret _ _) | (change Ret _ _ _) | (change Exists _)
                all_goals try dsimp only at *
                all_goals try exact absurd ‹(1000 : Int64) = 0› (by decide)
                all_goals first | exact h | exact n0.1 | omega | (simp only [ea, l201]; omega) | (simp only [ea1, l201]; omega) | (simp only [ea2, l201]; omega) | (simp only [ea3, l201]; omega) | (simp only [ea4, l201]; omega) | (simp only [ea5, l201]; omega) | (simp only [ea6, l201]; omega) | (simp only [ea7, l201]; omega) | (show _ < _; simp only [l201]; decide) | skip
              · skip
                repeat' (first | (with_reducible exact hmn) | (with_reducible exact n030) | (with_reducible exact n1) | apply And.intro | exact rfl | (intro hx; with_reducible exact absurd hx q0) | (intro hx; with_reducible exact absurd hx q1) | (intro hx; with_reducible exact absurd hx q2) | (intro hx; with_reducible exact absurd hx q3) | (intro hx; with_reducible exact absurd hx z4) | (intro hx; exact absurd hx (by decide)) | (intro hx; exact absurd (by decide) hx) | decide | intro hx | (refine Exists.intro _ (And.intro rfl ?_)))
                all_goals try first | (with_reducible change am_tI _ _) | (change Ret _ _) | (change Ret _ _ _) | (change Exists _)
                all_goals try dsimp only at *
                all_goals try exact absurd ‹(1000 : Int64) = 0› (by decide)
                all_goals first | exact h | exact n0.1 | omega | (simp only [ea, l201]; omega) | (simp only [ea1, l201]; omega) | (simp only [ea2, l201]; omega) | (simp only [ea3, l201]; omega) | (simp only [ea4, l201]; omega) | (simp only [ea5, l201]; omega) | (simp only [ea6, l201]; omega) | (simp only [ea7, l201]; omega) | (show _ < _; simp only [l201]; decide) | skip
  · exact h.elim
set_option maxRecDepth 100000 in
theorem wd_1069 : Cond.methodLink "LearnLoansModel" 131 yX8_isLoan ∈ am_ws := am_wsi (List.mem_of_getElem? (i := 1069) (by rfl)) (by decide +kernel)
set_option maxRecDepth 100000 in
theorem wd_1071 : Cond.instanceMethod yX8_isLoan ∈ am_ws := am_wsi (List.mem_of_getElem? (i := 1071) (by rfl)) (by decide +kernel)
set_option maxRecDepth 100000 in
theorem wd_30 : Cond.selects "LearnLoansModel" yX8_isLoan yX8_isLoan ∈ am_ws := am_wsi (List.mem_of_getElem? (i := 30) (by rfl)) (by decide +kernel)
set_option maxRecDepth 100000 in
theorem wd_1072 : Cond.code yX8_isLoan cX8_isLoan 2 (some .boolean) ∈ am_ws := am_wsi (List.mem_of_getElem? (i := 1072) (by rfl)) (by decide +kernel)
theorem dX8_move_0 : decode cX8_move 0 = .ok (.aload_n 0, 1) := by decide +kernel
theorem dX8_move_1 : decode cX8_move 1 = .ok (.iload_n 1, 1) := by decide +kernel
theorem dX8_move_2 : decode cX8_move 2 = .ok (.invokevirtual 131, 3) := by decide +kernel
theorem dX8_move_5 : decode cX8_move 5 = .ok (.ifCond .eq 17, 3) := by decide +kernel
theorem dX8_move_8 : decode cX8_move 8 = .ok (.iload_n 2, 1) := by decide +kernel
theorem dX8_move_9 : decode cX8_move 9 = .ok (.invokestatic 104, 3) := by decide +kernel
theorem dX8_move_12 : decode cX8_move 12 = .ok (.ifCond .eq 10, 3) := by decide +kernel
theorem dX8_move_15 : decode cX8_move 15 = .ok (.iload_n 3, 1) := by decide +kernel
theorem dX8_move_16 : decode cX8_move 16 = .ok (.invokestatic 72, 3) := by decide +kernel
theorem dX8_move_19 : decode cX8_move 19 = .ok (.ifCond .ne 6, 3) := by decide +kernel
theorem dX8_move_22 : decode cX8_move 22 = .ok (.bipush (-2), 2) := by decide +kernel
theorem dX8_move_24 : decode cX8_move 24 = .ok (.ireturn, 1) := by decide +kernel
theorem dX8_move_25 : decode cX8_move 25 = .ok (.aload_n 0, 1) := by decide +kernel
theorem dX8_move_26 : decode cX8_move 26 = .ok (.getfield 7, 3) := by decide +kernel
theorem dX8_move_29 : decode cX8_move 29 = .ok (.iconst 3, 1) := by decide +kernel
theorem dX8_move_30 : decode cX8_move 30 = .ok (.iaload, 1) := by decide +kernel
theorem dX8_move_31 : decode cX8_move 31 = .ok (.bipush 60, 2) := by decide +kernel
theorem dX8_move_33 : decode cX8_move 33 = .ok (.if_icmp .ne 6, 3) := by decide +kernel
theorem dX8_move_36 : decode cX8_move 36 = .ok (.bipush (-4), 2) := by decide +kernel
theorem dX8_move_38 : decode cX8_move 38 = .ok (.ireturn, 1) := by decide +kernel
theorem dX8_move_39 : decode cX8_move 39 = .ok (.sipush 3078, 3) := by decide +kernel
theorem dX8_move_42 : decode cX8_move 42 = .ok (.iconst 3, 1) := by decide +kernel
theorem dX8_move_43 : decode cX8_move 43 = .ok (.aload_n 0, 1) := by decide +kernel
theorem dX8_move_44 : decode cX8_move 44 = .ok (.getfield 7, 3) := by decide +kernel
theorem dX8_move_47 : decode cX8_move 47 = .ok (.iconst 3, 1) := by decide +kernel
theorem dX8_move_48 : decode cX8_move 48 = .ok (.iaload, 1) := by decide +kernel
theorem dX8_move_49 : decode cX8_move 49 = .ok (.imul, 1) := by decide +kernel
theorem dX8_move_50 : decode cX8_move 50 = .ok (.iadd, 1) := by decide +kernel
theorem dX8_move_51 : decode cX8_move 51 = .ok (.istore 4, 2) := by decide +kernel
theorem dX8_move_53 : decode cX8_move 53 = .ok (.aload_n 0, 1) := by decide +kernel
theorem dX8_move_54 : decode cX8_move 54 = .ok (.getfield 7, 3) := by decide +kernel
theorem dX8_move_57 : decode cX8_move 57 = .ok (.iload 4, 2) := by decide +kernel
theorem dX8_move_59 : decode cX8_move 59 = .ok (.iload_n 1, 1) := by decide +kernel
theorem dX8_move_60 : decode cX8_move 60 = .ok (.iastore, 1) := by decide +kernel
theorem dX8_move_61 : decode cX8_move 61 = .ok (.aload_n 0, 1) := by decide +kernel
theorem dX8_move_62 : decode cX8_move 62 = .ok (.getfield 7, 3) := by decide +kernel
theorem dX8_move_65 : decode cX8_move 65 = .ok (.iload 4, 2) := by decide +kernel
theorem dX8_move_67 : decode cX8_move 67 = .ok (.iconst 1, 1) := by decide +kernel
theorem dX8_move_68 : decode cX8_move 68 = .ok (.iadd, 1) := by decide +kernel
theorem dX8_move_69 : decode cX8_move 69 = .ok (.iload_n 2, 1) := by decide +kernel
theorem dX8_move_70 : decode cX8_move 70 = .ok (.iastore, 1) := by decide +kernel
theorem dX8_move_71 : decode cX8_move 71 = .ok (.aload_n 0, 1) := by decide +kernel
theorem dX8_move_72 : decode cX8_move 72 = .ok (.getfield 7, 3) := by decide +kernel
theorem dX8_move_75 : decode cX8_move 75 = .ok (.iload 4, 2) := by decide +kernel
theorem dX8_move_77 : decode cX8_move 77 = .ok (.iconst 2, 1) := by decide +kernel
theorem dX8_move_78 : decode cX8_move 78 = .ok (.iadd, 1) := by decide +kernel
theorem dX8_move_79 : decode cX8_move 79 = .ok (.iload_n 3, 1) := by decide +kernel
theorem dX8_move_80 : decode cX8_move 80 = .ok (.iastore, 1) := by decide +kernel
theorem dX8_move_81 : decode cX8_move 81 = .ok (.aload_n 0, 1) := by decide +kernel
theorem dX8_move_82 : decode cX8_move 82 = .ok (.getfield 7, 3) := by decide +kernel
theorem dX8_move_85 : decode cX8_move 85 = .ok (.iconst 3, 1) := by decide +kernel
theorem dX8_move_86 : decode cX8_move 86 = .ok (.dup2, 1) := by decide +kernel
theorem dX8_move_87 : decode cX8_move 87 = .ok (.iaload, 1) := by decide +kernel
theorem dX8_move_88 : decode cX8_move 88 = .ok (.iconst 1, 1) := by decide +kernel
theorem dX8_move_89 : decode cX8_move 89 = .ok (.iadd, 1) := by decide +kernel
theorem dX8_move_90 : decode cX8_move 90 = .ok (.iastore, 1) := by decide +kernel
theorem dX8_move_91 : decode cX8_move 91 = .ok (.iconst 1, 1) := by decide +kernel
theorem dX8_move_92 : decode cX8_move 92 = .ok (.ireturn, 1) := by decide +kernel
def kX8_move (live : am_E) (Ret : am_R) : am_code := [(0, am_aload 0 1), (1, am_iload 1 2), (2, am_callV live 8 1 TX8_isLoan 5), (5, am_if1 (fun x => x = 0) 22 8), (8, am_iload 2 9), (9, am_callS live 1 TX8_isPlan 12), (12, am_if1 (fun x => x = 0) 22 15), (15, am_iload 3 16), (16, am_callS live 1 TX8_isYear 19), (19, am_if1 (fun x => x = 0) 22 25), (22, am_const (.int (-2)) 24), (24, am_retI Ret), (25, am_aload 0 26), (26, am_getR live 8 0 29), (29, am_const (.int 3) 30), (30, am_ald live 0 31), (31, am_const (.int 60) 33), (33, am_if2 (fun x y => x = y) 36 39), (36, am_const (.int (-4)) 38), (38, am_retI Ret), (39, am_const (.int 3078) 42), (42, am_const (.int 3) 43), (43, am_aload 0 44), (44, am_getR live 8 0 47), (47, am_const (.int 3) 48), (48, am_ald live 0 49), (49, am_i2 (fun x y => x * y) 50), (50, am_i2 (fun x y => x + y) 51), (51, am_istore 4 5 53), (53, am_aload 0 54), (54, am_getR live 8 0 57), (57, am_iload 4 59), (59, am_iload 1 60), (60, am_ast live 0 61), (61, am_aload 0 62), (62, am_getR live 8 0 65), (65, am_iload 4 67), (67, am_const (.int 1) 68), (68, am_i2 (fun x y => x + y) 69), (69, am_iload 2 70), (70, am_ast live 0 71), (71, am_aload 0 72), (72, am_getR live 8 0 75), (75, am_iload 4 77), (77, am_const (.int 2) 78), (78, am_i2 (fun x y => x + y) 79), (79, am_iload 3 80), (80, am_ast live 0 81), (81, am_aload 0 82), (82, am_getR live 8 0 85), (85, am_const (.int 3) 86), (86, am_dup2 87), (87, am_ald live 0 88), (88, am_const (.int 1) 89), (89, am_i2 (fun x y => x + y) 90), (90, am_ast live 0 91), (91, am_const (.int 1) 92), (92, am_retI Ret)]
theorem koX8_move (live : am_E) (Ret : am_R) : ∀ q ∈ kX8_move live Ret, am_ok RX8 cX8_move 5 (some .int) 2 46 live Ret q.1 q.2 :=
  am_kc (ak_aload_n dX8_move_0 rfl rfl) <|
  am_kc (ak_iload_n dX8_move_1 rfl rfl) <|
  am_kc (ak_callV (C := RX8) (F := TX8) (N := 27) metX8_isLoan rfl ⟨rfl, by decide +kernel, by decide +kernel, by decide +kernel⟩ (am_w5 wd_1069 wd_1071 wd_30 wd_67 wd_1072) (by decide) dX8_move_2 rfl) <|
  am_kc (ak_if_eq dX8_move_5 (by decide +kernel) rfl) <|
  am_kc (ak_iload_n dX8_move_8 rfl rfl) <|
  am_kc (ak_callS metX8_isPlan ⟨rfl, by decide +kernel, by decide +kernel, by decide +kernel⟩ (am_w4 wd_1034 wd_1035 wd_67 wd_1036) (by decide) dX8_move_9 rfl) <|
  am_kc (ak_if_eq dX8_move_12 (by decide +kernel) rfl) <|
  am_kc (ak_iload_n dX8_move_15 rfl rfl) <|
  am_kc (ak_callS metX8_isYear ⟨rfl, by decide +kernel, by decide +kernel, by decide +kernel⟩ (am_w4 wd_982 wd_983 wd_67 wd_984) (by decide) dX8_move_16 rfl) <|
  am_kc (ak_if_ne dX8_move_19 (by decide +kernel) rfl) <|
  am_kc (ak_bipush dX8_move_22 (by decide +kernel) rfl) <|
  am_kc (ak_retI dX8_move_24) <|
  am_kc (ak_aload_n dX8_move_25 rfl rfl) <|
  am_kc (ak_getR (C := RX8) (T := TX8) (N := 27) rfl inX8w (by decide) rfl rfl rfl wd_895 dX8_move_26 rfl) <|
  am_kc (ak_iconst dX8_move_29 (by decide +kernel) rfl) <|
  am_kc (ak_iald (t := 0) (fun _ => rfl) rfl dX8_move_30 rfl) <|
  am_kc (ak_bipush dX8_move_31 (by decide +kernel) rfl) <|
  am_kc (ak_icmp_ne dX8_move_33 (by decide +kernel) rfl) <|
  am_kc (ak_bipush dX8_move_36 (by decide +kernel) rfl) <|
  am_kc (ak_retI dX8_move_38) <|
  am_kc (ak_sipush dX8_move_39 (by decide +kernel) rfl) <|
  am_kc (ak_iconst dX8_move_42 (by decide +kernel) rfl) <|
  am_kc (ak_aload_n dX8_move_43 rfl rfl) <|
  am_kc (ak_getR (C := RX8) (T := TX8) (N := 27) rfl inX8w (by decide) rfl rfl rfl wd_895 dX8_move_44 rfl) <|
  am_kc (ak_iconst dX8_move_47 (by decide +kernel) rfl) <|
  am_kc (ak_iald (t := 0) (fun _ => rfl) rfl dX8_move_48 rfl) <|
  am_kc (ak_imul dX8_move_49 rfl) <|
  am_kc (ak_iadd dX8_move_50 rfl) <|
  am_kc (ak_istore dX8_move_51 rfl) <|
  am_kc (ak_aload_n dX8_move_53 rfl rfl) <|
  am_kc (ak_getR (C := RX8) (T := TX8) (N := 27) rfl inX8w (by decide) rfl rfl rfl wd_895 dX8_move_54 rfl) <|
  am_kc (ak_iload dX8_move_57 rfl) <|
  am_kc (ak_iload_n dX8_move_59 rfl rfl) <|
  am_kc (ak_iast (t := 0) (fun _ => rfl) rfl dX8_move_60 rfl) <|
  am_kc (ak_aload_n dX8_move_61 rfl rfl) <|
  am_kc (ak_getR (C := RX8) (T := TX8) (N := 27) rfl inX8w (by decide) rfl rfl rfl wd_895 dX8_move_62 rfl) <|
  am_kc (ak_iload dX8_move_65 rfl) <|
  am_kc (ak_iconst dX8_move_67 (by decide +kernel) rfl) <|
  am_kc (ak_iadd dX8_move_68 rfl) <|
  am_kc (ak_iload_n dX8_move_69 rfl rfl) <|
  am_kc (ak_iast (t := 0) (fun _ => rfl) rfl dX8_move_70 rfl) <|
  am_kc (ak_aload_n dX8_move_71 rfl rfl) <|
  am_kc (ak_getR (C := RX8) (T := TX8) (N := 27) rfl inX8w (by decide) rfl rfl rfl wd_895 dX8_move_72 rfl) <|
  am_kc (ak_iload dX8_move_75 rfl) <|
  am_kc (ak_iconst dX8_move_77 (by decide +kernel) rfl) <|
  am_kc (ak_iadd dX8_move_78 rfl) <|
  am_kc (ak_iload_n dX8_move_79 rfl rfl) <|
  am_kc (ak_iast (t := 0) (fun _ => rfl) rfl dX8_move_80 rfl) <|
  am_kc (ak_aload_n dX8_move_81 rfl rfl) <|
  am_kc (ak_getR (C := RX8) (T := TX8) (N := 27) rfl inX8w (by decide) rfl rfl rfl wd_895 dX8_move_82 rfl) <|
  am_kc (ak_iconst dX8_move_85 (by decide +kernel) rfl) <|
  am_kc (ak_dup2 dX8_move_86 rfl) <|
  am_kc (ak_iald (t := 0) (fun _ => rfl) rfl dX8_move_87 rfl) <|
  am_kc (ak_iconst dX8_move_88 (by decide +kernel) rfl) <|
  am_kc (ak_iadd dX8_move_89 rfl) <|
  am_kc (ak_iast (t := 0) (fun _ => rfl) rfl dX8_move_90 rfl) <|
  am_kc (ak_iconst dX8_move_91 (by decide +kernel) rfl) <|
  am_kc (ak_retI dX8_move_92) <| am_kn
def r_move (M : am_M) (l pl y : Int32) : Int32 × am_M := if 0 ≤ l ∧ l < M.1 201 1 then (if 0 ≤ pl ∧ pl < 5 then (if 0 ≤ y ∧ y < 40 then (if M.1 201 (Int32.toNatClampNeg 3) = 60 then ((-4 : Int32), M) else ((fun a : Int32 => (fun M1 : am_M => (fun M2 : am_M => ((1 : Int32), M2)) (am_wI M1 201 (Int32.toNatClampNeg 3) (M1.1 201 (Int32.toNatClampNeg 3) + 1))) (am_wI (am_wI (am_wI M 201 a.toNatClampNeg l) 201 (a + 1).toNatClampNeg pl) 201 (a + 2).toNatClampNeg y)) (3078 + 3 * M.1 201 (Int32.toNatClampNeg 3)))) else ((-2 : Int32), M)) else ((-2 : Int32), M)) else ((-2 : Int32), M)
def TX8_move : am_T := fun live as M R => match as with
  | [.ref n, .int l, .int pl, .int y] => am_mn live ∧ n = 200 ∧ r_I M ∧ R (some (.int (r_move M l pl y).1)) (r_move M l pl y).2
  | _ => False
set_option maxRecDepth 100000 in
set_option maxHeartbeats 4000000 in
theorem metX8_move : am_Met yX8_move cX8_move 5 (some .int) (2) (46) TX8_move := by
  refine am_met (own := RX8) (by decide +kernel) rfl kX8_move koX8_move 200 (fun _ _ _ _ _ => none) (fun live as M Ret h => ?_) (fun _ _ _ _ _ _ _ _ hI => by cases hI)
  unfold TX8_move at h
  split at h
  · next n l pl y =>
    refine ⟨Nat.le_of_ble_eq_true rfl, ?_⟩
    change am_wp _ _ _ _ [(0, Value.ref n), (1, Value.int l), (2, Value.int pl), (3, Value.int y)] _ _
    obtain ⟨hmn, rfl, hR, h⟩ := h
    have hmn2 := hmn
    obtain ⟨i1, i2, rfl⟩ := hmn2
    have l201 : am_len 201 = 3760 := rfl
    have n0 := hR.n0
    have n1 := hR.n1
    have n030 : 0 ≤ (M.1 201 0).toInt ∧ (M.1 201 0).toInt ≤ 30 := ⟨n0.1, by omega⟩
    by_cases z0 : 0 ≤ l ∧ l < M.1 201 1
    rotate_left
    · skip
      have q0 : (if 0 ≤ l ∧ l < M.1 201 1 then (1 : Int32) else 0) = 0 := if_neg z0
      have e : r_move M l pl y = ((-2 : Int32), M) := by unfold r_move; rw [if_neg z0]
      rw [e] at h
      repeat' (first | (with_reducible exact hmn) | (with_reducible exact h) | (with_reducible exact n030) | (with_reducible exact n1) | apply And.intro | exact rfl | (intro hx; with_reducible exact absurd q0 hx) | (intro hx; exact absurd hx (by decide)) | (intro hx; exact absurd (by decide) hx) | decide | intro hx | (refine Exists.intro _ (And.intro rfl ?_)))
      all_goals try first | (with_reducible change am_tI _ _) | (change Ret _ _) | (change Ret _ _ _) | (change Exists _)
      all_goals try dsimp only at *
      all_goals try exact absurd ‹(1000 : Int64) = 0› (by decide)
      all_goals first | exact h | exact n0.1 | omega | (simp only [ea, l201]; omega) | (simp only [ea1, l201]; omega) | (simp only [ea2, l201]; omega) | (show _ < _; simp only [l201]; decide) | skip
    · skip
      have q0 : ¬ ((if 0 ≤ l ∧ l < M.1 201 1 then (1 : Int32) else 0) = 0) := by rw [if_pos z0]; decide
      by_cases z1 : 0 ≤ pl ∧ pl < 5
      rotate_left
      · skip
        have q1 : (if 0 ≤ pl ∧ pl < 5 then (1 : Int32) else 0) = 0 := if_neg z1
        have e : r_move M l pl y = ((-2 : Int32), M) := by unfold r_move; rw [if_pos z0, if_neg z1]
        rw [e] at h
        repeat' (first | (with_reducible exact hmn) | (with_reducible exact h) | (with_reducible exact n030) | (with_reducible exact n1) | apply And.intro | exact rfl | (intro hx; with_reducible exact absurd hx q0) | (intro hx; with_reducible exact absurd q1 hx) | (intro hx; exact absurd hx (by decide)) | (intro hx; exact absurd (by decide) hx) | decide | intro hx | (refine Exists.intro _ (And.intro rfl ?_)))
        all_goals try first | (with_reducible change am_tI _ _) | (change Ret _ _) | (change Ret _ _ _) | (change Exists _)
        all_goals try dsimp only at *
        all_goals try exact absurd ‹(1000 : Int64) = 0› (by decide)
        all_goals first | exact h | exact n0.1 | omega | (simp only [ea, l201]; omega) | (simp only [ea1, l201]; omega) | (simp only [ea2, l201]; omega) | (show _ < _; simp only [l201]; decide) | skip
      · skip
        have q1 : ¬ ((if 0 ≤ pl ∧ pl < 5 then (1 : Int32) else 0) = 0) := by rw [if_pos z1]; decide
        by_cases z2 : 0 ≤ y ∧ y < 40
        rotate_left
        · skip
          have q2 : (if 0 ≤ y ∧ y < 40 then (1 : Int32) else 0) = 0 := if_neg z2
          have e : r_move M l pl y = ((-2 : Int32), M) := by unfold r_move; rw [if_pos z0, if_pos z1, if_neg z2]
          rw [e] at h
          repeat' (first | (with_reducible exact hmn) | (with_reducible exact h) | (with_reducible exact n030) | (with_reducible exact n1) | apply And.intro | exact rfl | (intro hx; with_reducible exact absurd hx q0) | (intro hx; with_reducible exact absurd hx q1) | (intro hx; with_reducible exact absurd q2 hx) | (intro hx; exact absurd hx (by decide)) | (intro hx; exact absurd (by decide) hx) | decide | intro hx | (refine Exists.intro _ (And.intro rfl ?_)))
          all_goals try first | (with_reducible change am_tI _ _) | (change Ret _ _) | (change Ret _ _ _) | (change Exists _)
          all_goals try dsimp only at *
          all_goals try exact absurd ‹(1000 : Int64) = 0› (by decide)
          all_goals first | exact h | exact n0.1 | omega | (simp only [ea, l201]; omega) | (simp only [ea1, l201]; omega) | (simp only [ea2, l201]; omega) | (show _ < _; simp only [l201]; decide) | skip
        · skip
          have q2 : ¬ ((if 0 ≤ y ∧ y < 40 then (1 : Int32) else 0) = 0) := by rw [if_pos z2]; decide
          have nc3 : 0 ≤ (M.1 201 (Int32.toNatClampNeg 3)).toInt ∧ (M.1 201 (Int32.toNatClampNeg 3)).toInt ≤ 60 := hR.n3
          by_cases z3 : M.1 201 (Int32.toNatClampNeg 3) = 60
          · skip
            have e : r_move M l pl y = ((-4 : Int32), M) := by unfold r_move; rw [if_pos z0, if_pos z1, if_pos z2, if_pos z3]
            rw [e] at h
            repeat' (first | (with_reducible exact hmn) | (with_reducible exact h) | (with_reducible exact n030) | (with_reducible exact n1) | apply And.intro | exact rfl | (intro hx; with_reducible exact absurd hx q0) | (intro hx; with_reducible exact absurd hx q1) | (intro hx; with_reducible exact absurd hx q2) | (intro hx; with_reducible exact absurd z3 hx) | (intro hx; exact absurd hx (by decide)) | (intro hx; exact absurd (by decide) hx) | decide | intro hx | (refine Exists.intro _ (And.intro rfl ?_)))
            all_goals try first | (with_reducible change am_tI _ _) | (change Ret _ _) | (change Ret _ _ _) | (change Exists _)
            all_goals try dsimp only at *
            all_goals try exact absurd ‹(1000 : Int64) = 0› (by decide)
            all_goals first | exact h | exact n0.1 | omega | (simp only [ea, l201]; omega) | (simp only [ea1, l201]; omega) | (simp only [ea2, l201]; omega) | (show _ < _; simp only [l201]; decide) | skip
          · skip
            have zb : (M.1 201 (Int32.toNatClampNeg 3)).toInt < 60 := by have q := z3; simp only [i_eq, Int32.reduceToInt] at q; omega
            have e6 := r_mul (c := 3) (x := M.1 201 (Int32.toNatClampNeg 3)) ⟨by decide, by decide⟩ ⟨by omega, by omega⟩
            simp only [Int32.reduceToInt] at e6
            have ea := r_off (c := 3078) (x := 3 * M.1 201 (Int32.toNatClampNeg 3)) ⟨by decide, by decide⟩ ⟨by omega, by omega⟩
            simp only [e6, Int32.reduceToInt] at ea
            have ea1 := r_off (c := 3078 + 3 * M.1 201 (Int32.toNatClampNeg 3)) (x := 1) ⟨by omega, by omega⟩ ⟨by decide, by decide⟩
            simp only [ea, Int32.reduceToInt] at ea1
            have ea2 := r_off (c := 3078 + 3 * M.1 201 (Int32.toNatClampNeg 3)) (x := 2) ⟨by omega, by omega⟩ ⟨by decide, by decide⟩
            simp only [ea, Int32.reduceToInt] at ea2
            have e : r_move M l pl y = ((fun a : Int32 => (fun M1 : am_M => (fun M2 : am_M => ((1 : Int32), M2)) (am_wI M1 201 (Int32.toNatClampNeg 3) (M1.1 201 (Int32.toNatClampNeg 3) + 1))) (am_wI (am_wI (am_wI M 201 a.toNatClampNeg l) 201 (a + 1).toNatClampNeg pl) 201 (a + 2).toNatClampNeg y)) (3078 + 3 * M.1 201 (Int32.toNatClampNeg 3))) := by unfold r_move; rw [if_pos z0, if_pos z1, if_pos z2, if_neg z3]
            rw [e] at h
            repeat' (first | (with_reducible exact hmn) | (with_reducible exact n030) | (with_reducible exact n1) | apply And.intro | exact rfl | (intro hx; with_reducible exact absurd hx q0) | (intro hx; with_reducible exact absurd hx q1) | (intro hx; with_reducible exact absurd hx q2) | (intro hx; with_reducible exact absurd hx z3) | (intro hx; exact absurd hx (by decide)) | (intro hx; exact absurd (by decide) hx) | decide | intro hx | (refine Exists.intro _ (And.intro rfl ?_)))
            all_goals try first | (with_reducible change am_tI _ _) | (change Ret _ _) | (change Ret _ _ _) | (change Exists _)
            all_goals try dsimp only at *
            all_goals try exact absurd ‹(1000 : Int64) = 0› (by decide)
            all_goals first | exact h | exact n0.1 | omega | (simp only [ea, l201]; omega) | (simp only [ea1, l201]; omega) | (simp only [ea2, l201]; omega) | (show _ < _; simp only [l201]; decide) | skip
  · exact h.elim
set_option maxRecDepth 100000 in
theorem wd_1216 : Cond.constantLong "LearnLoansModel" 248 1000000000 ∈ am_ws := am_wsi (List.mem_of_getElem? (i := 1216) (by rfl)) (by decide +kernel)
theorem dX8_promise_0 : decode cX8_promise 0 = .ok (.iload_n 1, 1) := by decide +kernel
theorem dX8_promise_1 : decode cX8_promise 1 = .ok (.i2l, 1) := by decide +kernel
theorem dX8_promise_2 : decode cX8_promise 2 = .ok (.lconst 0, 1) := by decide +kernel
theorem dX8_promise_3 : decode cX8_promise 3 = .ok (.ldc2_w 79, 3) := by decide +kernel
theorem dX8_promise_6 : decode cX8_promise 6 = .ok (.invokestatic 66, 3) := by decide +kernel
theorem dX8_promise_9 : decode cX8_promise 9 = .ok (.ifCond .eq 22, 3) := by decide +kernel
theorem dX8_promise_12 : decode cX8_promise 12 = .ok (.iload_n 2, 1) := by decide +kernel
theorem dX8_promise_13 : decode cX8_promise 13 = .ok (.invokestatic 72, 3) := by decide +kernel
theorem dX8_promise_16 : decode cX8_promise 16 = .ok (.ifCond .eq 15, 3) := by decide +kernel
theorem dX8_promise_19 : decode cX8_promise 19 = .ok (.iload_n 3, 1) := by decide +kernel
theorem dX8_promise_20 : decode cX8_promise 20 = .ok (.i2l, 1) := by decide +kernel
theorem dX8_promise_21 : decode cX8_promise 21 = .ok (.lconst 1, 1) := by decide +kernel
theorem dX8_promise_22 : decode cX8_promise 22 = .ok (.ldc2_w 248, 3) := by decide +kernel
theorem dX8_promise_25 : decode cX8_promise 25 = .ok (.invokestatic 66, 3) := by decide +kernel
theorem dX8_promise_28 : decode cX8_promise 28 = .ok (.ifCond .ne 6, 3) := by decide +kernel
theorem dX8_promise_31 : decode cX8_promise 31 = .ok (.bipush (-2), 2) := by decide +kernel
theorem dX8_promise_33 : decode cX8_promise 33 = .ok (.ireturn, 1) := by decide +kernel
theorem dX8_promise_34 : decode cX8_promise 34 = .ok (.aload_n 0, 1) := by decide +kernel
theorem dX8_promise_35 : decode cX8_promise 35 = .ok (.getfield 7, 3) := by decide +kernel
theorem dX8_promise_38 : decode cX8_promise 38 = .ok (.iconst 4, 1) := by decide +kernel
theorem dX8_promise_39 : decode cX8_promise 39 = .ok (.iaload, 1) := by decide +kernel
theorem dX8_promise_40 : decode cX8_promise 40 = .ok (.bipush 20, 2) := by decide +kernel
theorem dX8_promise_42 : decode cX8_promise 42 = .ok (.if_icmp .ne 6, 3) := by decide +kernel
theorem dX8_promise_45 : decode cX8_promise 45 = .ok (.bipush (-4), 2) := by decide +kernel
theorem dX8_promise_47 : decode cX8_promise 47 = .ok (.ireturn, 1) := by decide +kernel
theorem dX8_promise_48 : decode cX8_promise 48 = .ok (.sipush 3513, 3) := by decide +kernel
theorem dX8_promise_51 : decode cX8_promise 51 = .ok (.iconst 3, 1) := by decide +kernel
theorem dX8_promise_52 : decode cX8_promise 52 = .ok (.aload_n 0, 1) := by decide +kernel
theorem dX8_promise_53 : decode cX8_promise 53 = .ok (.getfield 7, 3) := by decide +kernel
theorem dX8_promise_56 : decode cX8_promise 56 = .ok (.iconst 4, 1) := by decide +kernel
theorem dX8_promise_57 : decode cX8_promise 57 = .ok (.iaload, 1) := by decide +kernel
theorem dX8_promise_58 : decode cX8_promise 58 = .ok (.imul, 1) := by decide +kernel
theorem dX8_promise_59 : decode cX8_promise 59 = .ok (.iadd, 1) := by decide +kernel
theorem dX8_promise_60 : decode cX8_promise 60 = .ok (.istore 4, 2) := by decide +kernel
theorem dX8_promise_62 : decode cX8_promise 62 = .ok (.aload_n 0, 1) := by decide +kernel
theorem dX8_promise_63 : decode cX8_promise 63 = .ok (.getfield 7, 3) := by decide +kernel
theorem dX8_promise_66 : decode cX8_promise 66 = .ok (.iload 4, 2) := by decide +kernel
theorem dX8_promise_68 : decode cX8_promise 68 = .ok (.iload_n 1, 1) := by decide +kernel
theorem dX8_promise_69 : decode cX8_promise 69 = .ok (.iastore, 1) := by decide +kernel
theorem dX8_promise_70 : decode cX8_promise 70 = .ok (.aload_n 0, 1) := by decide +kernel
theorem dX8_promise_71 : decode cX8_promise 71 = .ok (.getfield 7, 3) := by decide +kernel
theorem dX8_promise_74 : decode cX8_promise 74 = .ok (.iload 4, 2) := by decide +kernel
theorem dX8_promise_76 : decode cX8_promise 76 = .ok (.iconst 1, 1) := by decide +kernel
theorem dX8_promise_77 : decode cX8_promise 77 = .ok (.iadd, 1) := by decide +kernel
theorem dX8_promise_78 : decode cX8_promise 78 = .ok (.iload_n 2, 1) := by decide +kernel
theorem dX8_promise_79 : decode cX8_promise 79 = .ok (.iastore, 1) := by decide +kernel
theorem dX8_promise_80 : decode cX8_promise 80 = .ok (.aload_n 0, 1) := by decide +kernel
theorem dX8_promise_81 : decode cX8_promise 81 = .ok (.getfield 7, 3) := by decide +kernel
theorem dX8_promise_84 : decode cX8_promise 84 = .ok (.iload 4, 2) := by decide +kernel
theorem dX8_promise_86 : decode cX8_promise 86 = .ok (.iconst 2, 1) := by decide +kernel
theorem dX8_promise_87 : decode cX8_promise 87 = .ok (.iadd, 1) := by decide +kernel
theorem dX8_promise_88 : decode cX8_promise 88 = .ok (.iload_n 3, 1) := by decide +kernel
theorem dX8_promise_89 : decode cX8_promise 89 = .ok (.iastore, 1) := by decide +kernel
theorem dX8_promise_90 : decode cX8_promise 90 = .ok (.aload_n 0, 1) := by decide +kernel
theorem dX8_promise_91 : decode cX8_promise 91 = .ok (.getfield 7, 3) := by decide +kernel
theorem dX8_promise_94 : decode cX8_promise 94 = .ok (.iconst 4, 1) := by decide +kernel
theorem dX8_promise_95 : decode cX8_promise 95 = .ok (.dup2, 1) := by decide +kernel
theorem dX8_promise_96 : decode cX8_promise 96 = .ok (.iaload, 1) := by decide +kernel
theorem dX8_promise_97 : decode cX8_promise 97 = .ok (.iconst 1, 1) := by decide +kernel
theorem dX8_promise_98 : decode cX8_promise 98 = .ok (.iadd, 1) := by decide +kernel
theorem dX8_promise_99 : decode cX8_promise 99 = .ok (.iastore, 1) := by decide +kernel
theorem dX8_promise_100 : decode cX8_promise 100 = .ok (.aload_n 0, 1) := by decide +kernel
theorem dX8_promise_101 : decode cX8_promise 101 = .ok (.getfield 7, 3) := by decide +kernel
theorem dX8_promise_104 : decode cX8_promise 104 = .ok (.iconst 4, 1) := by decide +kernel
theorem dX8_promise_105 : decode cX8_promise 105 = .ok (.iaload, 1) := by decide +kernel
theorem dX8_promise_106 : decode cX8_promise 106 = .ok (.ireturn, 1) := by decide +kernel
def kX8_promise (live : am_E) (Ret : am_R) : am_code := [(0, am_iload 1 1), (1, am_i2l 2), (2, am_const (.long 0) 3), (3, am_const (.long 3) 6), (6, am_callS live 3 TX8_in 9), (9, am_if1 (fun x => x = 0) 31 12), (12, am_iload 2 13), (13, am_callS live 1 TX8_isYear 16), (16, am_if1 (fun x => x = 0) 31 19), (19, am_iload 3 20), (20, am_i2l 21), (21, am_const (.long 1) 22), (22, am_const (.long 1000000000) 25), (25, am_callS live 3 TX8_in 28), (28, am_if1 (fun x => x = 0) 31 34), (31, am_const (.int (-2)) 33), (33, am_retI Ret), (34, am_aload 0 35), (35, am_getR live 8 0 38), (38, am_const (.int 4) 39), (39, am_ald live 0 40), (40, am_const (.int 20) 42), (42, am_if2 (fun x y => x = y) 45 48), (45, am_const (.int (-4)) 47), (47, am_retI Ret), (48, am_const (.int 3513) 51), (51, am_const (.int 3) 52), (52, am_aload 0 53), (53, am_getR live 8 0 56), (56, am_const (.int 4) 57), (57, am_ald live 0 58), (58, am_i2 (fun x y => x * y) 59), (59, am_i2 (fun x y => x + y) 60), (60, am_istore 4 5 62), (62, am_aload 0 63), (63, am_getR live 8 0 66), (66, am_iload 4 68), (68, am_iload 1 69), (69, am_ast live 0 70), (70, am_aload 0 71), (71, am_getR live 8 0 74), (74, am_iload 4 76), (76, am_const (.int 1) 77), (77, am_i2 (fun x y => x + y) 78), (78, am_iload 2 79), (79, am_ast live 0 80), (80, am_aload 0 81), (81, am_getR live 8 0 84), (84, am_iload 4 86), (86, am_const (.int 2) 87), (87, am_i2 (fun x y => x + y) 88), (88, am_iload 3 89), (89, am_ast live 0 90), (90, am_aload 0 91), (91, am_getR live 8 0 94), (94, am_const (.int 4) 95), (95, am_dup2 96), (96, am_ald live 0 97), (97, am_const (.int 1) 98), (98, am_i2 (fun x y => x + y) 99), (99, am_ast live 0 100), (100, am_aload 0 101), (101, am_getR live 8 0 104), (104, am_const (.int 4) 105), (105, am_ald live 0 106), (106, am_retI Ret)]
theorem koX8_promise (live : am_E) (Ret : am_R) : ∀ q ∈ kX8_promise live Ret, am_ok RX8 cX8_promise 5 (some .int) 2 45 live Ret q.1 q.2 :=
  am_kc (ak_iload_n dX8_promise_0 rfl rfl) <|
  am_kc (ak_i2l dX8_promise_1 rfl) <|
  am_kc (ak_lconst dX8_promise_2 (by decide +kernel) rfl) <|
  am_kc (ak_ldc2 wd_997 dX8_promise_3 rfl) <|
  am_kc (ak_callS metX8_in ⟨rfl, by decide +kernel, by decide +kernel, by decide +kernel⟩ (am_w4 wd_986 wd_987 wd_67 wd_988) (by decide) dX8_promise_6 rfl) <|
  am_kc (ak_if_eq dX8_promise_9 (by decide +kernel) rfl) <|
  am_kc (ak_iload_n dX8_promise_12 rfl rfl) <|
  am_kc (ak_callS metX8_isYear ⟨rfl, by decide +kernel, by decide +kernel, by decide +kernel⟩ (am_w4 wd_982 wd_983 wd_67 wd_984) (by decide) dX8_promise_13 rfl) <|
  am_kc (ak_if_eq dX8_promise_16 (by decide +kernel) rfl) <|
  am_kc (ak_iload_n dX8_promise_19 rfl rfl) <|
  am_kc (ak_i2l dX8_promise_20 rfl) <|
  am_kc (ak_lconst dX8_promise_21 (by decide +kernel) rfl) <|
  am_kc (ak_ldc2 wd_1216 dX8_promise_22 rfl) <|
  am_kc (ak_callS metX8_in ⟨rfl, by decide +kernel, by decide +kernel, by decide +kernel⟩ (am_w4 wd_986 wd_987 wd_67 wd_988) (by decide) dX8_promise_25 rfl) <|
  am_kc (ak_if_ne dX8_promise_28 (by decide +kernel) rfl) <|
  am_kc (ak_bipush dX8_promise_31 (by decide +kernel) rfl) <|
  am_kc (ak_retI dX8_promise_33) <|
  am_kc (ak_aload_n dX8_promise_34 rfl rfl) <|
  am_kc (ak_getR (C := RX8) (T := TX8) (N := 27) rfl inX8w (by decide) rfl rfl rfl wd_895 dX8_promise_35 rfl) <|
  am_kc (ak_iconst dX8_promise_38 (by decide +kernel) rfl) <|
  am_kc (ak_iald (t := 0) (fun _ => rfl) rfl dX8_promise_39 rfl) <|
  am_kc (ak_bipush dX8_promise_40 (by decide +kernel) rfl) <|
  am_kc (ak_icmp_ne dX8_promise_42 (by decide +kernel) rfl) <|
  am_kc (ak_bipush dX8_promise_45 (by decide +kernel) rfl) <|
  am_kc (ak_retI dX8_promise_47) <|
  am_kc (ak_sipush dX8_promise_48 (by decide +kernel) rfl) <|
  am_kc (ak_iconst dX8_promise_51 (by decide +kernel) rfl) <|
  am_kc (ak_aload_n dX8_promise_52 rfl rfl) <|
  am_kc (ak_getR (C := RX8) (T := TX8) (N := 27) rfl inX8w (by decide) rfl rfl rfl wd_895 dX8_promise_53 rfl) <|
  am_kc (ak_iconst dX8_promise_56 (by decide +kernel) rfl) <|
  am_kc (ak_iald (t := 0) (fun _ => rfl) rfl dX8_promise_57 rfl) <|
  am_kc (ak_imul dX8_promise_58 rfl) <|
  am_kc (ak_iadd dX8_promise_59 rfl) <|
  am_kc (ak_istore dX8_promise_60 rfl) <|
  am_kc (ak_aload_n dX8_promise_62 rfl rfl) <|
  am_kc (ak_getR (C := RX8) (T := TX8) (N := 27) rfl inX8w (by decide) rfl rfl rfl wd_895 dX8_promise_63 rfl) <|
  am_kc (ak_iload dX8_promise_66 rfl) <|
  am_kc (ak_iload_n dX8_promise_68 rfl rfl) <|
  am_kc (ak_iast (t := 0) (fun _ => rfl) rfl dX8_promise_69 rfl) <|
  am_kc (ak_aload_n dX8_promise_70 rfl rfl) <|
  am_kc (ak_getR (C := RX8) (T := TX8) (N := 27) rfl inX8w (by decide) rfl rfl rfl wd_895 dX8_promise_71 rfl) <|
  am_kc (ak_iload dX8_promise_74 rfl) <|
  am_kc (ak_iconst dX8_promise_76 (by decide +kernel) rfl) <|
  am_kc (ak_iadd dX8_promise_77 rfl) <|
  am_kc (ak_iload_n dX8_promise_78 rfl rfl) <|
  am_kc (ak_iast (t := 0) (fun _ => rfl) rfl dX8_promise_79 rfl) <|
  am_kc (ak_aload_n dX8_promise_80 rfl rfl) <|
  am_kc (ak_getR (C := RX8) (T := TX8) (N := 27) rfl inX8w (by decide) rfl rfl rfl wd_895 dX8_promise_81 rfl) <|
  am_kc (ak_iload dX8_promise_84 rfl) <|
  am_kc (ak_iconst dX8_promise_86 (by decide +kernel) rfl) <|
  am_kc (ak_iadd dX8_promise_87 rfl) <|
  am_kc (ak_iload_n dX8_promise_88 rfl rfl) <|
  am_kc (ak_iast (t := 0) (fun _ => rfl) rfl dX8_promise_89 rfl) <|
  am_kc (ak_aload_n dX8_promise_90 rfl rfl) <|
  am_kc (ak_getR (C := RX8) (T := TX8) (N := 27) rfl inX8w (by decide) rfl rfl rfl wd_895 dX8_promise_91 rfl) <|
  am_kc (ak_iconst dX8_promise_94 (by decide +kernel) rfl) <|
  am_kc (ak_dup2 dX8_promise_95 rfl) <|
  am_kc (ak_iald (t := 0) (fun _ => rfl) rfl dX8_promise_96 rfl) <|
  am_kc (ak_iconst dX8_promise_97 (by decide +kernel) rfl) <|
  am_kc (ak_iadd dX8_promise_98 rfl) <|
  am_kc (ak_iast (t := 0) (fun _ => rfl) rfl dX8_promise_99 rfl) <|
  am_kc (ak_aload_n dX8_promise_100 rfl rfl) <|
  am_kc (ak_getR (C := RX8) (T := TX8) (N := 27) rfl inX8w (by decide) rfl rfl rfl wd_895 dX8_promise_101 rfl) <|
  am_kc (ak_iconst dX8_promise_104 (by decide +kernel) rfl) <|
  am_kc (ak_iald (t := 0) (fun _ => rfl) rfl dX8_promise_105 rfl) <|
  am_kc (ak_retI dX8_promise_106) <| am_kn
def r_promise (M : am_M) (b y c : Int32) : Int32 × am_M := if 0 ≤ b ∧ b ≤ 3 then (if 0 ≤ y ∧ y < 40 then (if 1 ≤ c ∧ c ≤ 1000000000 then (if M.1 201 (Int32.toNatClampNeg 4) = 20 then ((-4 : Int32), M) else ((fun a : Int32 => (fun M1 : am_M => (fun M2 : am_M => (M2.1 201 (Int32.toNatClampNeg 4), M2)) (am_wI M1 201 (Int32.toNatClampNeg 4) (M1.1 201 (Int32.toNatClampNeg 4) + 1))) (am_wI (am_wI (am_wI M 201 a.toNatClampNeg b) 201 (a + 1).toNatClampNeg y) 201 (a + 2).toNatClampNeg c)) (3513 + 3 * M.1 201 (Int32.toNatClampNeg 4)))) else ((-2 : Int32), M)) else ((-2 : Int32), M)) else ((-2 : Int32), M)
def TX8_promise : am_T := fun live as M R => match as with
  | [.ref n, .int b, .int y, .int c] => am_mn live ∧ n = 200 ∧ r_I M ∧ R (some (.int (r_promise M b y c).1)) (r_promise M b y c).2
  | _ => False
set_option maxRecDepth 100000 in
set_option maxHeartbeats 4000000 in
theorem metX8_promise : am_Met yX8_promise cX8_promise 5 (some .int) (2) (45) TX8_promise := by
  refine am_met (own := RX8) (by decide +kernel) rfl kX8_promise koX8_promise 200 (fun _ _ _ _ _ => none) (fun live as M Ret h => ?_) (fun _ _ _ _ _ _ _ _ hI => by cases hI)
  unfold TX8_promise at h
  split at h
  · next n b y c =>
    refine ⟨Nat.le_of_ble_eq_true rfl, ?_⟩
    change am_wp _ _ _ _ [(0, Value.ref n), (1, Value.int b), (2, Value.int y), (3, Value.int c)] _ _
    obtain ⟨hmn, rfl, hR, h⟩ := h
    have hmn2 := hmn
    obtain ⟨i1, i2, rfl⟩ := hmn2
    have l201 : am_len 201 = 3760 := rfl
    have n0 := hR.n0
    have n1 := hR.n1
    have n030 : 0 ≤ (M.1 201 0).toInt ∧ (M.1 201 0).toInt ≤ 30 := ⟨n0.1, by omega⟩
    by_cases z0 : 0 ≤ b ∧ b ≤ 3
    rotate_left
    · skip
      have q0 : (if (0 : Int64) ≤ b.toInt64 ∧ b.toInt64 ≤ (3 : Int64) then (1 : Int32) else 0) = 0 := if_neg (fun r => z0 (by simp only [i_le, i_lt, j_le, Int32.toInt_toInt64, Int32.reduceToInt, Int64.reduceToInt] at r ⊢; omega))
      have e : r_promise M b y c = ((-2 : Int32), M) := by unfold r_promise; rw [if_neg z0]
      rw [e] at h
      repeat' (first | (with_reducible exact hmn) | (with_reducible exact h) | (with_reducible exact n030) | (with_reducible exact n1) | apply And.intro | exact rfl | (intro hx; with_reducible exact absurd q0 hx) | (intro hx; exact absurd hx (by decide)) | (intro hx; exact absurd (by decide) hx) | decide | intro hx | (refine Exists.intro _ (And.intro rfl ?_)))
      all_goals try first | (with_reducible change am_tI _ _) | (change Ret _ _) | (change Ret _ _ _) | (change Exists _)
      all_goals try dsimp only at *
      all_goals try exact absurd ‹(1000 : Int64) = 0› (by decide)
      all_goals first | exact h | exact n0.1 | omega | (simp only [ea, l201]; omega) | (simp only [ea1, l201]; omega) | (simp only [ea2, l201]; omega) | (show _ < _; simp only [l201]; decide) | skip
    · skip
      have q0 : ¬ ((if (0 : Int64) ≤ b.toInt64 ∧ b.toInt64 ≤ (3 : Int64) then (1 : Int32) else 0) = 0) := by rw [if_pos (by have q := z0; simp only [i_le, i_lt, j_le, Int32.toInt_toInt64, Int32.reduceToInt, Int64.reduceToInt] at q ⊢; omega)]; decide
      by_cases z1 : 0 ≤ y ∧ y < 40
      rotate_left
      · skip
        have q1 : (if 0 ≤ y ∧ y < 40 then (1 : Int32) else 0) = 0 := if_neg z1
        have e : r_promise M b y c = ((-2 : Int32), M) := by unfold r_promise; rw [if_pos z0, if_neg z1]
        rw [e] at h
        repeat' (first | (with_reducible exact hmn) | (with_reducible exact h) | (with_reducible exact n030) | (with_reducible exact n1) | apply And.intro | exact rfl | (intro hx; with_reducible exact absurd hx q0) | (intro hx; with_reducible exact absurd q1 hx) | (intro hx; exact absurd hx (by decide)) | (intro hx; exact absurd (by decide) hx) | decide | intro hx | (refine Exists.intro _ (And.intro rfl ?_)))
        all_goals try first | (with_reducible change am_tI _ _) | (change Ret _ _) | (change Ret _ _ _) | (change Exists _)
        all_goals try dsimp only at *
        all_goals try exact absurd ‹(1000 : Int64) = 0› (by decide)
        all_goals first | exact h | exact n0.1 | omega | (simp only [ea, l201]; omega) | (simp only [ea1, l201]; omega) | (simp only [ea2, l201]; omega) | (show _ < _; simp only [l201]; decide) | skip
      · skip
        have q1 : ¬ ((if 0 ≤ y ∧ y < 40 then (1 : Int32) else 0) = 0) := by rw [if_pos z1]; decide
        by_cases z2 : 1 ≤ c ∧ c ≤ 1000000000
        rotate_left
        · skip
          have q2 : (if (1 : Int64) ≤ c.toInt64 ∧ c.toInt64 ≤ (1000000000 : Int64) then (1 : Int32) else 0) = 0 := if_neg (fun r => z2 (by simp only [i_le, i_lt, j_le, Int32.toInt_toInt64, Int32.reduceToInt, Int64.reduceToInt] at r ⊢; omega))
          have e : r_promise M b y c = ((-2 : Int32), M) := by unfold r_promise; rw [if_pos z0, if_pos z1, if_neg z2]
          rw [e] at h
          repeat' (first | (with_reducible exact hmn) | (with_reducible exact h) | (with_reducible exact n030) | (with_reducible exact n1) | apply And.intro | exact rfl | (intro hx; with_reducible exact absurd hx q0) | (intro hx; with_reducible exact absurd hx q1) | (intro hx; with_reducible exact absurd q2 hx) | (intro hx; exact absurd hx (by decide)) | (intro hx; exact absurd (by decide) hx) | decide | intro hx | (refine Exists.intro _ (And.intro rfl ?_)))
          all_goals try first | (with_reducible change am_tI _ _) | (change Ret _ _) | (change Ret _ _ _) | (change Exists _)
          all_goals try dsimp only at *
          all_goals try exact absurd ‹(1000 : Int64) = 0› (by decide)
          all_goals first | exact h | exact n0.1 | omega | (simp only [ea, l201]; omega) | (simp only [ea1, l201]; omega) | (simp only [ea2, l201]; omega) | (show _ < _; simp only [l201]; decide) | skip
        · skip
          have q2 : ¬ ((if (1 : Int64) ≤ c.toInt64 ∧ c.toInt64 ≤ (1000000000 : Int64) then (1 : Int32) else 0) = 0) := by rw [if_pos (by have q := z2; simp only [i_le, i_lt, j_le, Int32.toInt_toInt64, Int32.reduceToInt, Int64.reduceToInt] at q ⊢; omega)]; decide
          have nc4 : 0 ≤ (M.1 201 (Int32.toNatClampNeg 4)).toInt ∧ (M.1 201 (Int32.toNatClampNeg 4)).toInt ≤ 20 := hR.n4
          by_cases z3 : M.1 201 (Int32.toNatClampNeg 4) = 20
          · skip
            have e : r_promise M b y c = ((-4 : Int32), M) := by unfold r_promise; rw [if_pos z0, if_pos z1, if_pos z2, if_pos z3]
            rw [e] at h
            repeat' (first | (with_reducible exact hmn) | (with_reducible exact h) | (with_reducible exact n030) | (with_reducible exact n1) | apply And.intro | exact rfl | (intro hx; with_reducible exact absurd hx q0) | (intro hx; with_reducible exact absurd hx q1) | (intro hx; with_reducible exact absurd hx q2) | (intro hx; with_reducible exact absurd z3 hx) | (intro hx; exact absurd hx (by decide)) | (intro hx; exact absurd (by decide) hx) | decide | intro hx | (refine Exists.intro _ (And.intro rfl ?_)))
            all_goals try first | (with_reducible change am_tI _ _) | (change Ret _ _) | (change Ret _ _ _) | (change Exists _)
            all_goals try dsimp only at *
            all_goals try exact absurd ‹(1000 : Int64) = 0› (by decide)
            all_goals first | exact h | exact n0.1 | omega | (simp only [ea, l201]; omega) | (simp only [ea1, l201]; omega) | (simp only [ea2, l201]; omega) | (show _ < _; simp only [l201]; decide) | skip
          · skip
            have zb : (M.1 201 (Int32.toNatClampNeg 4)).toInt < 20 := by have q := z3; simp only [i_eq, Int32.reduceToInt] at q; omega
            have e6 := r_mul (c := 3) (x := M.1 201 (Int32.toNatClampNeg 4)) ⟨by decide, by decide⟩ ⟨by omega, by omega⟩
            simp only [Int32.reduceToInt] at e6
            have ea := r_off (c := 3513) (x := 3 * M.1 201 (Int32.toNatClampNeg 4)) ⟨by decide, by decide⟩ ⟨by omega, by omega⟩
            simp only [e6, Int32.reduceToInt] at ea
            have ea1 := r_off (c := 3513 + 3 * M.1 201 (Int32.toNatClampNeg 4)) (x := 1) ⟨by omega, by omega⟩ ⟨by decide, by decide⟩
            simp only [ea, Int32.reduceToInt] at ea1
            have ea2 := r_off (c := 3513 + 3 * M.1 201 (Int32.toNatClampNeg 4)) (x := 2) ⟨by omega, by omega⟩ ⟨by decide, by decide⟩
            simp only [ea, Int32.reduceToInt] at ea2
            have e : r_promise M b y c = ((fun a : Int32 => (fun M1 : am_M => (fun M2 : am_M => (M2.1 201 (Int32.toNatClampNeg 4), M2)) (am_wI M1 201 (Int32.toNatClampNeg 4) (M1.1 201 (Int32.toNatClampNeg 4) + 1))) (am_wI (am_wI (am_wI M 201 a.toNatClampNeg b) 201 (a + 1).toNatClampNeg y) 201 (a + 2).toNatClampNeg c)) (3513 + 3 * M.1 201 (Int32.toNatClampNeg 4))) := by unfold r_promise; rw [if_pos z0, if_pos z1, if_pos z2, if_neg z3]
            rw [e] at h
            repeat' (first | (with_reducible exact hmn) | (with_reducible exact n030) | (with_reducible exact n1) | apply And.intro | exact rfl | (intro hx; with_reducible exact absurd hx q0) | (intro hx; with_reducible exact absurd hx q1) | (intro hx; with_reducible exact absurd hx q2) | (intro hx; with_reducible exact absurd hx z3) | (intro hx; exact absurd hx (by decide)) | (intro hx; exact absurd (by decide) hx) | decide | intro hx | (refine Exists.intro _ (And.intro rfl ?_)))
            all_goals try first | (with_reducible change am_tI _ _) | (change Ret _ _) | (change Ret _ _ _) | (change Exists _)
            all_goals try dsimp only at *
            all_goals try exact absurd ‹(1000 : Int64) = 0› (by decide)
            all_goals first | exact h | exact n0.1 | omega | (simp only [ea, l201]; omega) | (simp only [ea1, l201]; omega) | (simp only [ea2, l201]; omega) | (show _ < _; simp only [l201]; decide) | skip
  · exact h.elim
theorem dX8_tell_0 : decode cX8_tell 0 = .ok (.iload_n 1, 1) := by decide +kernel
theorem dX8_tell_1 : decode cX8_tell 1 = .ok (.i2l, 1) := by decide +kernel
theorem dX8_tell_2 : decode cX8_tell 2 = .ok (.lconst 0, 1) := by decide +kernel
theorem dX8_tell_3 : decode cX8_tell 3 = .ok (.ldc2_w 87, 3) := by decide +kernel
theorem dX8_tell_6 : decode cX8_tell 6 = .ok (.invokestatic 66, 3) := by decide +kernel
theorem dX8_tell_9 : decode cX8_tell 9 = .ok (.ifCond .ne 6, 3) := by decide +kernel
theorem dX8_tell_12 : decode cX8_tell 12 = .ok (.bipush (-2), 2) := by decide +kernel
theorem dX8_tell_14 : decode cX8_tell 14 = .ok (.ireturn, 1) := by decide +kernel
theorem dX8_tell_15 : decode cX8_tell 15 = .ok (.aload_n 0, 1) := by decide +kernel
theorem dX8_tell_16 : decode cX8_tell 16 = .ok (.getfield 7, 3) := by decide +kernel
theorem dX8_tell_19 : decode cX8_tell 19 = .ok (.iconst 5, 1) := by decide +kernel
theorem dX8_tell_20 : decode cX8_tell 20 = .ok (.iaload, 1) := by decide +kernel
theorem dX8_tell_21 : decode cX8_tell 21 = .ok (.bipush 9, 2) := by decide +kernel
theorem dX8_tell_23 : decode cX8_tell 23 = .ok (.if_icmp .ne 6, 3) := by decide +kernel
theorem dX8_tell_26 : decode cX8_tell 26 = .ok (.bipush (-4), 2) := by decide +kernel
theorem dX8_tell_28 : decode cX8_tell 28 = .ok (.ireturn, 1) := by decide +kernel
theorem dX8_tell_29 : decode cX8_tell 29 = .ok (.aload_n 0, 1) := by decide +kernel
theorem dX8_tell_30 : decode cX8_tell 30 = .ok (.getfield 7, 3) := by decide +kernel
theorem dX8_tell_33 : decode cX8_tell 33 = .ok (.sipush 3745, 3) := by decide +kernel
theorem dX8_tell_36 : decode cX8_tell 36 = .ok (.aload_n 0, 1) := by decide +kernel
theorem dX8_tell_37 : decode cX8_tell 37 = .ok (.getfield 7, 3) := by decide +kernel
theorem dX8_tell_40 : decode cX8_tell 40 = .ok (.iconst 5, 1) := by decide +kernel
theorem dX8_tell_41 : decode cX8_tell 41 = .ok (.iaload, 1) := by decide +kernel
theorem dX8_tell_42 : decode cX8_tell 42 = .ok (.iadd, 1) := by decide +kernel
theorem dX8_tell_43 : decode cX8_tell 43 = .ok (.iload_n 1, 1) := by decide +kernel
theorem dX8_tell_44 : decode cX8_tell 44 = .ok (.iastore, 1) := by decide +kernel
theorem dX8_tell_45 : decode cX8_tell 45 = .ok (.aload_n 0, 1) := by decide +kernel
theorem dX8_tell_46 : decode cX8_tell 46 = .ok (.getfield 7, 3) := by decide +kernel
theorem dX8_tell_49 : decode cX8_tell 49 = .ok (.iconst 5, 1) := by decide +kernel
theorem dX8_tell_50 : decode cX8_tell 50 = .ok (.dup2, 1) := by decide +kernel
theorem dX8_tell_51 : decode cX8_tell 51 = .ok (.iaload, 1) := by decide +kernel
theorem dX8_tell_52 : decode cX8_tell 52 = .ok (.iconst 1, 1) := by decide +kernel
theorem dX8_tell_53 : decode cX8_tell 53 = .ok (.iadd, 1) := by decide +kernel
theorem dX8_tell_54 : decode cX8_tell 54 = .ok (.iastore, 1) := by decide +kernel
theorem dX8_tell_55 : decode cX8_tell 55 = .ok (.aload_n 0, 1) := by decide +kernel
theorem dX8_tell_56 : decode cX8_tell 56 = .ok (.getfield 7, 3) := by decide +kernel
theorem dX8_tell_59 : decode cX8_tell 59 = .ok (.iconst 5, 1) := by decide +kernel
theorem dX8_tell_60 : decode cX8_tell 60 = .ok (.iaload, 1) := by decide +kernel
theorem dX8_tell_61 : decode cX8_tell 61 = .ok (.ireturn, 1) := by decide +kernel
def kX8_tell (live : am_E) (Ret : am_R) : am_code := [(0, am_iload 1 1), (1, am_i2l 2), (2, am_const (.long 0) 3), (3, am_const (.long 10000000) 6), (6, am_callS live 3 TX8_in 9), (9, am_if1 (fun x => x = 0) 12 15), (12, am_const (.int (-2)) 14), (14, am_retI Ret), (15, am_aload 0 16), (16, am_getR live 8 0 19), (19, am_const (.int 5) 20), (20, am_ald live 0 21), (21, am_const (.int 9) 23), (23, am_if2 (fun x y => x = y) 26 29), (26, am_const (.int (-4)) 28), (28, am_retI Ret), (29, am_aload 0 30), (30, am_getR live 8 0 33), (33, am_const (.int 3745) 36), (36, am_aload 0 37), (37, am_getR live 8 0 40), (40, am_const (.int 5) 41), (41, am_ald live 0 42), (42, am_i2 (fun x y => x + y) 43), (43, am_iload 1 44), (44, am_ast live 0 45), (45, am_aload 0 46), (46, am_getR live 8 0 49), (49, am_const (.int 5) 50), (50, am_dup2 51), (51, am_ald live 0 52), (52, am_const (.int 1) 53), (53, am_i2 (fun x y => x + y) 54), (54, am_ast live 0 55), (55, am_aload 0 56), (56, am_getR live 8 0 59), (59, am_const (.int 5) 60), (60, am_ald live 0 61), (61, am_retI Ret)]
theorem koX8_tell (live : am_E) (Ret : am_R) : ∀ q ∈ kX8_tell live Ret, am_ok RX8 cX8_tell 2 (some .int) 1 25 live Ret q.1 q.2 :=
  am_kc (ak_iload_n dX8_tell_0 rfl rfl) <|
  am_kc (ak_i2l dX8_tell_1 rfl) <|
  am_kc (ak_lconst dX8_tell_2 (by decide +kernel) rfl) <|
  am_kc (ak_ldc2 wd_1017 dX8_tell_3 rfl) <|
  am_kc (ak_callS metX8_in ⟨rfl, by decide +kernel, by decide +kernel, by decide +kernel⟩ (am_w4 wd_986 wd_987 wd_67 wd_988) (by decide) dX8_tell_6 rfl) <|
  am_kc (ak_if_ne dX8_tell_9 (by decide +kernel) rfl) <|
  am_kc (ak_bipush dX8_tell_12 (by decide +kernel) rfl) <|
  am_kc (ak_retI dX8_tell_14) <|
  am_kc (ak_aload_n dX8_tell_15 rfl rfl) <|
  am_kc (ak_getR (C := RX8) (T := TX8) (N := 27) rfl inX8w (by decide) rfl rfl rfl wd_895 dX8_tell_16 rfl) <|
  am_kc (ak_iconst dX8_tell_19 (by decide +kernel) rfl) <|
  am_kc (ak_iald (t := 0) (fun _ => rfl) rfl dX8_tell_20 rfl) <|
  am_kc (ak_bipush dX8_tell_21 (by decide +kernel) rfl) <|
  am_kc (ak_icmp_ne dX8_tell_23 (by decide +kernel) rfl) <|
  am_kc (ak_bipush dX8_tell_26 (by decide +kernel) rfl) <|
  am_kc (ak_retI dX8_tell_28) <|
  am_kc (ak_aload_n dX8_tell_29 rfl rfl) <|
  am_kc (ak_getR (C := RX8) (T := TX8) (N := 27) rfl inX8w (by decide) rfl rfl rfl wd_895 dX8_tell_30 rfl) <|
  am_kc (ak_sipush dX8_tell_33 (by decide +kernel) rfl) <|
  am_kc (ak_aload_n dX8_tell_36 rfl rfl) <|
  am_kc (ak_getR (C := RX8) (T := TX8) (N := 27) rfl inX8w (by decide) rfl rfl rfl wd_895 dX8_tell_37 rfl) <|
  am_kc (ak_iconst dX8_tell_40 (by decide +kernel) rfl) <|
  am_kc (ak_iald (t := 0) (fun _ => rfl) rfl dX8_tell_41 rfl) <|
  am_kc (ak_iadd dX8_tell_42 rfl) <|
  am_kc (ak_iload_n dX8_tell_43 rfl rfl) <|
  am_kc (ak_iast (t := 0) (fun _ => rfl) rfl dX8_tell_44 rfl) <|
  am_kc (ak_aload_n dX8_tell_45 rfl rfl) <|
  am_kc (ak_getR (C := RX8) (T := TX8) (N := 27) rfl inX8w (by decide) rfl rfl rfl wd_895 dX8_tell_46 rfl) <|
  am_kc (ak_iconst dX8_tell_49 (by decide +kernel) rfl) <|
  am_kc (ak_dup2 dX8_tell_50 rfl) <|
  am_kc (ak_iald (t := 0) (fun _ => rfl) rfl dX8_tell_51 rfl) <|
  am_kc (ak_iconst dX8_tell_52 (by decide +kernel) rfl) <|
  am_kc (ak_iadd dX8_tell_53 rfl) <|
  am_kc (ak_iast (t := 0) (fun _ => rfl) rfl dX8_tell_54 rfl) <|
  am_kc (ak_aload_n dX8_tell_55 rfl rfl) <|
  am_kc (ak_getR (C := RX8) (T := TX8) (N := 27) rfl inX8w (by decide) rfl rfl rfl wd_895 dX8_tell_56 rfl) <|
  am_kc (ak_iconst dX8_tell_59 (by decide +kernel) rfl) <|
  am_kc (ak_iald (t := 0) (fun _ => rfl) rfl dX8_tell_60 rfl) <|
  am_kc (ak_retI dX8_tell_61) <| am_kn
def r_tell (M : am_M) (v : Int32) : Int32 × am_M := if 0 ≤ v ∧ v ≤ 10000000 then (if M.1 201 (Int32.toNatClampNeg 5) = 9 then ((-4 : Int32), M) else ((fun M1 : am_M => (fun M2 : am_M => (M2.1 201 (Int32.toNatClampNeg 5), M2)) (am_wI M1 201 (Int32.toNatClampNeg 5) (M1.1 201 (Int32.toNatClampNeg 5) + 1))) (am_wI M 201 (3745 + M.1 201 (Int32.toNatClampNeg 5)).toNatClampNeg v))) else ((-2 : Int32), M)
def TX8_tell : am_T := fun live as M R => match as with
  | [.ref n, .int v] => am_mn live ∧ n = 200 ∧ r_I M ∧ R (some (.int (r_tell M v).1)) (r_tell M v).2
  | _ => False
set_option maxRecDepth 100000 in
set_option maxHeartbeats 4000000 in
theorem metX8_tell : am_Met yX8_tell cX8_tell 2 (some .int) (1) (25) TX8_tell := by
  refine am_met (own := RX8) (by decide +kernel) rfl kX8_tell koX8_tell 200 (fun _ _ _ _ _ => none) (fun live as M Ret h => ?_) (fun _ _ _ _ _ _ _ _ hI => by cases hI)
  unfold TX8_tell at h
  split at h
  · next n v =>
    refine ⟨Nat.le_of_ble_eq_true rfl, ?_⟩
    change am_wp _ _ _ _ [(0, Value.ref n), (1, Value.int v)] _ _
    obtain ⟨hmn, rfl, hR, h⟩ := h
    have hmn2 := hmn
    obtain ⟨i1, i2, rfl⟩ := hmn2
    have l201 : am_len 201 = 3760 := rfl
    have n0 := hR.n0
    have n1 := hR.n1
    have n030 : 0 ≤ (M.1 201 0).toInt ∧ (M.1 201 0).toInt ≤ 30 := ⟨n0.1, by omega⟩
    by_cases z0 : 0 ≤ v ∧ v ≤ 10000000
    rotate_left
    · skip
      have q0 : (if (0 : Int64) ≤ v.toInt64 ∧ v.toInt64 ≤ (10000000 : Int64) then (1 : Int32) else 0) = 0 := if_neg (fun r => z0 (by simp only [i_le, i_lt, j_le, Int32.toInt_toInt64, Int32.reduceToInt, Int64.reduceToInt] at r ⊢; omega))
      have e : r_tell M v = ((-2 : Int32), M) := by unfold r_tell; rw [if_neg z0]
      rw [e] at h
      repeat' (first | (with_reducible exact hmn) | (with_reducible exact h) | (with_reducible exact n030) | (with_reducible exact n1) | apply And.intro | exact rfl | (intro hx; with_reducible exact absurd q0 hx) | (intro hx; exact absurd hx (by decide)) | (intro hx; exact absurd (by decide) hx) | decide | intro hx | (refine Exists.intro _ (And.intro rfl ?_)))
      all_goals try first | (with_reducible change am_tI _ _) | (change Ret _ _) | (change Ret _ _ _) | (change Exists _)
      all_goals try dsimp only at *
      all_goals try exact absurd ‹(1000 : Int64) = 0› (by decide)
      all_goals first | exact h | exact n0.1 | omega | (simp only [e1, l201, Int32.reduceToInt]; omega) | (show _ < _; simp only [l201]; decide) | skip
    · skip
      have q0 : ¬ ((if (0 : Int64) ≤ v.toInt64 ∧ v.toInt64 ≤ (10000000 : Int64) then (1 : Int32) else 0) = 0) := by rw [if_pos (by have q := z0; simp only [i_le, i_lt, j_le, Int32.toInt_toInt64, Int32.reduceToInt, Int64.reduceToInt] at q ⊢; omega)]; decide
      have nc5 : 0 ≤ (M.1 201 (Int32.toNatClampNeg 5)).toInt ∧ (M.1 201 (Int32.toNatClampNeg 5)).toInt ≤ 9 := hR.n5
      by_cases z1 : M.1 201 (Int32.toNatClampNeg 5) = 9
      · skip
        have e : r_tell M v = ((-4 : Int32), M) := by unfold r_tell; rw [if_pos z0, if_pos z1]
        rw [e] at h
        repeat' (first | (with_reducible exact hmn) | (with_reducible exact h) | (with_reducible exact n030) | (with_reducible exact n1) | apply And.intro | exact rfl | (intro hx; with_reducible exact absurd hx q0) | (intro hx; with_reducible exact absurd z1 hx) | (intro hx; exact absurd hx (by decide)) | (intro hx; exact absurd (by decide) hx) | decide | intro hx | (refine Exists.intro _ (And.intro rfl ?_)))
        all_goals try first | (with_reducible change am_tI _ _) | (change Ret _ _) | (change Ret _ _ _) | (change Exists _)
        all_goals try dsimp only at *
        all_goals try exact absurd ‹(1000 : Int64) = 0› (by decide)
        all_goals first | exact h | exact n0.1 | omega | (simp only [e1, l201, Int32.reduceToInt]; omega) | (show _ < _; simp only [l201]; decide) | skip
      · skip
        have zb : (M.1 201 (Int32.toNatClampNeg 5)).toInt < 9 := by have q := z1; simp only [i_eq, Int32.reduceToInt] at q; omega
        have e1 := r_off (c := 3745) (x := M.1 201 (Int32.toNatClampNeg 5)) ⟨by decide, by decide⟩ ⟨by omega, by omega⟩
        simp only [Int32.reduceToInt] at e1
        have e : r_tell M v = ((fun M1 : am_M => (fun M2 : am_M => (M2.1 201 (Int32.toNatClampNeg 5), M2)) (am_wI M1 201 (Int32.toNatClampNeg 5) (M1.1 201 (Int32.toNatClampNeg 5) + 1))) (am_wI M 201 (3745 + M.1 201 (Int32.toNatClampNeg 5)).toNatClampNeg v)) := by unfold r_tell; rw [if_pos z0, if_neg z1]
        rw [e] at h
        repeat' (first | (with_reducible exact hmn) | (with_reducible exact n030) | (with_reducible exact n1) | apply And.intro | exact rfl | (intro hx; with_reducible exact absurd hx q0) | (intro hx; with_reducible exact absurd hx z1) | (intro hx; exact absurd hx (by decide)) | (intro hx; exact absurd (by decide) hx) | decide | intro hx | (refine Exists.intro _ (And.intro rfl ?_)))
        all_goals try first | (with_reducible change am_tI _ _) | (change Ret _ _) | (change Ret _ _ _) | (change Exists _)
        all_goals try dsimp only at *
        all_goals try exact absurd ‹(1000 : Int64) = 0› (by decide)
        all_goals first | exact h | exact n0.1 | omega | (simp only [e1, l201, Int32.reduceToInt]; omega) | (show _ < _; simp only [l201]; decide) | skip
  · exact h.elim
theorem dX8_untell_0 : decode cX8_untell 0 = .ok (.aload_n 0, 1) := by decide +kernel
theorem dX8_untell_1 : decode cX8_untell 1 = .ok (.getfield 7, 3) := by decide +kernel
theorem dX8_untell_4 : decode cX8_untell 4 = .ok (.iconst 5, 1) := by decide +kernel
theorem dX8_untell_5 : decode cX8_untell 5 = .ok (.iaload, 1) := by decide +kernel
theorem dX8_untell_6 : decode cX8_untell 6 = .ok (.istore_n 1, 1) := by decide +kernel
theorem dX8_untell_7 : decode cX8_untell 7 = .ok (.aload_n 0, 1) := by decide +kernel
theorem dX8_untell_8 : decode cX8_untell 8 = .ok (.getfield 7, 3) := by decide +kernel
theorem dX8_untell_11 : decode cX8_untell 11 = .ok (.iconst 5, 1) := by decide +kernel
theorem dX8_untell_12 : decode cX8_untell 12 = .ok (.iconst 0, 1) := by decide +kernel
theorem dX8_untell_13 : decode cX8_untell 13 = .ok (.iastore, 1) := by decide +kernel
theorem dX8_untell_14 : decode cX8_untell 14 = .ok (.iload_n 1, 1) := by decide +kernel
theorem dX8_untell_15 : decode cX8_untell 15 = .ok (.ireturn, 1) := by decide +kernel
def kX8_untell (live : am_E) (Ret : am_R) : am_code := [(0, am_aload 0 1), (1, am_getR live 8 0 4), (4, am_const (.int 5) 5), (5, am_ald live 0 6), (6, am_istore 1 2 7), (7, am_aload 0 8), (8, am_getR live 8 0 11), (11, am_const (.int 5) 12), (12, am_const (.int 0) 13), (13, am_ast live 0 14), (14, am_iload 1 15), (15, am_retI Ret)]
theorem koX8_untell (live : am_E) (Ret : am_R) : ∀ q ∈ kX8_untell live Ret, am_ok RX8 cX8_untell 2 (some .int) 0 0 live Ret q.1 q.2 :=
  am_kc (ak_aload_n dX8_untell_0 rfl rfl) <|
  am_kc (ak_getR (C := RX8) (T := TX8) (N := 27) rfl inX8w (by decide) rfl rfl rfl wd_895 dX8_untell_1 rfl) <|
  am_kc (ak_iconst dX8_untell_4 (by decide +kernel) rfl) <|
  am_kc (ak_iald (t := 0) (fun _ => rfl) rfl dX8_untell_5 rfl) <|
  am_kc (ak_istore_n dX8_untell_6 rfl rfl) <|
  am_kc (ak_aload_n dX8_untell_7 rfl rfl) <|
  am_kc (ak_getR (C := RX8) (T := TX8) (N := 27) rfl inX8w (by decide) rfl rfl rfl wd_895 dX8_untell_8 rfl) <|
  am_kc (ak_iconst dX8_untell_11 (by decide +kernel) rfl) <|
  am_kc (ak_iconst dX8_untell_12 (by decide +kernel) rfl) <|
  am_kc (ak_iast (t := 0) (fun _ => rfl) rfl dX8_untell_13 rfl) <|
  am_kc (ak_iload_n dX8_untell_14 rfl rfl) <|
  am_kc (ak_retI dX8_untell_15) <| am_kn
def r_untell (M : am_M) : Int32 × am_M := (M.1 201 (Int32.toNatClampNeg 5), am_wI M 201 (Int32.toNatClampNeg 5) 0)
def TX8_untell : am_T := fun live as M R => match as with
  | [.ref n] => am_mn live ∧ n = 200 ∧ r_I M ∧ R (some (.int (r_untell M).1)) (r_untell M).2
  | _ => False
set_option maxRecDepth 100000 in
set_option maxHeartbeats 4000000 in
theorem metX8_untell : am_Met yX8_untell cX8_untell 2 (some .int) (0) (0) TX8_untell := by
  refine am_met (own := RX8) (by decide +kernel) rfl kX8_untell koX8_untell 200 (fun _ _ _ _ _ => none) (fun live as M Ret h => ?_) (fun _ _ _ _ _ _ _ _ hI => by cases hI)
  unfold TX8_untell at h
  split at h
  · next n =>
    refine ⟨Nat.le_of_ble_eq_true rfl, ?_⟩
    change am_wp _ _ _ _ [(0, Value.ref n)] _ _
    obtain ⟨hmn, rfl, hR, h⟩ := h
    have hmn2 := hmn
    obtain ⟨i1, i2, rfl⟩ := hmn2
    have l201 : am_len 201 = 3760 := rfl
    have n0 := hR.n0
    have n1 := hR.n1
    have n030 : 0 ≤ (M.1 201 0).toInt ∧ (M.1 201 0).toInt ≤ 30 := ⟨n0.1, by omega⟩
    have e : r_untell M = (M.1 201 (Int32.toNatClampNeg 5), am_wI M 201 (Int32.toNatClampNeg 5) 0) := by rfl
    rw [e] at h
    repeat' (first | (with_reducible exact hmn) | (with_reducible exact n030) | (with_reducible exact n1) | apply And.intro | exact rfl | (intro hx; exact absurd hx (by decide)) | (intro hx; exact absurd (by decide) hx) | decide | intro hx | (refine Exists.intro _ (And.intro rfl ?_)))
    all_goals try first | (with_reducible change am_tI _ _) | (change Ret _ _) | (change Ret _ _ _) | (change Exists _)
    all_goals try dsimp only at *
    all_goals try exact absurd ‹(1000 : Int64) = 0› (by decide)
    all_goals first | exact h | exact n0.1 | omega | (show _ < _; simp only [l201]; decide) | skip
  · exact h.elim
set_option maxRecDepth 100000 in
theorem wd_1093 : Cond.constantLong "LearnLoansModel" 144 127 ∈ am_ws := am_wsi (List.mem_of_getElem? (i := 1093) (by rfl)) (by decide +kernel)
theorem dX8_write_0 : decode cX8_write 0 = .ok (.iload_n 1, 1) := by decide +kernel
theorem dX8_write_1 : decode cX8_write 1 = .ok (.invokestatic 104, 3) := by decide +kernel
theorem dX8_write_4 : decode cX8_write 4 = .ok (.ifCond .eq 15, 3) := by decide +kernel
theorem dX8_write_7 : decode cX8_write 7 = .ok (.iload_n 2, 1) := by decide +kernel
theorem dX8_write_8 : decode cX8_write 8 = .ok (.i2l, 1) := by decide +kernel
theorem dX8_write_9 : decode cX8_write 9 = .ok (.lconst 0, 1) := by decide +kernel
theorem dX8_write_10 : decode cX8_write 10 = .ok (.ldc2_w 144, 3) := by decide +kernel
theorem dX8_write_13 : decode cX8_write 13 = .ok (.invokestatic 66, 3) := by decide +kernel
theorem dX8_write_16 : decode cX8_write 16 = .ok (.ifCond .ne 6, 3) := by decide +kernel
theorem dX8_write_19 : decode cX8_write 19 = .ok (.bipush (-2), 2) := by decide +kernel
theorem dX8_write_21 : decode cX8_write 21 = .ok (.ireturn, 1) := by decide +kernel
theorem dX8_write_22 : decode cX8_write 22 = .ok (.aload_n 0, 1) := by decide +kernel
theorem dX8_write_23 : decode cX8_write 23 = .ok (.getfield 7, 3) := by decide +kernel
theorem dX8_write_26 : decode cX8_write 26 = .ok (.sipush 3508, 3) := by decide +kernel
theorem dX8_write_29 : decode cX8_write 29 = .ok (.iload_n 1, 1) := by decide +kernel
theorem dX8_write_30 : decode cX8_write 30 = .ok (.iadd, 1) := by decide +kernel
theorem dX8_write_31 : decode cX8_write 31 = .ok (.iaload, 1) := by decide +kernel
theorem dX8_write_32 : decode cX8_write 32 = .ok (.istore_n 3, 1) := by decide +kernel
theorem dX8_write_33 : decode cX8_write 33 = .ok (.iload_n 3, 1) := by decide +kernel
theorem dX8_write_34 : decode cX8_write 34 = .ok (.bipush 50, 2) := by decide +kernel
theorem dX8_write_36 : decode cX8_write 36 = .ok (.if_icmp .ne 6, 3) := by decide +kernel
theorem dX8_write_39 : decode cX8_write 39 = .ok (.bipush (-4), 2) := by decide +kernel
theorem dX8_write_41 : decode cX8_write 41 = .ok (.ireturn, 1) := by decide +kernel
theorem dX8_write_42 : decode cX8_write 42 = .ok (.aload_n 0, 1) := by decide +kernel
theorem dX8_write_43 : decode cX8_write 43 = .ok (.getfield 7, 3) := by decide +kernel
theorem dX8_write_46 : decode cX8_write 46 = .ok (.sipush 3258, 3) := by decide +kernel
theorem dX8_write_49 : decode cX8_write 49 = .ok (.bipush 50, 2) := by decide +kernel
theorem dX8_write_51 : decode cX8_write 51 = .ok (.iload_n 1, 1) := by decide +kernel
theorem dX8_write_52 : decode cX8_write 52 = .ok (.imul, 1) := by decide +kernel
theorem dX8_write_53 : decode cX8_write 53 = .ok (.iadd, 1) := by decide +kernel
theorem dX8_write_54 : decode cX8_write 54 = .ok (.iload_n 3, 1) := by decide +kernel
theorem dX8_write_55 : decode cX8_write 55 = .ok (.iadd, 1) := by decide +kernel
theorem dX8_write_56 : decode cX8_write 56 = .ok (.iload_n 2, 1) := by decide +kernel
theorem dX8_write_57 : decode cX8_write 57 = .ok (.iastore, 1) := by decide +kernel
theorem dX8_write_58 : decode cX8_write 58 = .ok (.aload_n 0, 1) := by decide +kernel
theorem dX8_write_59 : decode cX8_write 59 = .ok (.getfield 7, 3) := by decide +kernel
theorem dX8_write_62 : decode cX8_write 62 = .ok (.sipush 3508, 3) := by decide +kernel
theorem dX8_write_65 : decode cX8_write 65 = .ok (.iload_n 1, 1) := by decide +kernel
theorem dX8_write_66 : decode cX8_write 66 = .ok (.iadd, 1) := by decide +kernel
theorem dX8_write_67 : decode cX8_write 67 = .ok (.dup2, 1) := by decide +kernel
theorem dX8_write_68 : decode cX8_write 68 = .ok (.iaload, 1) := by decide +kernel
theorem dX8_write_69 : decode cX8_write 69 = .ok (.iconst 1, 1) := by decide +kernel
theorem dX8_write_70 : decode cX8_write 70 = .ok (.iadd, 1) := by decide +kernel
theorem dX8_write_71 : decode cX8_write 71 = .ok (.iastore, 1) := by decide +kernel
theorem dX8_write_72 : decode cX8_write 72 = .ok (.iload_n 3, 1) := by decide +kernel
theorem dX8_write_73 : decode cX8_write 73 = .ok (.iconst 1, 1) := by decide +kernel
theorem dX8_write_74 : decode cX8_write 74 = .ok (.iadd, 1) := by decide +kernel
theorem dX8_write_75 : decode cX8_write 75 = .ok (.ireturn, 1) := by decide +kernel
def kX8_write (live : am_E) (Ret : am_R) : am_code := [(0, am_iload 1 1), (1, am_callS live 1 TX8_isPlan 4), (4, am_if1 (fun x => x = 0) 19 7), (7, am_iload 2 8), (8, am_i2l 9), (9, am_const (.long 0) 10), (10, am_const (.long 127) 13), (13, am_callS live 3 TX8_in 16), (16, am_if1 (fun x => x = 0) 19 22), (19, am_const (.int (-2)) 21), (21, am_retI Ret), (22, am_aload 0 23), (23, am_getR live 8 0 26), (26, am_const (.int 3508) 29), (29, am_iload 1 30), (30, am_i2 (fun x y => x + y) 31), (31, am_ald live 0 32), (32, am_istore 3 4 33), (33, am_iload 3 34), (34, am_const (.int 50) 36), (36, am_if2 (fun x y => x = y) 39 42), (39, am_const (.int (-4)) 41), (41, am_retI Ret), (42, am_aload 0 43), (43, am_getR live 8 0 46), (46, am_const (.int 3258) 49), (49, am_const (.int 50) 51), (51, am_iload 1 52), (52, am_i2 (fun x y => x * y) 53), (53, am_i2 (fun x y => x + y) 54), (54, am_iload 3 55), (55, am_i2 (fun x y => x + y) 56), (56, am_iload 2 57), (57, am_ast live 0 58), (58, am_aload 0 59), (59, am_getR live 8 0 62), (62, am_const (.int 3508) 65), (65, am_iload 1 66), (66, am_i2 (fun x y => x + y) 67), (67, am_dup2 68), (68, am_ald live 0 69), (69, am_const (.int 1) 70), (70, am_i2 (fun x y => x + y) 71), (71, am_ast live 0 72), (72, am_iload 3 73), (73, am_const (.int 1) 74), (74, am_i2 (fun x y => x + y) 75), (75, am_retI Ret)]
theorem koX8_write (live : am_E) (Ret : am_R) : ∀ q ∈ kX8_write live Ret, am_ok RX8 cX8_write 4 (some .int) 2 45 live Ret q.1 q.2 :=
  am_kc (ak_iload_n dX8_write_0 rfl rfl) <|
  am_kc (ak_callS metX8_isPlan ⟨rfl, by decide +kernel, by decide +kernel, by decide +kernel⟩ (am_w4 wd_1034 wd_1035 wd_67 wd_1036) (by decide) dX8_write_1 rfl) <|
  am_kc (ak_if_eq dX8_write_4 (by decide +kernel) rfl) <|
  am_kc (ak_iload_n dX8_write_7 rfl rfl) <|
  am_kc (ak_i2l dX8_write_8 rfl) <|
  am_kc (ak_lconst dX8_write_9 (by decide +kernel) rfl) <|
  am_kc (ak_ldc2 wd_1093 dX8_write_10 rfl) <|
  am_kc (ak_callS metX8_in ⟨rfl, by decide +kernel, by decide +kernel, by decide +kernel⟩ (am_w4 wd_986 wd_987 wd_67 wd_988) (by decide) dX8_write_13 rfl) <|
  am_kc (ak_if_ne dX8_write_16 (by decide +kernel) rfl) <|
  am_kc (ak_bipush dX8_write_19 (by decide +kernel) rfl) <|
  am_kc (ak_retI dX8_write_21) <|
  am_kc (ak_aload_n dX8_write_22 rfl rfl) <|
  am_kc (ak_getR (C := RX8) (T := TX8) (N := 27) rfl inX8w (by decide) rfl rfl rfl wd_895 dX8_write_23 rfl) <|
  am_kc (ak_sipush dX8_write_26 (by decide +kernel) rfl) <|
  am_kc (ak_iload_n dX8_write_29 rfl rfl) <|
  am_kc (ak_iadd dX8_write_30 rfl) <|
  am_kc (ak_iald (t := 0) (fun _ => rfl) rfl dX8_write_31 rfl) <|
  am_kc (ak_istore_n dX8_write_32 rfl rfl) <|
  am_kc (ak_iload_n dX8_write_33 rfl rfl) <|
  am_kc (ak_bipush dX8_write_34 (by decide +kernel) rfl) <|
  am_kc (ak_icmp_ne dX8_write_36 (by decide +kernel) rfl) <|
  am_kc (ak_bipush dX8_write_39 (by decide +kernel) rfl) <|
  am_kc (ak_retI dX8_write_41) <|
  am_kc (ak_aload_n dX8_write_42 rfl rfl) <|
  am_kc (ak_getR (C := RX8) (T := TX8) (N := 27) rfl inX8w (by decide) rfl rfl rfl wd_895 dX8_write_43 rfl) <|
  am_kc (ak_sipush dX8_write_46 (by decide +kernel) rfl) <|
  am_kc (ak_bipush dX8_write_49 (by decide +kernel) rfl) <|
  am_kc (ak_iload_n dX8_write_51 rfl rfl) <|
  am_kc (ak_imul dX8_write_52 rfl) <|
  am_kc (ak_iadd dX8_write_53 rfl) <|
  am_kc (ak_iload_n dX8_write_54 rfl rfl) <|
  am_kc (ak_iadd dX8_write_55 rfl) <|
  am_kc (ak_iload_n dX8_write_56 rfl rfl) <|
  am_kc (ak_iast (t := 0) (fun _ => rfl) rfl dX8_write_57 rfl) <|
  am_kc (ak_aload_n dX8_write_58 rfl rfl) <|
  am_kc (ak_getR (C := RX8) (T := TX8) (N := 27) rfl inX8w (by decide) rfl rfl rfl wd_895 dX8_write_59 rfl) <|
  am_kc (ak_sipush dX8_write_62 (by decide +kernel) rfl) <|
  am_kc (ak_iload_n dX8_write_65 rfl rfl) <|
  am_kc (ak_iadd dX8_write_66 rfl) <|
  am_kc (ak_dup2 dX8_write_67 rfl) <|
  am_kc (ak_iald (t := 0) (fun _ => rfl) rfl dX8_write_68 rfl) <|
  am_kc (ak_iconst dX8_write_69 (by decide +kernel) rfl) <|
  am_kc (ak_iadd dX8_write_70 rfl) <|
  am_kc (ak_iast (t := 0) (fun _ => rfl) rfl dX8_write_71 rfl) <|
  am_kc (ak_iload_n dX8_write_72 rfl rfl) <|
  am_kc (ak_iconst dX8_write_73 (by decide +kernel) rfl) <|
  am_kc (ak_iadd dX8_write_74 rfl) <|
  am_kc (ak_retI dX8_write_75) <| am_kn
def r_write (M : am_M) (pl g : Int32) : Int32 × am_M := if 0 ≤ pl ∧ pl < 5 then (if 0 ≤ g ∧ g ≤ 127 then (if M.1 201 (3508 + pl).toNatClampNeg = 50 then ((-4 : Int32), M) else ((fun M1 : am_M => (M.1 201 (3508 + pl).toNatClampNeg + 1, am_wI M1 201 (3508 + pl).toNatClampNeg (M1.1 201 (3508 + pl).toNatClampNeg + 1))) (am_wI M 201 (3258 + 50 * pl + M.1 201 (3508 + pl).toNatClampNeg).toNatClampNeg g))) else ((-2 : Int32), M)) else ((-2 : Int32), M)
def TX8_write : am_T := fun live as M R => match as with
  | [.ref n, .int pl, .int g] => am_mn live ∧ n = 200 ∧ r_I M ∧ R (some (.int (r_write M pl g).1)) (r_write M pl g).2
  | _ => False
set_option maxRecDepth 100000 in
set_option maxHeartbeats 4000000 in
theorem metX8_write : am_Met yX8_write cX8_write 4 (some .int) (2) (45) TX8_write := by
  refine am_met (own := RX8) (by decide +kernel) rfl kX8_write koX8_write 200 (fun _ _ _ _ _ => none) (fun live as M Ret h => ?_) (fun _ _ _ _ _ _ _ _ hI => by cases hI)
  unfold TX8_write at h
  split at h
  · next n pl g =>
    refine ⟨Nat.le_of_ble_eq_true rfl, ?_⟩
    change am_wp _ _ _ _ [(0, Value.ref n), (1, Value.int pl), (2, Value.int g)] _ _
    obtain ⟨hmn, rfl, hR, h⟩ := h
    have hmn2 := hmn
    obtain ⟨i1, i2, rfl⟩ := hmn2
    have l201 : am_len 201 = 3760 := rfl
    have n0 := hR.n0
    have n1 := hR.n1
    have n030 : 0 ≤ (M.1 201 0).toInt ∧ (M.1 201 0).toInt ≤ 30 := ⟨n0.1, by omega⟩
    by_cases z0 : 0 ≤ pl ∧ pl < 5
    rotate_left
    · skip
      have q0 : (if 0 ≤ pl ∧ pl < 5 then (1 : Int32) else 0) = 0 := if_neg z0
      have e : r_write M pl g = ((-2 : Int32), M) := by unfold r_write; rw [if_neg z0]
      rw [e] at h
      repeat' (first | (with_reducible exact hmn) | (with_reducible exact h) | (with_reducible exact n030) | (with_reducible exact n1) | apply And.intro | exact rfl | (intro hx; with_reducible exact absurd q0 hx) | (intro hx; exact absurd hx (by decide)) | (intro hx; exact absurd (by decide) hx) | decide | intro hx | (refine Exists.intro _ (And.intro rfl ?_)))
      all_goals try first | (with_reducible change am_tI _ _) | (change Ret _ _) | (change Ret _ _ _) | (change Exists _)
      all_goals try dsimp only at *
      all_goals try exact absurd ‹(1000 : Int64) = 0› (by decide)
      all_goals first | exact h | exact n0.1 | omega | (simp only [e1, l201, Int32.reduceToInt]; omega) | (simp only [ec, l201]; omega) | (show _ < _; simp only [l201]; decide) | skip
    · skip
      have q0 : ¬ ((if 0 ≤ pl ∧ pl < 5 then (1 : Int32) else 0) = 0) := by rw [if_pos z0]; decide
      by_cases z1 : 0 ≤ g ∧ g ≤ 127
      rotate_left
      · skip
        have q1 : (if (0 : Int64) ≤ g.toInt64 ∧ g.toInt64 ≤ (127 : Int64) then (1 : Int32) else 0) = 0 := if_neg (fun r => z1 (by simp only [i_le, i_lt, j_le, Int32.toInt_toInt64, Int32.reduceToInt, Int64.reduceToInt] at r ⊢; omega))
        have e : r_write M pl g = ((-2 : Int32), M) := by unfold r_write; rw [if_pos z0, if_neg z1]
        rw [e] at h
        repeat' (first | (with_reducible exact hmn) | (with_reducible exact h) | (with_reducible exact n030) | (with_reducible exact n1) | apply And.intro | exact rfl | (intro hx; with_reducible exact absurd hx q0) | (intro hx; with_reducible exact absurd q1 hx) | (intro hx; exact absurd hx (by decide)) | (intro hx; exact absurd (by decide) hx) | decide | intro hx | (refine Exists.intro _ (And.intro rfl ?_)))
        all_goals try first | (with_reducible change am_tI _ _) | (change Ret _ _) | (change Ret _ _ _) | (change Exists _)
        all_goals try dsimp only at *
        all_goals try exact absurd ‹(1000 : Int64) = 0› (by decide)
        all_goals first | exact h | exact n0.1 | omega | (simp only [e1, l201, Int32.reduceToInt]; omega) | (simp only [ec, l201]; omega) | (show _ < _; simp only [l201]; decide) | skip
      · skip
        have q1 : ¬ ((if (0 : Int64) ≤ g.toInt64 ∧ g.toInt64 ≤ (127 : Int64) then (1 : Int32) else 0) = 0) := by rw [if_pos (by have q := z1; simp only [i_le, i_lt, j_le, Int32.toInt_toInt64, Int32.reduceToInt, Int64.reduceToInt] at q ⊢; omega)]; decide
        have hpl : am_in pl 5 := ⟨by have q := z0.1; simp only [i_le, Int32.reduceToInt] at q; omega, by have q := z0.2; simp only [i_lt, Int32.reduceToInt] at q; omega⟩
        have hpl1 := hpl.1
        have hpl2 := hpl.2
        have e1 := r_off (c := 3508) (x := pl) ⟨by decide, by decide⟩ ⟨by omega, by omega⟩
        simp only [Int32.reduceToInt] at e1
        have ntx : 0 ≤ (M.1 201 (3508 + pl).toNatClampNeg).toInt ∧ (M.1 201 (3508 + pl).toNatClampNeg).toInt ≤ 50 := by have q := hR.tx (g_cl hpl); have q2 := i_clamp (x := 3508 + pl) (by omega); have q3 := i_clamp (x := pl) hpl1; rw [show (3508 + pl).toNatClampNeg = 3508 + pl.toNatClampNeg by omega]; exact q
        by_cases z2 : M.1 201 (3508 + pl).toNatClampNeg = 50
        · skip
          have e : r_write M pl g = ((-4 : Int32), M) := by unfold r_write; rw [if_pos z0, if_pos z1, if_pos z2]
          rw [e] at h
          repeat' (first | (with_reducible exact hmn) | (with_reducible exact h) | (with_reducible exact n030) | (with_reducible exact n1) | apply And.intro | exact rfl | (intro hx; with_reducible exact absurd hx q0) | (intro hx; with_reducible exact absurd hx q1) | (intro hx; with_reducible exact absurd z2 hx) | (intro hx; exact absurd hx (by decide)) | (intro hx; exact absurd (by decide) hx) | decide | intro hx | (refine Exists.intro _ (And.intro rfl ?_)))
          all_goals try first | (with_reducible change am_tI _ _) | (change Ret _ _) | (change Ret _ _ _) | (change Exists _)
          all_goals try dsimp only at *
          all_goals try exact absurd ‹(1000 : Int64) = 0› (by decide)
          all_goals first | exact h | exact n0.1 | omega | (simp only [e1, l201, Int32.reduceToInt]; omega) | (simp only [ec, l201]; omega) | (show _ < _; simp only [l201]; decide) | skip
        · skip
          have e50 := r_mul (c := 50) (x := pl) ⟨by decide, by decide⟩ ⟨by omega, by omega⟩
          simp only [Int32.reduceToInt] at e50
          have eb := r_off (c := 3258) (x := 50 * pl) ⟨by decide, by decide⟩ ⟨by omega, by omega⟩
          simp only [e50, Int32.reduceToInt] at eb
          have zb : (M.1 201 (3508 + pl).toNatClampNeg).toInt < 50 := by have q := z2; simp only [i_eq, Int32.reduceToInt] at q; omega
          have ec := r_off (c := 3258 + 50 * pl) (x := M.1 201 (3508 + pl).toNatClampNeg) ⟨by omega, by omega⟩ ⟨by omega, by omega⟩
          rw [eb] at ec
          have e : r_write M pl g = ((fun M1 : am_M => (M.1 201 (3508 + pl).toNatClampNeg + 1, am_wI M1 201 (3508 + pl).toNatClampNeg (M1.1 201 (3508 + pl).toNatClampNeg + 1))) (am_wI M 201 (3258 + 50 * pl + M.1 201 (3508 + pl).toNatClampNeg).toNatClampNeg g)) := by unfold r_write; rw [if_pos z0, if_pos z1, if_neg z2]
          rw [e] at h
          repeat' (first | (with_reducible exact hmn) | (with_reducible exact n030) | (with_reducible exact n1) | apply And.intro | exact rfl | (intro hx; with_reducible exact absurd hx q0) | (intro hx; with_reducible exact absurd hx q1) | (intro hx; with_reducible exact absurd hx z2) | (intro hx; exact absurd hx (by decide)) | (intro hx; exact absurd (by decide) hx) | decide | intro hx | (refine Exists.intro _ (And.intro rfl ?_)))
          all_goals try first | (with_reducible change am_tI _ _) | (change Ret _ _) | (change Ret _ _ _) | (change Exists _)
          all_goals try dsimp only at *
          all_goals try exact absurd ‹(1000 : Int64) = 0› (by decide)
          all_goals first | exact h | exact n0.1 | omega | (simp only [e1, l201, Int32.reduceToInt]; omega) | (simp only [ec, l201]; omega) | (show _ < _; simp only [l201]; decide) | skip
  · exact h.elim
theorem dX8_erase_0 : decode cX8_erase 0 = .ok (.iload_n 1, 1) := by decide +kernel
theorem dX8_erase_1 : decode cX8_erase 1 = .ok (.invokestatic 104, 3) := by decide +kernel
theorem dX8_erase_4 : decode cX8_erase 4 = .ok (.ifCond .ne 6, 3) := by decide +kernel
theorem dX8_erase_7 : decode cX8_erase 7 = .ok (.bipush (-2), 2) := by decide +kernel
theorem dX8_erase_9 : decode cX8_erase 9 = .ok (.ireturn, 1) := by decide +kernel
theorem dX8_erase_10 : decode cX8_erase 10 = .ok (.aload_n 0, 1) := by decide +kernel
theorem dX8_erase_11 : decode cX8_erase 11 = .ok (.getfield 7, 3) := by decide +kernel
theorem dX8_erase_14 : decode cX8_erase 14 = .ok (.sipush 3508, 3) := by decide +kernel
theorem dX8_erase_17 : decode cX8_erase 17 = .ok (.iload_n 1, 1) := by decide +kernel
theorem dX8_erase_18 : decode cX8_erase 18 = .ok (.iadd, 1) := by decide +kernel
theorem dX8_erase_19 : decode cX8_erase 19 = .ok (.iaload, 1) := by decide +kernel
theorem dX8_erase_20 : decode cX8_erase 20 = .ok (.istore_n 2, 1) := by decide +kernel
theorem dX8_erase_21 : decode cX8_erase 21 = .ok (.aload_n 0, 1) := by decide +kernel
theorem dX8_erase_22 : decode cX8_erase 22 = .ok (.getfield 7, 3) := by decide +kernel
theorem dX8_erase_25 : decode cX8_erase 25 = .ok (.sipush 3508, 3) := by decide +kernel
theorem dX8_erase_28 : decode cX8_erase 28 = .ok (.iload_n 1, 1) := by decide +kernel
theorem dX8_erase_29 : decode cX8_erase 29 = .ok (.iadd, 1) := by decide +kernel
theorem dX8_erase_30 : decode cX8_erase 30 = .ok (.iconst 0, 1) := by decide +kernel
theorem dX8_erase_31 : decode cX8_erase 31 = .ok (.iastore, 1) := by decide +kernel
theorem dX8_erase_32 : decode cX8_erase 32 = .ok (.iload_n 2, 1) := by decide +kernel
theorem dX8_erase_33 : decode cX8_erase 33 = .ok (.ireturn, 1) := by decide +kernel
def kX8_erase (live : am_E) (Ret : am_R) : am_code := [(0, am_iload 1 1), (1, am_callS live 1 TX8_isPlan 4), (4, am_if1 (fun x => x = 0) 7 10), (7, am_const (.int (-2)) 9), (9, am_retI Ret), (10, am_aload 0 11), (11, am_getR live 8 0 14), (14, am_const (.int 3508) 17), (17, am_iload 1 18), (18, am_i2 (fun x y => x + y) 19), (19, am_ald live 0 20), (20, am_istore 2 3 21), (21, am_aload 0 22), (22, am_getR live 8 0 25), (25, am_const (.int 3508) 28), (28, am_iload 1 29), (29, am_i2 (fun x y => x + y) 30), (30, am_const (.int 0) 31), (31, am_ast live 0 32), (32, am_iload 2 33), (33, am_retI Ret)]
theorem koX8_erase (live : am_E) (Ret : am_R) : ∀ q ∈ kX8_erase live Ret, am_ok RX8 cX8_erase 3 (some .int) 2 45 live Ret q.1 q.2 :=
  am_kc (ak_iload_n dX8_erase_0 rfl rfl) <|
  am_kc (ak_callS metX8_isPlan ⟨rfl, by decide +kernel, by decide +kernel, by decide +kernel⟩ (am_w4 wd_1034 wd_1035 wd_67 wd_1036) (by decide) dX8_erase_1 rfl) <|
  am_kc (ak_if_ne dX8_erase_4 (by decide +kernel) rfl) <|
  am_kc (ak_bipush dX8_erase_7 (by decide +kernel) rfl) <|
  am_kc (ak_retI dX8_erase_9) <|
  am_kc (ak_aload_n dX8_erase_10 rfl rfl) <|
  am_kc (ak_getR (C := RX8) (T := TX8) (N := 27) rfl inX8w (by decide) rfl rfl rfl wd_895 dX8_erase_11 rfl) <|
  am_kc (ak_sipush dX8_erase_14 (by decide +kernel) rfl) <|
  am_kc (ak_iload_n dX8_erase_17 rfl rfl) <|
  am_kc (ak_iadd dX8_erase_18 rfl) <|
  am_kc (ak_iald (t := 0) (fun _ => rfl) rfl dX8_erase_19 rfl) <|
  am_kc (ak_istore_n dX8_erase_20 rfl rfl) <|
  am_kc (ak_aload_n dX8_erase_21 rfl rfl) <|
  am_kc (ak_getR (C := RX8) (T := TX8) (N := 27) rfl inX8w (by decide) rfl rfl rfl wd_895 dX8_erase_22 rfl) <|
  am_kc (ak_sipush dX8_erase_25 (by decide +kernel) rfl) <|
  am_kc (ak_iload_n dX8_erase_28 rfl rfl) <|
  am_kc (ak_iadd dX8_erase_29 rfl) <|
  am_kc (ak_iconst dX8_erase_30 (by decide +kernel) rfl) <|
  am_kc (ak_iast (t := 0) (fun _ => rfl) rfl dX8_erase_31 rfl) <|
  am_kc (ak_iload_n dX8_erase_32 rfl rfl) <|
  am_kc (ak_retI dX8_erase_33) <| am_kn
def r_erase (M : am_M) (pl : Int32) : Int32 × am_M := if 0 ≤ pl ∧ pl < 5 then (M.1 201 (3508 + pl).toNatClampNeg, am_wI M 201 (3508 + pl).toNatClampNeg 0) else ((-2 : Int32), M)
def TX8_erase : am_T := fun live as M R => match as with
  | [.ref n, .int pl] => am_mn live ∧ n = 200 ∧ r_I M ∧ R (some (.int (r_erase M pl).1)) (r_erase M pl).2
  | _ => False
set_option maxRecDepth 100000 in
set_option maxHeartbeats 4000000 in
theorem metX8_erase : am_Met yX8_erase cX8_erase 3 (some .int) (2) (45) TX8_erase := by
  refine am_met (own := RX8) (by decide +kernel) rfl kX8_erase koX8_erase 200 (fun _ _ _ _ _ => none) (fun live as M Ret h => ?_) (fun _ _ _ _ _ _ _ _ hI => by cases hI)
  unfold TX8_erase at h
  split at h
  · next n pl =>
    refine ⟨Nat.le_of_ble_eq_true rfl, ?_⟩
    change am_wp _ _ _ _ [(0, Value.ref n), (1, Value.int pl)] _ _
    obtain ⟨hmn, rfl, hR, h⟩ := h
    have hmn2 := hmn
    obtain ⟨i1, i2, rfl⟩ := hmn2
    have l201 : am_len 201 = 3760 := rfl
    have n0 := hR.n0
    have n1 := hR.n1
    have n030 : 0 ≤ (M.1 201 0).toInt ∧ (M.1 201 0).toInt ≤ 30 := ⟨n0.1, by omega⟩
    by_cases z0 : 0 ≤ pl ∧ pl < 5
    rotate_left
    · skip
      have q0 : (if 0 ≤ pl ∧ pl < 5 then (1 : Int32) else 0) = 0 := if_neg z0
      have e : r_erase M pl = ((-2 : Int32), M) := by unfold r_erase; rw [if_neg z0]
      rw [e] at h
      repeat' (first | (with_reducible exact hmn) | (with_reducible exact h) | (with_reducible exact n030) | (with_reducible exact n1) | apply And.intro | exact rfl | (intro hx; with_reducible exact absurd q0 hx) | (intro hx; exact absurd hx (by decide)) | (intro hx; exact absurd (by decide) hx) | decide | intro hx | (refine Exists.intro _ (And.intro rfl ?_)))
      all_goals try first | (with_reducible change am_tI _ _) | (change Ret _ _) | (change Ret _ _ _) | (change Exists _)
      all_goals try dsimp only at *
      all_goals try exact absurd ‹(1000 : Int64) = 0› (by decide)
      all_goals first | exact h | exact n0.1 | omega | (simp only [e1, l201, Int32.reduceToInt]; omega) | (show _ < _; simp only [l201]; decide) | skip
    · skip
      have q0 : ¬ ((if 0 ≤ pl ∧ pl < 5 then (1 : Int32) else 0) = 0) := by rw [if_pos z0]; decide
      have hpl : am_in pl 5 := ⟨by have q := z0.1; simp only [i_le, Int32.reduceToInt] at q; omega, by have q := z0.2; simp only [i_lt, Int32.reduceToInt] at q; omega⟩
      have hpl1 := hpl.1
      have hpl2 := hpl.2
      have e1 := r_off (c := 3508) (x := pl) ⟨by decide, by decide⟩ ⟨by omega, by omega⟩
      simp only [Int32.reduceToInt] at e1
      have e : r_erase M pl = (M.1 201 (3508 + pl).toNatClampNeg, am_wI M 201 (3508 + pl).toNatClampNeg 0) := by unfold r_erase; rw [if_pos z0]
      rw [e] at h
      repeat' (first | (with_reducible exact hmn) | (with_reducible exact n030) | (with_reducible exact n1) | apply And.intro | exact rfl | (intro hx; with_reducible exact absurd hx q0) | (intro hx; exact absurd hx (by decide)) | (intro hx; exact absurd (by decide) hx) | decide | intro hx | (refine Exists.intro _ (And.intro rfl ?_)))
      all_goals try first | (with_reducible change am_tI _ _) | (change Ret _ _) | (change Ret _ _ _) | (change Exists _)
      all_goals try dsimp only at *
      all_goals try exact absurd ‹(1000 : Int64) = 0› (by decide)
      all_goals first | exact h | exact n0.1 | omega | (simp only [e1, l201, Int32.reduceToInt]; omega) | (show _ < _; simp only [l201]; decide) | skip
  · exact h.elim
set_option maxRecDepth 100000 in
theorem wd_1244 : Cond.constantLong "LearnLoansModel" 257 2 ∈ am_ws := am_wsi (List.mem_of_getElem? (i := 1244) (by rfl)) (by decide +kernel)
set_option maxRecDepth 100000 in
theorem wd_1108 : Cond.constantLong "LearnLoansModel" 188 10 ∈ am_ws := am_wsi (List.mem_of_getElem? (i := 1108) (by rfl)) (by decide +kernel)
theorem dX8_chances_0 : decode cX8_chances 0 = .ok (.iload_n 1, 1) := by decide +kernel
theorem dX8_chances_1 : decode cX8_chances 1 = .ok (.i2l, 1) := by decide +kernel
theorem dX8_chances_2 : decode cX8_chances 2 = .ok (.lconst 0, 1) := by decide +kernel
theorem dX8_chances_3 : decode cX8_chances 3 = .ok (.ldc2_w 257, 3) := by decide +kernel
theorem dX8_chances_6 : decode cX8_chances 6 = .ok (.invokestatic 66, 3) := by decide +kernel
theorem dX8_chances_9 : decode cX8_chances 9 = .ok (.ifCond .eq 67, 3) := by decide +kernel
theorem dX8_chances_12 : decode cX8_chances 12 = .ok (.iload_n 2, 1) := by decide +kernel
theorem dX8_chances_13 : decode cX8_chances 13 = .ok (.i2l, 1) := by decide +kernel
theorem dX8_chances_14 : decode cX8_chances 14 = .ok (.lconst 0, 1) := by decide +kernel
theorem dX8_chances_15 : decode cX8_chances 15 = .ok (.ldc2_w 188, 3) := by decide +kernel
theorem dX8_chances_18 : decode cX8_chances 18 = .ok (.invokestatic 66, 3) := by decide +kernel
theorem dX8_chances_21 : decode cX8_chances 21 = .ok (.ifCond .eq 55, 3) := by decide +kernel
theorem dX8_chances_24 : decode cX8_chances 24 = .ok (.iload_n 3, 1) := by decide +kernel
theorem dX8_chances_25 : decode cX8_chances 25 = .ok (.i2l, 1) := by decide +kernel
theorem dX8_chances_26 : decode cX8_chances 26 = .ok (.lconst 0, 1) := by decide +kernel
theorem dX8_chances_27 : decode cX8_chances 27 = .ok (.ldc2_w 188, 3) := by decide +kernel
theorem dX8_chances_30 : decode cX8_chances 30 = .ok (.invokestatic 66, 3) := by decide +kernel
theorem dX8_chances_33 : decode cX8_chances 33 = .ok (.ifCond .eq 43, 3) := by decide +kernel
theorem dX8_chances_36 : decode cX8_chances 36 = .ok (.iload 4, 2) := by decide +kernel
theorem dX8_chances_38 : decode cX8_chances 38 = .ok (.i2l, 1) := by decide +kernel
theorem dX8_chances_39 : decode cX8_chances 39 = .ok (.lconst 0, 1) := by decide +kernel
theorem dX8_chances_40 : decode cX8_chances 40 = .ok (.ldc2_w 188, 3) := by decide +kernel
theorem dX8_chances_43 : decode cX8_chances 43 = .ok (.invokestatic 66, 3) := by decide +kernel
theorem dX8_chances_46 : decode cX8_chances 46 = .ok (.ifCond .eq 30, 3) := by decide +kernel
theorem dX8_chances_49 : decode cX8_chances 49 = .ok (.iload 5, 2) := by decide +kernel
theorem dX8_chances_51 : decode cX8_chances 51 = .ok (.i2l, 1) := by decide +kernel
theorem dX8_chances_52 : decode cX8_chances 52 = .ok (.lconst 0, 1) := by decide +kernel
theorem dX8_chances_53 : decode cX8_chances 53 = .ok (.ldc2_w 188, 3) := by decide +kernel
theorem dX8_chances_56 : decode cX8_chances 56 = .ok (.invokestatic 66, 3) := by decide +kernel
theorem dX8_chances_59 : decode cX8_chances 59 = .ok (.ifCond .eq 17, 3) := by decide +kernel
theorem dX8_chances_62 : decode cX8_chances 62 = .ok (.iload_n 2, 1) := by decide +kernel
theorem dX8_chances_63 : decode cX8_chances 63 = .ok (.iload_n 3, 1) := by decide +kernel
theorem dX8_chances_64 : decode cX8_chances 64 = .ok (.iadd, 1) := by decide +kernel
theorem dX8_chances_65 : decode cX8_chances 65 = .ok (.iload 4, 2) := by decide +kernel
theorem dX8_chances_67 : decode cX8_chances 67 = .ok (.iadd, 1) := by decide +kernel
theorem dX8_chances_68 : decode cX8_chances 68 = .ok (.iload 5, 2) := by decide +kernel
theorem dX8_chances_70 : decode cX8_chances 70 = .ok (.iadd, 1) := by decide +kernel
theorem dX8_chances_71 : decode cX8_chances 71 = .ok (.bipush 10, 2) := by decide +kernel
theorem dX8_chances_73 : decode cX8_chances 73 = .ok (.if_icmp .eq 6, 3) := by decide +kernel
theorem dX8_chances_76 : decode cX8_chances 76 = .ok (.bipush (-2), 2) := by decide +kernel
theorem dX8_chances_78 : decode cX8_chances 78 = .ok (.ireturn, 1) := by decide +kernel
theorem dX8_chances_79 : decode cX8_chances 79 = .ok (.aload_n 0, 1) := by decide +kernel
theorem dX8_chances_80 : decode cX8_chances 80 = .ok (.getfield 7, 3) := by decide +kernel
theorem dX8_chances_83 : decode cX8_chances 83 = .ok (.sipush 3733, 3) := by decide +kernel
theorem dX8_chances_86 : decode cX8_chances 86 = .ok (.iconst 4, 1) := by decide +kernel
theorem dX8_chances_87 : decode cX8_chances 87 = .ok (.iload_n 1, 1) := by decide +kernel
theorem dX8_chances_88 : decode cX8_chances 88 = .ok (.imul, 1) := by decide +kernel
theorem dX8_chances_89 : decode cX8_chances 89 = .ok (.iadd, 1) := by decide +kernel
theorem dX8_chances_90 : decode cX8_chances 90 = .ok (.iload_n 2, 1) := by decide +kernel
theorem dX8_chances_91 : decode cX8_chances 91 = .ok (.iastore, 1) := by decide +kernel
theorem dX8_chances_92 : decode cX8_chances 92 = .ok (.aload_n 0, 1) := by decide +kernel
theorem dX8_chances_93 : decode cX8_chances 93 = .ok (.getfield 7, 3) := by decide +kernel
theorem dX8_chances_96 : decode cX8_chances 96 = .ok (.sipush 3733, 3) := by decide +kernel
theorem dX8_chances_99 : decode cX8_chances 99 = .ok (.iconst 4, 1) := by decide +kernel
theorem dX8_chances_100 : decode cX8_chances 100 = .ok (.iload_n 1, 1) := by decide +kernel
theorem dX8_chances_101 : decode cX8_chances 101 = .ok (.imul, 1) := by decide +kernel
theorem dX8_chances_102 : decode cX8_chances 102 = .ok (.iadd, 1) := by decide +kernel
theorem dX8_chances_103 : decode cX8_chances 103 = .ok (.iconst 1, 1) := by decide +kernel
theorem dX8_chances_104 : decode cX8_chances 104 = .ok (.iadd, 1) := by decide +kernel
theorem dX8_chances_105 : decode cX8_chances 105 = .ok (.iload_n 3, 1) := by decide +kernel
theorem dX8_chances_106 : decode cX8_chances 106 = .ok (.iastore, 1) := by decide +kernel
theorem dX8_chances_107 : decode cX8_chances 107 = .ok (.aload_n 0, 1) := by decide +kernel
theorem dX8_chances_108 : decode cX8_chances 108 = .ok (.getfield 7, 3) := by decide +kernel
theorem dX8_chances_111 : decode cX8_chances 111 = .ok (.sipush 3733, 3) := by decide +kernel
theorem dX8_chances_114 : decode cX8_chances 114 = .ok (.iconst 4, 1) := by decide +kernel
theorem dX8_chances_115 : decode cX8_chances 115 = .ok (.iload_n 1, 1) := by decide +kernel
theorem dX8_chances_116 : decode cX8_chances 116 = .ok (.imul, 1) := by decide +kernel
theorem dX8_chances_117 : decode cX8_chances 117 = .ok (.iadd, 1) := by decide +kernel
theorem dX8_chances_118 : decode cX8_chances 118 = .ok (.iconst 2, 1) := by decide +kernel
theorem dX8_chances_119 : decode cX8_chances 119 = .ok (.iadd, 1) := by decide +kernel
theorem dX8_chances_120 : decode cX8_chances 120 = .ok (.iload 4, 2) := by decide +kernel
theorem dX8_chances_122 : decode cX8_chances 122 = .ok (.iastore, 1) := by decide +kernel
theorem dX8_chances_123 : decode cX8_chances 123 = .ok (.aload_n 0, 1) := by decide +kernel
theorem dX8_chances_124 : decode cX8_chances 124 = .ok (.getfield 7, 3) := by decide +kernel
theorem dX8_chances_127 : decode cX8_chances 127 = .ok (.sipush 3733, 3) := by decide +kernel
theorem dX8_chances_130 : decode cX8_chances 130 = .ok (.iconst 4, 1) := by decide +kernel
theorem dX8_chances_131 : decode cX8_chances 131 = .ok (.iload_n 1, 1) := by decide +kernel
theorem dX8_chances_132 : decode cX8_chances 132 = .ok (.imul, 1) := by decide +kernel
theorem dX8_chances_133 : decode cX8_chances 133 = .ok (.iadd, 1) := by decide +kernel
theorem dX8_chances_134 : decode cX8_chances 134 = .ok (.iconst 3, 1) := by decide +kernel
theorem dX8_chances_135 : decode cX8_chances 135 = .ok (.iadd, 1) := by decide +kernel
theorem dX8_chances_136 : decode cX8_chances 136 = .ok (.iload 5, 2) := by decide +kernel
theorem dX8_chances_138 : decode cX8_chances 138 = .ok (.iastore, 1) := by decide +kernel
theorem dX8_chances_139 : decode cX8_chances 139 = .ok (.iconst 1, 1) := by decide +kernel
theorem dX8_chances_140 : decode cX8_chances 140 = .ok (.ireturn, 1) := by decide +kernel
def kX8_chances (live : am_E) (Ret : am_R) : am_code := [(0, am_iload 1 1), (1, am_i2l 2), (2, am_const (.long 0) 3), (3, am_const (.long 2) 6), (6, am_callS live 3 TX8_in 9), (9, am_if1 (fun x => x = 0) 76 12), (12, am_iload 2 13), (13, am_i2l 14), (14, am_const (.long 0) 15), (15, am_const (.long 10) 18), (18, am_callS live 3 TX8_in 21), (21, am_if1 (fun x => x = 0) 76 24), (24, am_iload 3 25), (25, am_i2l 26), (26, am_const (.long 0) 27), (27, am_const (.long 10) 30), (30, am_callS live 3 TX8_in 33), (33, am_if1 (fun x => x = 0) 76 36), (36, am_iload 4 38), (38, am_i2l 39), (39, am_const (.long 0) 40), (40, am_const (.long 10) 43), (43, am_callS live 3 TX8_in 46), (46, am_if1 (fun x => x = 0) 76 49), (49, am_iload 5 51), (51, am_i2l 52), (52, am_const (.long 0) 53), (53, am_const (.long 10) 56), (56, am_callS live 3 TX8_in 59), (59, am_if1 (fun x => x = 0) 76 62), (62, am_iload 2 63), (63, am_iload 3 64), (64, am_i2 (fun x y => x + y) 65), (65, am_iload 4 67), (67, am_i2 (fun x y => x + y) 68), (68, am_iload 5 70), (70, am_i2 (fun x y => x + y) 71), (71, am_const (.int 10) 73), (73, am_if2 (fun x y => x = y) 79 76), (76, am_const (.int (-2)) 78), (78, am_retI Ret), (79, am_aload 0 80), (80, am_getR live 8 0 83), (83, am_const (.int 3733) 86), (86, am_const (.int 4) 87), (87, am_iload 1 88), (88, am_i2 (fun x y => x * y) 89), (89, am_i2 (fun x y => x + y) 90), (90, am_iload 2 91), (91, am_ast live 0 92), (92, am_aload 0 93), (93, am_getR live 8 0 96), (96, am_const (.int 3733) 99), (99, am_const (.int 4) 100), (100, am_iload 1 101), (101, am_i2 (fun x y => x * y) 102), (102, am_i2 (fun x y => x + y) 103), (103, am_const (.int 1) 104), (104, am_i2 (fun x y => x + y) 105), (105, am_iload 3 106), (106, am_ast live 0 107), (107, am_aload 0 108), (108, am_getR live 8 0 111), (111, am_const (.int 3733) 114), (114, am_const (.int 4) 115), (115, am_iload 1 116), (116, am_i2 (fun x y => x * y) 117), (117, am_i2 (fun x y => x + y) 118), (118, am_const (.int 2) 119), (119, am_i2 (fun x y => x + y) 120), (120, am_iload 4 122), (122, am_ast live 0 123), (123, am_aload 0 124), (124, am_getR live 8 0 127), (127, am_const (.int 3733) 130), (130, am_const (.int 4) 131), (131, am_iload 1 132), (132, am_i2 (fun x y => x * y) 133), (133, am_i2 (fun x y => x + y) 134), (134, am_const (.int 3) 135), (135, am_i2 (fun x y => x + y) 136), (136, am_iload 5 138), (138, am_ast live 0 139), (139, am_const (.int 1) 140), (140, am_retI Ret)]
theorem koX8_chances (live : am_E) (Ret : am_R) : ∀ q ∈ kX8_chances live Ret, am_ok RX8 cX8_chances 6 (some .int) 1 25 live Ret q.1 q.2 :=
  am_kc (ak_iload_n dX8_chances_0 rfl rfl) <|
  am_kc (ak_i2l dX8_chances_1 rfl) <|
  am_kc (ak_lconst dX8_chances_2 (by decide +kernel) rfl) <|
  am_kc (ak_ldc2 wd_1244 dX8_chances_3 rfl) <|
  am_kc (ak_callS metX8_in ⟨rfl, by decide +kernel, by decide +kernel, by decide +kernel⟩ (am_w4 wd_986 wd_987 wd_67 wd_988) (by decide) dX8_chances_6 rfl) <|
  am_kc (ak_if_eq dX8_chances_9 (by decide +kernel) rfl) <|
  am_kc (ak_iload_n dX8_chances_12 rfl rfl) <|
  am_kc (ak_i2l dX8_chances_13 rfl) <|
  am_kc (ak_lconst dX8_chances_14 (by decide +kernel) rfl) <|
  am_kc (ak_ldc2 wd_1108 dX8_chances_15 rfl) <|
  am_kc (ak_callS metX8_in ⟨rfl, by decide +kernel, by decide +kernel, by decide +kernel⟩ (am_w4 wd_986 wd_987 wd_67 wd_988) (by decide) dX8_chances_18 rfl) <|
  am_kc (ak_if_eq dX8_chances_21 (by decide +kernel) rfl) <|
  am_kc (ak_iload_n dX8_chances_24 rfl rfl) <|
  am_kc (ak_i2l dX8_chances_25 rfl) <|
  am_kc (ak_lconst dX8_chances_26 (by decide +kernel) rfl) <|
  am_kc (ak_ldc2 wd_1108 dX8_chances_27 rfl) <|
  am_kc (ak_callS metX8_in ⟨rfl, by decide +kernel, by decide +kernel, by decide +kernel⟩ (am_w4 wd_986 wd_987 wd_67 wd_988) (by decide) dX8_chances_30 rfl) <|
  am_kc (ak_if_eq dX8_chances_33 (by decide +kernel) rfl) <|
  am_kc (ak_iload dX8_chances_36 rfl) <|
  am_kc (ak_i2l dX8_chances_38 rfl) <|
  am_kc (ak_lconst dX8_chances_39 (by decide +kernel) rfl) <|
  am_kc (ak_ldc2 wd_1108 dX8_chances_40 rfl) <|
  am_kc (ak_callS metX8_in ⟨rfl, by decide +kernel, by decide +kernel, by decide +kernel⟩ (am_w4 wd_986 wd_987 wd_67 wd_988) (by decide) dX8_chances_43 rfl) <|
  am_kc (ak_if_eq dX8_chances_46 (by decide +kernel) rfl) <|
  am_kc (ak_iload dX8_chances_49 rfl) <|
  am_kc (ak_i2l dX8_chances_51 rfl) <|
  am_kc (ak_lconst dX8_chances_52 (by decide +kernel) rfl) <|
  am_kc (ak_ldc2 wd_1108 dX8_chances_53 rfl) <|
  am_kc (ak_callS metX8_in ⟨rfl, by decide +kernel, by decide +kernel, by decide +kernel⟩ (am_w4 wd_986 wd_987 wd_67 wd_988) (by decide) dX8_chances_56 rfl) <|
  am_kc (ak_if_eq dX8_chances_59 (by decide +kernel) rfl) <|
  am_kc (ak_iload_n dX8_chances_62 rfl rfl) <|
  am_kc (ak_iload_n dX8_chances_63 rfl rfl) <|
  am_kc (ak_iadd dX8_chances_64 rfl) <|
  am_kc (ak_iload dX8_chances_65 rfl) <|
  am_kc (ak_iadd dX8_chances_67 rfl) <|
  am_kc (ak_iload dX8_chances_68 rfl) <|
  am_kc (ak_iadd dX8_chances_70 rfl) <|
  am_kc (ak_bipush dX8_chances_71 (by decide +kernel) rfl) <|
  am_kc (ak_icmp_eq dX8_chances_73 (by decide +kernel) rfl) <|
  am_kc (ak_bipush dX8_chances_76 (by decide +kernel) rfl) <|
  am_kc (ak_retI dX8_chances_78) <|
  am_kc (ak_aload_n dX8_chances_79 rfl rfl) <|
  am_kc (ak_getR (C := RX8) (T := TX8) (N := 27) rfl inX8w (by decide) rfl rfl rfl wd_895 dX8_chances_80 rfl) <|
  am_kc (ak_sipush dX8_chances_83 (by decide +kernel) rfl) <|
  am_kc (ak_iconst dX8_chances_86 (by decide +kernel) rfl) <|
  am_kc (ak_iload_n dX8_chances_87 rfl rfl) <|
  am_kc (ak_imul dX8_chances_88 rfl) <|
  am_kc (ak_iadd dX8_chances_89 rfl) <|
  am_kc (ak_iload_n dX8_chances_90 rfl rfl) <|
  am_kc (ak_iast (t := 0) (fun _ => rfl) rfl dX8_chances_91 rfl) <|
  am_kc (ak_aload_n dX8_chances_92 rfl rfl) <|
  am_kc (ak_getR (C := RX8) (T := TX8) (N := 27) rfl inX8w (by decide) rfl rfl rfl wd_895 dX8_chances_93 rfl) <|
  am_kc (ak_sipush dX8_chances_96 (by decide +kernel) rfl) <|
  am_kc (ak_iconst dX8_chances_99 (by decide +kernel) rfl) <|
  am_kc (ak_iload_n dX8_chances_100 rfl rfl) <|
  am_kc (ak_imul dX8_chances_101 rfl) <|
  am_kc (ak_iadd dX8_chances_102 rfl) <|
  am_kc (ak_iconst dX8_chances_103 (by decide +kernel) rfl) <|
  am_kc (ak_iadd dX8_chances_104 rfl) <|
  am_kc (ak_iload_n dX8_chances_105 rfl rfl) <|
  am_kc (ak_iast (t := 0) (fun _ => rfl) rfl dX8_chances_106 rfl) <|
  am_kc (ak_aload_n dX8_chances_107 rfl rfl) <|
  am_kc (ak_getR (C := RX8) (T := TX8) (N := 27) rfl inX8w (by decide) rfl rfl rfl wd_895 dX8_chances_108 rfl) <|
  am_kc (ak_sipush dX8_chances_111 (by decide +kernel) rfl) <|
  am_kc (ak_iconst dX8_chances_114 (by decide +kernel) rfl) <|
  am_kc (ak_iload_n dX8_chances_115 rfl rfl) <|
  am_kc (ak_imul dX8_chances_116 rfl) <|
  am_kc (ak_iadd dX8_chances_117 rfl) <|
  am_kc (ak_iconst dX8_chances_118 (by decide +kernel) rfl) <|
  am_kc (ak_iadd dX8_chances_119 rfl) <|
  am_kc (ak_iload dX8_chances_120 rfl) <|
  am_kc (ak_iast (t := 0) (fun _ => rfl) rfl dX8_chances_122 rfl) <|
  am_kc (ak_aload_n dX8_chances_123 rfl rfl) <|
  am_kc (ak_getR (C := RX8) (T := TX8) (N := 27) rfl inX8w (by decide) rfl rfl rfl wd_895 dX8_chances_124 rfl) <|
  am_kc (ak_sipush dX8_chances_127 (by decide +kernel) rfl) <|
  am_kc (ak_iconst dX8_chances_130 (by decide +kernel) rfl) <|
  am_kc (ak_iload_n dX8_chances_131 rfl rfl) <|
  am_kc (ak_imul dX8_chances_132 rfl) <|
  am_kc (ak_iadd dX8_chances_133 rfl) <|
  am_kc (ak_iconst dX8_chances_134 (by decide +kernel) rfl) <|
  am_kc (ak_iadd dX8_chances_135 rfl) <|
  am_kc (ak_iload dX8_chances_136 rfl) <|
  am_kc (ak_iast (t := 0) (fun _ => rfl) rfl dX8_chances_138 rfl) <|
  am_kc (ak_iconst dX8_chances_139 (by decide +kernel) rfl) <|
  am_kc (ak_retI dX8_chances_140) <| am_kn
def r_chances (M : am_M) (s w g a d : Int32) : Int32 × am_M := if 0 ≤ s ∧ s ≤ 2 then (if 0 ≤ w ∧ w ≤ 10 then (if 0 ≤ g ∧ g ≤ 10 then (if 0 ≤ a ∧ a ≤ 10 then (if 0 ≤ d ∧ d ≤ 10 then (if w + g + a + d = 10 then (1, am_wI (am_wI (am_wI (am_wI M 201 (3733 + 4 * s).toNatClampNeg w) 201 (3733 + 4 * s + 1).toNatClampNeg g) 201 (3733 + 4 * s + 2).toNatClampNeg a) 201 (3733 + 4 * s + 3).toNatClampNeg d) else ((-2 : Int32), M)) else ((-2 : Int32), M)) else ((-2 : Int32), M)) else ((-2 : Int32), M)) else ((-2 : Int32), M)) else ((-2 : Int32), M)
def TX8_chances : am_T := fun live as M R => match as with
  | [.ref n, .int s, .int w, .int g, .int a, .int d] => am_mn live ∧ n = 200 ∧ r_I M ∧ R (some (.int (r_chances M s w g a d).1)) (r_chances M s w g a d).2
  | _ => False
def JX8_chances : am_E → List Value → am_M → am_R → am_inv := fun live as M R pc => match as with
  | [.ref n, .int s, .int w, .int g, .int a, .int d] => (match pc with
    | 12 => some ([0, 1, 2, 3, 4, 5], fun k L st M' => L = [(0, .ref 200), (1, .int s), (2, .int w), (3, .int g), (4, .int a), (5, .int d)] ∧ st = [] ∧ M' = M ∧ k = (7, 0) ∧ (0 ≤ s ∧ s ≤ 2))
    | 24 => some ([0, 1, 2, 3, 4, 5], fun k L st M' => L = [(0, .ref 200), (1, .int s), (2, .int w), (3, .int g), (4, .int a), (5, .int d)] ∧ st = [] ∧ M' = M ∧ k = (6, 0) ∧ (0 ≤ s ∧ s ≤ 2) ∧ (0 ≤ w ∧ w ≤ 10))
    | 36 => some ([0, 1, 2, 3, 4, 5], fun k L st M' => L = [(0, .ref 200), (1, .int s), (2, .int w), (3, .int g), (4, .int a), (5, .int d)] ∧ st = [] ∧ M' = M ∧ k = (5, 0) ∧ (0 ≤ s ∧ s ≤ 2) ∧ (0 ≤ w ∧ w ≤ 10) ∧ (0 ≤ g ∧ g ≤ 10))
    | 49 => some ([0, 1, 2, 3, 4, 5], fun k L st M' => L = [(0, .ref 200), (1, .int s), (2, .int w), (3, .int g), (4, .int a), (5, .int d)] ∧ st = [] ∧ M' = M ∧ k = (4, 0) ∧ (0 ≤ s ∧ s ≤ 2) ∧ (0 ≤ w ∧ w ≤ 10) ∧ (0 ≤ g ∧ g ≤ 10) ∧ (0 ≤ a ∧ a ≤ 10))
    | 62 => some ([0, 1, 2, 3, 4, 5], fun k L st M' => L = [(0, .ref 200), (1, .int s), (2, .int w), (3, .int g), (4, .int a), (5, .int d)] ∧ st = [] ∧ M' = M ∧ k = (3, 0) ∧ (0 ≤ s ∧ s ≤ 2) ∧ (0 ≤ w ∧ w ≤ 10) ∧ (0 ≤ g ∧ g ≤ 10) ∧ (0 ≤ a ∧ a ≤ 10) ∧ (0 ≤ d ∧ d ≤ 10))
    | 79 => some ([0, 1, 2, 3, 4, 5], fun k L st M' => L = [(0, .ref 200), (1, .int s), (2, .int w), (3, .int g), (4, .int a), (5, .int d)] ∧ st = [] ∧ M' = M ∧ k = (2, 0) ∧ (0 ≤ s ∧ s ≤ 2) ∧ (0 ≤ w ∧ w ≤ 10) ∧ (0 ≤ g ∧ g ≤ 10) ∧ (0 ≤ a ∧ a ≤ 10) ∧ (0 ≤ d ∧ d ≤ 10) ∧ w + g + a + d = 10)
    | _ => none)
  | _ => none
set_option maxRecDepth 100000 in
set_option maxHeartbeats 4000000 in
theorem metX8_chances : am_Met yX8_chances cX8_chances 6 (some .int) (1) (25) TX8_chances := by
  refine am_met (own := RX8) (by decide +kernel) rfl kX8_chances koX8_chances 100 JX8_chances ?_ ?_
  · intro live as M Ret h
    unfold TX8_chances at h
    split at h
    · next n s w g a d =>
      refine ⟨Nat.le_of_ble_eq_true rfl, ?_⟩
      change am_wp _ _ _ _ [(0, Value.ref n), (1, Value.int s), (2, Value.int w), (3, Value.int g), (4, Value.int a), (5, Value.int d)] _ _
      obtain ⟨hmn, rfl, hR, h⟩ := h
      obtain ⟨i1, i2, rfl⟩ := hmn
      by_cases z0 : (0 ≤ s ∧ s ≤ 2)
      rotate_left
      · skip
        have q0 : (if (0 : Int64) ≤ s.toInt64 ∧ s.toInt64 ≤ (2 : Int64) then (1 : Int32) else 0) = 0 := if_neg (fun r => z0 (by simp only [i_le, i_lt, j_le, Int32.toInt_toInt64, Int32.reduceToInt, Int64.reduceToInt] at r ⊢; omega))
        have e : r_chances M s w g a d = ((-2 : Int32), M) := by unfold r_chances; rw [if_neg z0]
        rw [e] at h
        repeat' (first | (with_reducible exact h) | apply And.intro | exact rfl | (intro hx; with_reducible exact absurd q0 hx) | intro hx | (refine Exists.intro _ (And.intro rfl ?_)))
        all_goals try first | (with_reducible change am_tI _ _) | (change Ret _ _) | (change Ret _ _ _) | (change Exists _)
        all_goals try dsimp only at *
        all_goals try exact absurd ‹(1000 : Int64) = 0› (by decide)
        all_goals exact h
      · skip
        have q0 : ¬ ((if (0 : Int64) ≤ s.toInt64 ∧ s.toInt64 ≤ (2 : Int64) then (1 : Int32) else 0) = 0) := by rw [if_pos (by have q := z0; simp only [i_le, i_lt, j_le, Int32.toInt_toInt64, Int32.reduceToInt, Int64.reduceToInt] at q ⊢; omega)]; decide
        repeat' (first | apply And.intro | exact rfl | (intro hx; with_reducible exact absurd hx q0) | intro hx | (refine Exists.intro _ (And.intro rfl ?_)))
        all_goals try first | (with_reducible change am_tI _ _) | (change Ret _ _) | (change Ret _ _ _) | (change Exists _)
        all_goals try dsimp only at *
        all_goals try exact absurd ‹(1000 : Int64) = 0› (by decide)
        all_goals exact ⟨_, rfl, rfl, rfl, rfl, z0⟩
    · exact h.elim
  · intro live as M0 Ret h k pc I hI L st M hi
    unfold TX8_chances at h
    split at h
    · next n s w g a d =>
      obtain ⟨hmn, rfl, hR, h⟩ := h
      obtain ⟨i1, i2, rfl⟩ := hmn
      have l201 : am_len 201 = 3760 := rfl
      change (match pc with | 12 => _ | 24 => _ | 36 => _ | 49 => _ | 62 => _ | 79 => _ | _ => none) = _ at hI
      split at hI
      · cases hI
        obtain ⟨rfl, rfl, rfl, rfl, z0⟩ := hi
        by_cases z1 : (0 ≤ w ∧ w ≤ 10)
        rotate_left
        · skip
          have q1 : (if (0 : Int64) ≤ w.toInt64 ∧ w.toInt64 ≤ (10 : Int64) then (1 : Int32) else 0) = 0 := if_neg (fun r => z1 (by simp only [i_le, i_lt, j_le, Int32.toInt_toInt64, Int32.reduceToInt, Int64.reduceToInt] at r ⊢; omega))
          have e : r_chances M s w g a d = ((-2 : Int32), M) := by unfold r_chances; rw [if_pos z0, if_neg z1]
          rw [e] at h
          repeat' (first | (with_reducible exact h) | apply And.intro | exact rfl | (intro hx; with_reducible exact absurd q1 hx) | intro hx | (refine Exists.intro _ (And.intro rfl ?_)))
          all_goals try first | (with_reducible change am_tI _ _) | (change Ret _ _) | (change Ret _ _ _) | (change Exists _)
          all_goals try dsimp only at *
          all_goals try exact absurd ‹(1000 : Int64) = 0› (by decide)
          all_goals exact h
        · skip
          have q1 : ¬ ((if (0 : Int64) ≤ w.toInt64 ∧ w.toInt64 ≤ (10 : Int64) then (1 : Int32) else 0) = 0) := by rw [if_pos (by have q := z1; simp only [i_le, i_lt, j_le, Int32.toInt_toInt64, Int32.reduceToInt, Int64.reduceToInt] at q ⊢; omega)]; decide
          repeat' (first | apply And.intro | exact rfl | (intro hx; with_reducible exact absurd hx q1) | intro hx | (refine Exists.intro _ (And.intro rfl ?_)))
          all_goals try first | (with_reducible change am_tI _ _) | (change Ret _ _) | (change Ret _ _ _) | (change Exists _)
          all_goals try dsimp only at *
          all_goals try exact absurd ‹(1000 : Int64) = 0› (by decide)
          all_goals exact ⟨_, am_lt_l (by decide), rfl, rfl, rfl, rfl, z0, z1⟩
      · cases hI
        obtain ⟨rfl, rfl, rfl, rfl, z0, z1⟩ := hi
        by_cases z2 : (0 ≤ g ∧ g ≤ 10)
        rotate_left
        · skip
          have q2 : (if (0 : Int64) ≤ g.toInt64 ∧ g.toInt64 ≤ (10 : Int64) then (1 : Int32) else 0) = 0 := if_neg (fun r => z2 (by simp only [i_le, i_lt, j_le, Int32.toInt_toInt64, Int32.reduceToInt, Int64.reduceToInt] at r ⊢; omega))
          have e : r_chances M s w g a d = ((-2 : Int32), M) := by unfold r_chances; rw [if_pos z0, if_pos z1, if_neg z2]
          rw [e] at h
          repeat' (first | (with_reducible exact h) | apply And.intro | exact rfl | (intro hx; with_reducible exact absurd q2 hx) | intro hx | (refine Exists.intro _ (And.intro rfl ?_)))
          all_goals try first | (with_reducible change am_tI _ _) | (change Ret _ _) | (change Ret _ _ _) | (change Exists _)
          all_goals try dsimp only at *
          all_goals try exact absurd ‹(1000 : Int64) = 0› (by decide)
          all_goals exact h
        · skip
          have q2 : ¬ ((if (0 : Int64) ≤ g.toInt64 ∧ g.toInt64 ≤ (10 : Int64) then (1 : Int32) else 0) = 0) := by rw [if_pos (by have q := z2; simp only [i_le, i_lt, j_le, Int32.toInt_toInt64, Int32.reduceToInt, Int64.reduceToInt] at q ⊢; omega)]; decide
          repeat' (first | apply And.intro | exact rfl | (intro hx; with_reducible exact absurd hx q2) | intro hx | (refine Exists.intro _ (And.intro rfl ?_)))
          all_goals try first | (with_reducible change am_tI _ _) | (change Ret _ _) | (change Ret _ _ _) | (change Exists _)
          all_goals try dsimp only at *
          all_goals try exact absurd ‹(1000 : Int64) = 0› (by decide)
          all_goals exact ⟨_, am_lt_l (by decide), rfl, rfl, rfl, rfl, z0, z1, z2⟩
      · cases hI
        obtain ⟨rfl, rfl, rfl, rfl, z0, z1, z2⟩ := hi
        by_cases z3 : (0 ≤ a ∧ a ≤ 10)
        rotate_left
        · skip
          have q3 : (if (0 : Int64) ≤ a.toInt64 ∧ a.toInt64 ≤ (10 : Int64) then (1 : Int32) else 0) = 0 := if_neg (fun r => z3 (by simp only [i_le, i_lt, j_le, Int32.toInt_toInt64, Int32.reduceToInt, Int64.reduceToInt] at r ⊢; omega))
          have e : r_chances M s w g a d = ((-2 : Int32), M) := by unfold r_chances; rw [if_pos z0, if_pos z1, if_pos z2, if_neg z3]
          rw [e] at h
          repeat' (first | (with_reducible exact h) | apply And.intro | exact rfl | (intro hx; with_reducible exact absurd q3 hx) | intro hx | (refine Exists.intro _ (And.intro rfl ?_)))
          all_goals try first | (with_reducible change am_tI _ _) | (change Ret _ _) | (change Ret _ _ _) | (change Exists _)
          all_goals try dsimp only at *
          all_goals try exact absurd ‹(1000 : Int64) = 0› (by decide)
          all_goals exact h
        · skip
          have q3 : ¬ ((if (0 : Int64) ≤ a.toInt64 ∧ a.toInt64 ≤ (10 : Int64) then (1 : Int32) else 0) = 0) := by rw [if_pos (by have q := z3; simp only [i_le, i_lt, j_le, Int32.toInt_toInt64, Int32.reduceToInt, Int64.reduceToInt] at q ⊢; omega)]; decide
          repeat' (first | apply And.intro | exact rfl | (intro hx; with_reducible exact absurd hx q3) | intro hx | (refine Exists.intro _ (And.intro rfl ?_)))
          all_goals try first | (with_reducible change am_tI _ _) | (change Ret _ _) | (change Ret _ _ _) | (change Exists _)
          all_goals try dsimp only at *
          all_goals try exact absurd ‹(1000 : Int64) = 0› (by decide)
          all_goals exact ⟨_, am_lt_l (by decide), rfl, rfl, rfl, rfl, z0, z1, z2, z3⟩
      · cases hI
        obtain ⟨rfl, rfl, rfl, rfl, z0, z1, z2, z3⟩ := hi
        by_cases z4 : (0 ≤ d ∧ d ≤ 10)
        rotate_left
        · skip
          have q4 : (if (0 : Int64) ≤ d.toInt64 ∧ d.toInt64 ≤ (10 : Int64) then (1 : Int32) else 0) = 0 := if_neg (fun r => z4 (by simp only [i_le, i_lt, j_le, Int32.toInt_toInt64, Int32.reduceToInt, Int64.reduceToInt] at r ⊢; omega))
          have e : r_chances M s w g a d = ((-2 : Int32), M) := by unfold r_chances; rw [if_pos z0, if_pos z1, if_pos z2, if_pos z3, if_neg z4]
          rw [e] at h
          repeat' (first | (with_reducible exact h) | apply And.intro | exact rfl | (intro hx; with_reducible exact absurd q4 hx) | intro hx | (refine Exists.intro _ (And.intro rfl ?_)))
          all_goals try first | (with_reducible change am_tI _ _) | (change Ret _ _) | (change Ret _ _ _) | (change Exists _)
          all_goals try dsimp only at *
          all_goals try exact absurd ‹(1000 : Int64) = 0› (by decide)
          all_goals exact h
        · skip
          have q4 : ¬ ((if (0 : Int64) ≤ d.toInt64 ∧ d.toInt64 ≤ (10 : Int64) then (1 : Int32) else 0) = 0) := by rw [if_pos (by have q := z4; simp only [i_le, i_lt, j_le, Int32.toInt_toInt64, Int32.reduceToInt, Int64.reduceToInt] at q ⊢; omega)]; decide
          repeat' (first | apply And.intro | exact rfl | (intro hx; with_reducible exact absurd hx q4) | intro hx | (refine Exists.intro _ (And.intro rfl ?_)))
          all_goals try first | (with_reducible change am_tI _ _) | (change Ret _ _) | (change Ret _ _ _) | (change Exists _)
          all_goals try dsimp only at *
          all_goals try exact absurd ‹(1000 : Int64) = 0› (by decide)
          all_goals exact ⟨_, am_lt_l (by decide), rfl, rfl, rfl, rfl, z0, z1, z2, z3, z4⟩
      · cases hI
        obtain ⟨rfl, rfl, rfl, rfl, z0, z1, z2, z3, z4⟩ := hi
        by_cases z5 : w + g + a + d = 10
        rotate_left
        · skip
          have e : r_chances M s w g a d = ((-2 : Int32), M) := by unfold r_chances; rw [if_pos z0, if_pos z1, if_pos z2, if_pos z3, if_pos z4, if_neg z5]
          rw [e] at h
          repeat' (first | (with_reducible exact h) | apply And.intro | exact rfl | (intro hx; with_reducible exact absurd hx z5) | intro hx | (refine Exists.intro _ (And.intro rfl ?_)))
          all_goals try first | (with_reducible change am_tI _ _) | (change Ret _ _) | (change Ret _ _ _) | (change Exists _)
          all_goals try dsimp only at *
          all_goals try exact absurd ‹(1000 : Int64) = 0› (by decide)
          all_goals exact h
        · skip
          repeat' (first | apply And.intro | exact rfl | (intro hx; with_reducible exact absurd z5 hx) | intro hx | (refine Exists.intro _ (And.intro rfl ?_)))
          all_goals try first | (with_reducible change am_tI _ _) | (change Ret _ _) | (change Ret _ _ _) | (change Exists _)
          all_goals try dsimp only at *
          all_goals try exact absurd ‹(1000 : Int64) = 0› (by decide)
          all_goals exact ⟨_, am_lt_l (by decide), rfl, rfl, rfl, rfl, z0, z1, z2, z3, z4, z5⟩
      · cases hI
        obtain ⟨rfl, rfl, rfl, rfl, z0, z1, z2, z3, z4, z5⟩ := hi
        have e : r_chances M s w g a d = (1, am_wI (am_wI (am_wI (am_wI M 201 (3733 + 4 * s).toNatClampNeg w) 201 (3733 + 4 * s + 1).toNatClampNeg g) 201 (3733 + 4 * s + 2).toNatClampNeg a) 201 (3733 + 4 * s + 3).toNatClampNeg d) := by unfold r_chances; rw [if_pos z0, if_pos z1, if_pos z2, if_pos z3, if_pos z4, if_pos z5]
        rw [e] at h
        have hs : am_in s 3 := ⟨by have q := z0.1; simp only [i_le, Int32.reduceToInt] at q; omega, by have q := z0.2; simp only [i_le, Int32.reduceToInt] at q; omega⟩
        have hs1 := hs.1
        have hs2 := hs.2
        have e4 := r_mul (c := 4) (x := s) ⟨by decide, by decide⟩ ⟨by omega, by omega⟩
        simp only [Int32.reduceToInt] at e4
        have ea := r_off (c := 3733) (x := 4 * s) ⟨by decide, by decide⟩ ⟨by omega, by omega⟩
        simp only [e4, Int32.reduceToInt] at ea
        have ea1 := r_off (c := 3733 + 4 * s) (x := 1) ⟨by omega, by omega⟩ ⟨by decide, by decide⟩
        simp only [ea, Int32.reduceToInt] at ea1
        have ea2 := r_off (c := 3733 + 4 * s) (x := 2) ⟨by omega, by omega⟩ ⟨by decide, by decide⟩
        simp only [ea, Int32.reduceToInt] at ea2
        have ea3 := r_off (c := 3733 + 4 * s) (x := 3) ⟨by omega, by omega⟩ ⟨by decide, by decide⟩
        simp only [ea, Int32.reduceToInt] at ea3
        repeat' (first | apply And.intro | exact rfl | intro hx | (refine Exists.intro _ (And.intro rfl ?_)))
        all_goals try first | (with_reducible change am_tI _ _) | (change Ret _ _) | (change Ret _ _ _) | (change Exists _)
        all_goals try dsimp only at *
        all_goals try exact absurd ‹(1000 : Int64) = 0› (by decide)
        all_goals first | exact h | (simp only [ea, l201]; omega) | (simp only [ea1, l201]; omega) | (simp only [ea2, l201]; omega) | (simp only [ea3, l201]; omega)
      · cases hI
    · exact h.elim
