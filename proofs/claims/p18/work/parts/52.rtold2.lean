/-! general: the reference's told calls, II -/
theorem r_lcol {l w : Int32} (hl : am_in l 30) (hw : 0 ≤ w.toInt ∧ w.toInt ≤ 7) : (2838 + 8 * l + w).toInt = 2838 + 8 * l.toInt + w.toInt := by
  have h1 := hl.1
  have h2 := hl.2
  have e8 := r_mul (c := 8) (x := l) ⟨by decide, by decide⟩ ⟨by omega, by omega⟩
  simp only [Int32.reduceToInt] at e8
  have ea := r_off (c := 2838) (x := 8 * l) ⟨by decide, by decide⟩ ⟨by omega, by omega⟩
  simp only [e8, Int32.reduceToInt] at ea
  rw [r_off (c := 2838 + 8 * l) (x := w) ⟨by omega, by omega⟩ ⟨by omega, by omega⟩, ea]
theorem dX8_ofLoan_0 : decode cX8_ofLoan 0 = .ok (.aload_n 0, 1) := by decide +kernel
theorem dX8_ofLoan_1 : decode cX8_ofLoan 1 = .ok (.getfield 7, 3) := by decide +kernel
theorem dX8_ofLoan_4 : decode cX8_ofLoan 4 = .ok (.sipush 2838, 3) := by decide +kernel
theorem dX8_ofLoan_7 : decode cX8_ofLoan 7 = .ok (.bipush 8, 2) := by decide +kernel
theorem dX8_ofLoan_9 : decode cX8_ofLoan 9 = .ok (.iload_n 1, 1) := by decide +kernel
theorem dX8_ofLoan_10 : decode cX8_ofLoan 10 = .ok (.imul, 1) := by decide +kernel
theorem dX8_ofLoan_11 : decode cX8_ofLoan 11 = .ok (.iadd, 1) := by decide +kernel
theorem dX8_ofLoan_12 : decode cX8_ofLoan 12 = .ok (.iload_n 2, 1) := by decide +kernel
theorem dX8_ofLoan_13 : decode cX8_ofLoan 13 = .ok (.iadd, 1) := by decide +kernel
theorem dX8_ofLoan_14 : decode cX8_ofLoan 14 = .ok (.iaload, 1) := by decide +kernel
theorem dX8_ofLoan_15 : decode cX8_ofLoan 15 = .ok (.ireturn, 1) := by decide +kernel
def kX8_ofLoan (live : am_E) (Ret : am_R) : am_code := [(0, am_aload 0 1), (1, am_getR live 8 0 4), (4, am_const (.int 2838) 7), (7, am_const (.int 8) 9), (9, am_iload 1 10), (10, am_i2 (fun x y => x * y) 11), (11, am_i2 (fun x y => x + y) 12), (12, am_iload 2 13), (13, am_i2 (fun x y => x + y) 14), (14, am_ald live 0 15), (15, am_retI Ret)]
theorem koX8_ofLoan (live : am_E) (Ret : am_R) : ∀ q ∈ kX8_ofLoan live Ret, am_ok RX8 cX8_ofLoan 3 (some .int) 0 0 live Ret q.1 q.2 :=
  am_kc (ak_aload_n dX8_ofLoan_0 rfl rfl) <|
  am_kc (ak_getR (C := RX8) (T := TX8) (N := 27) rfl inX8w (by decide) rfl rfl rfl wd_895 dX8_ofLoan_1 rfl) <|
  am_kc (ak_sipush dX8_ofLoan_4 (by decide +kernel) rfl) <|
  am_kc (ak_bipush dX8_ofLoan_7 (by decide +kernel) rfl) <|
  am_kc (ak_iload_n dX8_ofLoan_9 rfl rfl) <|
  am_kc (ak_imul dX8_ofLoan_10 rfl) <|
  am_kc (ak_iadd dX8_ofLoan_11 rfl) <|
  am_kc (ak_iload_n dX8_ofLoan_12 rfl rfl) <|
  am_kc (ak_iadd dX8_ofLoan_13 rfl) <|
  am_kc (ak_iald (t := 0) (fun _ => rfl) rfl dX8_ofLoan_14 rfl) <|
  am_kc (ak_retI dX8_ofLoan_15) <| am_kn
def TX8_ofLoan : am_T := fun live as M R => match as with
  | [.ref n, .int l, .int w] => am_mn live ∧ n = 200 ∧ am_in l 30 ∧ (0 ≤ w.toInt ∧ w.toInt ≤ 7) ∧ R (some (.int (M.1 201 (2838 + 8 * l + w).toNatClampNeg))) M
  | _ => False
set_option maxRecDepth 100000 in
set_option maxHeartbeats 4000000 in
theorem metX8_ofLoan : am_Met yX8_ofLoan cX8_ofLoan 3 (some .int) (0) (0) TX8_ofLoan := by
  refine am_met (own := RX8) (by decide +kernel) rfl kX8_ofLoan koX8_ofLoan 60 (fun _ _ _ _ _ => none) (fun live as M Ret h => ?_) (fun _ _ _ _ _ _ _ _ hI => by cases hI)
  unfold TX8_ofLoan at h
  split at h
  · next n l w =>
    refine ⟨Nat.le_of_ble_eq_true rfl, ?_⟩
    change am_wp _ _ _ _ [(0, Value.ref n), (1, Value.int l), (2, Value.int w)] _ _
    obtain ⟨⟨i1, i2, rfl⟩, rfl, hl, hw, h⟩ := h
    have e := r_lcol hl hw
    have l201 : am_len 201 = 3760 := rfl
    have h1 := hl.1
    have h2 := hl.2
    repeat' (first | apply And.intro | exact rfl | intro hx | (refine Exists.intro _ (And.intro rfl ?_)))
    all_goals try first | (with_reducible change am_tI _ _) | (change Ret _ _) | (change Ret _ _ _) | (change Exists _)
    all_goals try dsimp only at *
    all_goals try exact absurd ‹(1000 : Int64) = 0› (by decide)
    all_goals first | exact h | omega | (rw [l201]; omega)
  · exact h.elim
theorem dX8_given_0 : decode cX8_given 0 = .ok (.iload_n 2, 1) := by decide +kernel
theorem dX8_given_1 : decode cX8_given 1 = .ok (.aload_n 0, 1) := by decide +kernel
theorem dX8_given_2 : decode cX8_given 2 = .ok (.getfield 7, 3) := by decide +kernel
theorem dX8_given_5 : decode cX8_given 5 = .ok (.sipush 2838, 3) := by decide +kernel
theorem dX8_given_8 : decode cX8_given 8 = .ok (.bipush 8, 2) := by decide +kernel
theorem dX8_given_10 : decode cX8_given 10 = .ok (.iload_n 1, 1) := by decide +kernel
theorem dX8_given_11 : decode cX8_given 11 = .ok (.imul, 1) := by decide +kernel
theorem dX8_given_12 : decode cX8_given 12 = .ok (.iadd, 1) := by decide +kernel
theorem dX8_given_13 : decode cX8_given 13 = .ok (.iconst 2, 1) := by decide +kernel
theorem dX8_given_14 : decode cX8_given 14 = .ok (.iadd, 1) := by decide +kernel
theorem dX8_given_15 : decode cX8_given 15 = .ok (.iaload, 1) := by decide +kernel
theorem dX8_given_16 : decode cX8_given 16 = .ok (.isub, 1) := by decide +kernel
theorem dX8_given_17 : decode cX8_given 17 = .ok (.istore_n 3, 1) := by decide +kernel
theorem dX8_given_18 : decode cX8_given 18 = .ok (.iload_n 3, 1) := by decide +kernel
theorem dX8_given_19 : decode cX8_given 19 = .ok (.ifCond .ne 9, 3) := by decide +kernel
theorem dX8_given_22 : decode cX8_given 22 = .ok (.sipush 750, 3) := by decide +kernel
theorem dX8_given_25 : decode cX8_given 25 = .ok (.goto 15, 3) := by decide +kernel
theorem dX8_given_28 : decode cX8_given 28 = .ok (.iload_n 3, 1) := by decide +kernel
theorem dX8_given_29 : decode cX8_given 29 = .ok (.iconst 1, 1) := by decide +kernel
theorem dX8_given_30 : decode cX8_given 30 = .ok (.if_icmp .ne 9, 3) := by decide +kernel
theorem dX8_given_33 : decode cX8_given 33 = .ok (.sipush 500, 3) := by decide +kernel
theorem dX8_given_36 : decode cX8_given 36 = .ok (.goto 4, 3) := by decide +kernel
theorem dX8_given_39 : decode cX8_given 39 = .ok (.iconst 0, 1) := by decide +kernel
theorem dX8_given_40 : decode cX8_given 40 = .ok (.istore 4, 2) := by decide +kernel
theorem dX8_given_42 : decode cX8_given 42 = .ok (.aload_n 0, 1) := by decide +kernel
theorem dX8_given_43 : decode cX8_given 43 = .ok (.getfield 7, 3) := by decide +kernel
theorem dX8_given_46 : decode cX8_given 46 = .ok (.sipush 2838, 3) := by decide +kernel
theorem dX8_given_49 : decode cX8_given 49 = .ok (.bipush 8, 2) := by decide +kernel
theorem dX8_given_51 : decode cX8_given 51 = .ok (.iload_n 1, 1) := by decide +kernel
theorem dX8_given_52 : decode cX8_given 52 = .ok (.imul, 1) := by decide +kernel
theorem dX8_given_53 : decode cX8_given 53 = .ok (.iadd, 1) := by decide +kernel
theorem dX8_given_54 : decode cX8_given 54 = .ok (.iconst 3, 1) := by decide +kernel
theorem dX8_given_55 : decode cX8_given 55 = .ok (.iadd, 1) := by decide +kernel
theorem dX8_given_56 : decode cX8_given 56 = .ok (.iaload, 1) := by decide +kernel
theorem dX8_given_57 : decode cX8_given 57 = .ok (.i2l, 1) := by decide +kernel
theorem dX8_given_58 : decode cX8_given 58 = .ok (.iload 4, 2) := by decide +kernel
theorem dX8_given_60 : decode cX8_given 60 = .ok (.i2l, 1) := by decide +kernel
theorem dX8_given_61 : decode cX8_given 61 = .ok (.lmul, 1) := by decide +kernel
theorem dX8_given_62 : decode cX8_given 62 = .ok (.ldc2_w 94, 3) := by decide +kernel
theorem dX8_given_65 : decode cX8_given 65 = .ok (.ldiv, 1) := by decide +kernel
theorem dX8_given_66 : decode cX8_given 66 = .ok (.l2i, 1) := by decide +kernel
theorem dX8_given_67 : decode cX8_given 67 = .ok (.ireturn, 1) := by decide +kernel
def kX8_given (live : am_E) (Ret : am_R) : am_code := [(0, am_iload 2 1), (1, am_aload 0 2), (2, am_getR live 8 0 5), (5, am_const (.int 2838) 8), (8, am_const (.int 8) 10), (10, am_iload 1 11), (11, am_i2 (fun x y => x * y) 12), (12, am_i2 (fun x y => x + y) 13), (13, am_const (.int 2) 14), (14, am_i2 (fun x y => x + y) 15), (15, am_ald live 0 16), (16, am_i2 (fun x y => x - y) 17), (17, am_istore 3 5 18), (18, am_iload 3 19), (19, am_if1 (fun x => x = 0) 22 28), (22, am_const (.int 750) 25), (25, am_goto 40), (28, am_iload 3 29), (29, am_const (.int 1) 30), (30, am_if2 (fun x y => x = y) 33 39), (33, am_const (.int 500) 36), (36, am_goto 40), (39, am_const (.int 0) 40), (40, am_istore 4 5 42), (42, am_aload 0 43), (43, am_getR live 8 0 46), (46, am_const (.int 2838) 49), (49, am_const (.int 8) 51), (51, am_iload 1 52), (52, am_i2 (fun x y => x * y) 53), (53, am_i2 (fun x y => x + y) 54), (54, am_const (.int 3) 55), (55, am_i2 (fun x y => x + y) 56), (56, am_ald live 0 57), (57, am_i2l 58), (58, am_iload 4 60), (60, am_i2l 61), (61, am_l2 (fun x y => x * y) 62), (62, am_const (.long 1000) 65), (65, am_l2z (fun x y => x / y) 66), (66, am_l2i 67), (67, am_retI Ret)]
theorem koX8_given (live : am_E) (Ret : am_R) : ∀ q ∈ kX8_given live Ret, am_ok RX8 cX8_given 5 (some .int) 0 0 live Ret q.1 q.2 :=
  am_kc (ak_iload_n dX8_given_0 rfl rfl) <|
  am_kc (ak_aload_n dX8_given_1 rfl rfl) <|
  am_kc (ak_getR (C := RX8) (T := TX8) (N := 27) rfl inX8w (by decide) rfl rfl rfl wd_895 dX8_given_2 rfl) <|
  am_kc (ak_sipush dX8_given_5 (by decide +kernel) rfl) <|
  am_kc (ak_bipush dX8_given_8 (by decide +kernel) rfl) <|
  am_kc (ak_iload_n dX8_given_10 rfl rfl) <|
  am_kc (ak_imul dX8_given_11 rfl) <|
  am_kc (ak_iadd dX8_given_12 rfl) <|
  am_kc (ak_iconst dX8_given_13 (by decide +kernel) rfl) <|
  am_kc (ak_iadd dX8_given_14 rfl) <|
  am_kc (ak_iald (t := 0) (fun _ => rfl) rfl dX8_given_15 rfl) <|
  am_kc (ak_isub dX8_given_16 rfl) <|
  am_kc (ak_istore_n dX8_given_17 rfl rfl) <|
  am_kc (ak_iload_n dX8_given_18 rfl rfl) <|
  am_kc (ak_if_ne dX8_given_19 (by decide +kernel) rfl) <|
  am_kc (ak_sipush dX8_given_22 (by decide +kernel) rfl) <|
  am_kc (ak_goto dX8_given_25 (by decide +kernel)) <|
  am_kc (ak_iload_n dX8_given_28 rfl rfl) <|
  am_kc (ak_iconst dX8_given_29 (by decide +kernel) rfl) <|
  am_kc (ak_icmp_ne dX8_given_30 (by decide +kernel) rfl) <|
  am_kc (ak_sipush dX8_given_33 (by decide +kernel) rfl) <|
  am_kc (ak_goto dX8_given_36 (by decide +kernel)) <|
  am_kc (ak_iconst dX8_given_39 (by decide +kernel) rfl) <|
  am_kc (ak_istore dX8_given_40 rfl) <|
  am_kc (ak_aload_n dX8_given_42 rfl rfl) <|
  am_kc (ak_getR (C := RX8) (T := TX8) (N := 27) rfl inX8w (by decide) rfl rfl rfl wd_895 dX8_given_43 rfl) <|
  am_kc (ak_sipush dX8_given_46 (by decide +kernel) rfl) <|
  am_kc (ak_bipush dX8_given_49 (by decide +kernel) rfl) <|
  am_kc (ak_iload_n dX8_given_51 rfl rfl) <|
  am_kc (ak_imul dX8_given_52 rfl) <|
  am_kc (ak_iadd dX8_given_53 rfl) <|
  am_kc (ak_iconst dX8_given_54 (by decide +kernel) rfl) <|
  am_kc (ak_iadd dX8_given_55 rfl) <|
  am_kc (ak_iald (t := 0) (fun _ => rfl) rfl dX8_given_56 rfl) <|
  am_kc (ak_i2l dX8_given_57 rfl) <|
  am_kc (ak_iload dX8_given_58 rfl) <|
  am_kc (ak_i2l dX8_given_60 rfl) <|
  am_kc (ak_lmul dX8_given_61 rfl) <|
  am_kc (ak_ldc2 wd_1045 dX8_given_62 rfl) <|
  am_kc (ak_ldiv dX8_given_65 rfl) <|
  am_kc (ak_l2i dX8_given_66 rfl) <|
  am_kc (ak_retI dX8_given_67) <| am_kn
def r_given (M : am_M) (l y : Int32) : Int32 := ((M.1 201 (2838 + 8 * l + 3).toNatClampNeg).toInt64 * ((if y - M.1 201 (2838 + 8 * l + 2).toNatClampNeg = 0 then 750 else if y - M.1 201 (2838 + 8 * l + 2).toNatClampNeg = 1 then 500 else 0 : Int32)).toInt64 / 1000).toInt32
def TX8_given : am_T := fun live as M R => match as with
  | [.ref n, .int l, .int y] => am_mn live ∧ n = 200 ∧ am_in l 30 ∧ R (some (.int (r_given M l y))) M
  | _ => False
set_option maxRecDepth 100000 in
set_option maxHeartbeats 4000000 in
theorem metX8_given : am_Met yX8_given cX8_given 5 (some .int) (0) (0) TX8_given := by
  refine am_met (own := RX8) (by decide +kernel) rfl kX8_given koX8_given 100 (fun _ _ _ _ _ => none) (fun live as M Ret h => ?_) (fun _ _ _ _ _ _ _ _ hI => by cases hI)
  unfold TX8_given at h
  split at h
  · next n l y =>
    refine ⟨Nat.le_of_ble_eq_true rfl, ?_⟩
    change am_wp _ _ _ _ [(0, Value.ref n), (1, Value.int l), (2, Value.int y)] _ _
    obtain ⟨⟨i1, i2, rfl⟩, rfl, hl, h⟩ := h
    have e2 := r_lcol hl (w := 2) ⟨by decide, by decide⟩
    have e3 := r_lcol hl (w := 3) ⟨by decide, by decide⟩
    simp only [Int32.reduceToInt] at e2 e3
    have l201 : am_len 201 = 3760 := rfl
    have h1 := hl.1
    have h2 := hl.2
    by_cases z : y - M.1 201 (2838 + 8 * l + 2).toNatClampNeg = 0
    · rw [show r_given M l y = ((M.1 201 (2838 + 8 * l + 3).toNatClampNeg).toInt64 * (750 : Int32).toInt64 / 1000).toInt32 by unfold r_given; rw [if_pos z]] at h
      repeat' (first | apply And.intro | exact rfl | (intro hx; with_reducible exact absurd z hx) | intro hx | (refine Exists.intro _ (And.intro rfl ?_)))
      all_goals try first | (with_reducible change am_tI _ _) | (change Ret _ _) | (change Ret _ _ _) | (change Exists _)
      all_goals try dsimp only at *
      all_goals try exact absurd ‹(1000 : Int64) = 0› (by decide)
      all_goals first | exact h | omega | (rw [l201]; omega)
    · by_cases z1 : y - M.1 201 (2838 + 8 * l + 2).toNatClampNeg = 1
      · rw [show r_given M l y = ((M.1 201 (2838 + 8 * l + 3).toNatClampNeg).toInt64 * (500 : Int32).toInt64 / 1000).toInt32 by unfold r_given; rw [if_neg z, if_pos z1]] at h
        repeat' (first | apply And.intro | exact rfl | (intro hx; with_reducible exact absurd hx z) | (intro hx; with_reducible exact absurd z1 hx) | intro hx | (refine Exists.intro _ (And.intro rfl ?_)))
        all_goals try first | (with_reducible change am_tI _ _) | (change Ret _ _) | (change Ret _ _ _) | (change Exists _)
        all_goals try dsimp only at *
        all_goals try exact absurd ‹(1000 : Int64) = 0› (by decide)
        all_goals first | exact h | omega | (rw [l201]; omega)
      · rw [show r_given M l y = ((M.1 201 (2838 + 8 * l + 3).toNatClampNeg).toInt64 * (0 : Int32).toInt64 / 1000).toInt32 by unfold r_given; rw [if_neg z, if_neg z1]] at h
        repeat' (first | apply And.intro | exact rfl | (intro hx; with_reducible exact absurd hx z) | (intro hx; with_reducible exact absurd hx z1) | intro hx | (refine Exists.intro _ (And.intro rfl ?_)))
        all_goals try first | (with_reducible change am_tI _ _) | (change Ret _ _) | (change Ret _ _ _) | (change Exists _)
        all_goals try dsimp only at *
        all_goals try exact absurd ‹(1000 : Int64) = 0› (by decide)
        all_goals first | exact h | omega | (rw [l201]; omega)
  · exact h.elim
theorem dX8_earningsOf_0 : decode cX8_earningsOf 0 = .ok (.bipush 40, 2) := by decide +kernel
theorem dX8_earningsOf_2 : decode cX8_earningsOf 2 = .ok (.iload_n 1, 1) := by decide +kernel
theorem dX8_earningsOf_3 : decode cX8_earningsOf 3 = .ok (.imul, 1) := by decide +kernel
theorem dX8_earningsOf_4 : decode cX8_earningsOf 4 = .ok (.iload_n 2, 1) := by decide +kernel
theorem dX8_earningsOf_5 : decode cX8_earningsOf 5 = .ok (.iadd, 1) := by decide +kernel
theorem dX8_earningsOf_6 : decode cX8_earningsOf 6 = .ok (.istore 4, 2) := by decide +kernel
theorem dX8_earningsOf_8 : decode cX8_earningsOf 8 = .ok (.aload_n 0, 1) := by decide +kernel
theorem dX8_earningsOf_9 : decode cX8_earningsOf 9 = .ok (.getfield 7, 3) := by decide +kernel
theorem dX8_earningsOf_12 : decode cX8_earningsOf 12 = .ok (.sipush 1998, 3) := by decide +kernel
theorem dX8_earningsOf_15 : decode cX8_earningsOf 15 = .ok (.iload 4, 2) := by decide +kernel
theorem dX8_earningsOf_17 : decode cX8_earningsOf 17 = .ok (.iadd, 1) := by decide +kernel
theorem dX8_earningsOf_18 : decode cX8_earningsOf 18 = .ok (.iaload, 1) := by decide +kernel
theorem dX8_earningsOf_19 : decode cX8_earningsOf 19 = .ok (.ifCond .lt 30, 3) := by decide +kernel
theorem dX8_earningsOf_22 : decode cX8_earningsOf 22 = .ok (.aload_n 0, 1) := by decide +kernel
theorem dX8_earningsOf_23 : decode cX8_earningsOf 23 = .ok (.getfield 7, 3) := by decide +kernel
theorem dX8_earningsOf_26 : decode cX8_earningsOf 26 = .ok (.sipush 1998, 3) := by decide +kernel
theorem dX8_earningsOf_29 : decode cX8_earningsOf 29 = .ok (.iload 4, 2) := by decide +kernel
theorem dX8_earningsOf_31 : decode cX8_earningsOf 31 = .ok (.iadd, 1) := by decide +kernel
theorem dX8_earningsOf_32 : decode cX8_earningsOf 32 = .ok (.iaload, 1) := by decide +kernel
theorem dX8_earningsOf_33 : decode cX8_earningsOf 33 = .ok (.iload_n 3, 1) := by decide +kernel
theorem dX8_earningsOf_34 : decode cX8_earningsOf 34 = .ok (.if_icmp .gt 15, 3) := by decide +kernel
theorem dX8_earningsOf_37 : decode cX8_earningsOf 37 = .ok (.aload_n 0, 1) := by decide +kernel
theorem dX8_earningsOf_38 : decode cX8_earningsOf 38 = .ok (.getfield 7, 3) := by decide +kernel
theorem dX8_earningsOf_41 : decode cX8_earningsOf 41 = .ok (.sipush 1518, 3) := by decide +kernel
theorem dX8_earningsOf_44 : decode cX8_earningsOf 44 = .ok (.iload 4, 2) := by decide +kernel
theorem dX8_earningsOf_46 : decode cX8_earningsOf 46 = .ok (.iadd, 1) := by decide +kernel
theorem dX8_earningsOf_47 : decode cX8_earningsOf 47 = .ok (.iaload, 1) := by decide +kernel
theorem dX8_earningsOf_48 : decode cX8_earningsOf 48 = .ok (.ireturn, 1) := by decide +kernel
theorem dX8_earningsOf_49 : decode cX8_earningsOf 49 = .ok (.aload_n 0, 1) := by decide +kernel
theorem dX8_earningsOf_50 : decode cX8_earningsOf 50 = .ok (.getfield 7, 3) := by decide +kernel
theorem dX8_earningsOf_53 : decode cX8_earningsOf 53 = .ok (.sipush 1038, 3) := by decide +kernel
theorem dX8_earningsOf_56 : decode cX8_earningsOf 56 = .ok (.iload 4, 2) := by decide +kernel
theorem dX8_earningsOf_58 : decode cX8_earningsOf 58 = .ok (.iadd, 1) := by decide +kernel
theorem dX8_earningsOf_59 : decode cX8_earningsOf 59 = .ok (.iaload, 1) := by decide +kernel
theorem dX8_earningsOf_60 : decode cX8_earningsOf 60 = .ok (.ifCond .lt 32, 3) := by decide +kernel
theorem dX8_earningsOf_63 : decode cX8_earningsOf 63 = .ok (.aload_n 0, 1) := by decide +kernel
theorem dX8_earningsOf_64 : decode cX8_earningsOf 64 = .ok (.getfield 7, 3) := by decide +kernel
theorem dX8_earningsOf_67 : decode cX8_earningsOf 67 = .ok (.sipush 1038, 3) := by decide +kernel
theorem dX8_earningsOf_70 : decode cX8_earningsOf 70 = .ok (.iload 4, 2) := by decide +kernel
theorem dX8_earningsOf_72 : decode cX8_earningsOf 72 = .ok (.iadd, 1) := by decide +kernel
theorem dX8_earningsOf_73 : decode cX8_earningsOf 73 = .ok (.iaload, 1) := by decide +kernel
theorem dX8_earningsOf_74 : decode cX8_earningsOf 74 = .ok (.iload_n 3, 1) := by decide +kernel
theorem dX8_earningsOf_75 : decode cX8_earningsOf 75 = .ok (.if_icmp .gt 17, 3) := by decide +kernel
theorem dX8_earningsOf_78 : decode cX8_earningsOf 78 = .ok (.aload_n 0, 1) := by decide +kernel
theorem dX8_earningsOf_79 : decode cX8_earningsOf 79 = .ok (.getfield 7, 3) := by decide +kernel
theorem dX8_earningsOf_82 : decode cX8_earningsOf 82 = .ok (.sipush 558, 3) := by decide +kernel
theorem dX8_earningsOf_85 : decode cX8_earningsOf 85 = .ok (.iload 4, 2) := by decide +kernel
theorem dX8_earningsOf_87 : decode cX8_earningsOf 87 = .ok (.iadd, 1) := by decide +kernel
theorem dX8_earningsOf_88 : decode cX8_earningsOf 88 = .ok (.iaload, 1) := by decide +kernel
theorem dX8_earningsOf_89 : decode cX8_earningsOf 89 = .ok (.goto 4, 3) := by decide +kernel
theorem dX8_earningsOf_92 : decode cX8_earningsOf 92 = .ok (.iconst (-1), 1) := by decide +kernel
theorem dX8_earningsOf_93 : decode cX8_earningsOf 93 = .ok (.ireturn, 1) := by decide +kernel
def kX8_earningsOf (live : am_E) (Ret : am_R) : am_code := [(0, am_const (.int 40) 2), (2, am_iload 1 3), (3, am_i2 (fun x y => x * y) 4), (4, am_iload 2 5), (5, am_i2 (fun x y => x + y) 6), (6, am_istore 4 5 8), (8, am_aload 0 9), (9, am_getR live 8 0 12), (12, am_const (.int 1998) 15), (15, am_iload 4 17), (17, am_i2 (fun x y => x + y) 18), (18, am_ald live 0 19), (19, am_if1 (fun x => x < 0) 49 22), (22, am_aload 0 23), (23, am_getR live 8 0 26), (26, am_const (.int 1998) 29), (29, am_iload 4 31), (31, am_i2 (fun x y => x + y) 32), (32, am_ald live 0 33), (33, am_iload 3 34), (34, am_if2 (fun x y => y < x) 49 37), (37, am_aload 0 38), (38, am_getR live 8 0 41), (41, am_const (.int 1518) 44), (44, am_iload 4 46), (46, am_i2 (fun x y => x + y) 47), (47, am_ald live 0 48), (48, am_retI Ret), (49, am_aload 0 50), (50, am_getR live 8 0 53), (53, am_const (.int 1038) 56), (56, am_iload 4 58), (58, am_i2 (fun x y => x + y) 59), (59, am_ald live 0 60), (60, am_if1 (fun x => x < 0) 92 63), (63, am_aload 0 64), (64, am_getR live 8 0 67), (67, am_const (.int 1038) 70), (70, am_iload 4 72), (72, am_i2 (fun x y => x + y) 73), (73, am_ald live 0 74), (74, am_iload 3 75), (75, am_if2 (fun x y => y < x) 92 78), (78, am_aload 0 79), (79, am_getR live 8 0 82), (82, am_const (.int 558) 85), (85, am_iload 4 87), (87, am_i2 (fun x y => x + y) 88), (88, am_ald live 0 89), (89, am_goto 93), (92, am_const (.int (-1)) 93), (93, am_retI Ret)]
theorem koX8_earningsOf (live : am_E) (Ret : am_R) : ∀ q ∈ kX8_earningsOf live Ret, am_ok RX8 cX8_earningsOf 5 (some .int) 0 0 live Ret q.1 q.2 :=
  am_kc (ak_bipush dX8_earningsOf_0 (by decide +kernel) rfl) <|
  am_kc (ak_iload_n dX8_earningsOf_2 rfl rfl) <|
  am_kc (ak_imul dX8_earningsOf_3 rfl) <|
  am_kc (ak_iload_n dX8_earningsOf_4 rfl rfl) <|
  am_kc (ak_iadd dX8_earningsOf_5 rfl) <|
  am_kc (ak_istore dX8_earningsOf_6 rfl) <|
  am_kc (ak_aload_n dX8_earningsOf_8 rfl rfl) <|
  am_kc (ak_getR (C := RX8) (T := TX8) (N := 27) rfl inX8w (by decide) rfl rfl rfl wd_895 dX8_earningsOf_9 rfl) <|
  am_kc (ak_sipush dX8_earningsOf_12 (by decide +kernel) rfl) <|
  am_kc (ak_iload dX8_earningsOf_15 rfl) <|
  am_kc (ak_iadd dX8_earningsOf_17 rfl) <|
  am_kc (ak_iald (t := 0) (fun _ => rfl) rfl dX8_earningsOf_18 rfl) <|
  am_kc (ak_if_lt dX8_earningsOf_19 (by decide +kernel) rfl) <|
  am_kc (ak_aload_n dX8_earningsOf_22 rfl rfl) <|
  am_kc (ak_getR (C := RX8) (T := TX8) (N := 27) rfl inX8w (by decide) rfl rfl rfl wd_895 dX8_earningsOf_23 rfl) <|
  am_kc (ak_sipush dX8_earningsOf_26 (by decide +kernel) rfl) <|
  am_kc (ak_iload dX8_earningsOf_29 rfl) <|
  am_kc (ak_iadd dX8_earningsOf_31 rfl) <|
  am_kc (ak_iald (t := 0) (fun _ => rfl) rfl dX8_earningsOf_32 rfl) <|
  am_kc (ak_iload_n dX8_earningsOf_33 rfl rfl) <|
  am_kc (ak_icmp_gt dX8_earningsOf_34 (by decide +kernel) rfl) <|
  am_kc (ak_aload_n dX8_earningsOf_37 rfl rfl) <|
  am_kc (ak_getR (C := RX8) (T := TX8) (N := 27) rfl inX8w (by decide) rfl rfl rfl wd_895 dX8_earningsOf_38 rfl) <|
  am_kc (ak_sipush dX8_earningsOf_41 (by decide +kernel) rfl) <|
  am_kc (ak_iload dX8_earningsOf_44 rfl) <|
  am_kc (ak_iadd dX8_earningsOf_46 rfl) <|
  am_kc (ak_iald (t := 0) (fun _ => rfl) rfl dX8_earningsOf_47 rfl) <|
  am_kc (ak_retI dX8_earningsOf_48) <|
  am_kc (ak_aload_n dX8_earningsOf_49 rfl rfl) <|
  am_kc (ak_getR (C := RX8) (T := TX8) (N := 27) rfl inX8w (by decide) rfl rfl rfl wd_895 dX8_earningsOf_50 rfl) <|
  am_kc (ak_sipush dX8_earningsOf_53 (by decide +kernel) rfl) <|
  am_kc (ak_iload dX8_earningsOf_56 rfl) <|
  am_kc (ak_iadd dX8_earningsOf_58 rfl) <|
  am_kc (ak_iald (t := 0) (fun _ => rfl) rfl dX8_earningsOf_59 rfl) <|
  am_kc (ak_if_lt dX8_earningsOf_60 (by decide +kernel) rfl) <|
  am_kc (ak_aload_n dX8_earningsOf_63 rfl rfl) <|
  am_kc (ak_getR (C := RX8) (T := TX8) (N := 27) rfl inX8w (by decide) rfl rfl rfl wd_895 dX8_earningsOf_64 rfl) <|
  am_kc (ak_sipush dX8_earningsOf_67 (by decide +kernel) rfl) <|
  am_kc (ak_iload dX8_earningsOf_70 rfl) <|
  am_kc (ak_iadd dX8_earningsOf_72 rfl) <|
  am_kc (ak_iald (t := 0) (fun _ => rfl) rfl dX8_earningsOf_73 rfl) <|
  am_kc (ak_iload_n dX8_earningsOf_74 rfl rfl) <|
  am_kc (ak_icmp_gt dX8_earningsOf_75 (by decide +kernel) rfl) <|
  am_kc (ak_aload_n dX8_earningsOf_78 rfl rfl) <|
  am_kc (ak_getR (C := RX8) (T := TX8) (N := 27) rfl inX8w (by decide) rfl rfl rfl wd_895 dX8_earningsOf_79 rfl) <|
  am_kc (ak_sipush dX8_earningsOf_82 (by decide +kernel) rfl) <|
  am_kc (ak_iload dX8_earningsOf_85 rfl) <|
  am_kc (ak_iadd dX8_earningsOf_87 rfl) <|
  am_kc (ak_iald (t := 0) (fun _ => rfl) rfl dX8_earningsOf_88 rfl) <|
  am_kc (ak_goto dX8_earningsOf_89 (by decide +kernel)) <|
  am_kc (ak_iconst dX8_earningsOf_92 (by decide +kernel) rfl) <|
  am_kc (ak_retI dX8_earningsOf_93) <| am_kn
def r_known (M : am_M) (p y k : Int32) : Int32 := if ¬ M.1 201 (1998 + (40 * p + y)).toNatClampNeg < 0 ∧ ¬ k < M.1 201 (1998 + (40 * p + y)).toNatClampNeg then M.1 201 (1518 + (40 * p + y)).toNatClampNeg else if ¬ M.1 201 (1038 + (40 * p + y)).toNatClampNeg < 0 ∧ ¬ k < M.1 201 (1038 + (40 * p + y)).toNatClampNeg then M.1 201 (558 + (40 * p + y)).toNatClampNeg else -1
def TX8_earningsOf : am_T := fun live as M R => match as with
  | [.ref n, .int p, .int y, .int k] => am_mn live ∧ n = 200 ∧ am_in p 12 ∧ am_in y 40 ∧ R (some (.int (r_known M p y k))) M
  | _ => False
set_option maxRecDepth 100000 in
set_option maxHeartbeats 4000000 in
theorem metX8_earningsOf : am_Met yX8_earningsOf cX8_earningsOf 5 (some .int) (0) (0) TX8_earningsOf := by
  refine am_met (own := RX8) (by decide +kernel) rfl kX8_earningsOf koX8_earningsOf 100 (fun _ _ _ _ _ => none) (fun live as M Ret h => ?_) (fun _ _ _ _ _ _ _ _ hI => by cases hI)
  unfold TX8_earningsOf at h
  split at h
  · next n p y k =>
    refine ⟨Nat.le_of_ble_eq_true rfl, ?_⟩
    change am_wp _ _ _ _ [(0, Value.ref n), (1, Value.int p), (2, Value.int y), (3, Value.int k)] _ _
    obtain ⟨⟨i1, i2, rfl⟩, rfl, hp, hy, h⟩ := h
    have l201 : am_len 201 = 3760 := rfl
    have hp1 := hp.1
    have hp2 := hp.2
    have hy1 := hy.1
    have hy2 := hy.2
    have e40 := r_mul (c := 40) (x := p) ⟨by decide, by decide⟩ ⟨by omega, by omega⟩
    simp only [Int32.reduceToInt] at e40
    have ey := r_off (c := 40 * p) (x := y) ⟨by rw [e40]; omega, by rw [e40]; omega⟩ ⟨by omega, by omega⟩
    rw [e40] at ey
    have e558 := r_off (c := 558) (x := 40 * p + y) ⟨by decide, by decide⟩ ⟨by rw [ey]; omega, by rw [ey]; omega⟩
    simp only [ey, Int32.reduceToInt] at e558
    have e1038 := r_off (c := 1038) (x := 40 * p + y) ⟨by decide, by decide⟩ ⟨by rw [ey]; omega, by rw [ey]; omega⟩
    simp only [ey, Int32.reduceToInt] at e1038
    have e1518 := r_off (c := 1518) (x := 40 * p + y) ⟨by decide, by decide⟩ ⟨by rw [ey]; omega, by rw [ey]; omega⟩
    simp only [ey, Int32.reduceToInt] at e1518
    have e1998 := r_off (c := 1998) (x := 40 * p + y) ⟨by decide, by decide⟩ ⟨by rw [ey]; omega, by rw [ey]; omega⟩
    simp only [ey, Int32.reduceToInt] at e1998
    by_cases z0 : M.1 201 (1998 + (40 * p + y)).toNatClampNeg < 0
    · by_cases z2 : M.1 201 (1038 + (40 * p + y)).toNatClampNeg < 0
      · rw [show r_known M p y k = -1 by unfold r_known; rw [if_neg (fun q => q.1 z0), if_neg (fun q => q.1 z2)]] at h
        repeat' (first | apply And.intro | exact rfl | (intro hx; with_reducible exact absurd z0 hx) | (intro hx; with_reducible exact absurd z2 hx) | intro hx | (refine Exists.intro _ (And.intro rfl ?_)))
        all_goals try first | (with_reducible change am_tI _ _) | (change Ret _ _) | (change Ret _ _ _) | (change Exists _)
        all_goals try dsimp only at *
        all_goals try exact absurd ‹(1000 : Int64) = 0› (by decide)
        all_goals first | exact h | (simp only [e558, l201, Int32.reduceToInt]; omega) | (simp only [e1038, l201, Int32.reduceToInt]; omega) | (simp only [e1518, l201, Int32.reduceToInt]; omega) | (simp only [e1998, l201, Int32.reduceToInt]; omega)
      · by_cases z3 : k < M.1 201 (1038 + (40 * p + y)).toNatClampNeg
        · rw [show r_known M p y k = -1 by unfold r_known; rw [if_neg (fun q => q.1 z0), if_neg (fun q => q.2 z3)]] at h
          repeat' (first | apply And.intro | exact rfl | (intro hx; with_reducible exact absurd hx z2) | (intro hx; with_reducible exact absurd z0 hx) | (intro hx; with_reducible exact absurd z3 hx) | intro hx | (refine Exists.intro _ (And.intro rfl ?_)))
          all_goals try first | (with_reducible change am_tI _ _) | (change Ret _ _) | (change Ret _ _ _) | (change Exists _)
          all_goals try dsimp only at *
          all_goals try exact absurd ‹(1000 : Int64) = 0› (by decide)
          all_goals first | exact h | (simp only [e558, l201, Int32.reduceToInt]; omega) | (simp only [e1038, l201, Int32.reduceToInt]; omega) | (simp only [e1518, l201, Int32.reduceToInt]; omega) | (simp only [e1998, l201, Int32.reduceToInt]; omega)
        · rw [show r_known M p y k = M.1 201 (558 + (40 * p + y)).toNatClampNeg by unfold r_known; rw [if_neg (fun q => q.1 z0), if_pos ⟨z2, z3⟩]] at h
          repeat' (first | apply And.intro | exact rfl | (intro hx; with_reducible exact absurd hx z2) | (intro hx; with_reducible exact absurd hx z3) | (intro hx; with_reducible exact absurd z0 hx) | intro hx | (refine Exists.intro _ (And.intro rfl ?_)))
          all_goals try first | (with_reducible change am_tI _ _) | (change Ret _ _) | (change Ret _ _ _) | (change Exists _)
          all_goals try dsimp only at *
          all_goals try exact absurd ‹(1000 : Int64) = 0› (by decide)
          all_goals first | exact h | (simp only [e558, l201, Int32.reduceToInt]; omega) | (simp only [e1038, l201, Int32.reduceToInt]; omega) | (simp only [e1518, l201, Int32.reduceToInt]; omega) | (simp only [e1998, l201, Int32.reduceToInt]; omega)
    · by_cases z1 : k < M.1 201 (1998 + (40 * p + y)).toNatClampNeg
      · by_cases z2 : M.1 201 (1038 + (40 * p + y)).toNatClampNeg < 0
        · rw [show r_known M p y k = -1 by unfold r_known; rw [if_neg (fun q => q.2 z1), if_neg (fun q => q.1 z2)]] at h
          repeat' (first | apply And.intro | exact rfl | (intro hx; with_reducible exact absurd hx z0) | (intro hx; with_reducible exact absurd z1 hx) | (intro hx; with_reducible exact absurd z2 hx) | intro hx | (refine Exists.intro _ (And.intro rfl ?_)))
          all_goals try first | (with_reducible change am_tI _ _) | (change Ret _ _) | (change Ret _ _ _) | (change Exists _)
          all_goals try dsimp only at *
          all_goals try exact absurd ‹(1000 : Int64) = 0› (by decide)
          all_goals first | exact h | (simp only [e558, l201, Int32.reduceToInt]; omega) | (simp only [e1038, l201, Int32.reduceToInt]; omega) | (simp only [e1518, l201, Int32.reduceToInt]; omega) | (simp only [e1998, l201, Int32.reduceToInt]; omega)
        · by_cases z3 : k < M.1 201 (1038 + (40 * p + y)).toNatClampNeg
          · rw [show r_known M p y k = -1 by unfold r_known; rw [if_neg (fun q => q.2 z1), if_neg (fun q => q.2 z3)]] at h
            repeat' (first | apply And.intro | exact rfl | (intro hx; with_reducible exact absurd hx z0) | (intro hx; with_reducible exact absurd hx z2) | (intro hx; with_reducible exact absurd z1 hx) | (intro hx; with_reducible exact absurd z3 hx) | intro hx | (refine Exists.intro _ (And.intro rfl ?_)))
            all_goals try first | (with_reducible change am_tI _ _) | (change Ret _ _) | (change Ret _ _ _) | (change Exists _)
            all_goals try dsimp only at *
            all_goals try exact absurd ‹(1000 : Int64) = 0› (by decide)
            all_goals first | exact h | (simp only [e558, l201, Int32.reduceToInt]; omega) | (simp only [e1038, l201, Int32.reduceToInt]; omega) | (simp only [e1518, l201, Int32.reduceToInt]; omega) | (simp only [e1998, l201, Int32.reduceToInt]; omega)
          · rw [show r_known M p y k = M.1 201 (558 + (40 * p + y)).toNatClampNeg by unfold r_known; rw [if_neg (fun q => q.2 z1), if_pos ⟨z2, z3⟩]] at h
            repeat' (first | apply And.intro | exact rfl | (intro hx; with_reducible exact absurd hx z0) | (intro hx; with_reducible exact absurd hx z2) | (intro hx; with_reducible exact absurd hx z3) | (intro hx; with_reducible exact absurd z1 hx) | intro hx | (refine Exists.intro _ (And.intro rfl ?_)))
            all_goals try first | (with_reducible change am_tI _ _) | (change Ret _ _) | (change Ret _ _ _) | (change Exists _)
            all_goals try dsimp only at *
            all_goals try exact absurd ‹(1000 : Int64) = 0› (by decide)
            all_goals first | exact h | (simp only [e558, l201, Int32.reduceToInt]; omega) | (simp only [e1038, l201, Int32.reduceToInt]; omega) | (simp only [e1518, l201, Int32.reduceToInt]; omega) | (simp only [e1998, l201, Int32.reduceToInt]; omega)
      · rw [show r_known M p y k = M.1 201 (1518 + (40 * p + y)).toNatClampNeg by unfold r_known; rw [if_pos ⟨z0, z1⟩]] at h
        repeat' (first | apply And.intro | exact rfl | (intro hx; with_reducible exact absurd hx z0) | (intro hx; with_reducible exact absurd hx z1) | intro hx | (refine Exists.intro _ (And.intro rfl ?_)))
        all_goals try first | (with_reducible change am_tI _ _) | (change Ret _ _) | (change Ret _ _ _) | (change Exists _)
        all_goals try dsimp only at *
        all_goals try exact absurd ‹(1000 : Int64) = 0› (by decide)
        all_goals first | exact h | (simp only [e558, l201, Int32.reduceToInt]; omega) | (simp only [e1038, l201, Int32.reduceToInt]; omega) | (simp only [e1518, l201, Int32.reduceToInt]; omega) | (simp only [e1998, l201, Int32.reduceToInt]; omega)
  · exact h.elim
set_option maxRecDepth 100000 in
theorem wd_1026 : Cond.methodLink "LearnLoansModel" 89 yX8_earningsOf ∈ am_ws := am_wsi (List.mem_of_getElem? (i := 1026) (by rfl)) (by decide +kernel)
set_option maxRecDepth 100000 in
theorem wd_1028 : Cond.instanceMethod yX8_earningsOf ∈ am_ws := am_wsi (List.mem_of_getElem? (i := 1028) (by rfl)) (by decide +kernel)
set_option maxRecDepth 100000 in
theorem wd_28 : Cond.selects "LearnLoansModel" yX8_earningsOf yX8_earningsOf ∈ am_ws := am_wsi (List.mem_of_getElem? (i := 28) (by rfl)) (by decide +kernel)
set_option maxRecDepth 100000 in
theorem wd_1029 : Cond.code yX8_earningsOf cX8_earningsOf 5 (some .int) ∈ am_ws := am_wsi (List.mem_of_getElem? (i := 1029) (by rfl)) (by decide +kernel)
theorem dX8_earnings_0 : decode cX8_earnings 0 = .ok (.aload_n 0, 1) := by decide +kernel
theorem dX8_earnings_1 : decode cX8_earnings 1 = .ok (.iload_n 1, 1) := by decide +kernel
theorem dX8_earnings_2 : decode cX8_earnings 2 = .ok (.invokevirtual 76, 3) := by decide +kernel
theorem dX8_earnings_5 : decode cX8_earnings 5 = .ok (.ifCond .eq 27, 3) := by decide +kernel
theorem dX8_earnings_8 : decode cX8_earnings 8 = .ok (.iload_n 2, 1) := by decide +kernel
theorem dX8_earnings_9 : decode cX8_earnings 9 = .ok (.invokestatic 72, 3) := by decide +kernel
theorem dX8_earnings_12 : decode cX8_earnings 12 = .ok (.ifCond .eq 20, 3) := by decide +kernel
theorem dX8_earnings_15 : decode cX8_earnings 15 = .ok (.iload_n 3, 1) := by decide +kernel
theorem dX8_earnings_16 : decode cX8_earnings 16 = .ok (.invokestatic 72, 3) := by decide +kernel
theorem dX8_earnings_19 : decode cX8_earnings 19 = .ok (.ifCond .eq 13, 3) := by decide +kernel
theorem dX8_earnings_22 : decode cX8_earnings 22 = .ok (.aload_n 0, 1) := by decide +kernel
theorem dX8_earnings_23 : decode cX8_earnings 23 = .ok (.iload_n 1, 1) := by decide +kernel
theorem dX8_earnings_24 : decode cX8_earnings 24 = .ok (.iload_n 2, 1) := by decide +kernel
theorem dX8_earnings_25 : decode cX8_earnings 25 = .ok (.iload_n 3, 1) := by decide +kernel
theorem dX8_earnings_26 : decode cX8_earnings 26 = .ok (.invokevirtual 89, 3) := by decide +kernel
theorem dX8_earnings_29 : decode cX8_earnings 29 = .ok (.goto 5, 3) := by decide +kernel
theorem dX8_earnings_32 : decode cX8_earnings 32 = .ok (.bipush (-2), 2) := by decide +kernel
theorem dX8_earnings_34 : decode cX8_earnings 34 = .ok (.ireturn, 1) := by decide +kernel
def kX8_earnings (live : am_E) (Ret : am_R) : am_code := [(0, am_aload 0 1), (1, am_iload 1 2), (2, am_callV live 8 1 TX8_isPerson 5), (5, am_if1 (fun x => x = 0) 32 8), (8, am_iload 2 9), (9, am_callS live 1 TX8_isYear 12), (12, am_if1 (fun x => x = 0) 32 15), (15, am_iload 3 16), (16, am_callS live 1 TX8_isYear 19), (19, am_if1 (fun x => x = 0) 32 22), (22, am_aload 0 23), (23, am_iload 1 24), (24, am_iload 2 25), (25, am_iload 3 26), (26, am_callV live 8 3 TX8_earningsOf 29), (29, am_goto 34), (32, am_const (.int (-2)) 34), (34, am_retI Ret)]
theorem koX8_earnings (live : am_E) (Ret : am_R) : ∀ q ∈ kX8_earnings live Ret, am_ok RX8 cX8_earnings 4 (some .int) 2 46 live Ret q.1 q.2 :=
  am_kc (ak_aload_n dX8_earnings_0 rfl rfl) <|
  am_kc (ak_iload_n dX8_earnings_1 rfl rfl) <|
  am_kc (ak_callV (C := RX8) (F := TX8) (N := 27) metX8_isPerson rfl ⟨rfl, by decide +kernel, by decide +kernel, by decide +kernel⟩ (am_w5 wd_993 wd_995 wd_27 wd_67 wd_996) (by decide) dX8_earnings_2 rfl) <|
  am_kc (ak_if_eq dX8_earnings_5 (by decide +kernel) rfl) <|
  am_kc (ak_iload_n dX8_earnings_8 rfl rfl) <|
  am_kc (ak_callS metX8_isYear ⟨rfl, by decide +kernel, by decide +kernel, by decide +kernel⟩ (am_w4 wd_982 wd_983 wd_67 wd_984) (by decide) dX8_earnings_9 rfl) <|
  am_kc (ak_if_eq dX8_earnings_12 (by decide +kernel) rfl) <|
  am_kc (ak_iload_n dX8_earnings_15 rfl rfl) <|
  am_kc (ak_callS metX8_isYear ⟨rfl, by decide +kernel, by decide +kernel, by decide +kernel⟩ (am_w4 wd_982 wd_983 wd_67 wd_984) (by decide) dX8_earnings_16 rfl) <|
  am_kc (ak_if_eq dX8_earnings_19 (by decide +kernel) rfl) <|
  am_kc (ak_aload_n dX8_earnings_22 rfl rfl) <|
  am_kc (ak_iload_n dX8_earnings_23 rfl rfl) <|
  am_kc (ak_iload_n dX8_earnings_24 rfl rfl) <|
  am_kc (ak_iload_n dX8_earnings_25 rfl rfl) <|
  am_kc (ak_callV (C := RX8) (F := TX8) (N := 27) metX8_earningsOf rfl ⟨rfl, by decide +kernel, by decide +kernel, by decide +kernel⟩ (am_w5 wd_1026 wd_1028 wd_28 wd_67 wd_1029) (by decide) dX8_earnings_26 rfl) <|
  am_kc (ak_goto dX8_earnings_29 (by decide +kernel)) <|
  am_kc (ak_bipush dX8_earnings_32 (by decide +kernel) rfl) <|
  am_kc (ak_retI dX8_earnings_34) <| am_kn
def r_earnings (M : am_M) (p y k : Int32) : Int32 × am_M := if 0 ≤ p ∧ p < M.1 201 0 then (if 0 ≤ y ∧ y < 40 then (if 0 ≤ k ∧ k < 40 then (r_known M p y k, M) else ((-2 : Int32), M)) else ((-2 : Int32), M)) else ((-2 : Int32), M)
def TX8_earnings : am_T := fun live as M R => match as with
  | [.ref n, .int p, .int y, .int k] => am_mn live ∧ n = 200 ∧ r_I M ∧ R (some (.int (r_earnings M p y k).1)) (r_earnings M p y k).2
  | _ => False
set_option maxRecDepth 100000 in
set_option maxHeartbeats 4000000 in
theorem metX8_earnings : am_Met yX8_earnings cX8_earnings 4 (some .int) (2) (46) TX8_earnings := by
  refine am_met (own := RX8) (by decide +kernel) rfl kX8_earnings koX8_earnings 200 (fun _ _ _ _ _ => none) (fun live as M Ret h => ?_) (fun _ _ _ _ _ _ _ _ hI => by cases hI)
  unfold TX8_earnings at h
  split at h
  · next n p y k =>
    refine ⟨Nat.le_of_ble_eq_true rfl, ?_⟩
    change am_wp _ _ _ _ [(0, Value.ref n), (1, Value.int p), (2, Value.int y), (3, Value.int k)] _ _
    obtain ⟨hmn, rfl, hR, h⟩ := h
    have hmn2 := hmn
    obtain ⟨i1, i2, rfl⟩ := hmn2
    have l201 : am_len 201 = 3760 := rfl
    have n0 := hR.n0
    have n1 := hR.n1
    have n030 : 0 ≤ (M.1 201 0).toInt ∧ (M.1 201 0).toInt ≤ 30 := ⟨n0.1, by omega⟩
    by_cases z0 : 0 ≤ p ∧ p < M.1 201 0
    rotate_left
    · skip
      have q0 : (if 0 ≤ p ∧ p < M.1 201 0 then (1 : Int32) else 0) = 0 := if_neg z0
      have e : r_earnings M p y k = ((-2 : Int32), M) := by unfold r_earnings; rw [if_neg z0]
      rw [e] at h
      repeat' (first | (with_reducible exact hmn) | (with_reducible exact h) | (with_reducible exact n030) | (with_reducible exact n1) | apply And.intro | exact rfl | (intro hx; with_reducible exact absurd q0 hx) | (intro hx; exact absurd hx (by decide)) | (intro hx; exact absurd (by decide) hx) | decide | intro hx | (refine Exists.intro _ (And.intro rfl ?_)))
      all_goals try first | (with_reducible change am_tI _ _) | (change Ret _ _) | (change Ret _ _ _) | (change Exists _)
      all_goals try dsimp only at *
      all_goals try exact absurd ‹(1000 : Int64) = 0› (by decide)
      all_goals first | exact h | exact n0.1 | omega | (show _ < _; simp only [l201]; decide) | skip
    · skip
      have q0 : ¬ ((if 0 ≤ p ∧ p < M.1 201 0 then (1 : Int32) else 0) = 0) := by rw [if_pos z0]; decide
      by_cases z1 : 0 ≤ y ∧ y < 40
      rotate_left
      · skip
        have q1 : (if 0 ≤ y ∧ y < 40 then (1 : Int32) else 0) = 0 := if_neg z1
        have e : r_earnings M p y k = ((-2 : Int32), M) := by unfold r_earnings; rw [if_pos z0, if_neg z1]
        rw [e] at h
        repeat' (first | (with_reducible exact hmn) | (with_reducible exact h) | (with_reducible exact n030) | (with_reducible exact n1) | apply And.intro | exact rfl | (intro hx; with_reducible exact absurd hx q0) | (intro hx; with_reducible exact absurd q1 hx) | (intro hx; exact absurd hx (by decide)) | (intro hx; exact absurd (by decide) hx) | decide | intro hx | (refine Exists.intro _ (And.intro rfl ?_)))
        all_goals try first | (with_reducible change am_tI _ _) | (change Ret _ _) | (change Ret _ _ _) | (change Exists _)
        all_goals try dsimp only at *
        all_goals try exact absurd ‹(1000 : Int64) = 0› (by decide)
        all_goals first | exact h | exact n0.1 | omega | (show _ < _; simp only [l201]; decide) | skip
      · skip
        have q1 : ¬ ((if 0 ≤ y ∧ y < 40 then (1 : Int32) else 0) = 0) := by rw [if_pos z1]; decide
        by_cases z2 : 0 ≤ k ∧ k < 40
        rotate_left
        · skip
          have q2 : (if 0 ≤ k ∧ k < 40 then (1 : Int32) else 0) = 0 := if_neg z2
          have e : r_earnings M p y k = ((-2 : Int32), M) := by unfold r_earnings; rw [if_pos z0, if_pos z1, if_neg z2]
          rw [e] at h
          repeat' (first | (with_reducible exact hmn) | (with_reducible exact h) | (with_reducible exact n030) | (with_reducible exact n1) | apply And.intro | exact rfl | (intro hx; with_reducible exact absurd hx q0) | (intro hx; with_reducible exact absurd hx q1) | (intro hx; with_reducible exact absurd q2 hx) | (intro hx; exact absurd hx (by decide)) | (intro hx; exact absurd (by decide) hx) | decide | intro hx | (refine Exists.intro _ (And.intro rfl ?_)))
          all_goals try first | (with_reducible change am_tI _ _) | (change Ret _ _) | (change Ret _ _ _) | (change Exists _)
          all_goals try dsimp only at *
          all_goals try exact absurd ‹(1000 : Int64) = 0› (by decide)
          all_goals first | exact h | exact n0.1 | omega | (show _ < _; simp only [l201]; decide) | skip
        · skip
          have q2 : ¬ ((if 0 ≤ k ∧ k < 40 then (1 : Int32) else 0) = 0) := by rw [if_pos z2]; decide
          have hp : am_in p 12 := ⟨by have q := z0.1; simp only [i_le, Int32.reduceToInt] at q; omega, by have q := z0.2; simp only [i_lt] at q; omega⟩
          have hy : am_in y 40 := ⟨by have q := z1.1; simp only [i_le, Int32.reduceToInt] at q; omega, by have q := z1.2; simp only [i_lt, Int32.reduceToInt] at q; omega⟩
          have e : r_earnings M p y k = (r_known M p y k, M) := by unfold r_earnings; rw [if_pos z0, if_pos z1, if_pos z2]
          rw [e] at h
          repeat' (first | (with_reducible exact hmn) | (with_reducible exact n030) | (with_reducible exact n1) | (with_reducible exact hp) | (with_reducible exact hy) | apply And.intro | exact rfl | (intro hx; with_reducible exact absurd hx q0) | (intro hx; with_reducible exact absurd hx q1) | (intro hx; with_reducible exact absurd hx q2) | (intro hx; exact absurd hx (by decide)) | (intro hx; exact absurd (by decide) hx) | decide | intro hx | (refine Exists.intro _ (And.intro rfl ?_)))
          all_goals try first | (with_reducible change am_tI _ _) | (change Ret _ _) | (change Ret _ _ _) | (change Exists _)
          all_goals try dsimp only at *
          all_goals try exact absurd ‹(1000 : Int64) = 0› (by decide)
          all_goals first | exact h | exact n0.1 | omega | (show _ < _; simp only [l201]; decide) | skip
  · exact h.elim
theorem dX8_right_0 : decode cX8_right 0 = .ok (.aload_n 0, 1) := by decide +kernel
theorem dX8_right_1 : decode cX8_right 1 = .ok (.iload_n 1, 1) := by decide +kernel
theorem dX8_right_2 : decode cX8_right 2 = .ok (.invokevirtual 76, 3) := by decide +kernel
theorem dX8_right_5 : decode cX8_right 5 = .ok (.ifCond .eq 30, 3) := by decide +kernel
theorem dX8_right_8 : decode cX8_right 8 = .ok (.iload_n 2, 1) := by decide +kernel
theorem dX8_right_9 : decode cX8_right 9 = .ok (.invokestatic 72, 3) := by decide +kernel
theorem dX8_right_12 : decode cX8_right 12 = .ok (.ifCond .eq 23, 3) := by decide +kernel
theorem dX8_right_15 : decode cX8_right 15 = .ok (.iload_n 3, 1) := by decide +kernel
theorem dX8_right_16 : decode cX8_right 16 = .ok (.i2l, 1) := by decide +kernel
theorem dX8_right_17 : decode cX8_right 17 = .ok (.lconst 0, 1) := by decide +kernel
theorem dX8_right_18 : decode cX8_right 18 = .ok (.ldc2_w 87, 3) := by decide +kernel
theorem dX8_right_21 : decode cX8_right 21 = .ok (.invokestatic 66, 3) := by decide +kernel
theorem dX8_right_24 : decode cX8_right 24 = .ok (.ifCond .eq 11, 3) := by decide +kernel
theorem dX8_right_27 : decode cX8_right 27 = .ok (.iload 4, 2) := by decide +kernel
theorem dX8_right_29 : decode cX8_right 29 = .ok (.invokestatic 72, 3) := by decide +kernel
theorem dX8_right_32 : decode cX8_right 32 = .ok (.ifCond .ne 6, 3) := by decide +kernel
theorem dX8_right_35 : decode cX8_right 35 = .ok (.bipush (-2), 2) := by decide +kernel
theorem dX8_right_37 : decode cX8_right 37 = .ok (.ireturn, 1) := by decide +kernel
theorem dX8_right_38 : decode cX8_right 38 = .ok (.bipush 40, 2) := by decide +kernel
theorem dX8_right_40 : decode cX8_right 40 = .ok (.iload_n 1, 1) := by decide +kernel
theorem dX8_right_41 : decode cX8_right 41 = .ok (.imul, 1) := by decide +kernel
theorem dX8_right_42 : decode cX8_right 42 = .ok (.iload_n 2, 1) := by decide +kernel
theorem dX8_right_43 : decode cX8_right 43 = .ok (.iadd, 1) := by decide +kernel
theorem dX8_right_44 : decode cX8_right 44 = .ok (.istore 5, 2) := by decide +kernel
theorem dX8_right_46 : decode cX8_right 46 = .ok (.aload_n 0, 1) := by decide +kernel
theorem dX8_right_47 : decode cX8_right 47 = .ok (.getfield 7, 3) := by decide +kernel
theorem dX8_right_50 : decode cX8_right 50 = .ok (.sipush 1038, 3) := by decide +kernel
theorem dX8_right_53 : decode cX8_right 53 = .ok (.iload 5, 2) := by decide +kernel
theorem dX8_right_55 : decode cX8_right 55 = .ok (.iadd, 1) := by decide +kernel
theorem dX8_right_56 : decode cX8_right 56 = .ok (.iaload, 1) := by decide +kernel
theorem dX8_right_57 : decode cX8_right 57 = .ok (.istore 6, 2) := by decide +kernel
theorem dX8_right_59 : decode cX8_right 59 = .ok (.iload 6, 2) := by decide +kernel
theorem dX8_right_61 : decode cX8_right 61 = .ok (.ifCond .lt 13, 3) := by decide +kernel
theorem dX8_right_64 : decode cX8_right 64 = .ok (.iload 4, 2) := by decide +kernel
theorem dX8_right_66 : decode cX8_right 66 = .ok (.iload 6, 2) := by decide +kernel
theorem dX8_right_68 : decode cX8_right 68 = .ok (.if_icmp .ge 6, 3) := by decide +kernel
theorem dX8_right_71 : decode cX8_right 71 = .ok (.bipush (-2), 2) := by decide +kernel
theorem dX8_right_73 : decode cX8_right 73 = .ok (.ireturn, 1) := by decide +kernel
theorem dX8_right_74 : decode cX8_right 74 = .ok (.iload 6, 2) := by decide +kernel
theorem dX8_right_76 : decode cX8_right 76 = .ok (.ifCond .lt 17, 3) := by decide +kernel
theorem dX8_right_79 : decode cX8_right 79 = .ok (.aload_n 0, 1) := by decide +kernel
theorem dX8_right_80 : decode cX8_right 80 = .ok (.getfield 7, 3) := by decide +kernel
theorem dX8_right_83 : decode cX8_right 83 = .ok (.sipush 1998, 3) := by decide +kernel
theorem dX8_right_86 : decode cX8_right 86 = .ok (.iload 5, 2) := by decide +kernel
theorem dX8_right_88 : decode cX8_right 88 = .ok (.iadd, 1) := by decide +kernel
theorem dX8_right_89 : decode cX8_right 89 = .ok (.iaload, 1) := by decide +kernel
theorem dX8_right_90 : decode cX8_right 90 = .ok (.ifCond .lt 6, 3) := by decide +kernel
theorem dX8_right_93 : decode cX8_right 93 = .ok (.bipush (-3), 2) := by decide +kernel
theorem dX8_right_95 : decode cX8_right 95 = .ok (.ireturn, 1) := by decide +kernel
theorem dX8_right_96 : decode cX8_right 96 = .ok (.aload_n 0, 1) := by decide +kernel
theorem dX8_right_97 : decode cX8_right 97 = .ok (.getfield 7, 3) := by decide +kernel
theorem dX8_right_100 : decode cX8_right 100 = .ok (.sipush 1518, 3) := by decide +kernel
theorem dX8_right_103 : decode cX8_right 103 = .ok (.iload 5, 2) := by decide +kernel
theorem dX8_right_105 : decode cX8_right 105 = .ok (.iadd, 1) := by decide +kernel
theorem dX8_right_106 : decode cX8_right 106 = .ok (.iload_n 3, 1) := by decide +kernel
theorem dX8_right_107 : decode cX8_right 107 = .ok (.iastore, 1) := by decide +kernel
theorem dX8_right_108 : decode cX8_right 108 = .ok (.aload_n 0, 1) := by decide +kernel
theorem dX8_right_109 : decode cX8_right 109 = .ok (.getfield 7, 3) := by decide +kernel
theorem dX8_right_112 : decode cX8_right 112 = .ok (.sipush 1998, 3) := by decide +kernel
theorem dX8_right_115 : decode cX8_right 115 = .ok (.iload 5, 2) := by decide +kernel
theorem dX8_right_117 : decode cX8_right 117 = .ok (.iadd, 1) := by decide +kernel
theorem dX8_right_118 : decode cX8_right 118 = .ok (.iload 4, 2) := by decide +kernel
theorem dX8_right_120 : decode cX8_right 120 = .ok (.iastore, 1) := by decide +kernel
theorem dX8_right_121 : decode cX8_right 121 = .ok (.iconst 1, 1) := by decide +kernel
theorem dX8_right_122 : decode cX8_right 122 = .ok (.ireturn, 1) := by decide +kernel
def kX8_right (live : am_E) (Ret : am_R) : am_code := [(0, am_aload 0 1), (1, am_iload 1 2), (2, am_callV live 8 1 TX8_isPerson 5), (5, am_if1 (fun x => x = 0) 35 8), (8, am_iload 2 9), (9, am_callS live 1 TX8_isYear 12), (12, am_if1 (fun x => x = 0) 35 15), (15, am_iload 3 16), (16, am_i2l 17), (17, am_const (.long 0) 18), (18, am_const (.long 10000000) 21), (21, am_callS live 3 TX8_in 24), (24, am_if1 (fun x => x = 0) 35 27), (27, am_iload 4 29), (29, am_callS live 1 TX8_isYear 32), (32, am_if1 (fun x => x = 0) 35 38), (35, am_const (.int (-2)) 37), (37, am_retI Ret), (38, am_const (.int 40) 40), (40, am_iload 1 41), (41, am_i2 (fun x y => x * y) 42), (42, am_iload 2 43), (43, am_i2 (fun x y => x + y) 44), (44, am_istore 5 7 46), (46, am_aload 0 47), (47, am_getR live 8 0 50), (50, am_const (.int 1038) 53), (53, am_iload 5 55), (55, am_i2 (fun x y => x + y) 56), (56, am_ald live 0 57), (57, am_istore 6 7 59), (59, am_iload 6 61), (61, am_if1 (fun x => x < 0) 74 64), (64, am_iload 4 66), (66, am_iload 6 68), (68, am_if2 (fun x y => y ≤ x) 74 71), (71, am_const (.int (-2)) 73), (73, am_retI Ret), (74, am_iload 6 76), (76, am_if1 (fun x => x < 0) 93 79), (79, am_aload 0 80), (80, am_getR live 8 0 83), (83, am_const (.int 1998) 86), (86, am_iload 5 88), (88, am_i2 (fun x y => x + y) 89), (89, am_ald live 0 90), (90, am_if1 (fun x => x < 0) 96 93), (93, am_const (.int (-3)) 95), (95, am_retI Ret), (96, am_aload 0 97), (97, am_getR live 8 0 100), (100, am_const (.int 1518) 103), (103, am_iload 5 105), (105, am_i2 (fun x y => x + y) 106), (106, am_iload 3 107), (107, am_ast live 0 108), (108, am_aload 0 109), (109, am_getR live 8 0 112), (112, am_const (.int 1998) 115), (115, am_iload 5 117), (117, am_i2 (fun x y => x + y) 118), (118, am_iload 4 120), (120, am_ast live 0 121), (121, am_const (.int 1) 122), (122, am_retI Ret)]
theorem koX8_right (live : am_E) (Ret : am_R) : ∀ q ∈ kX8_right live Ret, am_ok RX8 cX8_right 7 (some .int) 2 46 live Ret q.1 q.2 :=
  am_kc (ak_aload_n dX8_right_0 rfl rfl) <|
  am_kc (ak_iload_n dX8_right_1 rfl rfl) <|
  am_kc (ak_callV (C := RX8) (F := TX8) (N := 27) metX8_isPerson rfl ⟨rfl, by decide +kernel, by decide +kernel, by decide +kernel⟩ (am_w5 wd_993 wd_995 wd_27 wd_67 wd_996) (by decide) dX8_right_2 rfl) <|
  am_kc (ak_if_eq dX8_right_5 (by decide +kernel) rfl) <|
  am_kc (ak_iload_n dX8_right_8 rfl rfl) <|
  am_kc (ak_callS metX8_isYear ⟨rfl, by decide +kernel, by decide +kernel, by decide +kernel⟩ (am_w4 wd_982 wd_983 wd_67 wd_984) (by decide) dX8_right_9 rfl) <|
  am_kc (ak_if_eq dX8_right_12 (by decide +kernel) rfl) <|
  am_kc (ak_iload_n dX8_right_15 rfl rfl) <|
  am_kc (ak_i2l dX8_right_16 rfl) <|
  am_kc (ak_lconst dX8_right_17 (by decide +kernel) rfl) <|
  am_kc (ak_ldc2 wd_1017 dX8_right_18 rfl) <|
  am_kc (ak_callS metX8_in ⟨rfl, by decide +kernel, by decide +kernel, by decide +kernel⟩ (am_w4 wd_986 wd_987 wd_67 wd_988) (by decide) dX8_right_21 rfl) <|
  am_kc (ak_if_eq dX8_right_24 (by decide +kernel) rfl) <|
  am_kc (ak_iload dX8_right_27 rfl) <|
  am_kc (ak_callS metX8_isYear ⟨rfl, by decide +kernel, by decide +kernel, by decide +kernel⟩ (am_w4 wd_982 wd_983 wd_67 wd_984) (by decide) dX8_right_29 rfl) <|
  am_kc (ak_if_ne dX8_right_32 (by decide +kernel) rfl) <|
  am_kc (ak_bipush dX8_right_35 (by decide +kernel) rfl) <|
  am_kc (ak_retI dX8_right_37) <|
  am_kc (ak_bipush dX8_right_38 (by decide +kernel) rfl) <|
  am_kc (ak_iload_n dX8_right_40 rfl rfl) <|
  am_kc (ak_imul dX8_right_41 rfl) <|
  am_kc (ak_iload_n dX8_right_42 rfl rfl) <|
  am_kc (ak_iadd dX8_right_43 rfl) <|
  am_kc (ak_istore dX8_right_44 rfl) <|
  am_kc (ak_aload_n dX8_right_46 rfl rfl) <|
  am_kc (ak_getR (C := RX8) (T := TX8) (N := 27) rfl inX8w (by decide) rfl rfl rfl wd_895 dX8_right_47 rfl) <|
  am_kc (ak_sipush dX8_right_50 (by decide +kernel) rfl) <|
  am_kc (ak_iload dX8_right_53 rfl) <|
  am_kc (ak_iadd dX8_right_55 rfl) <|
  am_kc (ak_iald (t := 0) (fun _ => rfl) rfl dX8_right_56 rfl) <|
  am_kc (ak_istore dX8_right_57 rfl) <|
  am_kc (ak_iload dX8_right_59 rfl) <|
  am_kc (ak_if_lt dX8_right_61 (by decide +kernel) rfl) <|
  am_kc (ak_iload dX8_right_64 rfl) <|
  am_kc (ak_iload dX8_right_66 rfl) <|
  am_kc (ak_icmp_ge dX8_right_68 (by decide +kernel) rfl) <|
  am_kc (ak_bipush dX8_right_71 (by decide +kernel) rfl) <|
  am_kc (ak_retI dX8_right_73) <|
  am_kc (ak_iload dX8_right_74 rfl) <|
  am_kc (ak_if_lt dX8_right_76 (by decide +kernel) rfl) <|
  am_kc (ak_aload_n dX8_right_79 rfl rfl) <|
  am_kc (ak_getR (C := RX8) (T := TX8) (N := 27) rfl inX8w (by decide) rfl rfl rfl wd_895 dX8_right_80 rfl) <|
  am_kc (ak_sipush dX8_right_83 (by decide +kernel) rfl) <|
  am_kc (ak_iload dX8_right_86 rfl) <|
  am_kc (ak_iadd dX8_right_88 rfl) <|
  am_kc (ak_iald (t := 0) (fun _ => rfl) rfl dX8_right_89 rfl) <|
  am_kc (ak_if_lt dX8_right_90 (by decide +kernel) rfl) <|
  am_kc (ak_bipush dX8_right_93 (by decide +kernel) rfl) <|
  am_kc (ak_retI dX8_right_95) <|
  am_kc (ak_aload_n dX8_right_96 rfl rfl) <|
  am_kc (ak_getR (C := RX8) (T := TX8) (N := 27) rfl inX8w (by decide) rfl rfl rfl wd_895 dX8_right_97 rfl) <|
  am_kc (ak_sipush dX8_right_100 (by decide +kernel) rfl) <|
  am_kc (ak_iload dX8_right_103 rfl) <|
  am_kc (ak_iadd dX8_right_105 rfl) <|
  am_kc (ak_iload_n dX8_right_106 rfl rfl) <|
  am_kc (ak_iast (t := 0) (fun _ => rfl) rfl dX8_right_107 rfl) <|
  am_kc (ak_aload_n dX8_right_108 rfl rfl) <|
  am_kc (ak_getR (C := RX8) (T := TX8) (N := 27) rfl inX8w (by decide) rfl rfl rfl wd_895 dX8_right_109 rfl) <|
  am_kc (ak_sipush dX8_right_112 (by decide +kernel) rfl) <|
  am_kc (ak_iload dX8_right_115 rfl) <|
  am_kc (ak_iadd dX8_right_117 rfl) <|
  am_kc (ak_iload dX8_right_118 rfl) <|
  am_kc (ak_iast (t := 0) (fun _ => rfl) rfl dX8_right_120 rfl) <|
  am_kc (ak_iconst dX8_right_121 (by decide +kernel) rfl) <|
  am_kc (ak_retI dX8_right_122) <| am_kn
def r_right (M : am_M) (p y c k : Int32) : Int32 × am_M := if 0 ≤ p ∧ p < M.1 201 0 then (if 0 ≤ y ∧ y < 40 then (if 0 ≤ c ∧ c ≤ 10000000 then (if 0 ≤ k ∧ k < 40 then (if M.1 201 (1038 + (40 * p + y)).toNatClampNeg < 0 then ((-3 : Int32), M) else (if M.1 201 (1038 + (40 * p + y)).toNatClampNeg ≤ k then (if M.1 201 (1998 + (40 * p + y)).toNatClampNeg < 0 then (1, am_wI (am_wI M 201 (1518 + (40 * p + y)).toNatClampNeg c) 201 (1998 + (40 * p + y)).toNatClampNeg k) else ((-3 : Int32), M)) else ((-2 : Int32), M))) else ((-2 : Int32), M)) else ((-2 : Int32), M)) else ((-2 : Int32), M)) else ((-2 : Int32), M)
def TX8_right : am_T := fun live as M R => match as with
  | [.ref n, .int p, .int y, .int c, .int k] => am_mn live ∧ n = 200 ∧ r_I M ∧ R (some (.int (r_right M p y c k).1)) (r_right M p y c k).2
  | _ => False
set_option maxRecDepth 100000 in
set_option maxHeartbeats 4000000 in
theorem metX8_right : am_Met yX8_right cX8_right 7 (some .int) (2) (46) TX8_right := by
  refine am_met (own := RX8) (by decide +kernel) rfl kX8_right koX8_right 200 (fun _ _ _ _ _ => none) (fun live as M Ret h => ?_) (fun _ _ _ _ _ _ _ _ hI => by cases hI)
  unfold TX8_right at h
  split at h
  · next n p y c k =>
    refine ⟨Nat.le_of_ble_eq_true rfl, ?_⟩
    change am_wp _ _ _ _ [(0, Value.ref n), (1, Value.int p), (2, Value.int y), (3, Value.int c), (4, Value.int k)] _ _
    obtain ⟨hmn, rfl, hR, h⟩ := h
    have hmn2 := hmn
    obtain ⟨i1, i2, rfl⟩ := hmn2
    have l201 : am_len 201 = 3760 := rfl
    have n0 := hR.n0
    have n1 := hR.n1
    have n030 : 0 ≤ (M.1 201 0).toInt ∧ (M.1 201 0).toInt ≤ 30 := ⟨n0.1, by omega⟩
    by_cases z0 : 0 ≤ p ∧ p < M.1 201 0
    rotate_left
    · skip
      have q0 : (if 0 ≤ p ∧ p < M.1 201 0 then (1 : Int32) else 0) = 0 := if_neg z0
      have e : r_right M p y c k = ((-2 : Int32), M) := by unfold r_right; rw [if_neg z0]
      rw [e] at h
      repeat' (first | (with_reducible exact hmn) | (with_reducible exact h) | (with_reducible exact n030) | (with_reducible exact n1) | apply And.intro | exact rfl | (intro hx; with_reducible exact absurd q0 hx) | (intro hx; exact absurd hx (by decide)) | (intro hx; exact absurd (by decide) hx) | decide | intro hx | (refine Exists.intro _ (And.intro rfl ?_)))
      all_goals try first | (with_reducible change am_tI _ _) | (change Ret _ _) | (change Ret _ _ _) | (change Exists _)
      all_goals try dsimp only at *
      all_goals try exact absurd ‹(1000 : Int64) = 0› (by decide)
      all_goals first | exact h | exact n0.1 | omega | (simp only [e1038, l201, Int32.reduceToInt]; omega) | (simp only [e1518, l201, Int32.reduceToInt]; omega) | (simp only [e1998, l201, Int32.reduceToInt]; omega) | (show _ < _; simp only [l201]; decide) | skip
    · skip
      have q0 : ¬ ((if 0 ≤ p ∧ p < M.1 201 0 then (1 : Int32) else 0) = 0) := by rw [if_pos z0]; decide
      by_cases z1 : 0 ≤ y ∧ y < 40
      rotate_left
      · skip
        have q1 : (if 0 ≤ y ∧ y < 40 then (1 : Int32) else 0) = 0 := if_neg z1
        have e : r_right M p y c k = ((-2 : Int32), M) := by unfold r_right; rw [if_pos z0, if_neg z1]
        rw [e] at h
        repeat' (first | (with_reducible exact hmn) | (with_reducible exact h) | (with_reducible exact n030) | (with_reducible exact n1) | apply And.intro | exact rfl | (intro hx; with_reducible exact absurd hx q0) | (intro hx; with_reducible exact absurd q1 hx) | (intro hx; exact absurd hx (by decide)) | (intro hx; exact absurd (by decide) hx) | decide | intro hx | (refine Exists.intro _ (And.intro rfl ?_)))
        all_goals try first | (with_reducible change am_tI _ _) | (change Ret _ _) | (change Ret _ _ _) | (change Exists _)
        all_goals try dsimp only at *
        all_goals try exact absurd ‹(1000 : Int64) = 0› (by decide)
        all_goals first | exact h | exact n0.1 | omega | (simp only [e1038, l201, Int32.reduceToInt]; omega) | (simp only [e1518, l201, Int32.reduceToInt]; omega) | (simp only [e1998, l201, Int32.reduceToInt]; omega) | (show _ < _; simp only [l201]; decide) | skip
      · skip
        have q1 : ¬ ((if 0 ≤ y ∧ y < 40 then (1 : Int32) else 0) = 0) := by rw [if_pos z1]; decide
        by_cases z2 : 0 ≤ c ∧ c ≤ 10000000
        rotate_left
        · skip
          have q2 : (if (0 : Int64) ≤ c.toInt64 ∧ c.toInt64 ≤ (10000000 : Int64) then (1 : Int32) else 0) = 0 := if_neg (fun r => z2 (by simp only [i_le, i_lt, j_le, Int32.toInt_toInt64, Int32.reduceToInt, Int64.reduceToInt] at r ⊢; omega))
          have e : r_right M p y c k = ((-2 : Int32), M) := by unfold r_right; rw [if_pos z0, if_pos z1, if_neg z2]
          rw [e] at h
          repeat' (first | (with_reducible exact hmn) | (with_reducible exact h) | (with_reducible exact n030) | (with_reducible exact n1) | apply And.intro | exact rfl | (intro hx; with_reducible exact absurd hx q0) | (intro hx; with_reducible exact absurd hx q1) | (intro hx; with_reducible exact absurd q2 hx) | (intro hx; exact absurd hx (by decide)) | (intro hx; exact absurd (by decide) hx) | decide | intro hx | (refine Exists.intro _ (And.intro rfl ?_)))
          all_goals try first | (with_reducible change am_tI _ _) | (change Ret _ _) | (change Ret _ _ _) | (change Exists _)
          all_goals try dsimp only at *
          all_goals try exact absurd ‹(1000 : Int64) = 0› (by decide)
          all_goals first | exact h | exact n0.1 | omega | (simp only [e1038, l201, Int32.reduceToInt]; omega) | (simp only [e1518, l201, Int32.reduceToInt]; omega) | (simp only [e1998, l201, Int32.reduceToInt]; omega) | (show _ < _; simp only [l201]; decide) | skip
        · skip
          have q2 : ¬ ((if (0 : Int64) ≤ c.toInt64 ∧ c.toInt64 ≤ (10000000 : Int64) then (1 : Int32) else 0) = 0) := by rw [if_pos (by have q := z2; simp only [i_le, i_lt, j_le, Int32.toInt_toInt64, Int32.reduceToInt, Int64.reduceToInt] at q ⊢; omega)]; decide
          by_cases z3 : 0 ≤ k ∧ k < 40
          rotate_left
          · skip
            have q3 : (if 0 ≤ k ∧ k < 40 then (1 : Int32) else 0) = 0 := if_neg z3
            have e : r_right M p y c k = ((-2 : Int32), M) := by unfold r_right; rw [if_pos z0, if_pos z1, if_pos z2, if_neg z3]
            rw [e] at h
            repeat' (first | (with_reducible exact hmn) | (with_reducible exact h) | (with_reducible exact n030) | (with_reducible exact n1) | apply And.intro | exact rfl | (intro hx; with_reducible exact absurd hx q0) | (intro hx; with_reducible exact absurd hx q1) | (intro hx; with_reducible exact absurd hx q2) | (intro hx; with_reducible exact absurd q3 hx) | (intro hx; exact absurd hx (by decide)) | (intro hx; exact absurd (by decide) hx) | decide | intro hx | (refine Exists.intro _ (And.intro rfl ?_)))
            all_goals try first | (with_reducible change am_tI _ _) | (change Ret _ _) | (change Ret _ _ _) | (change Exists _)
            all_goals try dsimp only at *
            all_goals try exact absurd ‹(1000 : Int64) = 0› (by decide)
            all_goals first | exact h | exact n0.1 | omega | (simp only [e1038, l201, Int32.reduceToInt]; omega) | (simp only [e1518, l201, Int32.reduceToInt]; omega) | (simp only [e1998, l201, Int32.reduceToInt]; omega) | (show _ < _; simp only [l201]; decide) | skip
          · skip
            have q3 : ¬ ((if 0 ≤ k ∧ k < 40 then (1 : Int32) else 0) = 0) := by rw [if_pos z3]; decide
            have hp : am_in p 12 := ⟨by have q := z0.1; simp only [i_le, Int32.reduceToInt] at q; omega, by have q := z0.2; simp only [i_lt] at q; omega⟩
            have hy : am_in y 40 := ⟨by have q := z1.1; simp only [i_le, Int32.reduceToInt] at q; omega, by have q := z1.2; simp only [i_lt, Int32.reduceToInt] at q; omega⟩
            have hp1 := hp.1
            have hp2 := hp.2
            have hy1 := hy.1
            have hy2 := hy.2
            have e40 := r_mul (c := 40) (x := p) ⟨by decide, by decide⟩ ⟨by omega, by omega⟩
            simp only [Int32.reduceToInt] at e40
            have ey := r_off (c := 40 * p) (x := y) ⟨by rw [e40]; omega, by rw [e40]; omega⟩ ⟨by omega, by omega⟩
            rw [e40] at ey
            have e1038 := r_off (c := 1038) (x := 40 * p + y) ⟨by decide, by decide⟩ ⟨by rw [ey]; omega, by rw [ey]; omega⟩
            simp only [ey, Int32.reduceToInt] at e1038
            have e1518 := r_off (c := 1518) (x := 40 * p + y) ⟨by decide, by decide⟩ ⟨by rw [ey]; omega, by rw [ey]; omega⟩
            simp only [ey, Int32.reduceToInt] at e1518
            have e1998 := r_off (c := 1998) (x := 40 * p + y) ⟨by decide, by decide⟩ ⟨by rw [ey]; omega, by rw [ey]; omega⟩
            simp only [ey, Int32.reduceToInt] at e1998
            by_cases z4 : M.1 201 (1038 + (40 * p + y)).toNatClampNeg < 0
            · skip
              have y4 : ¬ (0 : Int32) ≤ M.1 201 (1038 + (40 * p + y)).toNatClampNeg := Int32.not_le.mpr z4
              have e : r_right M p y c k = ((-3 : Int32), M) := by unfold r_right; rw [if_pos z0, if_pos z1, if_pos z2, if_pos z3, if_pos z4]
              rw [e] at h
              repeat' (first | (with_reducible exact hmn) | (with_reducible exact h) | (with_reducible exact n030) | (with_reducible exact n1) | apply And.intro | exact rfl | (intro hx; with_reducible exact absurd hx q0) | (intro hx; with_reducible exact absurd hx q1) | (intro hx; with_reducible exact absurd hx q2) | (intro hx; with_reducible exact absurd hx q3) | (intro hx; with_reducible exact absurd hx y4) | (intro hx; with_reducible exact absurd z4 hx) | (intro hx; exact absurd hx (by decide)) | (intro hx; exact absurd (by decide) hx) | decide | intro hx | (refine Exists.intro _ (And.intro rfl ?_)))
              all_goals try first | (with_reducible change am_tI _ _) | (change Ret _ _) | (change Ret _ _ _) | (change Exists _)
              all_goals try dsimp only at *
              all_goals try exact absurd ‹(1000 : Int64) = 0› (by decide)
              all_goals first | exact h | exact n0.1 | omega | (simp only [e1038, l201, Int32.reduceToInt]; omega) | (simp only [e1518, l201, Int32.reduceToInt]; omega) | (simp only [e1998, l201, Int32.reduceToInt]; omega) | (show _ < _; simp only [l201]; decide) | skip
            · skip
              have y4 : (0 : Int32) ≤ M.1 201 (1038 + (40 * p + y)).toNatClampNeg := Int32.not_lt.mp z4
              by_cases z5 : M.1 201 (1038 + (40 * p + y)).toNatClampNeg ≤ k
              rotate_left
              · skip
                have y5 : (k : Int32) < M.1 201 (1038 + (40 * p + y)).toNatClampNeg := Int32.not_le.mp z5
                have e : r_right M p y c k = ((-2 : Int32), M) := by unfold r_right; rw [if_pos z0, if_pos z1, if_pos z2, if_pos z3, if_neg z4, if_neg z5]
                rw [e] at h
                repeat' (first | (with_reducible exact hmn) | (with_reducible exact h) | (with_reducible exact n030) | (with_reducible exact n1) | apply And.intro | exact rfl | (intro hx; with_reducible exact absurd hx q0) | (intro hx; with_reducible exact absurd hx q1) | (intro hx; with_reducible exact absurd hx q2) | (intro hx; with_reducible exact absurd hx q3) | (intro hx; with_reducible exact absurd hx z4) | (intro hx; with_reducible exact absurd hx z5) | (intro hx; with_reducible exact absurd y4 hx) | (intro hx; with_reducible exact absurd y5 hx) | (intro hx; exact absurd hx (by decide)) | (intro hx; exact absurd (by decide) hx) | decide | intro hx | (refine Exists.intro _ (And.intro rfl ?_)))
                all_goals try first | (with_reducible change am_tI _ _) | (change Ret _ _) | (change Ret _ _ _) | (change Exists _)
                all_goals try dsimp only at *
                all_goals try exact absurd ‹(1000 : Int64) = 0› (by decide)
                all_goals first | exact h | exact n0.1 | omega | (simp only [e1038, l201, Int32.reduceToInt]; omega) | (simp only [e1518, l201, Int32.reduceToInt]; omega) | (simp only [e1998, l201, Int32.reduceToInt]; omega) | (show _ < _; simp only [l201]; decide) | skip
              · skip
                have y5 : ¬ (k : Int32) < M.1 201 (1038 + (40 * p + y)).toNatClampNeg := Int32.not_lt.mpr z5
                by_cases z6 : M.1 201 (1998 + (40 * p + y)).toNatClampNeg < 0
                rotate_left
                · skip
                  have y6 : (0 : Int32) ≤ M.1 201 (1998 + (40 * p + y)).toNatClampNeg := Int32.not_lt.mp z6
                  have e : r_right M p y c k = ((-3 : Int32), M) := by unfold r_right; rw [if_pos z0, if_pos z1, if_pos z2, if_pos z3, if_neg z4, if_pos z5, if_neg z6]
                  rw [e] at h
                  repeat' (first | (with_reducible exact hmn) | (with_reducible exact h) | (with_reducible exact n030) | (with_reducible exact n1) | apply And.intro | exact rfl | (intro hx; with_reducible exact absurd hx q0) | (intro hx; with_reducible exact absurd hx q1) | (intro hx; with_reducible exact absurd hx q2) | (intro hx; with_reducible exact absurd hx q3) | (intro hx; with_reducible exact absurd hx z4) | (intro hx; with_reducible exact absurd hx y5) | (intro hx; with_reducible exact absurd hx z6) | (intro hx; with_reducible exact absurd y4 hx) | (intro hx; with_reducible exact absurd z5 hx) | (intro hx; with_reducible exact absurd y6 hx) | (intro hx; exact absurd hx (by decide)) | (intro hx; exact absurd (by decide) hx) | decide | intro hx | (refine Exists.intro _ (And.intro rfl ?_)))
                  all_goals try first | (with_reducible change am_tI _ _) | (change Ret _ _) | (change Ret _ _ _) | (change Exists _)
                  all_goals try dsimp only at *
                  all_goals try exact absurd ‹(1000 : Int64) = 0› (by decide)
                  all_goals first | exact h | exact n0.1 | omega | (simp only [e1038, l201, Int32.reduceToInt]; omega) | (simp only [e1518, l201, Int32.reduceToInt]; omega) | (simp only [e1998, l201, Int32.reduceToInt]; omega) | (show _ < _; simp only [l201]; decide) | skip
                · skip
                  have y6 : ¬ (0 : Int32) ≤ M.1 201 (1998 + (40 * p + y)).toNatClampNeg := Int32.not_le.mpr z6
                  have e : r_right M p y c k = (1, am_wI (am_wI M 201 (1518 + (40 * p + y)).toNatClampNeg c) 201 (1998 + (40 * p + y)).toNatClampNeg k) := by unfold r_right; rw [if_pos z0, if_pos z1, if_pos z2, if_pos z3, if_neg z4, if_pos z5, if_pos z6]
                  rw [e] at h
                  repeat' (first | (with_reducible exact hmn) | (with_reducible exact n030) | (with_reducible exact n1) | apply And.intro | exact rfl | (intro hx; with_reducible exact absurd hx q0) | (intro hx; with_reducible exact absurd hx q1) | (intro hx; with_reducible exact absurd hx q2) | (intro hx; with_reducible exact absurd hx q3) | (intro hx; with_reducible exact absurd hx z4) | (intro hx; with_reducible exact absurd hx y5) | (intro hx; with_reducible exact absurd hx y6) | (intro hx; with_reducible exact absurd y4 hx) | (intro hx; with_reducible exact absurd z5 hx) | (intro hx; with_reducible exact absurd z6 hx) | (intro hx; exact absurd hx (by decide)) | (intro hx; exact absurd (by decide) hx) | decide | intro hx | (refine Exists.intro _ (And.intro rfl ?_)))
                  all_goals try first | (with_reducible change am_tI _ _) | (change Ret _ _) | (change Ret _ _ _) | (change Exists _)
                  all_goals try dsimp only at *
                  all_goals try exact absurd ‹(1000 : Int64) = 0› (by decide)
                  all_goals first | exact h | exact n0.1 | omega | (simp only [e1038, l201, Int32.reduceToInt]; omega) | (simp only [e1518, l201, Int32.reduceToInt]; omega) | (simp only [e1998, l201, Int32.reduceToInt]; omega) | (show _ < _; simp only [l201]; decide) | skip
  · exact h.elim
set_option maxRecDepth 100000 in
theorem wd_1073 : Cond.methodLink "LearnLoansModel" 134 yX8_given ∈ am_ws := am_wsi (List.mem_of_getElem? (i := 1073) (by rfl)) (by decide +kernel)
set_option maxRecDepth 100000 in
theorem wd_1075 : Cond.instanceMethod yX8_given ∈ am_ws := am_wsi (List.mem_of_getElem? (i := 1075) (by rfl)) (by decide +kernel)
set_option maxRecDepth 100000 in
theorem wd_31 : Cond.selects "LearnLoansModel" yX8_given yX8_given ∈ am_ws := am_wsi (List.mem_of_getElem? (i := 31) (by rfl)) (by decide +kernel)
set_option maxRecDepth 100000 in
theorem wd_1076 : Cond.code yX8_given cX8_given 5 (some .int) ∈ am_ws := am_wsi (List.mem_of_getElem? (i := 1076) (by rfl)) (by decide +kernel)
theorem dX8_leave_0 : decode cX8_leave 0 = .ok (.aload_n 0, 1) := by decide +kernel
theorem dX8_leave_1 : decode cX8_leave 1 = .ok (.iload_n 1, 1) := by decide +kernel
theorem dX8_leave_2 : decode cX8_leave 2 = .ok (.invokevirtual 131, 3) := by decide +kernel
theorem dX8_leave_5 : decode cX8_leave 5 = .ok (.ifCond .eq 47, 3) := by decide +kernel
theorem dX8_leave_8 : decode cX8_leave 8 = .ok (.iload_n 2, 1) := by decide +kernel
theorem dX8_leave_9 : decode cX8_leave 9 = .ok (.invokestatic 72, 3) := by decide +kernel
theorem dX8_leave_12 : decode cX8_leave 12 = .ok (.ifCond .eq 40, 3) := by decide +kernel
theorem dX8_leave_15 : decode cX8_leave 15 = .ok (.aload_n 0, 1) := by decide +kernel
theorem dX8_leave_16 : decode cX8_leave 16 = .ok (.getfield 7, 3) := by decide +kernel
theorem dX8_leave_19 : decode cX8_leave 19 = .ok (.sipush 2838, 3) := by decide +kernel
theorem dX8_leave_22 : decode cX8_leave 22 = .ok (.bipush 8, 2) := by decide +kernel
theorem dX8_leave_24 : decode cX8_leave 24 = .ok (.iload_n 1, 1) := by decide +kernel
theorem dX8_leave_25 : decode cX8_leave 25 = .ok (.imul, 1) := by decide +kernel
theorem dX8_leave_26 : decode cX8_leave 26 = .ok (.iadd, 1) := by decide +kernel
theorem dX8_leave_27 : decode cX8_leave 27 = .ok (.iconst 4, 1) := by decide +kernel
theorem dX8_leave_28 : decode cX8_leave 28 = .ok (.iadd, 1) := by decide +kernel
theorem dX8_leave_29 : decode cX8_leave 29 = .ok (.iaload, 1) := by decide +kernel
theorem dX8_leave_30 : decode cX8_leave 30 = .ok (.ifCond .eq 22, 3) := by decide +kernel
theorem dX8_leave_33 : decode cX8_leave 33 = .ok (.iload_n 2, 1) := by decide +kernel
theorem dX8_leave_34 : decode cX8_leave 34 = .ok (.aload_n 0, 1) := by decide +kernel
theorem dX8_leave_35 : decode cX8_leave 35 = .ok (.getfield 7, 3) := by decide +kernel
theorem dX8_leave_38 : decode cX8_leave 38 = .ok (.sipush 2838, 3) := by decide +kernel
theorem dX8_leave_41 : decode cX8_leave 41 = .ok (.bipush 8, 2) := by decide +kernel
theorem dX8_leave_43 : decode cX8_leave 43 = .ok (.iload_n 1, 1) := by decide +kernel
theorem dX8_leave_44 : decode cX8_leave 44 = .ok (.imul, 1) := by decide +kernel
theorem dX8_leave_45 : decode cX8_leave 45 = .ok (.iadd, 1) := by decide +kernel
theorem dX8_leave_46 : decode cX8_leave 46 = .ok (.iconst 2, 1) := by decide +kernel
theorem dX8_leave_47 : decode cX8_leave 47 = .ok (.iadd, 1) := by decide +kernel
theorem dX8_leave_48 : decode cX8_leave 48 = .ok (.iaload, 1) := by decide +kernel
theorem dX8_leave_49 : decode cX8_leave 49 = .ok (.if_icmp .ge 6, 3) := by decide +kernel
theorem dX8_leave_52 : decode cX8_leave 52 = .ok (.bipush (-2), 2) := by decide +kernel
theorem dX8_leave_54 : decode cX8_leave 54 = .ok (.ireturn, 1) := by decide +kernel
theorem dX8_leave_55 : decode cX8_leave 55 = .ok (.aload_n 0, 1) := by decide +kernel
theorem dX8_leave_56 : decode cX8_leave 56 = .ok (.getfield 7, 3) := by decide +kernel
theorem dX8_leave_59 : decode cX8_leave 59 = .ok (.sipush 2838, 3) := by decide +kernel
theorem dX8_leave_62 : decode cX8_leave 62 = .ok (.bipush 8, 2) := by decide +kernel
theorem dX8_leave_64 : decode cX8_leave 64 = .ok (.iload_n 1, 1) := by decide +kernel
theorem dX8_leave_65 : decode cX8_leave 65 = .ok (.imul, 1) := by decide +kernel
theorem dX8_leave_66 : decode cX8_leave 66 = .ok (.iadd, 1) := by decide +kernel
theorem dX8_leave_67 : decode cX8_leave 67 = .ok (.iconst 5, 1) := by decide +kernel
theorem dX8_leave_68 : decode cX8_leave 68 = .ok (.iadd, 1) := by decide +kernel
theorem dX8_leave_69 : decode cX8_leave 69 = .ok (.iaload, 1) := by decide +kernel
theorem dX8_leave_70 : decode cX8_leave 70 = .ok (.ifCond .lt 6, 3) := by decide +kernel
theorem dX8_leave_73 : decode cX8_leave 73 = .ok (.bipush (-3), 2) := by decide +kernel
theorem dX8_leave_75 : decode cX8_leave 75 = .ok (.ireturn, 1) := by decide +kernel
theorem dX8_leave_76 : decode cX8_leave 76 = .ok (.aload_n 0, 1) := by decide +kernel
theorem dX8_leave_77 : decode cX8_leave 77 = .ok (.getfield 7, 3) := by decide +kernel
theorem dX8_leave_80 : decode cX8_leave 80 = .ok (.sipush 2838, 3) := by decide +kernel
theorem dX8_leave_83 : decode cX8_leave 83 = .ok (.bipush 8, 2) := by decide +kernel
theorem dX8_leave_85 : decode cX8_leave 85 = .ok (.iload_n 1, 1) := by decide +kernel
theorem dX8_leave_86 : decode cX8_leave 86 = .ok (.imul, 1) := by decide +kernel
theorem dX8_leave_87 : decode cX8_leave 87 = .ok (.iadd, 1) := by decide +kernel
theorem dX8_leave_88 : decode cX8_leave 88 = .ok (.iconst 5, 1) := by decide +kernel
theorem dX8_leave_89 : decode cX8_leave 89 = .ok (.iadd, 1) := by decide +kernel
theorem dX8_leave_90 : decode cX8_leave 90 = .ok (.iload_n 2, 1) := by decide +kernel
theorem dX8_leave_91 : decode cX8_leave 91 = .ok (.iastore, 1) := by decide +kernel
theorem dX8_leave_92 : decode cX8_leave 92 = .ok (.aload_n 0, 1) := by decide +kernel
theorem dX8_leave_93 : decode cX8_leave 93 = .ok (.iload_n 1, 1) := by decide +kernel
theorem dX8_leave_94 : decode cX8_leave 94 = .ok (.iload_n 2, 1) := by decide +kernel
theorem dX8_leave_95 : decode cX8_leave 95 = .ok (.invokevirtual 134, 3) := by decide +kernel
theorem dX8_leave_98 : decode cX8_leave 98 = .ok (.ireturn, 1) := by decide +kernel
def kX8_leave (live : am_E) (Ret : am_R) : am_code := [(0, am_aload 0 1), (1, am_iload 1 2), (2, am_callV live 8 1 TX8_isLoan 5), (5, am_if1 (fun x => x = 0) 52 8), (8, am_iload 2 9), (9, am_callS live 1 TX8_isYear 12), (12, am_if1 (fun x => x = 0) 52 15), (15, am_aload 0 16), (16, am_getR live 8 0 19), (19, am_const (.int 2838) 22), (22, am_const (.int 8) 24), (24, am_iload 1 25), (25, am_i2 (fun x y => x * y) 26), (26, am_i2 (fun x y => x + y) 27), (27, am_const (.int 4) 28), (28, am_i2 (fun x y => x + y) 29), (29, am_ald live 0 30), (30, am_if1 (fun x => x = 0) 52 33), (33, am_iload 2 34), (34, am_aload 0 35), (35, am_getR live 8 0 38), (38, am_const (.int 2838) 41), (41, am_const (.int 8) 43), (43, am_iload 1 44), (44, am_i2 (fun x y => x * y) 45), (45, am_i2 (fun x y => x + y) 46), (46, am_const (.int 2) 47), (47, am_i2 (fun x y => x + y) 48), (48, am_ald live 0 49), (49, am_if2 (fun x y => y ≤ x) 55 52), (52, am_const (.int (-2)) 54), (54, am_retI Ret), (55, am_aload 0 56), (56, am_getR live 8 0 59), (59, am_const (.int 2838) 62), (62, am_const (.int 8) 64), (64, am_iload 1 65), (65, am_i2 (fun x y => x * y) 66), (66, am_i2 (fun x y => x + y) 67), (67, am_const (.int 5) 68), (68, am_i2 (fun x y => x + y) 69), (69, am_ald live 0 70), (70, am_if1 (fun x => x < 0) 76 73), (73, am_const (.int (-3)) 75), (75, am_retI Ret), (76, am_aload 0 77), (77, am_getR live 8 0 80), (80, am_const (.int 2838) 83), (83, am_const (.int 8) 85), (85, am_iload 1 86), (86, am_i2 (fun x y => x * y) 87), (87, am_i2 (fun x y => x + y) 88), (88, am_const (.int 5) 89), (89, am_i2 (fun x y => x + y) 90), (90, am_iload 2 91), (91, am_ast live 0 92), (92, am_aload 0 93), (93, am_iload 1 94), (94, am_iload 2 95), (95, am_callV live 8 2 TX8_given 98), (98, am_retI Ret)]
theorem koX8_leave (live : am_E) (Ret : am_R) : ∀ q ∈ kX8_leave live Ret, am_ok RX8 cX8_leave 3 (some .int) 2 46 live Ret q.1 q.2 :=
  am_kc (ak_aload_n dX8_leave_0 rfl rfl) <|
  am_kc (ak_iload_n dX8_leave_1 rfl rfl) <|
  am_kc (ak_callV (C := RX8) (F := TX8) (N := 27) metX8_isLoan rfl ⟨rfl, by decide +kernel, by decide +kernel, by decide +kernel⟩ (am_w5 wd_1069 wd_1071 wd_30 wd_67 wd_1072) (by decide) dX8_leave_2 rfl) <|
  am_kc (ak_if_eq dX8_leave_5 (by decide +kernel) rfl) <|
  am_kc (ak_iload_n dX8_leave_8 rfl rfl) <|
  am_kc (ak_callS metX8_isYear ⟨rfl, by decide +kernel, by decide +kernel, by decide +kernel⟩ (am_w4 wd_982 wd_983 wd_67 wd_984) (by decide) dX8_leave_9 rfl) <|
  am_kc (ak_if_eq dX8_leave_12 (by decide +kernel) rfl) <|
  am_kc (ak_aload_n dX8_leave_15 rfl rfl) <|
  am_kc (ak_getR (C := RX8) (T := TX8) (N := 27) rfl inX8w (by decide) rfl rfl rfl wd_895 dX8_leave_16 rfl) <|
  am_kc (ak_sipush dX8_leave_19 (by decide +kernel) rfl) <|
  am_kc (ak_bipush dX8_leave_22 (by decide +kernel) rfl) <|
  am_kc (ak_iload_n dX8_leave_24 rfl rfl) <|
  am_kc (ak_imul dX8_leave_25 rfl) <|
  am_kc (ak_iadd dX8_leave_26 rfl) <|
  am_kc (ak_iconst dX8_leave_27 (by decide +kernel) rfl) <|
  am_kc (ak_iadd dX8_leave_28 rfl) <|
  am_kc (ak_iald (t := 0) (fun _ => rfl) rfl dX8_leave_29 rfl) <|
  am_kc (ak_if_eq dX8_leave_30 (by decide +kernel) rfl) <|
  am_kc (ak_iload_n dX8_leave_33 rfl rfl) <|
  am_kc (ak_aload_n dX8_leave_34 rfl rfl) <|
  am_kc (ak_getR (C := RX8) (T := TX8) (N := 27) rfl inX8w (by decide) rfl rfl rfl wd_895 dX8_leave_35 rfl) <|
  am_kc (ak_sipush dX8_leave_38 (by decide +kernel) rfl) <|
  am_kc (ak_bipush dX8_leave_41 (by decide +kernel) rfl) <|
  am_kc (ak_iload_n dX8_leave_43 rfl rfl) <|
  am_kc (ak_imul dX8_leave_44 rfl) <|
  am_kc (ak_iadd dX8_leave_45 rfl) <|
  am_kc (ak_iconst dX8_leave_46 (by decide +kernel) rfl) <|
  am_kc (ak_iadd dX8_leave_47 rfl) <|
  am_kc (ak_iald (t := 0) (fun _ => rfl) rfl dX8_leave_48 rfl) <|
  am_kc (ak_icmp_ge dX8_leave_49 (by decide +kernel) rfl) <|
  am_kc (ak_bipush dX8_leave_52 (by decide +kernel) rfl) <|
  am_kc (ak_retI dX8_leave_54) <|
  am_kc (ak_aload_n dX8_leave_55 rfl rfl) <|
  am_kc (ak_getR (C := RX8) (T := TX8) (N := 27) rfl inX8w (by decide) rfl rfl rfl wd_895 dX8_leave_56 rfl) <|
  am_kc (ak_sipush dX8_leave_59 (by decide +kernel) rfl) <|
  am_kc (ak_bipush dX8_leave_62 (by decide +kernel) rfl) <|
  am_kc (ak_iload_n dX8_leave_64 rfl rfl) <|
  am_kc (ak_imul dX8_leave_65 rfl) <|
  am_kc (ak_iadd dX8_leave_66 rfl) <|
  am_kc (ak_iconst dX8_leave_67 (by decide +kernel) rfl) <|
  am_kc (ak_iadd dX8_leave_68 rfl) <|
  am_kc (ak_iald (t := 0) (fun _ => rfl) rfl dX8_leave_69 rfl) <|
  am_kc (ak_if_lt dX8_leave_70 (by decide +kernel) rfl) <|
  am_kc (ak_bipush dX8_leave_73 (by decide +kernel) rfl) <|
  am_kc (ak_retI dX8_leave_75) <|
  am_kc (ak_aload_n dX8_leave_76 rfl rfl) <|
  am_kc (ak_getR (C := RX8) (T := TX8) (N := 27) rfl inX8w (by decide) rfl rfl rfl wd_895 dX8_leave_77 rfl) <|
  am_kc (ak_sipush dX8_leave_80 (by decide +kernel) rfl) <|
  am_kc (ak_bipush dX8_leave_83 (by decide +kernel) rfl) <|
  am_kc (ak_iload_n dX8_leave_85 rfl rfl) <|
  am_kc (ak_imul dX8_leave_86 rfl) <|
  am_kc (ak_iadd dX8_leave_87 rfl) <|
  am_kc (ak_iconst dX8_leave_88 (by decide +kernel) rfl) <|
  am_kc (ak_iadd dX8_leave_89 rfl) <|
  am_kc (ak_iload_n dX8_leave_90 rfl rfl) <|
  am_kc (ak_iast (t := 0) (fun _ => rfl) rfl dX8_leave_91 rfl) <|
  am_kc (ak_aload_n dX8_leave_92 rfl rfl) <|
  am_kc (ak_iload_n dX8_leave_93 rfl rfl) <|
  am_kc (ak_iload_n dX8_leave_94 rfl rfl) <|
  am_kc (ak_callV (C := RX8) (F := TX8) (N := 27) metX8_given rfl ⟨rfl, by decide +kernel, by decide +kernel, by decide +kernel⟩ (am_w5 wd_1073 wd_1075 wd_31 wd_67 wd_1076) (by decide) dX8_leave_95 rfl) <|
  am_kc (ak_retI dX8_leave_98) <| am_kn
def r_leave (M : am_M) (l y : Int32) : Int32 × am_M := if 0 ≤ l ∧ l < M.1 201 1 then (if 0 ≤ y ∧ y < 40 then (if M.1 201 (2838 + 8 * l + 4).toNatClampNeg = 0 then ((-2 : Int32), M) else (if M.1 201 (2838 + 8 * l + 2).toNatClampNeg ≤ y then (if M.1 201 (2838 + 8 * l + 5).toNatClampNeg < 0 then (r_given (am_wI M 201 (2838 + 8 * l + 5).toNatClampNeg y) l y, am_wI M 201 (2838 + 8 * l + 5).toNatClampNeg y) else ((-3 : Int32), M)) else ((-2 : Int32), M))) else ((-2 : Int32), M)) else ((-2 : Int32), M)
def TX8_leave : am_T := fun live as M R => match as with
  | [.ref n, .int l, .int y] => am_mn live ∧ n = 200 ∧ r_I M ∧ R (some (.int (r_leave M l y).1)) (r_leave M l y).2
  | _ => False
set_option maxRecDepth 100000 in
set_option maxHeartbeats 4000000 in
theorem metX8_leave : am_Met yX8_leave cX8_leave 3 (some .int) (2) (46) TX8_leave := by
  refine am_met (own := RX8) (by decide +kernel) rfl kX8_leave koX8_leave 200 (fun _ _ _ _ _ => none) (fun live as M Ret h => ?_) (fun _ _ _ _ _ _ _ _ hI => by cases hI)
  unfold TX8_leave at h
  split at h
  · next n l y =>
    refine ⟨Nat.le_of_ble_eq_true rfl, ?_⟩
    change am_wp _ _ _ _ [(0, Value.ref n), (1, Value.int l), (2, Value.int y)] _ _
    obtain ⟨hmn, rfl, hR, h⟩ := h
    have hmn2 := hmn
    obtain ⟨i1, i2, rfl⟩ := hmn2
    have l201 : am_len 201 = 3760 := rfl
    have n0 := hR.n0
    have n1 := hR.n1
    have n030 : 0 ≤ (M.1 201 0).toInt ∧ (M.1 201 0).toInt ≤ 30 := ⟨n0.1, by omega⟩
    by_cases z0 : 0 ≤ l ∧ l < M.1 201 1
    rotate_left
    · skip
      have q0 : (if 0 ≤ l ∧ l < M.1 201 1 then (1 : Int32) else 0) = 0 := if_neg z0
      have e : r_leave M l y = ((-2 : Int32), M) := by unfold r_leave; rw [if_neg z0]
      rw [e] at h
      repeat' (first | (with_reducible exact hmn) | (with_reducible exact h) | (with_reducible exact n030) | (with_reducible exact n1) | apply And.intro | exact rfl | (intro hx; with_reducible exact absurd q0 hx) | (intro hx; exact absurd hx (by decide)) | (intro hx; exact absurd (by decide) hx) | decide | intro hx | (refine Exists.intro _ (And.intro rfl ?_)))
      all_goals try first | (with_reducible change am_tI _ _) | (change Ret _ _) | (change Ret _ _ _) | (change Exists _)
      all_goals try dsimp only at *
      all_goals try exact absurd ‹(1000 : Int64) = 0› (by decide)
      all_goals first | exact h | exact n0.1 | omega | (rw [el2]; omega) | (rw [l201, el2]; omega) | (rw [el4]; omega) | (rw [l201, el4]; omega) | (rw [el5]; omega) | (rw [l201, el5]; omega) | (show _ < _; simp only [l201]; decide) | skip
    · skip
      have q0 : ¬ ((if 0 ≤ l ∧ l < M.1 201 1 then (1 : Int32) else 0) = 0) := by rw [if_pos z0]; decide
      by_cases z1 : 0 ≤ y ∧ y < 40
      rotate_left
      · skip
        have q1 : (if 0 ≤ y ∧ y < 40 then (1 : Int32) else 0) = 0 := if_neg z1
        have e : r_leave M l y = ((-2 : Int32), M) := by unfold r_leave; rw [if_pos z0, if_neg z1]
        rw [e] at h
        repeat' (first | (with_reducible exact hmn) | (with_reducible exact h) | (with_reducible exact n030) | (with_reducible exact n1) | apply And.intro | exact rfl | (intro hx; with_reducible exact absurd hx q0) | (intro hx; with_reducible exact absurd q1 hx) | (intro hx; exact absurd hx (by decide)) | (intro hx; exact absurd (by decide) hx) | decide | intro hx | (refine Exists.intro _ (And.intro rfl ?_)))
        all_goals try first | (with_reducible change am_tI _ _) | (change Ret _ _) | (change Ret _ _ _) | (change Exists _)
        all_goals try dsimp only at *
        all_goals try exact absurd ‹(1000 : Int64) = 0› (by decide)
        all_goals first | exact h | exact n0.1 | omega | (rw [el2]; omega) | (rw [l201, el2]; omega) | (rw [el4]; omega) | (rw [l201, el4]; omega) | (rw [el5]; omega) | (rw [l201, el5]; omega) | (show _ < _; simp only [l201]; decide) | skip
      · skip
        have q1 : ¬ ((if 0 ≤ y ∧ y < 40 then (1 : Int32) else 0) = 0) := by rw [if_pos z1]; decide
        have hl : am_in l 30 := ⟨by have q := z0.1; simp only [i_le, Int32.reduceToInt] at q; omega, by have q := z0.2; simp only [i_lt] at q; omega⟩
        have hl1 := hl.1
        have hl2 := hl.2
        have el2 := r_lcol hl (w := 2) ⟨by decide, by decide⟩
        simp only [Int32.reduceToInt] at el2
        have el4 := r_lcol hl (w := 4) ⟨by decide, by decide⟩
        simp only [Int32.reduceToInt] at el4
        have el5 := r_lcol hl (w := 5) ⟨by decide, by decide⟩
        simp only [Int32.reduceToInt] at el5
        by_cases z2 : M.1 201 (2838 + 8 * l + 4).toNatClampNeg = 0
        · skip
          have e : r_leave M l y = ((-2 : Int32), M) := by unfold r_leave; rw [if_pos z0, if_pos z1, if_pos z2]
          rw [e] at h
          repeat' (first | (with_reducible exact hmn) | (with_reducible exact h) | (with_reducible exact n030) | (with_reducible exact n1) | apply And.intro | exact rfl | (intro hx; with_reducible exact absurd hx q0) | (intro hx; with_reducible exact absurd hx q1) | (intro hx; with_reducible exact absurd z2 hx) | (intro hx; exact absurd hx (by decide)) | (intro hx; exact absurd (by decide) hx) | decide | intro hx | (refine Exists.intro _ (And.intro rfl ?_)))
          all_goals try first | (with_reducible change am_tI _ _) | (change Ret _ _) | (change Ret _ _ _) | (change Exists _)
          all_goals try dsimp only at *
          all_goals try exact absurd ‹(1000 : Int64) = 0› (by decide)
          all_goals first | exact h | exact n0.1 | omega | (rw [el2]; omega) | (rw [l201, el2]; omega) | (rw [el4]; omega) | (rw [l201, el4]; omega) | (rw [el5]; omega) | (rw [l201, el5]; omega) | (show _ < _; simp only [l201]; decide) | skip
        · skip
          by_cases z3 : M.1 201 (2838 + 8 * l + 2).toNatClampNeg ≤ y
          rotate_left
          · skip
            have y3 : (y : Int32) < M.1 201 (2838 + 8 * l + 2).toNatClampNeg := Int32.not_le.mp z3
            have e : r_leave M l y = ((-2 : Int32), M) := by unfold r_leave; rw [if_pos z0, if_pos z1, if_neg z2, if_neg z3]
            rw [e] at h
            repeat' (first | (with_reducible exact hmn) | (with_reducible exact h) | (with_reducible exact n030) | (with_reducible exact n1) | apply And.intro | exact rfl | (intro hx; with_reducible exact absurd hx q0) | (intro hx; with_reducible exact absurd hx q1) | (intro hx; with_reducible exact absurd hx z2) | (intro hx; with_reducible exact absurd hx z3) | (intro hx; with_reducible exact absurd y3 hx) | (intro hx; exact absurd hx (by decide)) | (intro hx; exact absurd (by decide) hx) | decide | intro hx | (refine Exists.intro _ (And.intro rfl ?_)))
            all_goals try first | (with_reducible change am_tI _ _) | (change Ret _ _) | (change Ret _ _ _) | (change Exists _)
            all_goals try dsimp only at *
            all_goals try exact absurd ‹(1000 : Int64) = 0› (by decide)
            all_goals first | exact h | exact n0.1 | omega | (rw [el2]; omega) | (rw [l201, el2]; omega) | (rw [el4]; omega) | (rw [l201, el4]; omega) | (rw [el5]; omega) | (rw [l201, el5]; omega) | (show _ < _; simp only [l201]; decide) | skip
          · skip
            have y3 : ¬ (y : Int32) < M.1 201 (2838 + 8 * l + 2).toNatClampNeg := Int32.not_lt.mpr z3
            by_cases z4 : M.1 201 (2838 + 8 * l + 5).toNatClampNeg < 0
            rotate_left
            · skip
              have y4 : (0 : Int32) ≤ M.1 201 (2838 + 8 * l + 5).toNatClampNeg := Int32.not_lt.mp z4
              have e : r_leave M l y = ((-3 : Int32), M) := by unfold r_leave; rw [if_pos z0, if_pos z1, if_neg z2, if_pos z3, if_neg z4]
              rw [e] at h
              repeat' (first | (with_reducible exact hmn) | (with_reducible exact h) | (with_reducible exact n030) | (with_reducible exact n1) | apply And.intro | exact rfl | (intro hx; with_reducible exact absurd hx q0) | (intro hx; with_reducible exact absurd hx q1) | (intro hx; with_reducible exact absurd hx z2) | (intro hx; with_reducible exact absurd hx y3) | (intro hx; with_reducible exact absurd hx z4) | (intro hx; with_reducible exact absurd z3 hx) | (intro hx; with_reducible exact absurd y4 hx) | (intro hx; exact absurd hx (by decide)) | (intro hx; exact absurd (by decide) hx) | decide | intro hx | (refine Exists.intro _ (And.intro rfl ?_)))
              all_goals try first | (with_reducible change am_tI _ _) | (change Ret _ _) | (change Ret _ _ _) | (change Exists _)
              all_goals try dsimp only at *
              all_goals try exact absurd ‹(1000 : Int64) = 0› (by decide)
              all_goals first | exact h | exact n0.1 | omega | (rw [el2]; omega) | (rw [l201, el2]; omega) | (rw [el4]; omega) | (rw [l201, el4]; omega) | (rw [el5]; omega) | (rw [l201, el5]; omega) | (show _ < _; simp only [l201]; decide) | skip
            · skip
              have y4 : ¬ (0 : Int32) ≤ M.1 201 (2838 + 8 * l + 5).toNatClampNeg := Int32.not_le.mpr z4
              have e : r_leave M l y = (r_given (am_wI M 201 (2838 + 8 * l + 5).toNatClampNeg y) l y, am_wI M 201 (2838 + 8 * l + 5).toNatClampNeg y) := by unfold r_leave; rw [if_pos z0, if_pos z1, if_neg z2, if_pos z3, if_pos z4]
              rw [e] at h
              repeat' (first | (with_reducible exact hmn) | (with_reducible exact n030) | (with_reducible exact n1) | (with_reducible exact hl) | apply And.intro | exact rfl | (intro hx; with_reducible exact absurd hx q0) | (intro hx; with_reducible exact absurd hx q1) | (intro hx; with_reducible exact absurd hx z2) | (intro hx; with_reducible exact absurd hx y3) | (intro hx; with_reducible exact absurd hx y4) | (intro hx; with_reducible exact absurd z3 hx) | (intro hx; with_reducible exact absurd z4 hx) | (intro hx; exact absurd hx (by decide)) | (intro hx; exact absurd (by decide) hx) | decide | intro hx | (refine Exists.intro _ (And.intro rfl ?_)))
              all_goals try first | (with_reducible change am_tI _ _) | (change Ret _ _) | (change Ret _ _ _) | (change Exists _)
              all_goals try dsimp only at *
              all_goals try exact absurd ‹(1000 : Int64) = 0› (by decide)
              all_goals first | exact h | exact n0.1 | omega | (rw [el2]; omega) | (rw [l201, el2]; omega) | (rw [el4]; omega) | (rw [l201, el4]; omega) | (rw [el5]; omega) | (rw [l201, el5]; omega) | (show _ < _; simp only [l201]; decide) | skip
  · exact h.elim
set_option maxRecDepth 100000 in
theorem wd_1154 : Cond.methodLink "LearnLoansModel" 202 yX8_ofLoan ∈ am_ws := am_wsi (List.mem_of_getElem? (i := 1154) (by rfl)) (by decide +kernel)
set_option maxRecDepth 100000 in
theorem wd_1156 : Cond.instanceMethod yX8_ofLoan ∈ am_ws := am_wsi (List.mem_of_getElem? (i := 1156) (by rfl)) (by decide +kernel)
set_option maxRecDepth 100000 in
theorem wd_41 : Cond.selects "LearnLoansModel" yX8_ofLoan yX8_ofLoan ∈ am_ws := am_wsi (List.mem_of_getElem? (i := 41) (by rfl)) (by decide +kernel)
set_option maxRecDepth 100000 in
theorem wd_1157 : Cond.code yX8_ofLoan cX8_ofLoan 3 (some .int) ∈ am_ws := am_wsi (List.mem_of_getElem? (i := 1157) (by rfl)) (by decide +kernel)
theorem dX8_sell_0 : decode cX8_sell 0 = .ok (.aload_n 0, 1) := by decide +kernel
theorem dX8_sell_1 : decode cX8_sell 1 = .ok (.iload_n 1, 1) := by decide +kernel
theorem dX8_sell_2 : decode cX8_sell 2 = .ok (.invokevirtual 131, 3) := by decide +kernel
theorem dX8_sell_5 : decode cX8_sell 5 = .ok (.ifCond .eq 22, 3) := by decide +kernel
theorem dX8_sell_8 : decode cX8_sell 8 = .ok (.iload_n 2, 1) := by decide +kernel
theorem dX8_sell_9 : decode cX8_sell 9 = .ok (.i2l, 1) := by decide +kernel
theorem dX8_sell_10 : decode cX8_sell 10 = .ok (.lconst 0, 1) := by decide +kernel
theorem dX8_sell_11 : decode cX8_sell 11 = .ok (.ldc2_w 79, 3) := by decide +kernel
theorem dX8_sell_14 : decode cX8_sell 14 = .ok (.invokestatic 66, 3) := by decide +kernel
theorem dX8_sell_17 : decode cX8_sell 17 = .ok (.ifCond .eq 10, 3) := by decide +kernel
theorem dX8_sell_20 : decode cX8_sell 20 = .ok (.iload_n 3, 1) := by decide +kernel
theorem dX8_sell_21 : decode cX8_sell 21 = .ok (.invokestatic 72, 3) := by decide +kernel
theorem dX8_sell_24 : decode cX8_sell 24 = .ok (.ifCond .ne 6, 3) := by decide +kernel
theorem dX8_sell_27 : decode cX8_sell 27 = .ok (.bipush (-2), 2) := by decide +kernel
theorem dX8_sell_29 : decode cX8_sell 29 = .ok (.ireturn, 1) := by decide +kernel
theorem dX8_sell_30 : decode cX8_sell 30 = .ok (.aload_n 0, 1) := by decide +kernel
theorem dX8_sell_31 : decode cX8_sell 31 = .ok (.iload_n 1, 1) := by decide +kernel
theorem dX8_sell_32 : decode cX8_sell 32 = .ok (.bipush 6, 2) := by decide +kernel
theorem dX8_sell_34 : decode cX8_sell 34 = .ok (.invokevirtual 202, 3) := by decide +kernel
theorem dX8_sell_37 : decode cX8_sell 37 = .ok (.ifCond .lt 6, 3) := by decide +kernel
theorem dX8_sell_40 : decode cX8_sell 40 = .ok (.bipush (-3), 2) := by decide +kernel
theorem dX8_sell_42 : decode cX8_sell 42 = .ok (.ireturn, 1) := by decide +kernel
theorem dX8_sell_43 : decode cX8_sell 43 = .ok (.aload_n 0, 1) := by decide +kernel
theorem dX8_sell_44 : decode cX8_sell 44 = .ok (.getfield 7, 3) := by decide +kernel
theorem dX8_sell_47 : decode cX8_sell 47 = .ok (.sipush 2838, 3) := by decide +kernel
theorem dX8_sell_50 : decode cX8_sell 50 = .ok (.bipush 8, 2) := by decide +kernel
theorem dX8_sell_52 : decode cX8_sell 52 = .ok (.iload_n 1, 1) := by decide +kernel
theorem dX8_sell_53 : decode cX8_sell 53 = .ok (.imul, 1) := by decide +kernel
theorem dX8_sell_54 : decode cX8_sell 54 = .ok (.iadd, 1) := by decide +kernel
theorem dX8_sell_55 : decode cX8_sell 55 = .ok (.bipush 6, 2) := by decide +kernel
theorem dX8_sell_57 : decode cX8_sell 57 = .ok (.iadd, 1) := by decide +kernel
theorem dX8_sell_58 : decode cX8_sell 58 = .ok (.iload_n 2, 1) := by decide +kernel
theorem dX8_sell_59 : decode cX8_sell 59 = .ok (.iastore, 1) := by decide +kernel
theorem dX8_sell_60 : decode cX8_sell 60 = .ok (.aload_n 0, 1) := by decide +kernel
theorem dX8_sell_61 : decode cX8_sell 61 = .ok (.getfield 7, 3) := by decide +kernel
theorem dX8_sell_64 : decode cX8_sell 64 = .ok (.sipush 2838, 3) := by decide +kernel
theorem dX8_sell_67 : decode cX8_sell 67 = .ok (.bipush 8, 2) := by decide +kernel
theorem dX8_sell_69 : decode cX8_sell 69 = .ok (.iload_n 1, 1) := by decide +kernel
theorem dX8_sell_70 : decode cX8_sell 70 = .ok (.imul, 1) := by decide +kernel
theorem dX8_sell_71 : decode cX8_sell 71 = .ok (.iadd, 1) := by decide +kernel
theorem dX8_sell_72 : decode cX8_sell 72 = .ok (.bipush 7, 2) := by decide +kernel
theorem dX8_sell_74 : decode cX8_sell 74 = .ok (.iadd, 1) := by decide +kernel
theorem dX8_sell_75 : decode cX8_sell 75 = .ok (.iload_n 3, 1) := by decide +kernel
theorem dX8_sell_76 : decode cX8_sell 76 = .ok (.iastore, 1) := by decide +kernel
theorem dX8_sell_77 : decode cX8_sell 77 = .ok (.iconst 1, 1) := by decide +kernel
theorem dX8_sell_78 : decode cX8_sell 78 = .ok (.ireturn, 1) := by decide +kernel
def kX8_sell (live : am_E) (Ret : am_R) : am_code := [(0, am_aload 0 1), (1, am_iload 1 2), (2, am_callV live 8 1 TX8_isLoan 5), (5, am_if1 (fun x => x = 0) 27 8), (8, am_iload 2 9), (9, am_i2l 10), (10, am_const (.long 0) 11), (11, am_const (.long 3) 14), (14, am_callS live 3 TX8_in 17), (17, am_if1 (fun x => x = 0) 27 20), (20, am_iload 3 21), (21, am_callS live 1 TX8_isYear 24), (24, am_if1 (fun x => x = 0) 27 30), (27, am_const (.int (-2)) 29), (29, am_retI Ret), (30, am_aload 0 31), (31, am_iload 1 32), (32, am_const (.int 6) 34), (34, am_callV live 8 2 TX8_ofLoan 37), (37, am_if1 (fun x => x < 0) 43 40), (40, am_const (.int (-3)) 42), (42, am_retI Ret), (43, am_aload 0 44), (44, am_getR live 8 0 47), (47, am_const (.int 2838) 50), (50, am_const (.int 8) 52), (52, am_iload 1 53), (53, am_i2 (fun x y => x * y) 54), (54, am_i2 (fun x y => x + y) 55), (55, am_const (.int 6) 57), (57, am_i2 (fun x y => x + y) 58), (58, am_iload 2 59), (59, am_ast live 0 60), (60, am_aload 0 61), (61, am_getR live 8 0 64), (64, am_const (.int 2838) 67), (67, am_const (.int 8) 69), (69, am_iload 1 70), (70, am_i2 (fun x y => x * y) 71), (71, am_i2 (fun x y => x + y) 72), (72, am_const (.int 7) 74), (74, am_i2 (fun x y => x + y) 75), (75, am_iload 3 76), (76, am_ast live 0 77), (77, am_const (.int 1) 78), (78, am_retI Ret)]
theorem koX8_sell (live : am_E) (Ret : am_R) : ∀ q ∈ kX8_sell live Ret, am_ok RX8 cX8_sell 4 (some .int) 2 46 live Ret q.1 q.2 :=
  am_kc (ak_aload_n dX8_sell_0 rfl rfl) <|
  am_kc (ak_iload_n dX8_sell_1 rfl rfl) <|
  am_kc (ak_callV (C := RX8) (F := TX8) (N := 27) metX8_isLoan rfl ⟨rfl, by decide +kernel, by decide +kernel, by decide +kernel⟩ (am_w5 wd_1069 wd_1071 wd_30 wd_67 wd_1072) (by decide) dX8_sell_2 rfl) <|
  am_kc (ak_if_eq dX8_sell_5 (by decide +kernel) rfl) <|
  am_kc (ak_iload_n dX8_sell_8 rfl rfl) <|
  am_kc (ak_i2l dX8_sell_9 rfl) <|
  am_kc (ak_lconst dX8_sell_10 (by decide +kernel) rfl) <|
  am_kc (ak_ldc2 wd_997 dX8_sell_11 rfl) <|
  am_kc (ak_callS metX8_in ⟨rfl, by decide +kernel, by decide +kernel, by decide +kernel⟩ (am_w4 wd_986 wd_987 wd_67 wd_988) (by decide) dX8_sell_14 rfl) <|
  am_kc (ak_if_eq dX8_sell_17 (by decide +kernel) rfl) <|
  am_kc (ak_iload_n dX8_sell_20 rfl rfl) <|
  am_kc (ak_callS metX8_isYear ⟨rfl, by decide +kernel, by decide +kernel, by decide +kernel⟩ (am_w4 wd_982 wd_983 wd_67 wd_984) (by decide) dX8_sell_21 rfl) <|
  am_kc (ak_if_ne dX8_sell_24 (by decide +kernel) rfl) <|
  am_kc (ak_bipush dX8_sell_27 (by decide +kernel) rfl) <|
  am_kc (ak_retI dX8_sell_29) <|
  am_kc (ak_aload_n dX8_sell_30 rfl rfl) <|
  am_kc (ak_iload_n dX8_sell_31 rfl rfl) <|
  am_kc (ak_bipush dX8_sell_32 (by decide +kernel) rfl) <|
  am_kc (ak_callV (C := RX8) (F := TX8) (N := 27) metX8_ofLoan rfl ⟨rfl, by decide +kernel, by decide +kernel, by decide +kernel⟩ (am_w5 wd_1154 wd_1156 wd_41 wd_67 wd_1157) (by decide) dX8_sell_34 rfl) <|
  am_kc (ak_if_lt dX8_sell_37 (by decide +kernel) rfl) <|
  am_kc (ak_bipush dX8_sell_40 (by decide +kernel) rfl) <|
  am_kc (ak_retI dX8_sell_42) <|
  am_kc (ak_aload_n dX8_sell_43 rfl rfl) <|
  am_kc (ak_getR (C := RX8) (T := TX8) (N := 27) rfl inX8w (by decide) rfl rfl rfl wd_895 dX8_sell_44 rfl) <|
  am_kc (ak_sipush dX8_sell_47 (by decide +kernel) rfl) <|
  am_kc (ak_bipush dX8_sell_50 (by decide +kernel) rfl) <|
  am_kc (ak_iload_n dX8_sell_52 rfl rfl) <|
  am_kc (ak_imul dX8_sell_53 rfl) <|
  am_kc (ak_iadd dX8_sell_54 rfl) <|
  am_kc (ak_bipush dX8_sell_55 (by decide +kernel) rfl) <|
  am_kc (ak_iadd dX8_sell_57 rfl) <|
  am_kc (ak_iload_n dX8_sell_58 rfl rfl) <|
  am_kc (ak_iast (t := 0) (fun _ => rfl) rfl dX8_sell_59 rfl) <|
  am_kc (ak_aload_n dX8_sell_60 rfl rfl) <|
  am_kc (ak_getR (C := RX8) (T := TX8) (N := 27) rfl inX8w (by decide) rfl rfl rfl wd_895 dX8_sell_61 rfl) <|
  am_kc (ak_sipush dX8_sell_64 (by decide +kernel) rfl) <|
  am_kc (ak_bipush dX8_sell_67 (by decide +kernel) rfl) <|
  am_kc (ak_iload_n dX8_sell_69 rfl rfl) <|
  am_kc (ak_imul dX8_sell_70 rfl) <|
  am_kc (ak_iadd dX8_sell_71 rfl) <|
  am_kc (ak_bipush dX8_sell_72 (by decide +kernel) rfl) <|
  am_kc (ak_iadd dX8_sell_74 rfl) <|
  am_kc (ak_iload_n dX8_sell_75 rfl rfl) <|
  am_kc (ak_iast (t := 0) (fun _ => rfl) rfl dX8_sell_76 rfl) <|
  am_kc (ak_iconst dX8_sell_77 (by decide +kernel) rfl) <|
  am_kc (ak_retI dX8_sell_78) <| am_kn
def r_sell (M : am_M) (l b y : Int32) : Int32 × am_M := if 0 ≤ l ∧ l < M.1 201 1 then (if 0 ≤ b ∧ b ≤ 3 then (if 0 ≤ y ∧ y < 40 then (if M.1 201 (2838 + 8 * l + 6).toNatClampNeg < 0 then (1, am_wI (am_wI M 201 (2838 + 8 * l + 6).toNatClampNeg b) 201 (2838 + 8 * l + 7).toNatClampNeg y) else ((-3 : Int32), M)) else ((-2 : Int32), M)) else ((-2 : Int32), M)) else ((-2 : Int32), M)
def TX8_sell : am_T := fun live as M R => match as with
  | [.ref n, .int l, .int b, .int y] => am_mn live ∧ n = 200 ∧ r_I M ∧ R (some (.int (r_sell M l b y).1)) (r_sell M l b y).2
  | _ => False
set_option maxRecDepth 100000 in
set_option maxHeartbeats 4000000 in
theorem metX8_sell : am_Met yX8_sell cX8_sell 4 (some .int) (2) (46) TX8_sell := by
  refine am_met (own := RX8) (by decide +kernel) rfl kX8_sell koX8_sell 200 (fun _ _ _ _ _ => none) (fun live as M Ret h => ?_) (fun _ _ _ _ _ _ _ _ hI => by cases hI)
  unfold TX8_sell at h
  split at h
  · next n l b y =>
    refine ⟨Nat.le_of_ble_eq_true rfl, ?_⟩
    change am_wp _ _ _ _ [(0, Value.ref n), (1, Value.int l), (2, Value.int b), (3, Value.int y)] _ _
    obtain ⟨hmn, rfl, hR, h⟩ := h
    have hmn2 := hmn
    obtain ⟨i1, i2, rfl⟩ := hmn2
    have l201 : am_len 201 = 3760 := rfl
    have n0 := hR.n0
    have n1 := hR.n1
    have n030 : 0 ≤ (M.1 201 0).toInt ∧ (M.1 201 0).toInt ≤ 30 := ⟨n0.1, by omega⟩
    by_cases z0 : 0 ≤ l ∧ l < M.1 201 1
    rotate_left
    · skip
      have q0 : (if 0 ≤ l ∧ l < M.1 201 1 then (1 : Int32) else 0) = 0 := if_neg z0
      have e : r_sell M l b y = ((-2 : Int32), M) := by unfold r_sell; rw [if_neg z0]
      rw [e] at h
      repeat' (first | (with_reducible exact hmn) | (with_reducible exact h) | (with_reducible exact n030) | (with_reducible exact n1) | apply And.intro | exact rfl | (intro hx; with_reducible exact absurd q0 hx) | (intro hx; exact absurd hx (by decide)) | (intro hx; exact absurd (by decide) hx) | decide | intro hx | (refine Exists.intro _ (And.intro rfl ?_)))
      all_goals try first | (with_reducible change am_tI _ _) | (change Ret _ _) | (change Ret _ _ _) | (change Exists _)
      all_goals try dsimp only at *
      all_goals try exact absurd ‹(1000 : Int64) = 0› (by decide)
      all_goals first | exact h | exact n0.1 | omega | exact hl.1 | exact hl.2 | decide | (rw [el6]; omega) | (rw [l201, el6]; omega) | (rw [el7]; omega) | (rw [l201, el7]; omega) | (show _ < _; simp only [l201]; decide) | skip
    · skip
      have q0 : ¬ ((if 0 ≤ l ∧ l < M.1 201 1 then (1 : Int32) else 0) = 0) := by rw [if_pos z0]; decide
      by_cases z1 : 0 ≤ b ∧ b ≤ 3
      rotate_left
      · skip
        have q1 : (if (0 : Int64) ≤ b.toInt64 ∧ b.toInt64 ≤ (3 : Int64) then (1 : Int32) else 0) = 0 := if_neg (fun r => z1 (by simp only [i_le, i_lt, j_le, Int32.toInt_toInt64, Int32.reduceToInt, Int64.reduceToInt] at r ⊢; omega))
        have e : r_sell M l b y = ((-2 : Int32), M) := by unfold r_sell; rw [if_pos z0, if_neg z1]
        rw [e] at h
        repeat' (first | (with_reducible exact hmn) | (with_reducible exact h) | (with_reducible exact n030) | (with_reducible exact n1) | apply And.intro | exact rfl | (intro hx; with_reducible exact absurd hx q0) | (intro hx; with_reducible exact absurd q1 hx) | (intro hx; exact absurd hx (by decide)) | (intro hx; exact absurd (by decide) hx) | decide | intro hx | (refine Exists.intro _ (And.intro rfl ?_)))
        all_goals try first | (with_reducible change am_tI _ _) | (change Ret _ _) | (change Ret _ _ _) | (change Exists _)
        all_goals try dsimp only at *
        all_goals try exact absurd ‹(1000 : Int64) = 0› (by decide)
        all_goals first | exact h | exact n0.1 | omega | exact hl.1 | exact hl.2 | decide | (rw [el6]; omega) | (rw [l201, el6]; omega) | (rw [el7]; omega) | (rw [l201, el7]; omega) | (show _ < _; simp only [l201]; decide) | skip
      · skip
        have q1 : ¬ ((if (0 : Int64) ≤ b.toInt64 ∧ b.toInt64 ≤ (3 : Int64) then (1 : Int32) else 0) = 0) := by rw [if_pos (by have q := z1; simp only [i_le, i_lt, j_le, Int32.toInt_toInt64, Int32.reduceToInt, Int64.reduceToInt] at q ⊢; omega)]; decide
        by_cases z2 : 0 ≤ y ∧ y < 40
        rotate_left
        · skip
          have q2 : (if 0 ≤ y ∧ y < 40 then (1 : Int32) else 0) = 0 := if_neg z2
          have e : r_sell M l b y = ((-2 : Int32), M) := by unfold r_sell; rw [if_pos z0, if_pos z1, if_neg z2]
          rw [e] at h
          repeat' (first | (with_reducible exact hmn) | (with_reducible exact h) | (with_reducible exact n030) | (with_reducible exact n1) | apply And.intro | exact rfl | (intro hx; with_reducible exact absurd hx q0) | (intro hx; with_reducible exact absurd hx q1) | (intro hx; with_reducible exact absurd q2 hx) | (intro hx; exact absurd hx (by decide)) | (intro hx; exact absurd (by decide) hx) | decide | intro hx | (refine Exists.intro _ (And.intro rfl ?_)))
          all_goals try first | (with_reducible change am_tI _ _) | (change Ret _ _) | (change Ret _ _ _) | (change Exists _)
          all_goals try dsimp only at *
          all_goals try exact absurd ‹(1000 : Int64) = 0› (by decide)
          all_goals first | exact h | exact n0.1 | omega | exact hl.1 | exact hl.2 | decide | (rw [el6]; omega) | (rw [l201, el6]; omega) | (rw [el7]; omega) | (rw [l201, el7]; omega) | (show _ < _; simp only [l201]; decide) | skip
        · skip
          have q2 : ¬ ((if 0 ≤ y ∧ y < 40 then (1 : Int32) else 0) = 0) := by rw [if_pos z2]; decide
          have hl : am_in l 30 := ⟨by have q := z0.1; simp only [i_le, Int32.reduceToInt] at q; omega, by have q := z0.2; simp only [i_lt] at q; omega⟩
          have hl1 := hl.1
          have hl2 := hl.2
          have el6 := r_lcol hl (w := 6) ⟨by decide, by decide⟩
          simp only [Int32.reduceToInt] at el6
          have el7 := r_lcol hl (w := 7) ⟨by decide, by decide⟩
          simp only [Int32.reduceToInt] at el7
          by_cases z3 : M.1 201 (2838 + 8 * l + 6).toNatClampNeg < 0
          rotate_left
          · skip
            have y3 : (0 : Int32) ≤ M.1 201 (2838 + 8 * l + 6).toNatClampNeg := Int32.not_lt.mp z3
            have e : r_sell M l b y = ((-3 : Int32), M) := by unfold r_sell; rw [if_pos z0, if_pos z1, if_pos z2, if_neg z3]
            rw [e] at h
            repeat' (first | (with_reducible exact hmn) | (with_reducible exact h) | (with_reducible exact n030) | (with_reducible exact n1) | apply And.intro | exact rfl | (intro hx; with_reducible exact absurd hx q0) | (intro hx; with_reducible exact absurd hx q1) | (intro hx; with_reducible exact absurd hx q2) | (intro hx; with_reducible exact absurd hx z3) | (intro hx; with_reducible exact absurd y3 hx) | (intro hx; exact absurd hx (by decide)) | (intro hx; exact absurd (by decide) hx) | decide | intro hx | (refine Exists.intro _ (And.intro rfl ?_)))
            all_goals try first | (with_reducible change am_tI _ _) | (change Ret _ _) | (change Ret _ _ _) | (change Exists _)
            all_goals try dsimp only at *
            all_goals try exact absurd ‹(1000 : Int64) = 0› (by decide)
            all_goals first | exact h | exact n0.1 | omega | exact hl.1 | exact hl.2 | decide | (rw [el6]; omega) | (rw [l201, el6]; omega) | (rw [el7]; omega) | (rw [l201, el7]; omega) | (show _ < _; simp only [l201]; decide) | skip
          · skip
            have y3 : ¬ (0 : Int32) ≤ M.1 201 (2838 + 8 * l + 6).toNatClampNeg := Int32.not_le.mpr z3
            have e : r_sell M l b y = (1, am_wI (am_wI M 201 (2838 + 8 * l + 6).toNatClampNeg b) 201 (2838 + 8 * l + 7).toNatClampNeg y) := by unfold r_sell; rw [if_pos z0, if_pos z1, if_pos z2, if_pos z3]
            rw [e] at h
            repeat' (first | (with_reducible exact hmn) | (with_reducible exact n030) | (with_reducible exact n1) | (with_reducible exact hl) | apply And.intro | exact rfl | (intro hx; with_reducible exact absurd hx q0) | (intro hx; with_reducible exact absurd hx q1) | (intro hx; with_reducible exact absurd hx q2) | (intro hx; with_reducible exact absurd hx y3) | (intro hx; with_reducible exact absurd z3 hx) | (intro hx; exact absurd hx (by decide)) | (intro hx; exact absurd (by decide) hx) | decide | intro hx | (refine Exists.intro _ (And.intro rfl ?_)))
            all_goals try first | (with_reducible change am_tI _ _) | (change Ret _ _) | (change Ret _ _ _) | (change Exists _)
            all_goals try dsimp only at *
            all_goals try exact absurd ‹(1000 : Int64) = 0› (by decide)
            all_goals first | exact h | exact n0.1 | omega | exact hl.1 | exact hl.2 | decide | (rw [el6]; omega) | (rw [l201, el6]; omega) | (rw [el7]; omega) | (rw [l201, el7]; omega) | (show _ < _; simp only [l201]; decide) | skip
  · exact h.elim
theorem dX8_land_0 : decode cX8_land 0 = .ok (.aload_n 0, 1) := by decide +kernel
theorem dX8_land_1 : decode cX8_land 1 = .ok (.iload_n 1, 1) := by decide +kernel
theorem dX8_land_2 : decode cX8_land 2 = .ok (.invokevirtual 76, 3) := by decide +kernel
theorem dX8_land_5 : decode cX8_land 5 = .ok (.ifCond .eq 36, 3) := by decide +kernel
theorem dX8_land_8 : decode cX8_land 8 = .ok (.iload_n 2, 1) := by decide +kernel
theorem dX8_land_9 : decode cX8_land 9 = .ok (.i2l, 1) := by decide +kernel
theorem dX8_land_10 : decode cX8_land 10 = .ok (.lconst 0, 1) := by decide +kernel
theorem dX8_land_11 : decode cX8_land 11 = .ok (.ldc2_w 79, 3) := by decide +kernel
theorem dX8_land_14 : decode cX8_land 14 = .ok (.invokestatic 66, 3) := by decide +kernel
theorem dX8_land_17 : decode cX8_land 17 = .ok (.ifCond .eq 24, 3) := by decide +kernel
theorem dX8_land_20 : decode cX8_land 20 = .ok (.iload_n 3, 1) := by decide +kernel
theorem dX8_land_21 : decode cX8_land 21 = .ok (.invokestatic 72, 3) := by decide +kernel
theorem dX8_land_24 : decode cX8_land 24 = .ok (.ifCond .eq 17, 3) := by decide +kernel
theorem dX8_land_27 : decode cX8_land 27 = .ok (.iload 4, 2) := by decide +kernel
theorem dX8_land_29 : decode cX8_land 29 = .ok (.invokestatic 72, 3) := by decide +kernel
theorem dX8_land_32 : decode cX8_land 32 = .ok (.ifCond .eq 9, 3) := by decide +kernel
theorem dX8_land_35 : decode cX8_land 35 = .ok (.iload_n 3, 1) := by decide +kernel
theorem dX8_land_36 : decode cX8_land 36 = .ok (.iload 4, 2) := by decide +kernel
theorem dX8_land_38 : decode cX8_land 38 = .ok (.if_icmp .le 6, 3) := by decide +kernel
theorem dX8_land_41 : decode cX8_land 41 = .ok (.bipush (-2), 2) := by decide +kernel
theorem dX8_land_43 : decode cX8_land 43 = .ok (.ireturn, 1) := by decide +kernel
theorem dX8_land_44 : decode cX8_land 44 = .ok (.iload_n 3, 1) := by decide +kernel
theorem dX8_land_45 : decode cX8_land 45 = .ok (.istore 5, 2) := by decide +kernel
theorem dX8_land_47 : decode cX8_land 47 = .ok (.iload 5, 2) := by decide +kernel
theorem dX8_land_49 : decode cX8_land 49 = .ok (.iload 4, 2) := by decide +kernel
theorem dX8_land_51 : decode cX8_land 51 = .ok (.if_icmp .gt 25, 3) := by decide +kernel
theorem dX8_land_54 : decode cX8_land 54 = .ok (.aload_n 0, 1) := by decide +kernel
theorem dX8_land_55 : decode cX8_land 55 = .ok (.getfield 7, 3) := by decide +kernel
theorem dX8_land_58 : decode cX8_land 58 = .ok (.bipush 34, 2) := by decide +kernel
theorem dX8_land_60 : decode cX8_land 60 = .ok (.bipush 40, 2) := by decide +kernel
theorem dX8_land_62 : decode cX8_land 62 = .ok (.iload_n 1, 1) := by decide +kernel
theorem dX8_land_63 : decode cX8_land 63 = .ok (.imul, 1) := by decide +kernel
theorem dX8_land_64 : decode cX8_land 64 = .ok (.iadd, 1) := by decide +kernel
theorem dX8_land_65 : decode cX8_land 65 = .ok (.iload 5, 2) := by decide +kernel
theorem dX8_land_67 : decode cX8_land 67 = .ok (.iadd, 1) := by decide +kernel
theorem dX8_land_68 : decode cX8_land 68 = .ok (.iload_n 2, 1) := by decide +kernel
theorem dX8_land_69 : decode cX8_land 69 = .ok (.iastore, 1) := by decide +kernel
theorem dX8_land_70 : decode cX8_land 70 = .ok (.iinc 5 1, 3) := by decide +kernel
theorem dX8_land_73 : decode cX8_land 73 = .ok (.goto (-26), 3) := by decide +kernel
theorem dX8_land_76 : decode cX8_land 76 = .ok (.iconst 1, 1) := by decide +kernel
theorem dX8_land_77 : decode cX8_land 77 = .ok (.ireturn, 1) := by decide +kernel
def kX8_land (live : am_E) (Ret : am_R) : am_code := [(0, am_aload 0 1), (1, am_iload 1 2), (2, am_callV live 8 1 TX8_isPerson 5), (5, am_if1 (fun x => x = 0) 41 8), (8, am_iload 2 9), (9, am_i2l 10), (10, am_const (.long 0) 11), (11, am_const (.long 3) 14), (14, am_callS live 3 TX8_in 17), (17, am_if1 (fun x => x = 0) 41 20), (20, am_iload 3 21), (21, am_callS live 1 TX8_isYear 24), (24, am_if1 (fun x => x = 0) 41 27), (27, am_iload 4 29), (29, am_callS live 1 TX8_isYear 32), (32, am_if1 (fun x => x = 0) 41 35), (35, am_iload 3 36), (36, am_iload 4 38), (38, am_if2 (fun x y => x ≤ y) 44 41), (41, am_const (.int (-2)) 43), (43, am_retI Ret), (44, am_iload 3 45), (45, am_istore 5 6 47), (47, am_iload 5 49), (49, am_iload 4 51), (51, am_if2 (fun x y => y < x) 76 54), (54, am_aload 0 55), (55, am_getR live 8 0 58), (58, am_const (.int 34) 60), (60, am_const (.int 40) 62), (62, am_iload 1 63), (63, am_i2 (fun x y => x * y) 64), (64, am_i2 (fun x y => x + y) 65), (65, am_iload 5 67), (67, am_i2 (fun x y => x + y) 68), (68, am_iload 2 69), (69, am_ast live 0 70), (70, am_iinc 5 6 1 73), (73, am_goto 47), (76, am_const (.int 1) 77), (77, am_retI Ret)]
theorem koX8_land (live : am_E) (Ret : am_R) : ∀ q ∈ kX8_land live Ret, am_ok RX8 cX8_land 6 (some .int) 2 46 live Ret q.1 q.2 :=
  am_kc (ak_aload_n dX8_land_0 rfl rfl) <|
  am_kc (ak_iload_n dX8_land_1 rfl rfl) <|
  am_kc (ak_callV (C := RX8) (F := TX8) (N := 27) metX8_isPerson rfl ⟨rfl, by decide +kernel, by decide +kernel, by decide +kernel⟩ (am_w5 wd_993 wd_995 wd_27 wd_67 wd_996) (by decide) dX8_land_2 rfl) <|
  am_kc (ak_if_eq dX8_land_5 (by decide +kernel) rfl) <|
  am_kc (ak_iload_n dX8_land_8 rfl rfl) <|
  am_kc (ak_i2l dX8_land_9 rfl) <|
  am_kc (ak_lconst dX8_land_10 (by decide +kernel) rfl) <|
  am_kc (ak_ldc2 wd_997 dX8_land_11 rfl) <|
  am_kc (ak_callS metX8_in ⟨rfl, by decide +kernel, by decide +kernel, by decide +kernel⟩ (am_w4 wd_986 wd_987 wd_67 wd_988) (by decide) dX8_land_14 rfl) <|
  am_kc (ak_if_eq dX8_land_17 (by decide +kernel) rfl) <|
  am_kc (ak_iload_n dX8_land_20 rfl rfl) <|
  am_kc (ak_callS metX8_isYear ⟨rfl, by decide +kernel, by decide +kernel, by decide +kernel⟩ (am_w4 wd_982 wd_983 wd_67 wd_984) (by decide) dX8_land_21 rfl) <|
  am_kc (ak_if_eq dX8_land_24 (by decide +kernel) rfl) <|
  am_kc (ak_iload dX8_land_27 rfl) <|
  am_kc (ak_callS metX8_isYear ⟨rfl, by decide +kernel, by decide +kernel, by decide +kernel⟩ (am_w4 wd_982 wd_983 wd_67 wd_984) (by decide) dX8_land_29 rfl) <|
  am_kc (ak_if_eq dX8_land_32 (by decide +kernel) rfl) <|
  am_kc (ak_iload_n dX8_land_35 rfl rfl) <|
  am_kc (ak_iload dX8_land_36 rfl) <|
  am_kc (ak_icmp_le dX8_land_38 (by decide +kernel) rfl) <|
  am_kc (ak_bipush dX8_land_41 (by decide +kernel) rfl) <|
  am_kc (ak_retI dX8_land_43) <|
  am_kc (ak_iload_n dX8_land_44 rfl rfl) <|
  am_kc (ak_istore dX8_land_45 rfl) <|
  am_kc (ak_iload dX8_land_47 rfl) <|
  am_kc (ak_iload dX8_land_49 rfl) <|
  am_kc (ak_icmp_gt dX8_land_51 (by decide +kernel) rfl) <|
  am_kc (ak_aload_n dX8_land_54 rfl rfl) <|
  am_kc (ak_getR (C := RX8) (T := TX8) (N := 27) rfl inX8w (by decide) rfl rfl rfl wd_895 dX8_land_55 rfl) <|
  am_kc (ak_bipush dX8_land_58 (by decide +kernel) rfl) <|
  am_kc (ak_bipush dX8_land_60 (by decide +kernel) rfl) <|
  am_kc (ak_iload_n dX8_land_62 rfl rfl) <|
  am_kc (ak_imul dX8_land_63 rfl) <|
  am_kc (ak_iadd dX8_land_64 rfl) <|
  am_kc (ak_iload dX8_land_65 rfl) <|
  am_kc (ak_iadd dX8_land_67 rfl) <|
  am_kc (ak_iload_n dX8_land_68 rfl rfl) <|
  am_kc (ak_iast (t := 0) (fun _ => rfl) rfl dX8_land_69 rfl) <|
  am_kc (ak_iinc dX8_land_70 (by decide +kernel) rfl) <|
  am_kc (ak_goto dX8_land_73 (by decide +kernel)) <|
  am_kc (ak_iconst dX8_land_76 (by decide +kernel) rfl) <|
  am_kc (ak_retI dX8_land_77) <| am_kn
def r_land (M : am_M) (p l f t : Int32) : Int32 × am_M := if 0 ≤ p ∧ p < M.1 201 0 then (if 0 ≤ l ∧ l ≤ 3 then (if 0 ≤ f ∧ f < 40 then (if 0 ≤ t ∧ t < 40 then (if f ≤ t then (1, am_lay M 201 (34 + 40 * p.toInt + f.toInt) (34 + 40 * p.toInt + t.toInt) l) else ((-2 : Int32), M)) else ((-2 : Int32), M)) else ((-2 : Int32), M)) else ((-2 : Int32), M)) else ((-2 : Int32), M)
def TX8_land : am_T := fun live as M R => match as with
  | [.ref n, .int p, .int l, .int f, .int t] => am_mn live ∧ n = 200 ∧ r_I M ∧ R (some (.int (r_land M p l f t).1)) (r_land M p l f t).2
  | _ => False
def JX8_land : am_E → List Value → am_M → am_R → am_inv := fun live as M R pc => match as with
  | [.ref n, .int p, .int l, .int f, .int t] => (match pc with
    | 47 => some ([0, 1, 2, 4, 5], fun k L st M' => ∃ i : Int32, L = [(0, .ref 200), (1, .int p), (2, .int l), (4, .int t), (5, .int i)] ∧ st = [] ∧ k = ((41 - i.toInt).toNat, 0) ∧ (am_in p 12 ∧ am_in f 40 ∧ am_in t 40) ∧ (f.toInt ≤ i.toInt ∧ i.toInt ≤ t.toInt + 1) ∧ M' = am_lay M 201 (34 + 40 * p.toInt + f.toInt) (34 + 40 * p.toInt + (i.toInt - 1)) l ∧ R (some (.int 1)) (am_lay M 201 (34 + 40 * p.toInt + f.toInt) (34 + 40 * p.toInt + t.toInt) l))
    | _ => none)
  | _ => none
set_option maxRecDepth 100000 in
set_option maxHeartbeats 4000000 in
theorem metX8_land : am_Met yX8_land cX8_land 6 (some .int) (2) (46) TX8_land := by
  refine am_met (own := RX8) (by decide +kernel) rfl kX8_land koX8_land 200 JX8_land ?_ ?_
  · intro live as M Ret h
    unfold TX8_land at h
    split at h
    · next n p l f t =>
      refine ⟨Nat.le_of_ble_eq_true rfl, ?_⟩
      change am_wp _ _ _ _ [(0, Value.ref n), (1, Value.int p), (2, Value.int l), (3, Value.int f), (4, Value.int t)] _ _
      obtain ⟨hmn, rfl, hR, h⟩ := h
      have hmn2 := hmn
      obtain ⟨i1, i2, rfl⟩ := hmn2
      have l201 : am_len 201 = 3760 := rfl
      have n0 := hR.n0
      have n1 := hR.n1
      have n030 : 0 ≤ (M.1 201 0).toInt ∧ (M.1 201 0).toInt ≤ 30 := ⟨n0.1, by omega⟩
      by_cases z0 : 0 ≤ p ∧ p < M.1 201 0
      rotate_left
      · skip
        have q0 : (if 0 ≤ p ∧ p < M.1 201 0 then (1 : Int32) else 0) = 0 := if_neg z0
        have e : r_land M p l f t = ((-2 : Int32), M) := by unfold r_land; rw [if_neg z0]
        rw [e] at h
        repeat' (first | (with_reducible exact hmn) | (with_reducible exact h) | (with_reducible exact n030) | (with_reducible exact n1) | apply And.intro | exact rfl | (intro hx; with_reducible exact absurd q0 hx) | (intro hx; exact absurd hx (by decide)) | (intro hx; exact absurd (by decide) hx) | decide | intro hx | (refine Exists.intro _ (And.intro rfl ?_)))
        all_goals try first | (with_reducible change am_tI _ _) | (change Ret _ _) | (change Ret _ _ _) | (change Exists _)
        all_goals try dsimp only at *
        all_goals try exact absurd ‹(1000 : Int64) = 0› (by decide)
        all_goals first | exact h | exact n0.1 | omega | exact ⟨_, f, rfl, rfl, rfl, ⟨hp, hf, ht⟩, ⟨Int.le_refl _, by have q := hft; omega⟩, (am_lay_nil (by omega)).symm, h⟩ | (show _ < _; simp only [l201]; decide) | skip
      · skip
        have q0 : ¬ ((if 0 ≤ p ∧ p < M.1 201 0 then (1 : Int32) else 0) = 0) := by rw [if_pos z0]; decide
        by_cases z1 : 0 ≤ l ∧ l ≤ 3
        rotate_left
        · skip
          have q1 : (if (0 : Int64) ≤ l.toInt64 ∧ l.toInt64 ≤ (3 : Int64) then (1 : Int32) else 0) = 0 := if_neg (fun r => z1 (by simp only [i_le, i_lt, j_le, Int32.toInt_toInt64, Int32.reduceToInt, Int64.reduceToInt] at r ⊢; omega))
          have e : r_land M p l f t = ((-2 : Int32), M) := by unfold r_land; rw [if_pos z0, if_neg z1]
          rw [e] at h
          repeat' (first | (with_reducible exact hmn) | (with_reducible exact h) | (with_reducible exact n030) | (with_reducible exact n1) | apply And.intro | exact rfl | (intro hx; with_reducible exact absurd hx q0) | (intro hx; with_reducible exact absurd q1 hx) | (intro hx; exact absurd hx (by decide)) | (intro hx; exact absurd (by decide) hx) | decide | intro hx | (refine Exists.intro _ (And.intro rfl ?_)))
          all_goals try first | (with_reducible change am_tI _ _) | (change Ret _ _) | (change Ret _ _ _) | (change Exists _)
          all_goals try dsimp only at *
          all_goals try exact absurd ‹(1000 : Int64) = 0› (by decide)
          all_goals first | exact h | exact n0.1 | omega | exact ⟨_, f, rfl, rfl, rfl, ⟨hp, hf, ht⟩, ⟨Int.le_refl _, by have q := hft; omega⟩, (am_lay_nil (by omega)).symm, h⟩ | (show _ < _; simp only [l201]; decide) | skip
        · skip
          have q1 : ¬ ((if (0 : Int64) ≤ l.toInt64 ∧ l.toInt64 ≤ (3 : Int64) then (1 : Int32) else 0) = 0) := by rw [if_pos (by have q := z1; simp only [i_le, i_lt, j_le, Int32.toInt_toInt64, Int32.reduceToInt, Int64.reduceToInt] at q ⊢; omega)]; decide
          by_cases z2 : 0 ≤ f ∧ f < 40
          rotate_left
          · skip
            have q2 : (if 0 ≤ f ∧ f < 40 then (1 : Int32) else 0) = 0 := if_neg z2
            have e : r_land M p l f t = ((-2 : Int32), M) := by unfold r_land; rw [if_pos z0, if_pos z1, if_neg z2]
            rw [e] at h
            repeat' (first | (with_reducible exact hmn) | (with_reducible exact h) | (with_reducible exact n030) | (with_reducible exact n1) | apply And.intro | exact rfl | (intro hx; with_reducible exact absurd hx q0) | (intro hx; with_reducible exact absurd hx q1) | (intro hx; with_reducible exact absurd q2 hx) | (intro hx; exact absurd hx (by decide)) | (intro hx; exact absurd (by decide) hx) | decide | intro hx | (refine Exists.intro _ (And.intro rfl ?_)))
            all_goals try first | (with_reducible change am_tI _ _) | (change Ret _ _) | (change Ret _ _ _) | (change Exists _)
            all_goals try dsimp only at *
            all_goals try exact absurd ‹(1000 : Int64) = 0› (by decide)
            all_goals first | exact h | exact n0.1 | omega | exact ⟨_, f, rfl, rfl, rfl, ⟨hp, hf, ht⟩, ⟨Int.le_refl _, by have q := hft; omega⟩, (am_lay_nil (by omega)).symm, h⟩ | (show _ < _; simp only [l201]; decide) | skip
          · skip
            have q2 : ¬ ((if 0 ≤ f ∧ f < 40 then (1 : Int32) else 0) = 0) := by rw [if_pos z2]; decide
            by_cases z3 : 0 ≤ t ∧ t < 40
            rotate_left
            · skip
              have q3 : (if 0 ≤ t ∧ t < 40 then (1 : Int32) else 0) = 0 := if_neg z3
              have e : r_land M p l f t = ((-2 : Int32), M) := by unfold r_land; rw [if_pos z0, if_pos z1, if_pos z2, if_neg z3]
              rw [e] at h
              repeat' (first | (with_reducible exact hmn) | (with_reducible exact h) | (with_reducible exact n030) | (with_reducible exact n1) | apply And.intro | exact rfl | (intro hx; with_reducible exact absurd hx q0) | (intro hx; with_reducible exact absurd hx q1) | (intro hx; with_reducible exact absurd hx q2) | (intro hx; with_reducible exact absurd q3 hx) | (intro hx; exact absurd hx (by decide)) | (intro hx; exact absurd (by decide) hx) | decide | intro hx | (refine Exists.intro _ (And.intro rfl ?_)))
              all_goals try first | (with_reducible change am_tI _ _) | (change Ret _ _) | (change Ret _ _ _) | (change Exists _)
              all_goals try dsimp only at *
              all_goals try exact absurd ‹(1000 : Int64) = 0› (by decide)
              all_goals first | exact h | exact n0.1 | omega | exact ⟨_, f, rfl, rfl, rfl, ⟨hp, hf, ht⟩, ⟨Int.le_refl _, by have q := hft; omega⟩, (am_lay_nil (by omega)).symm, h⟩ | (show _ < _; simp only [l201]; decide) | skip
            · skip
              have q3 : ¬ ((if 0 ≤ t ∧ t < 40 then (1 : Int32) else 0) = 0) := by rw [if_pos z3]; decide
              by_cases z4 : f ≤ t
              rotate_left
              · skip
                have y4 : (t : Int32) < f := Int32.not_le.mp z4
                have e : r_land M p l f t = ((-2 : Int32), M) := by unfold r_land; rw [if_pos z0, if_pos z1, if_pos z2, if_pos z3, if_neg z4]
                rw [e] at h
                repeat' (first | (with_reducible exact hmn) | (with_reducible exact h) | (with_reducible exact n030) | (with_reducible exact n1) | apply And.intro | exact rfl | (intro hx; with_reducible exact absurd hx q0) | (intro hx; with_reducible exact absurd hx q1) | (intro hx; with_reducible exact absurd hx q2) | (intro hx; with_reducible exact absurd hx q3) | (intro hx; with_reducible exact absurd hx z4) | (intro hx; with_reducible exact absurd y4 hx) | (intro hx; exact absurd hx (by decide)) | (intro hx; exact absurd (by decide) hx) | decide | intro hx | (refine Exists.intro _ (And.intro rfl ?_)))
                all_goals try first | (with_reducible change am_tI _ _) | (change Ret _ _) | (change Ret _ _ _) | (change Exists _)
                all_goals try dsimp only at *
                all_goals try exact absurd ‹(1000 : Int64) = 0› (by decide)
                all_goals first | exact h | exact n0.1 | omega | exact ⟨_, f, rfl, rfl, rfl, ⟨hp, hf, ht⟩, ⟨Int.le_refl _, by have q := hft; omega⟩, (am_lay_nil (by omega)).symm, h⟩ | (show _ < _; simp only [l201]; decide) | skip
              · skip
                have y4 : ¬ (t : Int32) < f := Int32.not_lt.mpr z4
                have hp : am_in p 12 := ⟨by have q := z0.1; simp only [i_le, Int32.reduceToInt] at q; omega, by have q := z0.2; simp only [i_lt] at q; omega⟩
                have hf : am_in f 40 := ⟨by have q := z2.1; simp only [i_le, Int32.reduceToInt] at q; omega, by have q := z2.2; simp only [i_lt, Int32.reduceToInt] at q; omega⟩
                have ht : am_in t 40 := ⟨by have q := z3.1; simp only [i_le, Int32.reduceToInt] at q; omega, by have q := z3.2; simp only [i_lt, Int32.reduceToInt] at q; omega⟩
                have hft : f.toInt ≤ t.toInt := by have q := z4; simp only [i_le] at q; exact q
                have e : r_land M p l f t = (1, am_lay M 201 (34 + 40 * p.toInt + f.toInt) (34 + 40 * p.toInt + t.toInt) l) := by unfold r_land; rw [if_pos z0, if_pos z1, if_pos z2, if_pos z3, if_pos z4]
                rw [e] at h
                repeat' (first | (with_reducible exact hmn) | (with_reducible exact n030) | (with_reducible exact n1) | apply And.intro | exact rfl | (intro hx; with_reducible exact absurd hx q0) | (intro hx; with_reducible exact absurd hx q1) | (intro hx; with_reducible exact absurd hx q2) | (intro hx; with_reducible exact absurd hx q3) | (intro hx; with_reducible exact absurd hx y4) | (intro hx; with_reducible exact absurd z4 hx) | (intro hx; exact absurd hx (by decide)) | (intro hx; exact absurd (by decide) hx) | decide | intro hx | (refine Exists.intro _ (And.intro rfl ?_)))
                all_goals try first | (with_reducible change am_tI _ _) | (change Ret _ _) | (change Ret _ _ _) | (change Exists _)
                all_goals try dsimp only at *
                all_goals try exact absurd ‹(1000 : Int64) = 0› (by decide)
                all_goals first | exact h | exact n0.1 | omega | exact ⟨_, f, rfl, rfl, rfl, ⟨hp, hf, ht⟩, ⟨Int.le_refl _, by have q := hft; omega⟩, (am_lay_nil (by omega)).symm, h⟩ | (show _ < _; simp only [l201]; decide) | skip
    · exact h.elim
  · intro live as M0 Ret h k pc I hI L st M hi
    unfold TX8_land at h
    split at h
    · next n p l f t =>
      obtain ⟨hmn, rfl, hR, h⟩ := h
      have hmn2 := hmn
      obtain ⟨i1, i2, rfl⟩ := hmn2
      have l201 : am_len 201 = 3760 := rfl
      change (match pc with | 47 => _ | _ => none) = _ at hI
      split at hI
      · cases hI
        obtain ⟨i, rfl, rfl, rfl, ⟨hp, hf, ht⟩, ⟨g1, g2⟩, rfl, h⟩ := hi
        have p1 := hp.1
        have p2 := hp.2
        have f1 := hf.1
        have f2 := hf.2
        have t1 := ht.1
        have t2 := ht.2
        by_cases hz : t < i
        · have hz2 := hz
          simp only [i_lt] at hz2
          repeat' (first | apply And.intro | exact rfl | (intro hx; with_reducible exact absurd hz hx) | intro hx | (refine Exists.intro _ (And.intro rfl ?_)))
          all_goals try first | (with_reducible change am_tI _ _) | (change Ret _ _) | (change Ret _ _ _) | (change Exists _)
          all_goals try dsimp only at *
          all_goals try exact absurd ‹(1000 : Int64) = 0› (by decide)
          rw [show i.toInt - 1 = t.toInt by omega]
          exact h
        · have hz2 := hz
          simp only [i_lt] at hz2
          have hi := i_inc (x := i) (by omega) (by omega)
          have e40 := r_mul (c := 40) (x := p) ⟨by decide, by decide⟩ ⟨by omega, by omega⟩
          simp only [Int32.reduceToInt] at e40
          have ea := r_off (c := 34) (x := 40 * p) ⟨by decide, by decide⟩ ⟨by omega, by omega⟩
          simp only [e40, Int32.reduceToInt] at ea
          have eb := r_off (c := 34 + 40 * p) (x := i) ⟨by omega, by omega⟩ ⟨by omega, by omega⟩
          have ec := i_clamp (x := 34 + 40 * p + i) (by omega)
          repeat' (first | apply And.intro | exact rfl | (intro hx; with_reducible exact absurd hx hz) | intro hx | (refine Exists.intro _ (And.intro rfl ?_)))
          all_goals try first | (with_reducible change am_tI _ _) | (change Ret _ _) | (change Ret _ _ _) | (change Exists _)
          all_goals try dsimp only at *
          all_goals try exact absurd ‹(1000 : Int64) = 0› (by decide)
          all_goals first
            | omega
            | (rw [l201]; omega)
            | skip
          refine ⟨_, am_lt_l (by omega), _, rfl, rfl, rfl, ⟨hp, hf, ht⟩, ⟨by omega, by omega⟩, ?_, h⟩
          rw [show (34 : Int) + 40 * p.toInt + (i.toInt - 1) = 34 + 40 * p.toInt + i.toInt - 1 by omega, am_lay_put (by omega) (by omega)]
          exact am_lay_eq (fun q => by omega)
      · cases hI
    · exact h.elim
set_option maxRecDepth 100000 in
theorem wd_1225 : Cond.methodLink "LearnLoansModel" 250 yX8_isLife ∈ am_ws := am_wsi (List.mem_of_getElem? (i := 1225) (by rfl)) (by decide +kernel)
set_option maxRecDepth 100000 in
theorem wd_1226 : Cond.static yX8_isLife ∈ am_ws := am_wsi (List.mem_of_getElem? (i := 1226) (by rfl)) (by decide +kernel)
set_option maxRecDepth 100000 in
theorem wd_1227 : Cond.code yX8_isLife cX8_isLife 1 (some .boolean) ∈ am_ws := am_wsi (List.mem_of_getElem? (i := 1227) (by rfl)) (by decide +kernel)
theorem dX8_live_0 : decode cX8_live 0 = .ok (.iload_n 1, 1) := by decide +kernel
theorem dX8_live_1 : decode cX8_live 1 = .ok (.invokestatic 250, 3) := by decide +kernel
theorem dX8_live_4 : decode cX8_live 4 = .ok (.ifCond .eq 35, 3) := by decide +kernel
theorem dX8_live_7 : decode cX8_live 7 = .ok (.iload_n 2, 1) := by decide +kernel
theorem dX8_live_8 : decode cX8_live 8 = .ok (.invokestatic 72, 3) := by decide +kernel
theorem dX8_live_11 : decode cX8_live 11 = .ok (.ifCond .eq 28, 3) := by decide +kernel
theorem dX8_live_14 : decode cX8_live 14 = .ok (.iload_n 3, 1) := by decide +kernel
theorem dX8_live_15 : decode cX8_live 15 = .ok (.invokestatic 72, 3) := by decide +kernel
theorem dX8_live_18 : decode cX8_live 18 = .ok (.ifCond .eq 21, 3) := by decide +kernel
theorem dX8_live_21 : decode cX8_live 21 = .ok (.iload_n 2, 1) := by decide +kernel
theorem dX8_live_22 : decode cX8_live 22 = .ok (.iload_n 3, 1) := by decide +kernel
theorem dX8_live_23 : decode cX8_live 23 = .ok (.if_icmp .gt 16, 3) := by decide +kernel
theorem dX8_live_26 : decode cX8_live 26 = .ok (.iload 4, 2) := by decide +kernel
theorem dX8_live_28 : decode cX8_live 28 = .ok (.i2l, 1) := by decide +kernel
theorem dX8_live_29 : decode cX8_live 29 = .ok (.lconst 0, 1) := by decide +kernel
theorem dX8_live_30 : decode cX8_live 30 = .ok (.ldc2_w 87, 3) := by decide +kernel
theorem dX8_live_33 : decode cX8_live 33 = .ok (.invokestatic 66, 3) := by decide +kernel
theorem dX8_live_36 : decode cX8_live 36 = .ok (.ifCond .ne 6, 3) := by decide +kernel
theorem dX8_live_39 : decode cX8_live 39 = .ok (.bipush (-2), 2) := by decide +kernel
theorem dX8_live_41 : decode cX8_live 41 = .ok (.ireturn, 1) := by decide +kernel
theorem dX8_live_42 : decode cX8_live 42 = .ok (.iload_n 2, 1) := by decide +kernel
theorem dX8_live_43 : decode cX8_live 43 = .ok (.istore 5, 2) := by decide +kernel
theorem dX8_live_45 : decode cX8_live 45 = .ok (.iload 5, 2) := by decide +kernel
theorem dX8_live_47 : decode cX8_live 47 = .ok (.iload_n 3, 1) := by decide +kernel
theorem dX8_live_48 : decode cX8_live 48 = .ok (.if_icmp .gt 27, 3) := by decide +kernel
theorem dX8_live_51 : decode cX8_live 51 = .ok (.aload_n 0, 1) := by decide +kernel
theorem dX8_live_52 : decode cX8_live 52 = .ok (.getfield 7, 3) := by decide +kernel
theorem dX8_live_55 : decode cX8_live 55 = .ok (.sipush 3573, 3) := by decide +kernel
theorem dX8_live_58 : decode cX8_live 58 = .ok (.bipush 40, 2) := by decide +kernel
theorem dX8_live_60 : decode cX8_live 60 = .ok (.iload_n 1, 1) := by decide +kernel
theorem dX8_live_61 : decode cX8_live 61 = .ok (.imul, 1) := by decide +kernel
theorem dX8_live_62 : decode cX8_live 62 = .ok (.iadd, 1) := by decide +kernel
theorem dX8_live_63 : decode cX8_live 63 = .ok (.iload 5, 2) := by decide +kernel
theorem dX8_live_65 : decode cX8_live 65 = .ok (.iadd, 1) := by decide +kernel
theorem dX8_live_66 : decode cX8_live 66 = .ok (.iload 4, 2) := by decide +kernel
theorem dX8_live_68 : decode cX8_live 68 = .ok (.iastore, 1) := by decide +kernel
theorem dX8_live_69 : decode cX8_live 69 = .ok (.iinc 5 1, 3) := by decide +kernel
theorem dX8_live_72 : decode cX8_live 72 = .ok (.goto (-27), 3) := by decide +kernel
theorem dX8_live_75 : decode cX8_live 75 = .ok (.iconst 1, 1) := by decide +kernel
theorem dX8_live_76 : decode cX8_live 76 = .ok (.ireturn, 1) := by decide +kernel
def kX8_live (live : am_E) (Ret : am_R) : am_code := [(0, am_iload 1 1), (1, am_callS live 1 TX8_isLife 4), (4, am_if1 (fun x => x = 0) 39 7), (7, am_iload 2 8), (8, am_callS live 1 TX8_isYear 11), (11, am_if1 (fun x => x = 0) 39 14), (14, am_iload 3 15), (15, am_callS live 1 TX8_isYear 18), (18, am_if1 (fun x => x = 0) 39 21), (21, am_iload 2 22), (22, am_iload 3 23), (23, am_if2 (fun x y => y < x) 39 26), (26, am_iload 4 28), (28, am_i2l 29), (29, am_const (.long 0) 30), (30, am_const (.long 10000000) 33), (33, am_callS live 3 TX8_in 36), (36, am_if1 (fun x => x = 0) 39 42), (39, am_const (.int (-2)) 41), (41, am_retI Ret), (42, am_iload 2 43), (43, am_istore 5 6 45), (45, am_iload 5 47), (47, am_iload 3 48), (48, am_if2 (fun x y => y < x) 75 51), (51, am_aload 0 52), (52, am_getR live 8 0 55), (55, am_const (.int 3573) 58), (58, am_const (.int 40) 60), (60, am_iload 1 61), (61, am_i2 (fun x y => x * y) 62), (62, am_i2 (fun x y => x + y) 63), (63, am_iload 5 65), (65, am_i2 (fun x y => x + y) 66), (66, am_iload 4 68), (68, am_ast live 0 69), (69, am_iinc 5 6 1 72), (72, am_goto 45), (75, am_const (.int 1) 76), (76, am_retI Ret)]
theorem koX8_live (live : am_E) (Ret : am_R) : ∀ q ∈ kX8_live live Ret, am_ok RX8 cX8_live 6 (some .int) 2 45 live Ret q.1 q.2 :=
  am_kc (ak_iload_n dX8_live_0 rfl rfl) <|
  am_kc (ak_callS metX8_isLife ⟨rfl, by decide +kernel, by decide +kernel, by decide +kernel⟩ (am_w4 wd_1225 wd_1226 wd_67 wd_1227) (by decide) dX8_live_1 rfl) <|
  am_kc (ak_if_eq dX8_live_4 (by decide +kernel) rfl) <|
  am_kc (ak_iload_n dX8_live_7 rfl rfl) <|
  am_kc (ak_callS metX8_isYear ⟨rfl, by decide +kernel, by decide +kernel, by decide +kernel⟩ (am_w4 wd_982 wd_983 wd_67 wd_984) (by decide) dX8_live_8 rfl) <|
  am_kc (ak_if_eq dX8_live_11 (by decide +kernel) rfl) <|
  am_kc (ak_iload_n dX8_live_14 rfl rfl) <|
  am_kc (ak_callS metX8_isYear ⟨rfl, by decide +kernel, by decide +kernel, by decide +kernel⟩ (am_w4 wd_982 wd_983 wd_67 wd_984) (by decide) dX8_live_15 rfl) <|
  am_kc (ak_if_eq dX8_live_18 (by decide +kernel) rfl) <|
  am_kc (ak_iload_n dX8_live_21 rfl rfl) <|
  am_kc (ak_iload_n dX8_live_22 rfl rfl) <|
  am_kc (ak_icmp_gt dX8_live_23 (by decide +kernel) rfl) <|
  am_kc (ak_iload dX8_live_26 rfl) <|
  am_kc (ak_i2l dX8_live_28 rfl) <|
  am_kc (ak_lconst dX8_live_29 (by decide +kernel) rfl) <|
  am_kc (ak_ldc2 wd_1017 dX8_live_30 rfl) <|
  am_kc (ak_callS metX8_in ⟨rfl, by decide +kernel, by decide +kernel, by decide +kernel⟩ (am_w4 wd_986 wd_987 wd_67 wd_988) (by decide) dX8_live_33 rfl) <|
  am_kc (ak_if_ne dX8_live_36 (by decide +kernel) rfl) <|
  am_kc (ak_bipush dX8_live_39 (by decide +kernel) rfl) <|
  am_kc (ak_retI dX8_live_41) <|
  am_kc (ak_iload_n dX8_live_42 rfl rfl) <|
  am_kc (ak_istore dX8_live_43 rfl) <|
  am_kc (ak_iload dX8_live_45 rfl) <|
  am_kc (ak_iload_n dX8_live_47 rfl rfl) <|
  am_kc (ak_icmp_gt dX8_live_48 (by decide +kernel) rfl) <|
  am_kc (ak_aload_n dX8_live_51 rfl rfl) <|
  am_kc (ak_getR (C := RX8) (T := TX8) (N := 27) rfl inX8w (by decide) rfl rfl rfl wd_895 dX8_live_52 rfl) <|
  am_kc (ak_sipush dX8_live_55 (by decide +kernel) rfl) <|
  am_kc (ak_bipush dX8_live_58 (by decide +kernel) rfl) <|
  am_kc (ak_iload_n dX8_live_60 rfl rfl) <|
  am_kc (ak_imul dX8_live_61 rfl) <|
  am_kc (ak_iadd dX8_live_62 rfl) <|
  am_kc (ak_iload dX8_live_63 rfl) <|
  am_kc (ak_iadd dX8_live_65 rfl) <|
  am_kc (ak_iload dX8_live_66 rfl) <|
  am_kc (ak_iast (t := 0) (fun _ => rfl) rfl dX8_live_68 rfl) <|
  am_kc (ak_iinc dX8_live_69 (by decide +kernel) rfl) <|
  am_kc (ak_goto dX8_live_72 (by decide +kernel)) <|
  am_kc (ak_iconst dX8_live_75 (by decide +kernel) rfl) <|
  am_kc (ak_retI dX8_live_76) <| am_kn
def r_live (M : am_M) (l f t c : Int32) : Int32 × am_M := if 0 ≤ l ∧ l ≤ 3 then (if 0 ≤ f ∧ f < 40 then (if 0 ≤ t ∧ t < 40 then (if f ≤ t then (if 0 ≤ c ∧ c ≤ 10000000 then (1, am_lay M 201 (3573 + 40 * l.toInt + f.toInt) (3573 + 40 * l.toInt + t.toInt) c) else ((-2 : Int32), M)) else ((-2 : Int32), M)) else ((-2 : Int32), M)) else ((-2 : Int32), M)) else ((-2 : Int32), M)
def TX8_live : am_T := fun live as M R => match as with
  | [.ref n, .int l, .int f, .int t, .int c] => am_mn live ∧ n = 200 ∧ r_I M ∧ R (some (.int (r_live M l f t c).1)) (r_live M l f t c).2
  | _ => False
def JX8_live : am_E → List Value → am_M → am_R → am_inv := fun live as M R pc => match as with
  | [.ref n, .int l, .int f, .int t, .int c] => (match pc with
    | 45 => some ([0, 1, 3, 4, 5], fun k L st M' => ∃ i : Int32, L = [(0, .ref 200), (1, .int l), (3, .int t), (4, .int c), (5, .int i)] ∧ st = [] ∧ k = ((41 - i.toInt).toNat, 0) ∧ (am_in l 4 ∧ am_in f 40 ∧ am_in t 40) ∧ (f.toInt ≤ i.toInt ∧ i.toInt ≤ t.toInt + 1) ∧ M' = am_lay M 201 (3573 + 40 * l.toInt + f.toInt) (3573 + 40 * l.toInt + (i.toInt - 1)) c ∧ R (some (.int 1)) (am_lay M 201 (3573 + 40 * l.toInt + f.toInt) (3573 + 40 * l.toInt + t.toInt) c))
    | _ => none)
  | _ => none
set_option maxRecDepth 100000 in
set_option maxHeartbeats 4000000 in
theorem metX8_live : am_Met yX8_live cX8_live 6 (some .int) (2) (45) TX8_live := by
  refine am_met (own := RX8) (by decide +kernel) rfl kX8_live koX8_live 200 JX8_live ?_ ?_
  · intro live as M Ret h
    unfold TX8_live at h
    split at h
    · next n l f t c =>
      refine ⟨Nat.le_of_ble_eq_true rfl, ?_⟩
      change am_wp _ _ _ _ [(0, Value.ref n), (1, Value.int l), (2, Value.int f), (3, Value.int t), (4, Value.int c)] _ _
      obtain ⟨hmn, rfl, hR, h⟩ := h
      have hmn2 := hmn
      obtain ⟨i1, i2, rfl⟩ := hmn2
      have l201 : am_len 201 = 3760 := rfl
      have n0 := hR.n0
      have n1 := hR.n1
      have n030 : 0 ≤ (M.1 201 0).toInt ∧ (M.1 201 0).toInt ≤ 30 := ⟨n0.1, by omega⟩
      by_cases z0 : 0 ≤ l ∧ l ≤ 3
      rotate_left
      · skip
        have q0 : (if 0 ≤ l ∧ l ≤ 3 then (1 : Int32) else 0) = 0 := if_neg z0
        have e : r_live M l f t c = ((-2 : Int32), M) := by unfold r_live; rw [if_neg z0]
        rw [e] at h
        repeat' (first | (with_reducible exact hmn) | (with_reducible exact h) | (with_reducible exact n030) | (with_reducible exact n1) | apply And.intro | exact rfl | (intro hx; with_reducible exact absurd q0 hx) | (intro hx; exact absurd hx (by decide)) | (intro hx; exact absurd (by decide) hx) | decide | intro hx | (refine Exists.intro _ (And.intro rfl ?_)))
        all_goals try first | (with_reducible change am_tI _ _) | (change Ret _ _) | (change Ret _ _ _) | (change Exists _)
        all_goals try dsimp only at *
        all_goals try exact absurd ‹(1000 : Int64) = 0› (by decide)
        all_goals first | exact h | exact n0.1 | omega | exact ⟨_, f, rfl, rfl, rfl, ⟨hp, hf, ht⟩, ⟨Int.le_refl _, by have q := hft; omega⟩, (am_lay_nil (by omega)).symm, h⟩ | (show _ < _; simp only [l201]; decide) | skip
      · skip
        have q0 : ¬ ((if 0 ≤ l ∧ l ≤ 3 then (1 : Int32) else 0) = 0) := by rw [if_pos z0]; decide
        by_cases z1 : 0 ≤ f ∧ f < 40
        rotate_left
        · skip
          have q1 : (if 0 ≤ f ∧ f < 40 then (1 : Int32) else 0) = 0 := if_neg z1
          have e : r_live M l f t c = ((-2 : Int32), M) := by unfold r_live; rw [if_pos z0, if_neg z1]
          rw [e] at h
          repeat' (first | (with_reducible exact hmn) | (with_reducible exact h) | (with_reducible exact n030) | (with_reducible exact n1) | apply And.intro | exact rfl | (intro hx; with_reducible exact absurd hx q0) | (intro hx; with_reducible exact absurd q1 hx) | (intro hx; exact absurd hx (by decide)) | (intro hx; exact absurd (by decide) hx) | decide | intro hx | (refine Exists.intro _ (And.intro rfl ?_)))
          all_goals try first | (with_reducible change am_tI _ _) | (change Ret _ _) | (change Ret _ _ _) | (change Exists _)
          all_goals try dsimp only at *
          all_goals try exact absurd ‹(1000 : Int64) = 0› (by decide)
          all_goals first | exact h | exact n0.1 | omega | exact ⟨_, f, rfl, rfl, rfl, ⟨hp, hf, ht⟩, ⟨Int.le_refl _, by have q := hft; omega⟩, (am_lay_nil (by omega)).symm, h⟩ | (show _ < _; simp only [l201]; decide) | skip
        · skip
          have q1 : ¬ ((if 0 ≤ f ∧ f < 40 then (1 : Int32) else 0) = 0) := by rw [if_pos z1]; decide
          by_cases z2 : 0 ≤ t ∧ t < 40
          rotate_left
          · skip
            have q2 : (if 0 ≤ t ∧ t < 40 then (1 : Int32) else 0) = 0 := if_neg z2
            have e : r_live M l f t c = ((-2 : Int32), M) := by unfold r_live; rw [if_pos z0, if_pos z1, if_neg z2]
            rw [e] at h
            repeat' (first | (with_reducible exact hmn) | (with_reducible exact h) | (with_reducible exact n030) | (with_reducible exact n1) | apply And.intro | exact rfl | (intro hx; with_reducible exact absurd hx q0) | (intro hx; with_reducible exact absurd hx q1) | (intro hx; with_reducible exact absurd q2 hx) | (intro hx; exact absurd hx (by decide)) | (intro hx; exact absurd (by decide) hx) | decide | intro hx | (refine Exists.intro _ (And.intro rfl ?_)))
            all_goals try first | (with_reducible change am_tI _ _) | (change Ret _ _) | (change Ret _ _ _) | (change Exists _)
            all_goals try dsimp only at *
            all_goals try exact absurd ‹(1000 : Int64) = 0› (by decide)
            all_goals first | exact h | exact n0.1 | omega | exact ⟨_, f, rfl, rfl, rfl, ⟨hp, hf, ht⟩, ⟨Int.le_refl _, by have q := hft; omega⟩, (am_lay_nil (by omega)).symm, h⟩ | (show _ < _; simp only [l201]; decide) | skip
          · skip
            have q2 : ¬ ((if 0 ≤ t ∧ t < 40 then (1 : Int32) else 0) = 0) := by rw [if_pos z2]; decide
            by_cases z3 : f ≤ t
            rotate_left
            · skip
              have y3 : (t : Int32) < f := Int32.not_le.mp z3
              have e : r_live M l f t c = ((-2 : Int32), M) := by unfold r_live; rw [if_pos z0, if_pos z1, if_pos z2, if_neg z3]
              rw [e] at h
              repeat' (first | (with_reducible exact hmn) | (with_reducible exact h) | (with_reducible exact n030) | (with_reducible exact n1) | apply And.intro | exact rfl | (intro hx; with_reducible exact absurd hx q0) | (intro hx; with_reducible exact absurd hx q1) | (intro hx; with_reducible exact absurd hx q2) | (intro hx; with_reducible exact absurd hx z3) | (intro hx; with_reducible exact absurd y3 hx) | (intro hx; exact absurd hx (by decide)) | (intro hx; exact absurd (by decide) hx) | decide | intro hx | (refine Exists.intro _ (And.intro rfl ?_)))
              all_goals try first | (with_reducible change am_tI _ _) | (change Ret _ _) | (change Ret _ _ _) | (change Exists _)
              all_goals try dsimp only at *
              all_goals try exact absurd ‹(1000 : Int64) = 0› (by decide)
              all_goals first | exact h | exact n0.1 | omega | exact ⟨_, f, rfl, rfl, rfl, ⟨hp, hf, ht⟩, ⟨Int.le_refl _, by have q := hft; omega⟩, (am_lay_nil (by omega)).symm, h⟩ | (show _ < _; simp only [l201]; decide) | skip
            · skip
              have y3 : ¬ (t : Int32) < f := Int32.not_lt.mpr z3
              by_cases z4 : 0 ≤ c ∧ c ≤ 10000000
              rotate_left
              · skip
                have q4 : (if (0 : Int64) ≤ c.toInt64 ∧ c.toInt64 ≤ (10000000 : Int64) then (1 : Int32) else 0) = 0 := if_neg (fun r => z4 (by simp only [i_le, i_lt, j_le, Int32.toInt_toInt64, Int32.reduceToInt, Int64.reduceToInt] at r ⊢; omega))
                have e : r_live M l f t c = ((-2 : Int32), M) := by unfold r_live; rw [if_pos z0, if_pos z1, if_pos z2, if_pos z3, if_neg z4]
                rw [e] at h
                repeat' (first | (with_reducible exact hmn) | (with_reducible exact h) | (with_reducible exact n030) | (with_reducible exact n1) | apply And.intro | exact rfl | (intro hx; with_reducible exact absurd hx q0) | (intro hx; with_reducible exact absurd hx q1) | (intro hx; with_reducible exact absurd hx q2) | (intro hx; with_reducible exact absurd hx y3) | (intro hx; with_reducible exact absurd z3 hx) | (intro hx; with_reducible exact absurd q4 hx) | (intro hx; exact absurd hx (by decide)) | (intro hx; exact absurd (by decide) hx) | decide | intro hx | (refine Exists.intro _ (And.intro rfl ?_)))
                all_goals try first | (with_reducible change am_tI _ _) | (change Ret _ _) | (change Ret _ _ _) | (change Exists _)
                all_goals try dsimp only at *
                all_goals try exact absurd ‹(1000 : Int64) = 0› (by decide)
                all_goals first | exact h | exact n0.1 | omega | exact ⟨_, f, rfl, rfl, rfl, ⟨hp, hf, ht⟩, ⟨Int.le_refl _, by have q := hft; omega⟩, (am_lay_nil (by omega)).symm, h⟩ | (show _ < _; simp only [l201]; decide) | skip
              · skip
                have q4 : ¬ ((if (0 : Int64) ≤ c.toInt64 ∧ c.toInt64 ≤ (10000000 : Int64) then (1 : Int32) else 0) = 0) := by rw [if_pos (by have q := z4; simp only [i_le, i_lt, j_le, Int32.toInt_toInt64, Int32.reduceToInt, Int64.reduceToInt] at q ⊢; omega)]; decide
                have hp : am_in l 4 := ⟨by have q := z0.1; simp only [i_le, Int32.reduceToInt] at q; omega, by have q := z0.2; simp only [i_le, Int32.reduceToInt] at q; omega⟩
                have hf : am_in f 40 := ⟨by have q := z1.1; simp only [i_le, Int32.reduceToInt] at q; omega, by have q := z1.2; simp only [i_lt, Int32.reduceToInt] at q; omega⟩
                have ht : am_in t 40 := ⟨by have q := z2.1; simp only [i_le, Int32.reduceToInt] at q; omega, by have q := z2.2; simp only [i_lt, Int32.reduceToInt] at q; omega⟩
                have hft : f.toInt ≤ t.toInt := by have q := z3; simp only [i_le] at q; exact q
                have e : r_live M l f t c = (1, am_lay M 201 (3573 + 40 * l.toInt + f.toInt) (3573 + 40 * l.toInt + t.toInt) c) := by unfold r_live; rw [if_pos z0, if_pos z1, if_pos z2, if_pos z3, if_pos z4]
                rw [e] at h
                repeat' (first | (with_reducible exact hmn) | (with_reducible exact n030) | (with_reducible exact n1) | apply And.intro | exact rfl | (intro hx; with_reducible exact absurd hx q0) | (intro hx; with_reducible exact absurd hx q1) | (intro hx; with_reducible exact absurd hx q2) | (intro hx; with_reducible exact absurd hx y3) | (intro hx; with_reducible exact absurd hx q4) | (intro hx; with_reducible exact absurd z3 hx) | (intro hx; exact absurd hx (by decide)) | (intro hx; exact absurd (by decide) hx) | decide | intro hx | (refine Exists.intro _ (And.intro rfl ?_)))
                all_goals try first | (with_reducible change am_tI _ _) | (change Ret _ _) | (change Ret _ _ _) | (change Exists _)
                all_goals try dsimp only at *
                all_goals try exact absurd ‹(1000 : Int64) = 0› (by decide)
                all_goals first | exact h | exact n0.1 | omega | exact ⟨_, f, rfl, rfl, rfl, ⟨hp, hf, ht⟩, ⟨Int.le_refl _, by have q := hft; omega⟩, (am_lay_nil (by omega)).symm, h⟩ | (show _ < _; simp only [l201]; decide) | skip
    · exact h.elim
  · intro live as M0 Ret h k pc I hI L st M hi
    unfold TX8_live at h
    split at h
    · next n l f t c =>
      obtain ⟨hmn, rfl, hR, h⟩ := h
      have hmn2 := hmn
      obtain ⟨i1, i2, rfl⟩ := hmn2
      have l201 : am_len 201 = 3760 := rfl
      change (match pc with | 45 => _ | _ => none) = _ at hI
      split at hI
      · cases hI
        obtain ⟨i, rfl, rfl, rfl, ⟨hp, hf, ht⟩, ⟨g1, g2⟩, rfl, h⟩ := hi
        have p1 := hp.1
        have p2 := hp.2
        have f1 := hf.1
        have f2 := hf.2
        have t1 := ht.1
        have t2 := ht.2
        by_cases hz : t < i
        · have hz2 := hz
          simp only [i_lt] at hz2
          repeat' (first | apply And.intro | exact rfl | (intro hx; with_reducible exact absurd hz hx) | intro hx | (refine Exists.intro _ (And.intro rfl ?_)))
          all_goals try first | (with_reducible change am_tI _ _) | (change Ret _ _) | (change Ret _ _ _) | (change Exists _)
          all_goals try dsimp only at *
          all_goals try exact absurd ‹(1000 : Int64) = 0› (by decide)
          rw [show i.toInt - 1 = t.toInt by omega]
          exact h
        · have hz2 := hz
          simp only [i_lt] at hz2
          have hi := i_inc (x := i) (by omega) (by omega)
          have e40 := r_mul (c := 40) (x := l) ⟨by decide, by decide⟩ ⟨by omega, by omega⟩
          simp only [Int32.reduceToInt] at e40
          have ea := r_off (c := 3573) (x := 40 * l) ⟨by decide, by decide⟩ ⟨by omega, by omega⟩
          simp only [e40, Int32.reduceToInt] at ea
          have eb := r_off (c := 3573 + 40 * l) (x := i) ⟨by omega, by omega⟩ ⟨by omega, by omega⟩
          have ec := i_clamp (x := 3573 + 40 * l + i) (by omega)
          repeat' (first | apply And.intro | exact rfl | (intro hx; with_reducible exact absurd hx hz) | intro hx | (refine Exists.intro _ (And.intro rfl ?_)))
          all_goals try first | (with_reducible change am_tI _ _) | (change Ret _ _) | (change Ret _ _ _) | (change Exists _)
          all_goals try dsimp only at *
          all_goals try exact absurd ‹(1000 : Int64) = 0› (by decide)
          all_goals first
            | omega
            | (rw [l201]; omega)
            | skip
          refine ⟨_, am_lt_l (by omega), _, rfl, rfl, rfl, ⟨hp, hf, ht⟩, ⟨by omega, by omega⟩, ?_, h⟩
          rw [show (3573 : Int) + 40 * l.toInt + (i.toInt - 1) = 3573 + 40 * l.toInt + i.toInt - 1 by omega, am_lay_put (by omega) (by omega)]
          exact am_lay_eq (fun q => by omega)
      · cases hI
    · exact h.elim
theorem dX8_count_0 : decode cX8_count 0 = .ok (.iload_n 1, 1) := by decide +kernel
theorem dX8_count_1 : decode cX8_count 1 = .ok (.i2l, 1) := by decide +kernel
theorem dX8_count_2 : decode cX8_count 2 = .ok (.lconst 0, 1) := by decide +kernel
theorem dX8_count_3 : decode cX8_count 3 = .ok (.ldc2_w 102, 3) := by decide +kernel
theorem dX8_count_6 : decode cX8_count 6 = .ok (.invokestatic 66, 3) := by decide +kernel
theorem dX8_count_9 : decode cX8_count 9 = .ok (.ifCond .eq 12, 3) := by decide +kernel
theorem dX8_count_12 : decode cX8_count 12 = .ok (.aload_n 0, 1) := by decide +kernel
theorem dX8_count_13 : decode cX8_count 13 = .ok (.getfield 7, 3) := by decide +kernel
theorem dX8_count_16 : decode cX8_count 16 = .ok (.iload_n 1, 1) := by decide +kernel
theorem dX8_count_17 : decode cX8_count 17 = .ok (.iaload, 1) := by decide +kernel
theorem dX8_count_18 : decode cX8_count 18 = .ok (.goto 5, 3) := by decide +kernel
theorem dX8_count_21 : decode cX8_count 21 = .ok (.bipush (-2), 2) := by decide +kernel
theorem dX8_count_23 : decode cX8_count 23 = .ok (.ireturn, 1) := by decide +kernel
def kX8_count (live : am_E) (Ret : am_R) : am_code := [(0, am_iload 1 1), (1, am_i2l 2), (2, am_const (.long 0) 3), (3, am_const (.long 5) 6), (6, am_callS live 3 TX8_in 9), (9, am_if1 (fun x => x = 0) 21 12), (12, am_aload 0 13), (13, am_getR live 8 0 16), (16, am_iload 1 17), (17, am_ald live 0 18), (18, am_goto 23), (21, am_const (.int (-2)) 23), (23, am_retI Ret)]
theorem koX8_count (live : am_E) (Ret : am_R) : ∀ q ∈ kX8_count live Ret, am_ok RX8 cX8_count 2 (some .int) 1 25 live Ret q.1 q.2 :=
  am_kc (ak_iload_n dX8_count_0 rfl rfl) <|
  am_kc (ak_i2l dX8_count_1 rfl) <|
  am_kc (ak_lconst dX8_count_2 (by decide +kernel) rfl) <|
  am_kc (ak_ldc2 wd_1041 dX8_count_3 rfl) <|
  am_kc (ak_callS metX8_in ⟨rfl, by decide +kernel, by decide +kernel, by decide +kernel⟩ (am_w4 wd_986 wd_987 wd_67 wd_988) (by decide) dX8_count_6 rfl) <|
  am_kc (ak_if_eq dX8_count_9 (by decide +kernel) rfl) <|
  am_kc (ak_aload_n dX8_count_12 rfl rfl) <|
  am_kc (ak_getR (C := RX8) (T := TX8) (N := 27) rfl inX8w (by decide) rfl rfl rfl wd_895 dX8_count_13 rfl) <|
  am_kc (ak_iload_n dX8_count_16 rfl rfl) <|
  am_kc (ak_iald (t := 0) (fun _ => rfl) rfl dX8_count_17 rfl) <|
  am_kc (ak_goto dX8_count_18 (by decide +kernel)) <|
  am_kc (ak_bipush dX8_count_21 (by decide +kernel) rfl) <|
  am_kc (ak_retI dX8_count_23) <| am_kn
def r_count (M : am_M) (w : Int32) : Int32 := if 0 ≤ w ∧ w ≤ 5 then M.1 201 w.toNatClampNeg else -2
def TX8_count : am_T := fun live as M R => match as with
  | [.ref n, .int w] => am_mn live ∧ n = 200 ∧ R (some (.int (r_count M w))) M
  | _ => False
set_option maxRecDepth 100000 in
set_option maxHeartbeats 4000000 in
theorem metX8_count : am_Met yX8_count cX8_count 2 (some .int) (1) (25) TX8_count := by
  refine am_met (own := RX8) (by decide +kernel) rfl kX8_count koX8_count 100 (fun _ _ _ _ _ => none) (fun live as M Ret h => ?_) (fun _ _ _ _ _ _ _ _ hI => by cases hI)
  unfold TX8_count at h
  split at h
  · next n w =>
    refine ⟨Nat.le_of_ble_eq_true rfl, ?_⟩
    change am_wp _ _ _ _ [(0, Value.ref n), (1, Value.int w)] _ _
    obtain ⟨⟨i1, i2, rfl⟩, rfl, h⟩ := h
    have l201 : am_len 201 = 3760 := rfl
    by_cases z0 : 0 ≤ w ∧ w ≤ 5
    · rw [show r_count M w = M.1 201 w.toNatClampNeg from if_pos z0] at h
      have q0 : ¬ ((if (0 : Int64) ≤ w.toInt64 ∧ w.toInt64 ≤ (5 : Int64) then (1 : Int32) else 0) = 0) := by rw [if_pos (by have q := z0; simp only [i_le, i_lt, j_le, Int32.toInt_toInt64, Int32.reduceToInt, Int64.reduceToInt] at q ⊢; omega)]; decide
      repeat' (first | apply And.intro | exact rfl | (intro hx; with_reducible exact absurd hx q0) | intro hx | (refine Exists.intro _ (And.intro rfl ?_)))
      all_goals try first | (with_reducible change am_tI _ _) | (change Ret _ _) | (change Ret _ _ _) | (change Exists _)
      all_goals try dsimp only at *
      all_goals try exact absurd ‹(1000 : Int64) = 0› (by decide)
      all_goals first
        | exact h
        | (simp only [l201]; have q := z0; simp only [i_le, Int32.reduceToInt] at q; omega)
        | (have q := z0; simp only [i_le, Int32.reduceToInt] at q; omega)
    · rw [show r_count M w = -2 from if_neg z0] at h
      have q0 : (if (0 : Int64) ≤ w.toInt64 ∧ w.toInt64 ≤ (5 : Int64) then (1 : Int32) else 0) = 0 := if_neg (fun r => z0 (by simp only [i_le, i_lt, j_le, Int32.toInt_toInt64, Int32.reduceToInt, Int64.reduceToInt] at r ⊢; omega))
      repeat' (first | (with_reducible exact h) | apply And.intro | exact rfl | (intro hx; with_reducible exact absurd q0 hx) | intro hx | (refine Exists.intro _ (And.intro rfl ?_)))
      all_goals try first | (with_reducible change am_tI _ _) | (change Ret _ _) | (change Ret _ _ _) | (change Exists _)
      all_goals try dsimp only at *
      all_goals try exact absurd ‹(1000 : Int64) = 0› (by decide)
      all_goals exact h
  · exact h.elim
theorem dX8_image_0 : decode cX8_image 0 = .ok (.iload_n 1, 1) := by decide +kernel
theorem dX8_image_1 : decode cX8_image 1 = .ok (.i2l, 1) := by decide +kernel
theorem dX8_image_2 : decode cX8_image 2 = .ok (.lconst 0, 1) := by decide +kernel
theorem dX8_image_3 : decode cX8_image 3 = .ok (.lconst 1, 1) := by decide +kernel
theorem dX8_image_4 : decode cX8_image 4 = .ok (.invokestatic 66, 3) := by decide +kernel
theorem dX8_image_7 : decode cX8_image 7 = .ok (.ifCond .ne 6, 3) := by decide +kernel
theorem dX8_image_10 : decode cX8_image 10 = .ok (.bipush (-2), 2) := by decide +kernel
theorem dX8_image_12 : decode cX8_image 12 = .ok (.ireturn, 1) := by decide +kernel
theorem dX8_image_13 : decode cX8_image 13 = .ok (.iconst 0, 1) := by decide +kernel
theorem dX8_image_14 : decode cX8_image 14 = .ok (.istore_n 2, 1) := by decide +kernel
theorem dX8_image_15 : decode cX8_image 15 = .ok (.iload_n 2, 1) := by decide +kernel
theorem dX8_image_16 : decode cX8_image 16 = .ok (.sipush 3760, 3) := by decide +kernel
theorem dX8_image_19 : decode cX8_image 19 = .ok (.if_icmp .ge 27, 3) := by decide +kernel
theorem dX8_image_22 : decode cX8_image 22 = .ok (.aload_n 0, 1) := by decide +kernel
theorem dX8_image_23 : decode cX8_image 23 = .ok (.getfield 13, 3) := by decide +kernel
theorem dX8_image_26 : decode cX8_image 26 = .ok (.sipush 3760, 3) := by decide +kernel
theorem dX8_image_29 : decode cX8_image 29 = .ok (.iload_n 1, 1) := by decide +kernel
theorem dX8_image_30 : decode cX8_image 30 = .ok (.imul, 1) := by decide +kernel
theorem dX8_image_31 : decode cX8_image 31 = .ok (.iload_n 2, 1) := by decide +kernel
theorem dX8_image_32 : decode cX8_image 32 = .ok (.iadd, 1) := by decide +kernel
theorem dX8_image_33 : decode cX8_image 33 = .ok (.aload_n 0, 1) := by decide +kernel
theorem dX8_image_34 : decode cX8_image 34 = .ok (.getfield 7, 3) := by decide +kernel
theorem dX8_image_37 : decode cX8_image 37 = .ok (.iload_n 2, 1) := by decide +kernel
theorem dX8_image_38 : decode cX8_image 38 = .ok (.iaload, 1) := by decide +kernel
theorem dX8_image_39 : decode cX8_image 39 = .ok (.iastore, 1) := by decide +kernel
theorem dX8_image_40 : decode cX8_image 40 = .ok (.iinc 2 1, 3) := by decide +kernel
theorem dX8_image_43 : decode cX8_image 43 = .ok (.goto (-28), 3) := by decide +kernel
theorem dX8_image_46 : decode cX8_image 46 = .ok (.aload_n 0, 1) := by decide +kernel
theorem dX8_image_47 : decode cX8_image 47 = .ok (.getfield 16, 3) := by decide +kernel
theorem dX8_image_50 : decode cX8_image 50 = .ok (.iload_n 1, 1) := by decide +kernel
theorem dX8_image_51 : decode cX8_image 51 = .ok (.iconst 1, 1) := by decide +kernel
theorem dX8_image_52 : decode cX8_image 52 = .ok (.bastore, 1) := by decide +kernel
theorem dX8_image_53 : decode cX8_image 53 = .ok (.iconst 1, 1) := by decide +kernel
theorem dX8_image_54 : decode cX8_image 54 = .ok (.ireturn, 1) := by decide +kernel
def kX8_image (live : am_E) (Ret : am_R) : am_code := [(0, am_iload 1 1), (1, am_i2l 2), (2, am_const (.long 0) 3), (3, am_const (.long 1) 4), (4, am_callS live 3 TX8_in 7), (7, am_if1 (fun x => x = 0) 10 13), (10, am_const (.int (-2)) 12), (12, am_retI Ret), (13, am_const (.int 0) 14), (14, am_istore 2 3 15), (15, am_iload 2 16), (16, am_const (.int 3760) 19), (19, am_if2 (fun x y => y ≤ x) 46 22), (22, am_aload 0 23), (23, am_getR live 8 1 26), (26, am_const (.int 3760) 29), (29, am_iload 1 30), (30, am_i2 (fun x y => x * y) 31), (31, am_iload 2 32), (32, am_i2 (fun x y => x + y) 33), (33, am_aload 0 34), (34, am_getR live 8 0 37), (37, am_iload 2 38), (38, am_ald live 0 39), (39, am_ast live 0 40), (40, am_iinc 2 3 1 43), (43, am_goto 15), (46, am_aload 0 47), (47, am_getR live 8 2 50), (50, am_iload 1 51), (51, am_const (.int 1) 52), (52, am_zst live 2 53), (53, am_const (.int 1) 54), (54, am_retI Ret)]
theorem koX8_image (live : am_E) (Ret : am_R) : ∀ q ∈ kX8_image live Ret, am_ok RX8 cX8_image 3 (some .int) 1 25 live Ret q.1 q.2 :=
  am_kc (ak_iload_n dX8_image_0 rfl rfl) <|
  am_kc (ak_i2l dX8_image_1 rfl) <|
  am_kc (ak_lconst dX8_image_2 (by decide +kernel) rfl) <|
  am_kc (ak_lconst dX8_image_3 (by decide +kernel) rfl) <|
  am_kc (ak_callS metX8_in ⟨rfl, by decide +kernel, by decide +kernel, by decide +kernel⟩ (am_w4 wd_986 wd_987 wd_67 wd_988) (by decide) dX8_image_4 rfl) <|
  am_kc (ak_if_ne dX8_image_7 (by decide +kernel) rfl) <|
  am_kc (ak_bipush dX8_image_10 (by decide +kernel) rfl) <|
  am_kc (ak_retI dX8_image_12) <|
  am_kc (ak_iconst dX8_image_13 (by decide +kernel) rfl) <|
  am_kc (ak_istore_n dX8_image_14 rfl rfl) <|
  am_kc (ak_iload_n dX8_image_15 rfl rfl) <|
  am_kc (ak_sipush dX8_image_16 (by decide +kernel) rfl) <|
  am_kc (ak_icmp_ge dX8_image_19 (by decide +kernel) rfl) <|
  am_kc (ak_aload_n dX8_image_22 rfl rfl) <|
  am_kc (ak_getR (C := RX8) (T := TX8) (N := 27) rfl inX8w (by decide) rfl rfl rfl wd_896 dX8_image_23 rfl) <|
  am_kc (ak_sipush dX8_image_26 (by decide +kernel) rfl) <|
  am_kc (ak_iload_n dX8_image_29 rfl rfl) <|
  am_kc (ak_imul dX8_image_30 rfl) <|
  am_kc (ak_iload_n dX8_image_31 rfl rfl) <|
  am_kc (ak_iadd dX8_image_32 rfl) <|
  am_kc (ak_aload_n dX8_image_33 rfl rfl) <|
  am_kc (ak_getR (C := RX8) (T := TX8) (N := 27) rfl inX8w (by decide) rfl rfl rfl wd_895 dX8_image_34 rfl) <|
  am_kc (ak_iload_n dX8_image_37 rfl rfl) <|
  am_kc (ak_iald (t := 0) (fun _ => rfl) rfl dX8_image_38 rfl) <|
  am_kc (ak_iast (t := 0) (fun _ => rfl) rfl dX8_image_39 rfl) <|
  am_kc (ak_iinc dX8_image_40 (by decide +kernel) rfl) <|
  am_kc (ak_goto dX8_image_43 (by decide +kernel)) <|
  am_kc (ak_aload_n dX8_image_46 rfl rfl) <|
  am_kc (ak_getR (C := RX8) (T := TX8) (N := 27) rfl inX8w (by decide) rfl rfl rfl wd_897 dX8_image_47 rfl) <|
  am_kc (ak_iload_n dX8_image_50 rfl rfl) <|
  am_kc (ak_iconst dX8_image_51 (by decide +kernel) rfl) <|
  am_kc (ak_zast (t := 2) (fun _ => rfl) rfl dX8_image_52 rfl) <|
  am_kc (ak_iconst dX8_image_53 (by decide +kernel) rfl) <|
  am_kc (ak_retI dX8_image_54) <| am_kn
def r_image (M : am_M) (i : Int32) : Int32 × am_M := if 0 ≤ i ∧ i ≤ 1 then (1, (am_wI (am_cI M 202 (fun b => if 3760 * i.toNatClampNeg ≤ b ∧ b < 3760 * i.toNatClampNeg + 3760 then M.1 201 (b - 3760 * i.toNatClampNeg) else M.1 202 b)) 203 i.toNatClampNeg (vp_nar .boolean 1))) else ((-2 : Int32), M)
def TX8_image : am_T := fun live as M R => match as with
  | [.ref n, .int i] => am_mn live ∧ n = 200 ∧ r_I M ∧ R (some (.int (r_image M i).1)) (r_image M i).2
  | _ => False
def JX8_image : am_E → List Value → am_M → am_R → am_inv := fun live as M R pc => match as with
  | [.ref n, .int i] => (match pc with
    | 15 => some ([0, 1, 2], fun k L st M' => ∃ j : Int32, L = [(0, .ref 200), (1, .int i), (2, .int j)] ∧ st = [] ∧ k = ((3761 - j.toInt).toNat, 0) ∧ am_in i 2 ∧ (0 ≤ j.toInt ∧ j.toInt ≤ 3760) ∧ M' = (am_cI M 202 (fun b => if 3760 * i.toNatClampNeg ≤ b ∧ b < 3760 * i.toNatClampNeg + j.toNatClampNeg then M.1 201 (b - 3760 * i.toNatClampNeg) else M.1 202 b)) ∧ R (some (.int 1)) (am_wI (am_cI M 202 (fun b => if 3760 * i.toNatClampNeg ≤ b ∧ b < 3760 * i.toNatClampNeg + 3760 then M.1 201 (b - 3760 * i.toNatClampNeg) else M.1 202 b)) 203 i.toNatClampNeg (vp_nar .boolean 1)))
    | _ => none)
  | _ => none
set_option maxRecDepth 100000 in
set_option maxHeartbeats 4000000 in
theorem metX8_image : am_Met yX8_image cX8_image 3 (some .int) (1) (25) TX8_image := by
  refine am_met (own := RX8) (by decide +kernel) rfl kX8_image koX8_image 200 JX8_image ?_ ?_
  · intro live as M Ret h
    unfold TX8_image at h
    split at h
    · next n i =>
      refine ⟨Nat.le_of_ble_eq_true rfl, ?_⟩
      change am_wp _ _ _ _ [(0, Value.ref n), (1, Value.int i)] _ _
      obtain ⟨hmn, rfl, hR, h⟩ := h
      have hmn2 := hmn
      obtain ⟨i1, i2, rfl⟩ := hmn2
      have l201 : am_len 201 = 3760 := rfl
      have n0 := hR.n0
      have n1 := hR.n1
      have n030 : 0 ≤ (M.1 201 0).toInt ∧ (M.1 201 0).toInt ≤ 30 := ⟨n0.1, by omega⟩
      by_cases z0 : 0 ≤ i ∧ i ≤ 1
      rotate_left
      · skip
        have q0 : (if (0 : Int64) ≤ i.toInt64 ∧ i.toInt64 ≤ (1 : Int64) then (1 : Int32) else 0) = 0 := if_neg (fun r => z0 (by simp only [i_le, i_lt, j_le, Int32.toInt_toInt64, Int32.reduceToInt, Int64.reduceToInt] at r ⊢; omega))
        have e : r_image M i = ((-2 : Int32), M) := by unfold r_image; rw [if_neg z0]
        rw [e] at h
        repeat' (first | (with_reducible exact hmn) | (with_reducible exact h) | (with_reducible exact n030) | (with_reducible exact n1) | apply And.intro | exact rfl | (intro hx; with_reducible exact absurd q0 hx) | (intro hx; exact absurd hx (by decide)) | (intro hx; exact absurd (by decide) hx) | decide | intro hx | (refine Exists.intro _ (And.intro rfl ?_)))
        all_goals try first | (with_reducible change am_tI _ _) | (change Ret _ _) | (change Ret _ _ _) | (change Exists _)
        all_goals try dsimp only at *
        all_goals try exact absurd ‹(1000 : Int64) = 0› (by decide)
        all_goals first | exact h | exact n0.1 | omega | exact hi.1 | (rw [l203]; exact hi.2) | exact ⟨_, 0, rfl, rfl, rfl, hi, ⟨by decide, by decide⟩, (am_Mext (fun a b => by rw [am_cI_1]; exact (ite_eq_right_iff.mpr (fun e => by subst e; exact if_neg (fun q => by have e0 : Int32.toNatClampNeg 0 = 0 := rfl; rw [e0] at q; omega))).symm) rfl), h⟩ | (show _ < _; simp only [l201]; decide) | skip
      · skip
        have q0 : ¬ ((if (0 : Int64) ≤ i.toInt64 ∧ i.toInt64 ≤ (1 : Int64) then (1 : Int32) else 0) = 0) := by rw [if_pos (by have q := z0; simp only [i_le, i_lt, j_le, Int32.toInt_toInt64, Int32.reduceToInt, Int64.reduceToInt] at q ⊢; omega)]; decide
        have hi : am_in i 2 := ⟨by have q := z0.1; simp only [i_le, Int32.reduceToInt] at q; omega, by have q := z0.2; simp only [i_le, Int32.reduceToInt] at q; omega⟩
        have e : r_image M i = (1, (am_wI (am_cI M 202 (fun b => if 3760 * i.toNatClampNeg ≤ b ∧ b < 3760 * i.toNatClampNeg + 3760 then M.1 201 (b - 3760 * i.toNatClampNeg) else M.1 202 b)) 203 i.toNatClampNeg (vp_nar .boolean 1))) := by unfold r_image; rw [if_pos z0]
        rw [e] at h
        repeat' (first | (with_reducible exact hmn) | (with_reducible exact n030) | (with_reducible exact n1) | apply And.intro | exact rfl | (intro hx; with_reducible exact absurd hx q0) | (intro hx; exact absurd hx (by decide)) | (intro hx; exact absurd (by decide) hx) | decide | intro hx | (refine Exists.intro _ (And.intro rfl ?_)))
        all_goals try first | (with_reducible change am_tI _ _) | (change Ret _ _) | (change Ret _ _ _) | (change Exists _)
        all_goals try dsimp only at *
        all_goals try exact absurd ‹(1000 : Int64) = 0› (by decide)
        all_goals first | exact h | exact n0.1 | omega | exact hi.1 | (rw [l203]; exact hi.2) | exact ⟨_, 0, rfl, rfl, rfl, hi, ⟨by decide, by decide⟩, (am_Mext (fun a b => by rw [am_cI_1]; exact (ite_eq_right_iff.mpr (fun e => by subst e; exact if_neg (fun q => by have e0 : Int32.toNatClampNeg 0 = 0 := rfl; rw [e0] at q; omega))).symm) rfl), h⟩ | (show _ < _; simp only [l201]; decide) | skip
    · exact h.elim
  · intro live as M0 Ret h k pc I hI L st M hi
    unfold TX8_image at h
    split at h
    · next n i =>
      obtain ⟨hmn, rfl, hR, h⟩ := h
      have hmn2 := hmn
      obtain ⟨i1, i2, rfl⟩ := hmn2
      have l201 : am_len 201 = 3760 := rfl
      have l202 : am_len 202 = 7520 := rfl
      have l203 : am_len 203 = 2 := rfl
      change (match pc with | 15 => _ | _ => none) = _ at hI
      split at hI
      · cases hI
        obtain ⟨j, rfl, rfl, rfl, hi2, ⟨g1, g2⟩, rfl, h⟩ := hi
        have p1 := hi2.1
        have p2 := hi2.2
        by_cases hz : (3760 : Int32) ≤ j
        · have hz2 := hz
          simp only [i_le, Int32.reduceToInt] at hz2
          have ej : j.toNatClampNeg = 3760 := by have := i_clamp (x := j) g1; omega
          rw [ej]
          repeat' (first | apply And.intro | exact rfl | (intro hx; with_reducible exact absurd hz hx) | intro hx | (refine Exists.intro _ (And.intro rfl ?_)))
          all_goals try first | (with_reducible change am_tI _ _) | (change Ret _ _) | (change Ret _ _ _) | (change Exists _)
          all_goals try dsimp only at *
          all_goals try exact absurd ‹(1000 : Int64) = 0› (by decide)
          all_goals first
            | exact h
            | omega
            | (rw [l203]; omega)
        · have hz2 := hz
          simp only [i_le, Int32.reduceToInt] at hz2
          have hj := i_inc (x := j) (by omega) (by omega)
          have cj := i_clamp (x := j) (by omega)
          have cj1 := i_clamp (x := j + 1) (by omega)
          have ci := i_clamp (x := i) (by omega)
          have em := r_mul (c := 3760) (x := i) ⟨by decide, by decide⟩ ⟨by omega, by omega⟩
          simp only [Int32.reduceToInt] at em
          have ea := r_off (c := 3760 * i) (x := j) ⟨by omega, by omega⟩ ⟨by omega, by omega⟩
          have ca := i_clamp (x := 3760 * i + j) (by omega)
          repeat' (first | apply And.intro | exact rfl | (intro hx; with_reducible exact absurd hx hz) | intro hx | (refine Exists.intro _ (And.intro rfl ?_)))
          all_goals try first | (with_reducible change am_tI _ _) | (change Ret _ _) | (change Ret _ _ _) | (change Exists _)
          all_goals try dsimp only at *
          all_goals try exact absurd ‹(1000 : Int64) = 0› (by decide)
          all_goals first
            | omega
            | (rw [l201]; omega)
            | (rw [l202]; omega)
            | skip
          · refine ⟨_, am_lt_l (by omega), _, rfl, rfl, rfl, hi2, ⟨by omega, by omega⟩, ?_, h⟩
            refine am_Mext (fun a b => ?_) rfl
            simp only [am_wI_1, am_cI_1, show ¬ ((201 : Nat) = 202) by decide, if_false]
            by_cases e : a = 202
            · subst e
              simp only [true_and, if_true]
              by_cases e2 : b = (3760 * i + j).toNatClampNeg
              · rw [if_pos e2, if_pos ⟨by omega, by omega⟩]
                exact congrArg (M0.1 201) (by omega)
              · rw [if_neg e2]
                by_cases e3 : 3760 * i.toNatClampNeg ≤ b ∧ b < 3760 * i.toNatClampNeg + j.toNatClampNeg
                · rw [if_pos e3, if_pos ⟨e3.1, by omega⟩]
                · rw [if_neg e3, if_neg (fun q => by omega)]
            · simp only [e, false_and, if_false]
      · cases hI
    · exact h.elim
theorem dX8_from_0 : decode cX8_from 0 = .ok (.iload_n 1, 1) := by decide +kernel
theorem dX8_from_1 : decode cX8_from 1 = .ok (.i2l, 1) := by decide +kernel
theorem dX8_from_2 : decode cX8_from 2 = .ok (.lconst 0, 1) := by decide +kernel
theorem dX8_from_3 : decode cX8_from 3 = .ok (.lconst 1, 1) := by decide +kernel
theorem dX8_from_4 : decode cX8_from 4 = .ok (.invokestatic 66, 3) := by decide +kernel
theorem dX8_from_7 : decode cX8_from 7 = .ok (.ifCond .ne 6, 3) := by decide +kernel
theorem dX8_from_10 : decode cX8_from 10 = .ok (.bipush (-2), 2) := by decide +kernel
theorem dX8_from_12 : decode cX8_from 12 = .ok (.ireturn, 1) := by decide +kernel
theorem dX8_from_13 : decode cX8_from 13 = .ok (.aload_n 0, 1) := by decide +kernel
theorem dX8_from_14 : decode cX8_from 14 = .ok (.getfield 16, 3) := by decide +kernel
theorem dX8_from_17 : decode cX8_from 17 = .ok (.iload_n 1, 1) := by decide +kernel
theorem dX8_from_18 : decode cX8_from 18 = .ok (.baload, 1) := by decide +kernel
theorem dX8_from_19 : decode cX8_from 19 = .ok (.ifCond .ne 6, 3) := by decide +kernel
theorem dX8_from_22 : decode cX8_from 22 = .ok (.bipush (-3), 2) := by decide +kernel
theorem dX8_from_24 : decode cX8_from 24 = .ok (.ireturn, 1) := by decide +kernel
theorem dX8_from_25 : decode cX8_from 25 = .ok (.iconst 0, 1) := by decide +kernel
theorem dX8_from_26 : decode cX8_from 26 = .ok (.istore_n 2, 1) := by decide +kernel
theorem dX8_from_27 : decode cX8_from 27 = .ok (.iload_n 2, 1) := by decide +kernel
theorem dX8_from_28 : decode cX8_from 28 = .ok (.sipush 3760, 3) := by decide +kernel
theorem dX8_from_31 : decode cX8_from 31 = .ok (.if_icmp .ge 27, 3) := by decide +kernel
theorem dX8_from_34 : decode cX8_from 34 = .ok (.aload_n 0, 1) := by decide +kernel
theorem dX8_from_35 : decode cX8_from 35 = .ok (.getfield 7, 3) := by decide +kernel
theorem dX8_from_38 : decode cX8_from 38 = .ok (.iload_n 2, 1) := by decide +kernel
theorem dX8_from_39 : decode cX8_from 39 = .ok (.aload_n 0, 1) := by decide +kernel
theorem dX8_from_40 : decode cX8_from 40 = .ok (.getfield 13, 3) := by decide +kernel
theorem dX8_from_43 : decode cX8_from 43 = .ok (.sipush 3760, 3) := by decide +kernel
theorem dX8_from_46 : decode cX8_from 46 = .ok (.iload_n 1, 1) := by decide +kernel
theorem dX8_from_47 : decode cX8_from 47 = .ok (.imul, 1) := by decide +kernel
theorem dX8_from_48 : decode cX8_from 48 = .ok (.iload_n 2, 1) := by decide +kernel
theorem dX8_from_49 : decode cX8_from 49 = .ok (.iadd, 1) := by decide +kernel
theorem dX8_from_50 : decode cX8_from 50 = .ok (.iaload, 1) := by decide +kernel
theorem dX8_from_51 : decode cX8_from 51 = .ok (.iastore, 1) := by decide +kernel
theorem dX8_from_52 : decode cX8_from 52 = .ok (.iinc 2 1, 3) := by decide +kernel
theorem dX8_from_55 : decode cX8_from 55 = .ok (.goto (-28), 3) := by decide +kernel
theorem dX8_from_58 : decode cX8_from 58 = .ok (.iconst 1, 1) := by decide +kernel
theorem dX8_from_59 : decode cX8_from 59 = .ok (.ireturn, 1) := by decide +kernel
def kX8_from (live : am_E) (Ret : am_R) : am_code := [(0, am_iload 1 1), (1, am_i2l 2), (2, am_const (.long 0) 3), (3, am_const (.long 1) 4), (4, am_callS live 3 TX8_in 7), (7, am_if1 (fun x => x = 0) 10 13), (10, am_const (.int (-2)) 12), (12, am_retI Ret), (13, am_aload 0 14), (14, am_getR live 8 2 17), (17, am_iload 1 18), (18, am_ald live 2 19), (19, am_if1 (fun x => x = 0) 22 25), (22, am_const (.int (-3)) 24), (24, am_retI Ret), (25, am_const (.int 0) 26), (26, am_istore 2 3 27), (27, am_iload 2 28), (28, am_const (.int 3760) 31), (31, am_if2 (fun x y => y ≤ x) 58 34), (34, am_aload 0 35), (35, am_getR live 8 0 38), (38, am_iload 2 39), (39, am_aload 0 40), (40, am_getR live 8 1 43), (43, am_const (.int 3760) 46), (46, am_iload 1 47), (47, am_i2 (fun x y => x * y) 48), (48, am_iload 2 49), (49, am_i2 (fun x y => x + y) 50), (50, am_ald live 0 51), (51, am_ast live 0 52), (52, am_iinc 2 3 1 55), (55, am_goto 27), (58, am_const (.int 1) 59), (59, am_retI Ret)]
theorem koX8_from (live : am_E) (Ret : am_R) : ∀ q ∈ kX8_from live Ret, am_ok RX8 cX8_from 3 (some .int) 1 25 live Ret q.1 q.2 :=
  am_kc (ak_iload_n dX8_from_0 rfl rfl) <|
  am_kc (ak_i2l dX8_from_1 rfl) <|
  am_kc (ak_lconst dX8_from_2 (by decide +kernel) rfl) <|
  am_kc (ak_lconst dX8_from_3 (by decide +kernel) rfl) <|
  am_kc (ak_callS metX8_in ⟨rfl, by decide +kernel, by decide +kernel, by decide +kernel⟩ (am_w4 wd_986 wd_987 wd_67 wd_988) (by decide) dX8_from_4 rfl) <|
  am_kc (ak_if_ne dX8_from_7 (by decide +kernel) rfl) <|
  am_kc (ak_bipush dX8_from_10 (by decide +kernel) rfl) <|
  am_kc (ak_retI dX8_from_12) <|
  am_kc (ak_aload_n dX8_from_13 rfl rfl) <|
  am_kc (ak_getR (C := RX8) (T := TX8) (N := 27) rfl inX8w (by decide) rfl rfl rfl wd_897 dX8_from_14 rfl) <|
  am_kc (ak_iload_n dX8_from_17 rfl rfl) <|
  am_kc (ak_zald (t := 2) (fun _ => rfl) rfl dX8_from_18 rfl) <|
  am_kc (ak_if_ne dX8_from_19 (by decide +kernel) rfl) <|
  am_kc (ak_bipush dX8_from_22 (by decide +kernel) rfl) <|
  am_kc (ak_retI dX8_from_24) <|
  am_kc (ak_iconst dX8_from_25 (by decide +kernel) rfl) <|
  am_kc (ak_istore_n dX8_from_26 rfl rfl) <|
  am_kc (ak_iload_n dX8_from_27 rfl rfl) <|
  am_kc (ak_sipush dX8_from_28 (by decide +kernel) rfl) <|
  am_kc (ak_icmp_ge dX8_from_31 (by decide +kernel) rfl) <|
  am_kc (ak_aload_n dX8_from_34 rfl rfl) <|
  am_kc (ak_getR (C := RX8) (T := TX8) (N := 27) rfl inX8w (by decide) rfl rfl rfl wd_895 dX8_from_35 rfl) <|
  am_kc (ak_iload_n dX8_from_38 rfl rfl) <|
  am_kc (ak_aload_n dX8_from_39 rfl rfl) <|
  am_kc (ak_getR (C := RX8) (T := TX8) (N := 27) rfl inX8w (by decide) rfl rfl rfl wd_896 dX8_from_40 rfl) <|
  am_kc (ak_sipush dX8_from_43 (by decide +kernel) rfl) <|
  am_kc (ak_iload_n dX8_from_46 rfl rfl) <|
  am_kc (ak_imul dX8_from_47 rfl) <|
  am_kc (ak_iload_n dX8_from_48 rfl rfl) <|
  am_kc (ak_iadd dX8_from_49 rfl) <|
  am_kc (ak_iald (t := 0) (fun _ => rfl) rfl dX8_from_50 rfl) <|
  am_kc (ak_iast (t := 0) (fun _ => rfl) rfl dX8_from_51 rfl) <|
  am_kc (ak_iinc dX8_from_52 (by decide +kernel) rfl) <|
  am_kc (ak_goto dX8_from_55 (by decide +kernel)) <|
  am_kc (ak_iconst dX8_from_58 (by decide +kernel) rfl) <|
  am_kc (ak_retI dX8_from_59) <| am_kn
def r_from (M : am_M) (i : Int32) : Int32 × am_M := if 0 ≤ i ∧ i ≤ 1 then (if M.1 203 i.toNatClampNeg = 0 then ((-3 : Int32), M) else (1, (am_cI M 201 (fun b => if b < 3760 then M.1 202 (3760 * i.toNatClampNeg + b) else M.1 201 b)))) else ((-2 : Int32), M)
def TX8_from : am_T := fun live as M R => match as with
  | [.ref n, .int i] => am_mn live ∧ n = 200 ∧ r_I M ∧ R (some (.int (r_from M i).1)) (r_from M i).2
  | _ => False
def JX8_from : am_E → List Value → am_M → am_R → am_inv := fun live as M R pc => match as with
  | [.ref n, .int i] => (match pc with
    | 27 => some ([0, 1, 2], fun k L st M' => ∃ j : Int32, L = [(0, .ref 200), (1, .int i), (2, .int j)] ∧ st = [] ∧ k = ((3761 - j.toInt).toNat, 0) ∧ am_in i 2 ∧ (0 ≤ j.toInt ∧ j.toInt ≤ 3760) ∧ M' = (am_cI M 201 (fun b => if b < j.toNatClampNeg then M.1 202 (3760 * i.toNatClampNeg + b) else M.1 201 b)) ∧ R (some (.int 1)) (am_cI M 201 (fun b => if b < 3760 then M.1 202 (3760 * i.toNatClampNeg + b) else M.1 201 b)))
    | _ => none)
  | _ => none
set_option maxRecDepth 100000 in
set_option maxHeartbeats 4000000 in
theorem metX8_from : am_Met yX8_from cX8_from 3 (some .int) (1) (25) TX8_from := by
  refine am_met (own := RX8) (by decide +kernel) rfl kX8_from koX8_from 200 JX8_from ?_ ?_
  · intro live as M Ret h
    unfold TX8_from at h
    split at h
    · next n i =>
      refine ⟨Nat.le_of_ble_eq_true rfl, ?_⟩
      change am_wp _ _ _ _ [(0, Value.ref n), (1, Value.int i)] _ _
      obtain ⟨hmn, rfl, hR, h⟩ := h
      have hmn2 := hmn
      obtain ⟨i1, i2, rfl⟩ := hmn2
      have l201 : am_len 201 = 3760 := rfl
      have n0 := hR.n0
      have n1 := hR.n1
      have n030 : 0 ≤ (M.1 201 0).toInt ∧ (M.1 201 0).toInt ≤ 30 := ⟨n0.1, by omega⟩
      by_cases z0 : 0 ≤ i ∧ i ≤ 1
      rotate_left
      · skip
        have q0 : (if (0 : Int64) ≤ i.toInt64 ∧ i.toInt64 ≤ (1 : Int64) then (1 : Int32) else 0) = 0 := if_neg (fun r => z0 (by simp only [i_le, i_lt, j_le, Int32.toInt_toInt64, Int32.reduceToInt, Int64.reduceToInt] at r ⊢; omega))
        have e : r_from M i = ((-2 : Int32), M) := by unfold r_from; rw [if_neg z0]
        rw [e] at h
        repeat' (first | (with_reducible exact hmn) | (with_reducible exact h) | (with_reducible exact n030) | (with_reducible exact n1) | apply And.intro | exact rfl | (intro hx; with_reducible exact absurd q0 hx) | (intro hx; exact absurd hx (by decide)) | (intro hx; exact absurd (by decide) hx) | decide | intro hx | (refine Exists.intro _ (And.intro rfl ?_)))
        all_goals try first | (with_reducible change am_tI _ _) | (change Ret _ _) | (change Ret _ _ _) | (change Exists _)
        all_goals try dsimp only at *
        all_goals try exact absurd ‹(1000 : Int64) = 0› (by decide)
        all_goals first | exact h | exact n0.1 | omega | exact hi.1 | (rw [l203]; exact hi.2) | exact ⟨_, 0, rfl, rfl, rfl, hi, ⟨by decide, by decide⟩, (am_Mext (fun a b => by rw [am_cI_1]; exact (ite_eq_right_iff.mpr (fun e => by subst e; exact if_neg (fun q => by have e0 : Int32.toNatClampNeg 0 = 0 := rfl; rw [e0] at q; omega))).symm) rfl), h⟩ | (show _ < _; simp only [l201]; decide) | skip
      · skip
        have q0 : ¬ ((if (0 : Int64) ≤ i.toInt64 ∧ i.toInt64 ≤ (1 : Int64) then (1 : Int32) else 0) = 0) := by rw [if_pos (by have q := z0; simp only [i_le, i_lt, j_le, Int32.toInt_toInt64, Int32.reduceToInt, Int64.reduceToInt] at q ⊢; omega)]; decide
        have hi : am_in i 2 := ⟨by have q := z0.1; simp only [i_le, Int32.reduceToInt] at q; omega, by have q := z0.2; simp only [i_le, Int32.reduceToInt] at q; omega⟩
        have l203 : am_len 203 = 2 := rfl
        by_cases z1 : M.1 203 i.toNatClampNeg = 0
        · skip
          have e : r_from M i = ((-3 : Int32), M) := by unfold r_from; rw [if_pos z0, if_pos z1]
          rw [e] at h
          repeat' (first | (with_reducible exact hmn) | (with_reducible exact h) | (with_reducible exact n030) | (with_reducible exact n1) | apply And.intro | exact rfl | (intro hx; with_reducible exact absurd hx q0) | (intro hx; with_reducible exact absurd z1 hx) | (intro hx; exact absurd hx (by decide)) | (intro hx; exact absurd (by decide) hx) | decide | intro hx | (refine Exists.intro _ (And.intro rfl ?_)))
          all_goals try first | (with_reducible change am_tI _ _) | (change Ret _ _) | (change Ret _ _ _) | (change Exists _)
          all_goals try dsimp only at *
          all_goals try exact absurd ‹(1000 : Int64) = 0› (by decide)
          all_goals first | exact h | exact n0.1 | omega | exact hi.1 | (rw [l203]; exact hi.2) | exact ⟨_, 0, rfl, rfl, rfl, hi, ⟨by decide, by decide⟩, (am_Mext (fun a b => by rw [am_cI_1]; exact (ite_eq_right_iff.mpr (fun e => by subst e; exact if_neg (fun q => by have e0 : Int32.toNatClampNeg 0 = 0 := rfl; rw [e0] at q; omega))).symm) rfl), h⟩ | (show _ < _; simp only [l201]; decide) | skip
        · skip
          have e : r_from M i = (1, (am_cI M 201 (fun b => if b < 3760 then M.1 202 (3760 * i.toNatClampNeg + b) else M.1 201 b))) := by unfold r_from; rw [if_pos z0, if_neg z1]
          rw [e] at h
          repeat' (first | (with_reducible exact hmn) | (with_reducible exact n030) | (with_reducible exact n1) | apply And.intro | exact rfl | (intro hx; with_reducible exact absurd hx q0) | (intro hx; with_reducible exact absurd hx z1) | (intro hx; exact absurd hx (by decide)) | (intro hx; exact absurd (by decide) hx) | decide | intro hx | (refine Exists.intro _ (And.intro rfl ?_)))
          all_goals try first | (with_reducible change am_tI _ _) | (change Ret _ _) | (change Ret _ _ _) | (change Exists _)
          all_goals try dsimp only at *
          all_goals try exact absurd ‹(1000 : Int64) = 0› (by decide)
          all_goals first | exact h | exact n0.1 | omega | exact hi.1 | (rw [l203]; exact hi.2) | exact ⟨_, 0, rfl, rfl, rfl, hi, ⟨by decide, by decide⟩, (am_Mext (fun a b => by rw [am_cI_1]; exact (ite_eq_right_iff.mpr (fun e => by subst e; exact if_neg (fun q => by have e0 : Int32.toNatClampNeg 0 = 0 := rfl; rw [e0] at q; omega))).symm) rfl), h⟩ | (show _ < _; simp only [l201]; decide) | skip
    · exact h.elim
  · intro live as M0 Ret h k pc I hI L st M hi
    unfold TX8_from at h
    split at h
    · next n i =>
      obtain ⟨hmn, rfl, hR, h⟩ := h
      have hmn2 := hmn
      obtain ⟨i1, i2, rfl⟩ := hmn2
      have l201 : am_len 201 = 3760 := rfl
      have l202 : am_len 202 = 7520 := rfl
      have l203 : am_len 203 = 2 := rfl
      change (match pc with | 27 => _ | _ => none) = _ at hI
      split at hI
      · cases hI
        obtain ⟨j, rfl, rfl, rfl, hi2, ⟨g1, g2⟩, rfl, h⟩ := hi
        have p1 := hi2.1
        have p2 := hi2.2
        by_cases hz : (3760 : Int32) ≤ j
        · have hz2 := hz
          simp only [i_le, Int32.reduceToInt] at hz2
          have ej : j.toNatClampNeg = 3760 := by have := i_clamp (x := j) g1; omega
          rw [ej]
          repeat' (first | apply And.intro | exact rfl | (intro hx; with_reducible exact absurd hz hx) | intro hx | (refine Exists.intro _ (And.intro rfl ?_)))
          all_goals try first | (with_reducible change am_tI _ _) | (change Ret _ _) | (change Ret _ _ _) | (change Exists _)
          all_goals try dsimp only at *
          all_goals try exact absurd ‹(1000 : Int64) = 0› (by decide)
          all_goals first
            | exact h
            | omega
            | (rw [l203]; omega)
        · have hz2 := hz
          simp only [i_le, Int32.reduceToInt] at hz2
          have hj := i_inc (x := j) (by omega) (by omega)
          have cj := i_clamp (x := j) (by omega)
          have cj1 := i_clamp (x := j + 1) (by omega)
          have ci := i_clamp (x := i) (by omega)
          have em := r_mul (c := 3760) (x := i) ⟨by decide, by decide⟩ ⟨by omega, by omega⟩
          simp only [Int32.reduceToInt] at em
          have ea := r_off (c := 3760 * i) (x := j) ⟨by omega, by omega⟩ ⟨by omega, by omega⟩
          have ca := i_clamp (x := 3760 * i + j) (by omega)
          repeat' (first | apply And.intro | exact rfl | (intro hx; with_reducible exact absurd hx hz) | intro hx | (refine Exists.intro _ (And.intro rfl ?_)))
          all_goals try first | (with_reducible change am_tI _ _) | (change Ret _ _) | (change Ret _ _ _) | (change Exists _)
          all_goals try dsimp only at *
          all_goals try exact absurd ‹(1000 : Int64) = 0› (by decide)
          all_goals first
            | omega
            | (rw [l201]; omega)
            | (rw [l202]; omega)
            | skip
          · refine ⟨_, am_lt_l (by omega), _, rfl, rfl, rfl, hi2, ⟨by omega, by omega⟩, ?_, h⟩
            refine am_Mext (fun a b => ?_) rfl
            simp only [am_wI_1, am_cI_1, show ¬ ((202 : Nat) = 201) by decide, if_false]
            by_cases e : a = 201
            · subst e
              simp only [true_and, if_true]
              by_cases e2 : b = j.toNatClampNeg
              · rw [if_pos e2, if_pos (by omega)]
                exact congrArg (M0.1 202) (by omega)
              · rw [if_neg e2]
                by_cases e3 : b < j.toNatClampNeg
                · rw [if_pos e3, if_pos (by omega)]
                · rw [if_neg e3, if_neg (fun q => by omega)]
            · simp only [e, false_and, if_false]
      · cases hI
    · exact h.elim
