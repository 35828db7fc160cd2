/-! p1: the reference, answers on a new object -/
theorem am_wI_s (M : am_M) (n k : Nat) (v : Int32) : (am_wI M n k v).1 n k = v := by rw [am_wI_1, if_pos ⟨rfl, rfl⟩]
theorem am_wI_o {M : am_M} {n k k2 : Nat} {v : Int32} (h : k2 ≠ k) : (am_wI M n k v).1 n k2 = M.1 n k2 := by rw [am_wI_1, if_neg (fun q => h q.2)]
theorem am_off {c n : Nat} {x : Int32} (h1 : 0 ≤ x.toInt) (h2 : x.toInt < (n : Int)) (hc : c + n < 2147483648) : (Int32.ofNat c + x).toInt = (c : Int) + x.toInt ∧ (Int32.ofNat c + x).toNatClampNeg = c + x.toNatClampNeg := by
  have e0 : (Int32.ofNat c).toInt = (c : Int) := i_nat (by omega)
  have e1 : (Int32.ofNat c + x).toInt = (c : Int) + x.toInt := by rw [i_add (by omega) (by omega), e0]
  refine ⟨e1, ?_⟩
  show (Int32.ofNat c + x).toInt.toNat = c + x.toInt.toNat
  omega
theorem dX8_person_0 : decode cX8_person 0 = .ok (.iload_n 1, 1) := by decide +kernel
theorem dX8_person_1 : decode cX8_person 1 = .ok (.invokestatic 72, 3) := by decide +kernel
theorem dX8_person_4 : decode cX8_person 4 = .ok (.ifCond .ne 6, 3) := by decide +kernel
theorem dX8_person_7 : decode cX8_person 7 = .ok (.bipush (-2), 2) := by decide +kernel
theorem dX8_person_9 : decode cX8_person 9 = .ok (.ireturn, 1) := by decide +kernel
theorem dX8_person_10 : decode cX8_person 10 = .ok (.aload_n 0, 1) := by decide +kernel
theorem dX8_person_11 : decode cX8_person 11 = .ok (.getfield 7, 3) := by decide +kernel
theorem dX8_person_14 : decode cX8_person 14 = .ok (.iconst 0, 1) := by decide +kernel
theorem dX8_person_15 : decode cX8_person 15 = .ok (.iaload, 1) := by decide +kernel
theorem dX8_person_16 : decode cX8_person 16 = .ok (.bipush 12, 2) := by decide +kernel
theorem dX8_person_18 : decode cX8_person 18 = .ok (.if_icmp .ne 6, 3) := by decide +kernel
theorem dX8_person_21 : decode cX8_person 21 = .ok (.bipush (-4), 2) := by decide +kernel
theorem dX8_person_23 : decode cX8_person 23 = .ok (.ireturn, 1) := by decide +kernel
theorem dX8_person_24 : decode cX8_person 24 = .ok (.aload_n 0, 1) := by decide +kernel
theorem dX8_person_25 : decode cX8_person 25 = .ok (.getfield 7, 3) := by decide +kernel
theorem dX8_person_28 : decode cX8_person 28 = .ok (.bipush 10, 2) := by decide +kernel
theorem dX8_person_30 : decode cX8_person 30 = .ok (.aload_n 0, 1) := by decide +kernel
theorem dX8_person_31 : decode cX8_person 31 = .ok (.getfield 7, 3) := by decide +kernel
theorem dX8_person_34 : decode cX8_person 34 = .ok (.iconst 0, 1) := by decide +kernel
theorem dX8_person_35 : decode cX8_person 35 = .ok (.iaload, 1) := by decide +kernel
theorem dX8_person_36 : decode cX8_person 36 = .ok (.iadd, 1) := by decide +kernel
theorem dX8_person_37 : decode cX8_person 37 = .ok (.iload_n 1, 1) := by decide +kernel
theorem dX8_person_38 : decode cX8_person 38 = .ok (.iastore, 1) := by decide +kernel
theorem dX8_person_39 : decode cX8_person 39 = .ok (.aload_n 0, 1) := by decide +kernel
theorem dX8_person_40 : decode cX8_person 40 = .ok (.getfield 7, 3) := by decide +kernel
theorem dX8_person_43 : decode cX8_person 43 = .ok (.iconst 0, 1) := by decide +kernel
theorem dX8_person_44 : decode cX8_person 44 = .ok (.dup2, 1) := by decide +kernel
theorem dX8_person_45 : decode cX8_person 45 = .ok (.iaload, 1) := by decide +kernel
theorem dX8_person_46 : decode cX8_person 46 = .ok (.iconst 1, 1) := by decide +kernel
theorem dX8_person_47 : decode cX8_person 47 = .ok (.iadd, 1) := by decide +kernel
theorem dX8_person_48 : decode cX8_person 48 = .ok (.iastore, 1) := by decide +kernel
theorem dX8_person_49 : decode cX8_person 49 = .ok (.aload_n 0, 1) := by decide +kernel
theorem dX8_person_50 : decode cX8_person 50 = .ok (.getfield 7, 3) := by decide +kernel
theorem dX8_person_53 : decode cX8_person 53 = .ok (.iconst 0, 1) := by decide +kernel
theorem dX8_person_54 : decode cX8_person 54 = .ok (.iaload, 1) := by decide +kernel
theorem dX8_person_55 : decode cX8_person 55 = .ok (.iconst 1, 1) := by decide +kernel
theorem dX8_person_56 : decode cX8_person 56 = .ok (.isub, 1) := by decide +kernel
theorem dX8_person_57 : decode cX8_person 57 = .ok (.ireturn, 1) := by decide +kernel
def kX8_person (live : am_E) (Ret : am_R) : am_code := [(0, am_iload 1 1), (1, am_callS live 1 TX8_isYear 4), (4, am_if1 (fun x => x = 0) 7 10), (7, am_const (.int (-2)) 9), (9, am_retI Ret), (10, am_aload 0 11), (11, am_getR live 8 0 14), (14, am_const (.int 0) 15), (15, am_ald live 0 16), (16, am_const (.int 12) 18), (18, am_if2 (fun x y => x = y) 21 24), (21, am_const (.int (-4)) 23), (23, am_retI Ret), (24, am_aload 0 25), (25, am_getR live 8 0 28), (28, am_const (.int 10) 30), (30, am_aload 0 31), (31, am_getR live 8 0 34), (34, am_const (.int 0) 35), (35, am_ald live 0 36), (36, am_i2 (fun x y => x + y) 37), (37, am_iload 1 38), (38, am_ast live 0 39), (39, am_aload 0 40), (40, am_getR live 8 0 43), (43, am_const (.int 0) 44), (44, am_dup2 45), (45, am_ald live 0 46), (46, am_const (.int 1) 47), (47, am_i2 (fun x y => x + y) 48), (48, am_ast live 0 49), (49, am_aload 0 50), (50, am_getR live 8 0 53), (53, am_const (.int 0) 54), (54, am_ald live 0 55), (55, am_const (.int 1) 56), (56, am_i2 (fun x y => x - y) 57), (57, am_retI Ret)]
theorem koX8_person (live : am_E) (Ret : am_R) : ∀ q ∈ kX8_person live Ret, am_ok RX8 cX8_person 2 (some .int) 2 45 live Ret q.1 q.2 :=
  am_kc (ak_iload_n dX8_person_0 rfl rfl) <|
  am_kc (ak_callS metX8_isYear ⟨rfl, by decide +kernel, by decide +kernel, by decide +kernel⟩ (am_w4 wd_982 wd_983 wd_67 wd_984) (by decide) dX8_person_1 rfl) <|
  am_kc (ak_if_ne dX8_person_4 (by decide +kernel) rfl) <|
  am_kc (ak_bipush dX8_person_7 (by decide +kernel) rfl) <|
  am_kc (ak_retI dX8_person_9) <|
  am_kc (ak_aload_n dX8_person_10 rfl rfl) <|
  am_kc (ak_getR (C := RX8) (T := TX8) (N := 27) rfl inX8w (by decide) rfl rfl rfl wd_895 dX8_person_11 rfl) <|
  am_kc (ak_iconst dX8_person_14 (by decide +kernel) rfl) <|
  am_kc (ak_iald (t := 0) (fun _ => rfl) rfl dX8_person_15 rfl) <|
  am_kc (ak_bipush dX8_person_16 (by decide +kernel) rfl) <|
  am_kc (ak_icmp_ne dX8_person_18 (by decide +kernel) rfl) <|
  am_kc (ak_bipush dX8_person_21 (by decide +kernel) rfl) <|
  am_kc (ak_retI dX8_person_23) <|
  am_kc (ak_aload_n dX8_person_24 rfl rfl) <|
  am_kc (ak_getR (C := RX8) (T := TX8) (N := 27) rfl inX8w (by decide) rfl rfl rfl wd_895 dX8_person_25 rfl) <|
  am_kc (ak_bipush dX8_person_28 (by decide +kernel) rfl) <|
  am_kc (ak_aload_n dX8_person_30 rfl rfl) <|
  am_kc (ak_getR (C := RX8) (T := TX8) (N := 27) rfl inX8w (by decide) rfl rfl rfl wd_895 dX8_person_31 rfl) <|
  am_kc (ak_iconst dX8_person_34 (by decide +kernel) rfl) <|
  am_kc (ak_iald (t := 0) (fun _ => rfl) rfl dX8_person_35 rfl) <|
  am_kc (ak_iadd dX8_person_36 rfl) <|
  am_kc (ak_iload_n dX8_person_37 rfl rfl) <|
  am_kc (ak_iast (t := 0) (fun _ => rfl) rfl dX8_person_38 rfl) <|
  am_kc (ak_aload_n dX8_person_39 rfl rfl) <|
  am_kc (ak_getR (C := RX8) (T := TX8) (N := 27) rfl inX8w (by decide) rfl rfl rfl wd_895 dX8_person_40 rfl) <|
  am_kc (ak_iconst dX8_person_43 (by decide +kernel) rfl) <|
  am_kc (ak_dup2 dX8_person_44 rfl) <|
  am_kc (ak_iald (t := 0) (fun _ => rfl) rfl dX8_person_45 rfl) <|
  am_kc (ak_iconst dX8_person_46 (by decide +kernel) rfl) <|
  am_kc (ak_iadd dX8_person_47 rfl) <|
  am_kc (ak_iast (t := 0) (fun _ => rfl) rfl dX8_person_48 rfl) <|
  am_kc (ak_aload_n dX8_person_49 rfl rfl) <|
  am_kc (ak_getR (C := RX8) (T := TX8) (N := 27) rfl inX8w (by decide) rfl rfl rfl wd_895 dX8_person_50 rfl) <|
  am_kc (ak_iconst dX8_person_53 (by decide +kernel) rfl) <|
  am_kc (ak_iald (t := 0) (fun _ => rfl) rfl dX8_person_54 rfl) <|
  am_kc (ak_iconst dX8_person_55 (by decide +kernel) rfl) <|
  am_kc (ak_isub dX8_person_56 rfl) <|
  am_kc (ak_retI dX8_person_57) <| am_kn
def TX8_person : am_T := fun live as M R => match as with
  | [.ref n, .int b] => am_mn live ∧ n = 200 ∧ am_F8 M ∧ ∀ M', am_ch am_hi M M' → R (some (.int (a_person b))) M'
  | _ => False
set_option maxRecDepth 100000 in
set_option maxHeartbeats 4000000 in
theorem metX8_person : am_Met yX8_person cX8_person 2 (some .int) (2) (45) TX8_person := by
  refine am_met (own := RX8) (by decide +kernel) rfl kX8_person koX8_person 300 (fun _ _ _ _ _ => none) (fun live as M Ret h => ?_) (fun _ _ _ _ _ _ _ _ hI => by cases hI)
  unfold TX8_person at h
  split at h
  · next n b =>
    refine ⟨Nat.le_of_ble_eq_true rfl, ?_⟩
    change am_wp _ _ _ _ [(0, Value.ref n), (1, Value.int b)] _ _
    obtain ⟨⟨i1, i2, rfl⟩, rfl, hF, h⟩ := h
    have hF0 := hF
    obtain ⟨s1, s2, s3, s4, s5⟩ := hF
    have q0 : M.1 201 (Int32.toNatClampNeg 0) = 0 := s1 0 (by decide)
    have q1 : M.1 201 (Int32.toNatClampNeg 1) = 0 := s1 1 (by decide)
    have q2 : M.1 201 (Int32.toNatClampNeg 2) = 0 := s1 2 (by decide)
    have q3 : M.1 201 (Int32.toNatClampNeg 3) = 0 := s1 3 (by decide)
    have q4 : M.1 201 (Int32.toNatClampNeg 4) = 0 := s1 4 (by decide)
    have q5 : M.1 201 (Int32.toNatClampNeg 5) = 0 := s1 5 (by decide)
    have r0 : M.1 201 0 = 0 := q0
    have r1 : M.1 201 1 = 0 := q1
    have r2 : M.1 201 2 = 0 := q2
    have r3 : M.1 201 3 = 0 := q3
    have r4 : M.1 201 4 = 0 := q4
    have r5 : M.1 201 5 = 0 := q5
    have l201 : (am_len 201 : Int) = 3760 := rfl
    have s0 := True.intro
    by_cases hc : (0 ≤ b ∧ b < 40)
    ·
      have z0 : (0 ≤ b ∧ b < 40) := by clear h hF0 s1 s2 s3 s4 s5; simp only [am_isNum, am_isN, i_le, i_lt, i_eq, j_le, Int32.toInt_toInt64, Int32.reduceToInt, Int64.reduceToInt, Int32.toInt_zero] at *; omega
      have hn0 : ¬ (if (0 ≤ b ∧ b < 40) then (1 : Int32) else 0) = 0 := by rw [if_pos (z0)]; decide
      have e9 : a_person b = _ := if_pos hc
      rw [e9] at h
      have hp12 : ¬ (M.1 201 (Int32.toNatClampNeg 0) = 12) := by rw [q0]; decide
      repeat' (first | apply And.intro | exact rfl | (intro hx; with_reducible exact absurd hx hn0) | (intro hx; with_reducible exact absurd hx hp12) | (intro hx; exact absurd hx (by decide)) | (intro hx; exact absurd (by decide) hx) | decide | intro hx | (refine Exists.intro _ (And.intro rfl ?_)))
      all_goals try first | (with_reducible change am_tI _ _) | (change Ret _ _) | (change Ret _ _ _) | (change Exists _)
      all_goals try dsimp only at *
      all_goals try exact absurd ‹(1000 : Int64) = 0› (by decide)
      all_goals first
        | exact h _ (by repeat (first | exact am_ch.rf | refine am_ch.wI ?_ (by show 200 ≤ (_ : Nat); decide) | refine am_ch.wJ ?_ (by show 200 ≤ (_ : Nat); decide)))
        | exact am_rI (h _ (by repeat (first | exact am_ch.rf | refine am_ch.wI ?_ (by show 200 ≤ (_ : Nat); decide) | refine am_ch.wJ ?_ (by show 200 ≤ (_ : Nat); decide)))) (by first | rfl | exact r0.symm | exact r2.symm | exact r4.symm | exact r5.symm | (rw [am_wI_s]; (repeat (rw [am_wI_o (by first | (rw [q0]; decide) | (rw [q2]; decide) | (rw [q4]; decide) | (rw [q5]; decide))])); (first | rw [q0] | rw [q2] | rw [q4] | rw [q5]); (first | done | rfl)) | (simp only [am_wI_1, q0, q1, q2, q3, q4, q5]; done) | (simp only [am_wI_1, r0, r1, r2, r3, r4, r5]; done) | (simp only [am_wI_1, r0, r1, r2, r3, r4, r5]; rfl) | (simp only []; done) | (rw []))
        | (clear h; decide)
        | (clear h; simp only [q0, q1, q2, q3, q4, q5]; decide)
        | (clear h; simp only [r0, r1, r2, r3, r4, r5]; decide)
        | (clear h; simp only [l201]; omega)
    ·
      have e9 : a_person b = _ := if_neg hc
      rw [e9] at h
      by_cases z0 : (0 ≤ b ∧ b < 40)
      rotate_left
      ·
        have hp : (if (0 ≤ b ∧ b < 40) then (1 : Int32) else 0) = 0 := if_neg z0
        repeat' (first | apply And.intro | exact rfl | (intro hx; with_reducible exact absurd hp hx) | (intro hx; exact absurd hx (by decide)) | (intro hx; exact absurd (by decide) hx) | decide | intro hx | (refine Exists.intro _ (And.intro rfl ?_)))
        all_goals try first | (with_reducible change am_tI _ _) | (change Ret _ _) | (change Ret _ _ _) | (change Exists _)
        all_goals try dsimp only at *
        all_goals try exact absurd ‹(1000 : Int64) = 0› (by decide)
        all_goals first | exact h _ am_ch.rf | exact ⟨i1, i2, rfl⟩ | exact z1.1 | exact z1.2
      have hn0 : ¬ (if (0 ≤ b ∧ b < 40) then (1 : Int32) else 0) = 0 := by rw [if_pos (z0)]; decide
      exact absurd (by clear h e9 hc hF0 s1 s2 s3 s4 s5; simp only [am_isNum, am_isN, i_le, i_lt, i_eq, j_le, Int32.toInt_toInt64, Int32.reduceToInt, Int64.reduceToInt, Int32.toInt_zero] at *; omega) hc
  · exact h.elim
theorem wd_1002 : Cond.constantLong "LearnLoansModel" 81 5000 ∈ am_ws := am_wsi (List.mem_of_getElem? (i := 1002) (by decide +kernel)) (by decide +kernel)
theorem dX8_scale_0 : decode cX8_scale 0 = .ok (.iload_n 1, 1) := by decide +kernel
theorem dX8_scale_1 : decode cX8_scale 1 = .ok (.i2l, 1) := by decide +kernel
theorem dX8_scale_2 : decode cX8_scale 2 = .ok (.lconst 0, 1) := by decide +kernel
theorem dX8_scale_3 : decode cX8_scale 3 = .ok (.ldc2_w 79, 3) := by decide +kernel
theorem dX8_scale_6 : decode cX8_scale 6 = .ok (.invokestatic 66, 3) := by decide +kernel
theorem dX8_scale_9 : decode cX8_scale 9 = .ok (.ifCond .eq 15, 3) := by decide +kernel
theorem dX8_scale_12 : decode cX8_scale 12 = .ok (.iload_n 2, 1) := by decide +kernel
theorem dX8_scale_13 : decode cX8_scale 13 = .ok (.i2l, 1) := by decide +kernel
theorem dX8_scale_14 : decode cX8_scale 14 = .ok (.lconst 1, 1) := by decide +kernel
theorem dX8_scale_15 : decode cX8_scale 15 = .ok (.ldc2_w 81, 3) := by decide +kernel
theorem dX8_scale_18 : decode cX8_scale 18 = .ok (.invokestatic 66, 3) := by decide +kernel
theorem dX8_scale_21 : decode cX8_scale 21 = .ok (.ifCond .ne 6, 3) := by decide +kernel
theorem dX8_scale_24 : decode cX8_scale 24 = .ok (.bipush (-2), 2) := by decide +kernel
theorem dX8_scale_26 : decode cX8_scale 26 = .ok (.ireturn, 1) := by decide +kernel
theorem dX8_scale_27 : decode cX8_scale 27 = .ok (.aload_n 0, 1) := by decide +kernel
theorem dX8_scale_28 : decode cX8_scale 28 = .ok (.getfield 7, 3) := by decide +kernel
theorem dX8_scale_31 : decode cX8_scale 31 = .ok (.sipush 514, 3) := by decide +kernel
theorem dX8_scale_34 : decode cX8_scale 34 = .ok (.iload_n 1, 1) := by decide +kernel
theorem dX8_scale_35 : decode cX8_scale 35 = .ok (.iadd, 1) := by decide +kernel
theorem dX8_scale_36 : decode cX8_scale 36 = .ok (.iaload, 1) := by decide +kernel
theorem dX8_scale_37 : decode cX8_scale 37 = .ok (.istore_n 3, 1) := by decide +kernel
theorem dX8_scale_38 : decode cX8_scale 38 = .ok (.aload_n 0, 1) := by decide +kernel
theorem dX8_scale_39 : decode cX8_scale 39 = .ok (.getfield 7, 3) := by decide +kernel
theorem dX8_scale_42 : decode cX8_scale 42 = .ok (.sipush 514, 3) := by decide +kernel
theorem dX8_scale_45 : decode cX8_scale 45 = .ok (.iload_n 1, 1) := by decide +kernel
theorem dX8_scale_46 : decode cX8_scale 46 = .ok (.iadd, 1) := by decide +kernel
theorem dX8_scale_47 : decode cX8_scale 47 = .ok (.iload_n 2, 1) := by decide +kernel
theorem dX8_scale_48 : decode cX8_scale 48 = .ok (.iastore, 1) := by decide +kernel
theorem dX8_scale_49 : decode cX8_scale 49 = .ok (.iload_n 3, 1) := by decide +kernel
theorem dX8_scale_50 : decode cX8_scale 50 = .ok (.ireturn, 1) := by decide +kernel
def kX8_scale (live : am_E) (Ret : am_R) : am_code := [(0, am_iload 1 1), (1, am_i2l 2), (2, am_const (.long 0) 3), (3, am_const (.long 3) 6), (6, am_callS live 3 TX8_in 9), (9, am_if1 (fun x => x = 0) 24 12), (12, am_iload 2 13), (13, am_i2l 14), (14, am_const (.long 1) 15), (15, am_const (.long 5000) 18), (18, am_callS live 3 TX8_in 21), (21, am_if1 (fun x => x = 0) 24 27), (24, am_const (.int (-2)) 26), (26, am_retI Ret), (27, am_aload 0 28), (28, am_getR live 8 0 31), (31, am_const (.int 514) 34), (34, am_iload 1 35), (35, am_i2 (fun x y => x + y) 36), (36, am_ald live 0 37), (37, am_istore 3 4 38), (38, am_aload 0 39), (39, am_getR live 8 0 42), (42, am_const (.int 514) 45), (45, am_iload 1 46), (46, am_i2 (fun x y => x + y) 47), (47, am_iload 2 48), (48, am_ast live 0 49), (49, am_iload 3 50), (50, am_retI Ret)]
theorem koX8_scale (live : am_E) (Ret : am_R) : ∀ q ∈ kX8_scale live Ret, am_ok RX8 cX8_scale 4 (some .int) 1 25 live Ret q.1 q.2 :=
  am_kc (ak_iload_n dX8_scale_0 rfl rfl) <|
  am_kc (ak_i2l dX8_scale_1 rfl) <|
  am_kc (ak_lconst dX8_scale_2 (by decide +kernel) rfl) <|
  am_kc (ak_ldc2 wd_997 dX8_scale_3 rfl) <|
  am_kc (ak_callS metX8_in ⟨rfl, by decide +kernel, by decide +kernel, by decide +kernel⟩ (am_w4 wd_986 wd_987 wd_67 wd_988) (by decide) dX8_scale_6 rfl) <|
  am_kc (ak_if_eq dX8_scale_9 (by decide +kernel) rfl) <|
  am_kc (ak_iload_n dX8_scale_12 rfl rfl) <|
  am_kc (ak_i2l dX8_scale_13 rfl) <|
  am_kc (ak_lconst dX8_scale_14 (by decide +kernel) rfl) <|
  am_kc (ak_ldc2 wd_1002 dX8_scale_15 rfl) <|
  am_kc (ak_callS metX8_in ⟨rfl, by decide +kernel, by decide +kernel, by decide +kernel⟩ (am_w4 wd_986 wd_987 wd_67 wd_988) (by decide) dX8_scale_18 rfl) <|
  am_kc (ak_if_ne dX8_scale_21 (by decide +kernel) rfl) <|
  am_kc (ak_bipush dX8_scale_24 (by decide +kernel) rfl) <|
  am_kc (ak_retI dX8_scale_26) <|
  am_kc (ak_aload_n dX8_scale_27 rfl rfl) <|
  am_kc (ak_getR (C := RX8) (T := TX8) (N := 27) rfl inX8w (by decide) rfl rfl rfl wd_895 dX8_scale_28 rfl) <|
  am_kc (ak_sipush dX8_scale_31 (by decide +kernel) rfl) <|
  am_kc (ak_iload_n dX8_scale_34 rfl rfl) <|
  am_kc (ak_iadd dX8_scale_35 rfl) <|
  am_kc (ak_iald (t := 0) (fun _ => rfl) rfl dX8_scale_36 rfl) <|
  am_kc (ak_istore_n dX8_scale_37 rfl rfl) <|
  am_kc (ak_aload_n dX8_scale_38 rfl rfl) <|
  am_kc (ak_getR (C := RX8) (T := TX8) (N := 27) rfl inX8w (by decide) rfl rfl rfl wd_895 dX8_scale_39 rfl) <|
  am_kc (ak_sipush dX8_scale_42 (by decide +kernel) rfl) <|
  am_kc (ak_iload_n dX8_scale_45 rfl rfl) <|
  am_kc (ak_iadd dX8_scale_46 rfl) <|
  am_kc (ak_iload_n dX8_scale_47 rfl rfl) <|
  am_kc (ak_iast (t := 0) (fun _ => rfl) rfl dX8_scale_48 rfl) <|
  am_kc (ak_iload_n dX8_scale_49 rfl rfl) <|
  am_kc (ak_retI dX8_scale_50) <| am_kn
def TX8_scale : am_T := fun live as M R => match as with
  | [.ref n, .int l, .int v] => am_mn live ∧ n = 200 ∧ am_F8 M ∧ ∀ M', am_ch am_hi M M' → R (some (.int (a_scale l v))) M'
  | _ => False
set_option maxRecDepth 100000 in
set_option maxHeartbeats 4000000 in
theorem metX8_scale : am_Met yX8_scale cX8_scale 4 (some .int) (1) (25) TX8_scale := by
  refine am_met (own := RX8) (by decide +kernel) rfl kX8_scale koX8_scale 300 (fun _ _ _ _ _ => none) (fun live as M Ret h => ?_) (fun _ _ _ _ _ _ _ _ hI => by cases hI)
  unfold TX8_scale at h
  split at h
  · next n l v =>
    refine ⟨Nat.le_of_ble_eq_true rfl, ?_⟩
    change am_wp _ _ _ _ [(0, Value.ref n), (1, Value.int l), (2, Value.int v)] _ _
    obtain ⟨⟨i1, i2, rfl⟩, rfl, hF, h⟩ := h
    have hF0 := hF
    obtain ⟨s1, s2, s3, s4, s5⟩ := hF
    have q0 : M.1 201 (Int32.toNatClampNeg 0) = 0 := s1 0 (by decide)
    have q1 : M.1 201 (Int32.toNatClampNeg 1) = 0 := s1 1 (by decide)
    have q2 : M.1 201 (Int32.toNatClampNeg 2) = 0 := s1 2 (by decide)
    have q3 : M.1 201 (Int32.toNatClampNeg 3) = 0 := s1 3 (by decide)
    have q4 : M.1 201 (Int32.toNatClampNeg 4) = 0 := s1 4 (by decide)
    have q5 : M.1 201 (Int32.toNatClampNeg 5) = 0 := s1 5 (by decide)
    have r0 : M.1 201 0 = 0 := q0
    have r1 : M.1 201 1 = 0 := q1
    have r2 : M.1 201 2 = 0 := q2
    have r3 : M.1 201 3 = 0 := q3
    have r4 : M.1 201 4 = 0 := q4
    have r5 : M.1 201 5 = 0 := q5
    have l201 : (am_len 201 : Int) = 3760 := rfl
    have s0 := True.intro
    by_cases hc : (0 ≤ l ∧ l ≤ 3) ∧ (1 ≤ v ∧ v ≤ 5000)
    ·
      have z0 : ((0 : Int64) ≤ l.toInt64 ∧ l.toInt64 ≤ 3) := by clear h hF0 s1 s2 s3 s4 s5; simp only [am_isNum, am_isN, i_le, i_lt, i_eq, j_le, Int32.toInt_toInt64, Int32.reduceToInt, Int64.reduceToInt, Int32.toInt_zero] at *; omega
      have hn0 : ¬ (if ((0 : Int64) ≤ l.toInt64 ∧ l.toInt64 ≤ 3) then (1 : Int32) else 0) = 0 := by rw [if_pos (z0)]; decide
      have z1 : ((1 : Int64) ≤ v.toInt64 ∧ v.toInt64 ≤ 5000) := by clear h hF0 s1 s2 s3 s4 s5; simp only [am_isNum, am_isN, i_le, i_lt, i_eq, j_le, Int32.toInt_toInt64, Int32.reduceToInt, Int64.reduceToInt, Int32.toInt_zero] at *; omega
      have hn1 : ¬ (if ((1 : Int64) ≤ v.toInt64 ∧ v.toInt64 ≤ 5000) then (1 : Int32) else 0) = 0 := by rw [if_pos (z1)]; decide
      have y0 : 0 ≤ l.toInt ∧ l.toInt < (4 : Int) := by clear h hF0 s1 s2 s3 s4 s5; simp only [am_isNum, am_isN, i_le, i_lt, i_eq, j_le, Int32.toInt_toInt64, Int32.reduceToInt, Int64.reduceToInt, Int32.toInt_zero] at *; omega
      have x0 : (514 + l).toInt = (514 : Int) + l.toInt ∧ (514 + l).toNatClampNeg = 514 + l.toNatClampNeg := am_off (c := 514) (n := 4) y0.1 y0.2 (by decide)
      have w0 : l.toNatClampNeg < 4 := by have := i_clamp y0.1; omega
      have e9 : a_scale l v = _ := if_pos hc
      rw [e9] at h
      repeat' (first | apply And.intro | exact rfl | (intro hx; with_reducible exact absurd hx hn0) | (intro hx; with_reducible exact absurd hx hn1) | (intro hx; exact absurd hx (by decide)) | (intro hx; exact absurd (by decide) hx) | decide | intro hx | (refine Exists.intro _ (And.intro rfl ?_)))
      all_goals try first | (with_reducible change am_tI _ _) | (change Ret _ _) | (change Ret _ _ _) | (change Exists _)
      all_goals try dsimp only at *
      all_goals try exact absurd ‹(1000 : Int64) = 0› (by decide)
      all_goals first
        | exact h _ (by repeat (first | exact am_ch.rf | refine am_ch.wI ?_ (by show 200 ≤ (_ : Nat); decide) | refine am_ch.wJ ?_ (by show 200 ≤ (_ : Nat); decide)))
        | exact am_rI (h _ (by repeat (first | exact am_ch.rf | refine am_ch.wI ?_ (by show 200 ≤ (_ : Nat); decide) | refine am_ch.wJ ?_ (by show 200 ≤ (_ : Nat); decide)))) (by first | rfl | exact r0.symm | exact r2.symm | exact r4.symm | exact r5.symm | (rw [am_wI_s]; (repeat (rw [am_wI_o (by first | (rw [q0]; decide) | (rw [q2]; decide) | (rw [q4]; decide) | (rw [q5]; decide))])); (first | rw [q0] | rw [q2] | rw [q4] | rw [q5]); (first | done | rfl)) | (simp only [am_wI_1, q0, q1, q2, q3, q4, q5]; done) | (simp only [am_wI_1, r0, r1, r2, r3, r4, r5]; done) | (simp only [am_wI_1, r0, r1, r2, r3, r4, r5]; rfl) | (simp only [x0.1, x0.2, s2 _ w0]; done) | (rw [x0.1, x0.2, s2 _ w0]))
        | (clear h; decide)
        | (clear h; simp only [q0, q1, q2, q3, q4, q5]; decide)
        | (clear h; simp only [r0, r1, r2, r3, r4, r5]; decide)
        | (clear h; simp only [x0.1, x0.2, l201]; omega)
    ·
      have e9 : a_scale l v = _ := if_neg hc
      rw [e9] at h
      by_cases z0 : ((0 : Int64) ≤ l.toInt64 ∧ l.toInt64 ≤ 3)
      rotate_left
      ·
        have hp : (if ((0 : Int64) ≤ l.toInt64 ∧ l.toInt64 ≤ 3) then (1 : Int32) else 0) = 0 := if_neg z0
        repeat' (first | apply And.intro | exact rfl | (intro hx; with_reducible exact absurd hp hx) | (intro hx; exact absurd hx (by decide)) | (intro hx; exact absurd (by decide) hx) | decide | intro hx | (refine Exists.intro _ (And.intro rfl ?_)))
        all_goals try first | (with_reducible change am_tI _ _) | (change Ret _ _) | (change Ret _ _ _) | (change Exists _)
        all_goals try dsimp only at *
        all_goals try exact absurd ‹(1000 : Int64) = 0› (by decide)
        all_goals first | exact h _ am_ch.rf | exact ⟨i1, i2, rfl⟩ | exact z1.1 | exact z1.2
      have hn0 : ¬ (if ((0 : Int64) ≤ l.toInt64 ∧ l.toInt64 ≤ 3) then (1 : Int32) else 0) = 0 := by rw [if_pos (z0)]; decide
      by_cases z1 : ((1 : Int64) ≤ v.toInt64 ∧ v.toInt64 ≤ 5000)
      rotate_left
      ·
        have hp : (if ((1 : Int64) ≤ v.toInt64 ∧ v.toInt64 ≤ 5000) then (1 : Int32) else 0) = 0 := if_neg z1
        repeat' (first | apply And.intro | exact rfl | (intro hx; with_reducible exact absurd hx hn0) | (intro hx; with_reducible exact absurd hp hx) | (intro hx; exact absurd hx (by decide)) | (intro hx; exact absurd (by decide) hx) | decide | intro hx | (refine Exists.intro _ (And.intro rfl ?_)))
        all_goals try first | (with_reducible change am_tI _ _) | (change Ret _ _) | (change Ret _ _ _) | (change Exists _)
        all_goals try dsimp only at *
        all_goals try exact absurd ‹(1000 : Int64) = 0› (by decide)
        all_goals first | exact h _ am_ch.rf | exact ⟨i1, i2, rfl⟩ | exact z1.1 | exact z1.2
      have hn1 : ¬ (if ((1 : Int64) ≤ v.toInt64 ∧ v.toInt64 ≤ 5000) then (1 : Int32) else 0) = 0 := by rw [if_pos (z1)]; decide
      exact absurd (by clear h e9 hc hF0 s1 s2 s3 s4 s5; simp only [am_isNum, am_isN, i_le, i_lt, i_eq, j_le, Int32.toInt_toInt64, Int32.reduceToInt, Int64.reduceToInt, Int32.toInt_zero] at *; omega) hc
  · exact h.elim
theorem wd_1007 : Cond.constantLong "LearnLoansModel" 83 (-100) ∈ am_ws := am_wsi (List.mem_of_getElem? (i := 1007) (by decide +kernel)) (by decide +kernel)
theorem dX8_prices_0 : decode cX8_prices 0 = .ok (.iload_n 1, 1) := by decide +kernel
theorem dX8_prices_1 : decode cX8_prices 1 = .ok (.invokestatic 72, 3) := by decide +kernel
theorem dX8_prices_4 : decode cX8_prices 4 = .ok (.ifCond .eq 17, 3) := by decide +kernel
theorem dX8_prices_7 : decode cX8_prices 7 = .ok (.iload_n 2, 1) := by decide +kernel
theorem dX8_prices_8 : decode cX8_prices 8 = .ok (.i2l, 1) := by decide +kernel
theorem dX8_prices_9 : decode cX8_prices 9 = .ok (.ldc2_w 83, 3) := by decide +kernel
theorem dX8_prices_12 : decode cX8_prices 12 = .ok (.ldc2_w 85, 3) := by decide +kernel
theorem dX8_prices_15 : decode cX8_prices 15 = .ok (.invokestatic 66, 3) := by decide +kernel
theorem dX8_prices_18 : decode cX8_prices 18 = .ok (.ifCond .ne 7, 3) := by decide +kernel
theorem dX8_prices_21 : decode cX8_prices 21 = .ok (.sipush (-1000), 3) := by decide +kernel
theorem dX8_prices_24 : decode cX8_prices 24 = .ok (.ireturn, 1) := by decide +kernel
theorem dX8_prices_25 : decode cX8_prices 25 = .ok (.aload_n 0, 1) := by decide +kernel
theorem dX8_prices_26 : decode cX8_prices 26 = .ok (.getfield 7, 3) := by decide +kernel
theorem dX8_prices_29 : decode cX8_prices 29 = .ok (.sipush 518, 3) := by decide +kernel
theorem dX8_prices_32 : decode cX8_prices 32 = .ok (.iload_n 1, 1) := by decide +kernel
theorem dX8_prices_33 : decode cX8_prices 33 = .ok (.iadd, 1) := by decide +kernel
theorem dX8_prices_34 : decode cX8_prices 34 = .ok (.iaload, 1) := by decide +kernel
theorem dX8_prices_35 : decode cX8_prices 35 = .ok (.istore_n 3, 1) := by decide +kernel
theorem dX8_prices_36 : decode cX8_prices 36 = .ok (.aload_n 0, 1) := by decide +kernel
theorem dX8_prices_37 : decode cX8_prices 37 = .ok (.getfield 7, 3) := by decide +kernel
theorem dX8_prices_40 : decode cX8_prices 40 = .ok (.sipush 518, 3) := by decide +kernel
theorem dX8_prices_43 : decode cX8_prices 43 = .ok (.iload_n 1, 1) := by decide +kernel
theorem dX8_prices_44 : decode cX8_prices 44 = .ok (.iadd, 1) := by decide +kernel
theorem dX8_prices_45 : decode cX8_prices 45 = .ok (.iload_n 2, 1) := by decide +kernel
theorem dX8_prices_46 : decode cX8_prices 46 = .ok (.iastore, 1) := by decide +kernel
theorem dX8_prices_47 : decode cX8_prices 47 = .ok (.iload_n 3, 1) := by decide +kernel
theorem dX8_prices_48 : decode cX8_prices 48 = .ok (.ireturn, 1) := by decide +kernel
def kX8_prices (live : am_E) (Ret : am_R) : am_code := [(0, am_iload 1 1), (1, am_callS live 1 TX8_isYear 4), (4, am_if1 (fun x => x = 0) 21 7), (7, am_iload 2 8), (8, am_i2l 9), (9, am_const (.long (-100)) 12), (12, am_const (.long 500) 15), (15, am_callS live 3 TX8_in 18), (18, am_if1 (fun x => x = 0) 21 25), (21, am_const (.int (-1000)) 24), (24, am_retI Ret), (25, am_aload 0 26), (26, am_getR live 8 0 29), (29, am_const (.int 518) 32), (32, am_iload 1 33), (33, am_i2 (fun x y => x + y) 34), (34, am_ald live 0 35), (35, am_istore 3 4 36), (36, am_aload 0 37), (37, am_getR live 8 0 40), (40, am_const (.int 518) 43), (43, am_iload 1 44), (44, am_i2 (fun x y => x + y) 45), (45, am_iload 2 46), (46, am_ast live 0 47), (47, am_iload 3 48), (48, am_retI Ret)]
theorem koX8_prices (live : am_E) (Ret : am_R) : ∀ q ∈ kX8_prices live Ret, am_ok RX8 cX8_prices 4 (some .int) 2 45 live Ret q.1 q.2 :=
  am_kc (ak_iload_n dX8_prices_0 rfl rfl) <|
  am_kc (ak_callS metX8_isYear ⟨rfl, by decide +kernel, by decide +kernel, by decide +kernel⟩ (am_w4 wd_982 wd_983 wd_67 wd_984) (by decide) dX8_prices_1 rfl) <|
  am_kc (ak_if_eq dX8_prices_4 (by decide +kernel) rfl) <|
  am_kc (ak_iload_n dX8_prices_7 rfl rfl) <|
  am_kc (ak_i2l dX8_prices_8 rfl) <|
  am_kc (ak_ldc2 wd_1007 dX8_prices_9 rfl) <|
  am_kc (ak_ldc2 wd_1008 dX8_prices_12 rfl) <|
  am_kc (ak_callS metX8_in ⟨rfl, by decide +kernel, by decide +kernel, by decide +kernel⟩ (am_w4 wd_986 wd_987 wd_67 wd_988) (by decide) dX8_prices_15 rfl) <|
  am_kc (ak_if_ne dX8_prices_18 (by decide +kernel) rfl) <|
  am_kc (ak_sipush dX8_prices_21 (by decide +kernel) rfl) <|
  am_kc (ak_retI dX8_prices_24) <|
  am_kc (ak_aload_n dX8_prices_25 rfl rfl) <|
  am_kc (ak_getR (C := RX8) (T := TX8) (N := 27) rfl inX8w (by decide) rfl rfl rfl wd_895 dX8_prices_26 rfl) <|
  am_kc (ak_sipush dX8_prices_29 (by decide +kernel) rfl) <|
  am_kc (ak_iload_n dX8_prices_32 rfl rfl) <|
  am_kc (ak_iadd dX8_prices_33 rfl) <|
  am_kc (ak_iald (t := 0) (fun _ => rfl) rfl dX8_prices_34 rfl) <|
  am_kc (ak_istore_n dX8_prices_35 rfl rfl) <|
  am_kc (ak_aload_n dX8_prices_36 rfl rfl) <|
  am_kc (ak_getR (C := RX8) (T := TX8) (N := 27) rfl inX8w (by decide) rfl rfl rfl wd_895 dX8_prices_37 rfl) <|
  am_kc (ak_sipush dX8_prices_40 (by decide +kernel) rfl) <|
  am_kc (ak_iload_n dX8_prices_43 rfl rfl) <|
  am_kc (ak_iadd dX8_prices_44 rfl) <|
  am_kc (ak_iload_n dX8_prices_45 rfl rfl) <|
  am_kc (ak_iast (t := 0) (fun _ => rfl) rfl dX8_prices_46 rfl) <|
  am_kc (ak_iload_n dX8_prices_47 rfl rfl) <|
  am_kc (ak_retI dX8_prices_48) <| am_kn
def TX8_prices : am_T := fun live as M R => match as with
  | [.ref n, .int y, .int v] => am_mn live ∧ n = 200 ∧ am_F8 M ∧ ∀ M', am_ch am_hi M M' → R (some (.int (a_prices y v))) M'
  | _ => False
set_option maxRecDepth 100000 in
set_option maxHeartbeats 4000000 in
theorem metX8_prices : am_Met yX8_prices cX8_prices 4 (some .int) (2) (45) TX8_prices := by
  refine am_met (own := RX8) (by decide +kernel) rfl kX8_prices koX8_prices 300 (fun _ _ _ _ _ => none) (fun live as M Ret h => ?_) (fun _ _ _ _ _ _ _ _ hI => by cases hI)
  unfold TX8_prices at h
  split at h
  · next n y v =>
    refine ⟨Nat.le_of_ble_eq_true rfl, ?_⟩
    change am_wp _ _ _ _ [(0, Value.ref n), (1, Value.int y), (2, Value.int v)] _ _
    obtain ⟨⟨i1, i2, rfl⟩, rfl, hF, h⟩ := h
    have hF0 := hF
    obtain ⟨s1, s2, s3, s4, s5⟩ := hF
    have q0 : M.1 201 (Int32.toNatClampNeg 0) = 0 := s1 0 (by decide)
    have q1 : M.1 201 (Int32.toNatClampNeg 1) = 0 := s1 1 (by decide)
    have q2 : M.1 201 (Int32.toNatClampNeg 2) = 0 := s1 2 (by decide)
    have q3 : M.1 201 (Int32.toNatClampNeg 3) = 0 := s1 3 (by decide)
    have q4 : M.1 201 (Int32.toNatClampNeg 4) = 0 := s1 4 (by decide)
    have q5 : M.1 201 (Int32.toNatClampNeg 5) = 0 := s1 5 (by decide)
    have r0 : M.1 201 0 = 0 := q0
    have r1 : M.1 201 1 = 0 := q1
    have r2 : M.1 201 2 = 0 := q2
    have r3 : M.1 201 3 = 0 := q3
    have r4 : M.1 201 4 = 0 := q4
    have r5 : M.1 201 5 = 0 := q5
    have l201 : (am_len 201 : Int) = 3760 := rfl
    have s0 := True.intro
    by_cases hc : (0 ≤ y ∧ y < 40) ∧ ((-100) ≤ v ∧ v ≤ 500)
    ·
      have z0 : (0 ≤ y ∧ y < 40) := by clear h hF0 s1 s2 s3 s4 s5; simp only [am_isNum, am_isN, i_le, i_lt, i_eq, j_le, Int32.toInt_toInt64, Int32.reduceToInt, Int64.reduceToInt, Int32.toInt_zero] at *; omega
      have hn0 : ¬ (if (0 ≤ y ∧ y < 40) then (1 : Int32) else 0) = 0 := by rw [if_pos (z0)]; decide
      have z1 : (((-100) : Int64) ≤ v.toInt64 ∧ v.toInt64 ≤ 500) := by clear h hF0 s1 s2 s3 s4 s5; simp only [am_isNum, am_isN, i_le, i_lt, i_eq, j_le, Int32.toInt_toInt64, Int32.reduceToInt, Int64.reduceToInt, Int32.toInt_zero] at *; omega
      have hn1 : ¬ (if (((-100) : Int64) ≤ v.toInt64 ∧ v.toInt64 ≤ 500) then (1 : Int32) else 0) = 0 := by rw [if_pos (z1)]; decide
      have y0 : 0 ≤ y.toInt ∧ y.toInt < (40 : Int) := by clear h hF0 s1 s2 s3 s4 s5; simp only [am_isNum, am_isN, i_le, i_lt, i_eq, j_le, Int32.toInt_toInt64, Int32.reduceToInt, Int64.reduceToInt, Int32.toInt_zero] at *; omega
      have x0 : (518 + y).toInt = (518 : Int) + y.toInt ∧ (518 + y).toNatClampNeg = 518 + y.toNatClampNeg := am_off (c := 518) (n := 40) y0.1 y0.2 (by decide)
      have w0 : y.toNatClampNeg < 40 := by have := i_clamp y0.1; omega
      have e9 : a_prices y v = _ := if_pos hc
      rw [e9] at h
      repeat' (first | apply And.intro | exact rfl | (intro hx; with_reducible exact absurd hx hn0) | (intro hx; with_reducible exact absurd hx hn1) | (intro hx; exact absurd hx (by decide)) | (intro hx; exact absurd (by decide) hx) | decide | intro hx | (refine Exists.intro _ (And.intro rfl ?_)))
      all_goals try first | (with_reducible change am_tI _ _) | (change Ret _ _) | (change Ret _ _ _) | (change Exists _)
      all_goals try dsimp only at *
      all_goals try exact absurd ‹(1000 : Int64) = 0› (by decide)
      all_goals first
        | exact h _ (by repeat (first | exact am_ch.rf | refine am_ch.wI ?_ (by show 200 ≤ (_ : Nat); decide) | refine am_ch.wJ ?_ (by show 200 ≤ (_ : Nat); decide)))
        | exact am_rI (h _ (by repeat (first | exact am_ch.rf | refine am_ch.wI ?_ (by show 200 ≤ (_ : Nat); decide) | refine am_ch.wJ ?_ (by show 200 ≤ (_ : Nat); decide)))) (by first | rfl | exact r0.symm | exact r2.symm | exact r4.symm | exact r5.symm | (rw [am_wI_s]; (repeat (rw [am_wI_o (by first | (rw [q0]; decide) | (rw [q2]; decide) | (rw [q4]; decide) | (rw [q5]; decide))])); (first | rw [q0] | rw [q2] | rw [q4] | rw [q5]); (first | done | rfl)) | (simp only [am_wI_1, q0, q1, q2, q3, q4, q5]; done) | (simp only [am_wI_1, r0, r1, r2, r3, r4, r5]; done) | (simp only [am_wI_1, r0, r1, r2, r3, r4, r5]; rfl) | (simp only [x0.1, x0.2, s3 _ w0]; done) | (rw [x0.1, x0.2, s3 _ w0]))
        | (clear h; decide)
        | (clear h; simp only [q0, q1, q2, q3, q4, q5]; decide)
        | (clear h; simp only [r0, r1, r2, r3, r4, r5]; decide)
        | (clear h; simp only [x0.1, x0.2, l201]; omega)
    ·
      have e9 : a_prices y v = _ := if_neg hc
      rw [e9] at h
      by_cases z0 : (0 ≤ y ∧ y < 40)
      rotate_left
      ·
        have hp : (if (0 ≤ y ∧ y < 40) then (1 : Int32) else 0) = 0 := if_neg z0
        repeat' (first | apply And.intro | exact rfl | (intro hx; with_reducible exact absurd hp hx) | (intro hx; exact absurd hx (by decide)) | (intro hx; exact absurd (by decide) hx) | decide | intro hx | (refine Exists.intro _ (And.intro rfl ?_)))
        all_goals try first | (with_reducible change am_tI _ _) | (change Ret _ _) | (change Ret _ _ _) | (change Exists _)
        all_goals try dsimp only at *
        all_goals try exact absurd ‹(1000 : Int64) = 0› (by decide)
        all_goals first | exact h _ am_ch.rf | exact ⟨i1, i2, rfl⟩ | exact z1.1 | exact z1.2
      have hn0 : ¬ (if (0 ≤ y ∧ y < 40) then (1 : Int32) else 0) = 0 := by rw [if_pos (z0)]; decide
      by_cases z1 : (((-100) : Int64) ≤ v.toInt64 ∧ v.toInt64 ≤ 500)
      rotate_left
      ·
        have hp : (if (((-100) : Int64) ≤ v.toInt64 ∧ v.toInt64 ≤ 500) then (1 : Int32) else 0) = 0 := if_neg z1
        repeat' (first | apply And.intro | exact rfl | (intro hx; with_reducible exact absurd hx hn0) | (intro hx; with_reducible exact absurd hp hx) | (intro hx; exact absurd hx (by decide)) | (intro hx; exact absurd (by decide) hx) | decide | intro hx | (refine Exists.intro _ (And.intro rfl ?_)))
        all_goals try first | (with_reducible change am_tI _ _) | (change Ret _ _) | (change Ret _ _ _) | (change Exists _)
        all_goals try dsimp only at *
        all_goals try exact absurd ‹(1000 : Int64) = 0› (by decide)
        all_goals first | exact h _ am_ch.rf | exact ⟨i1, i2, rfl⟩ | exact z1.1 | exact z1.2
      have hn1 : ¬ (if (((-100) : Int64) ≤ v.toInt64 ∧ v.toInt64 ≤ 500) then (1 : Int32) else 0) = 0 := by rw [if_pos (z1)]; decide
      exact absurd (by clear h e9 hc hF0 s1 s2 s3 s4 s5; simp only [am_isNum, am_isN, i_le, i_lt, i_eq, j_le, Int32.toInt_toInt64, Int32.reduceToInt, Int64.reduceToInt, Int32.toInt_zero] at *; omega) hc
  · exact h.elim
