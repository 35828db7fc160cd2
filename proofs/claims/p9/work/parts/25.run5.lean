/-! Run: what is safe of it, III -/
set_option maxRecDepth 100000 in
theorem wd_499 : Cond.methodLink "LearnLoans$Run" 110 arraycopyName ∈ am_ws := am_wt2 (List.mem_of_getElem? (i := 202) (by rfl)) (by decide +kernel)
set_option maxRecDepth 100000 in
theorem wd_149 : Cond.fieldLink "LearnLoans$Run" 63 "LearnLoans$Rows" "size" "I" ∈ am_ws := am_wt1 (List.mem_of_getElem? (i := 92) (by rfl)) (by decide +kernel)
set_option maxRecDepth 100000 in
theorem wd_107 : Cond.fieldLink "LearnLoans$Run" 119 "LearnLoans$People" "began" "[I" ∈ am_ws := am_wt1 (List.mem_of_getElem? (i := 50) (by rfl)) (by decide +kernel)
theorem hy_X4_layAct : yX4_layAct.cls ≠ "java/lang/invoke/MethodHandle" ∧ yX4_layAct.cls ≠ "java/lang/invoke/VarHandle" ∧ (parseMethodDescriptor yX4_layAct.desc).map (fun d => d.parameters.length) = some 3 := ⟨by decide +kernel, by decide +kernel, by decide +kernel⟩
set_option maxRecDepth 100000 in
theorem wd_506 : Cond.methodLink "LearnLoans$Run" 122 yX4_layAct ∈ am_ws := am_wt2 (List.mem_of_getElem? (i := 209) (by rfl)) (by decide +kernel)
set_option maxRecDepth 100000 in
theorem wd_508 : Cond.instanceMethod yX4_layAct ∈ am_ws := am_wt2 (List.mem_of_getElem? (i := 211) (by rfl)) (by decide +kernel)
set_option maxRecDepth 100000 in
theorem wd_1 : Cond.selects "LearnLoans$Run" yX4_layAct yX4_layAct ∈ am_ws := am_wsi (List.mem_of_getElem? (i := 1) (by rfl)) (by decide +kernel)
set_option maxRecDepth 100000 in
theorem wd_509 : Cond.code yX4_layAct cX4_layAct 6 none ∈ am_ws := am_wt2 (List.mem_of_getElem? (i := 212) (by rfl)) (by decide +kernel)
def rwX4_layNumbers : List dz_r := [(0, .bipush 30, 2), (2, .istore_n 2, 1), (3, .iconst 0, 1), (4, .istore_n 3, 1), (5, .iload_n 3, 1), (6, .iload_n 2, 1), (7, .if_icmp .ge 23, 3), (10, .aload_n 0, 1), (11, .getfield 18, 3), (14, .iload_n 3, 1), (15, .getstatic 107, 3), (18, .iload_n 3, 1), (19, .bipush 6, 2), (21, .irem, 1), (22, .iaload, 1), (23, .iastore, 1), (24, .iinc 3 1, 3), (27, .goto (-22), 3), (30, .iconst 0, 1), (31, .istore_n 3, 1), (32, .iload_n 3, 1), (33, .bipush 40, 2), (35, .if_icmp .ge 93, 3), (38, .iload_n 3, 1), (39, .ifCond .le 23, 3), (42, .aload_n 0, 1), (43, .getfield 18, 3), (46, .iload_n 3, 1), (47, .iconst 1, 1), (48, .isub, 1), (49, .iload_n 2, 1), (50, .imul, 1), (51, .aload_n 0, 1), (52, .getfield 18, 3), (55, .iload_n 3, 1), (56, .iload_n 2, 1), (57, .imul, 1), (58, .iload_n 2, 1), (59, .invokestatic 110, 3), (62, .iconst 0, 1), (63, .istore 4, 2), (65, .iload 4, 2), (67, .aload_n 0, 1), (68, .getfield 12, 3), (71, .getfield 116, 3), (74, .getfield 63, 3), (77, .if_icmp .ge 45, 3), (80, .aload_n 0, 1), (81, .getfield 12, 3), (84, .getfield 116, 3), (87, .iload 4, 2), (89, .iconst 3, 1), (90, .invokevirtual 66, 3), (93, .iload_n 3, 1), (94, .if_icmp .ne 22, 3), (97, .aload_n 0, 1), (98, .iload 4, 2), (100, .iload_n 3, 1), (101, .aload_n 0, 1), (102, .getfield 12, 3), (105, .getfield 80, 3), (108, .getfield 119, 3), (111, .iload_n 1, 1), (112, .iaload, 1), (113, .invokevirtual 122, 3), (116, .iinc 4 1, 3), (119, .goto (-54), 3), (122, .iinc 3 1, 3), (125, .goto (-93), 3), (128, .return_, 1)]
theorem dzX4_layNumbers : dz cX4_layNumbers rwX4_layNumbers := dz_all 0 (by decide +kernel)
def kX4_layNumbers (live : am_E) (Ret : am_R) : am_code := [(0, am_const (.int 30) 2), (2, am_istore 2 5 3), (3, am_const (.int 0) 4), (4, am_istore 3 5 5), (5, am_iload 3 6), (6, am_iload 2 7), (7, am_if2 (fun x y => y ≤ x) 30 10), (10, am_aload 0 11), (11, am_getR live 4 1 14), (14, am_iload 3 15), (15, am_const (.ref 1000) 18), (18, am_iload 3 19), (19, am_const (.int 6) 21), (21, am_i2z (fun x y => x - x / y * y) 22), (22, am_sld 0 23), (23, am_ast live 0 24), (24, am_iinc 3 5 1 27), (27, am_goto 5), (30, am_const (.int 0) 31), (31, am_istore 3 5 32), (32, am_iload 3 33), (33, am_const (.int 40) 35), (35, am_if2 (fun x y => y ≤ x) 128 38), (38, am_iload 3 39), (39, am_if1 (fun x => x ≤ 0) 62 42), (42, am_aload 0 43), (43, am_getR live 4 1 46), (46, am_iload 3 47), (47, am_const (.int 1) 48), (48, am_i2 (fun x y => x - y) 49), (49, am_iload 2 50), (50, am_i2 (fun x y => x * y) 51), (51, am_aload 0 52), (52, am_getR live 4 1 55), (55, am_iload 3 56), (56, am_iload 2 57), (57, am_i2 (fun x y => x * y) 58), (58, am_iload 2 59), (59, am_copyI live 48 62), (62, am_const (.int 0) 63), (63, am_istore 4 5 65), (65, am_iload 4 67), (67, am_aload 0 68), (68, am_getR live 4 0 71), (71, am_getR live 0 3 74), (74, am_getI live 3 2 77), (77, am_if2 (fun x y => y ≤ x) 122 80), (80, am_aload 0 81), (81, am_getR live 4 0 84), (84, am_getR live 0 3 87), (87, am_iload 4 89), (89, am_const (.int 3) 90), (90, am_callV live 3 2 TX3_at 93), (93, am_iload 3 94), (94, am_if2 (fun x y => x = y) 97 116), (97, am_aload 0 98), (98, am_iload 4 100), (100, am_iload 3 101), (101, am_aload 0 102), (102, am_getR live 4 0 105), (105, am_getR live 0 0 108), (108, am_getR live 2 0 111), (111, am_iload 1 112), (112, am_ald live 0 113), (113, am_callV live 4 3 TX4_layAct 116), (116, am_iinc 4 5 1 119), (119, am_goto 65), (122, am_iinc 3 5 1 125), (125, am_goto 32), (128, am_retV Ret)]
theorem koX4_layNumbers (live : am_E) (Ret : am_R) : ∀ q ∈ kX4_layNumbers live Ret, am_ok RX4 cX4_layNumbers 5 none 2 48 live Ret q.1 q.2 :=
  am_kz dzX4_layNumbers <|
  am_kd (fun d => ak_bipush d (by decide +kernel) rfl) <|
  am_kd (fun d => ak_istore_n d rfl rfl) <|
  am_kd (fun d => ak_iconst d (by decide +kernel) rfl) <|
  am_kd (fun d => ak_istore_n d rfl rfl) <|
  am_kd (fun d => ak_iload_n d rfl rfl) <|
  am_kd (fun d => ak_iload_n d rfl rfl) <|
  am_kd (fun d => ak_icmp_ge d (by decide +kernel) rfl) <|
  am_kd (fun d => ak_aload_n d rfl rfl) <|
  am_kd (fun d => ak_getR (C := RX4) (T := TX4) (N := 19) rfl inX4w (by decide) rfl rfl rfl wd_294 d rfl) <|
  am_kd (fun d => ak_iload_n d rfl rfl) <|
  am_kd (fun d => ak_getsN (k := 0) (C := "LearnLoans") (n := "AT_FIRST") (d := "[I") (host := "LearnLoans") (by decide) rfl (by decide +kernel) d rfl) <|
  am_kd (fun d => ak_iload_n d rfl rfl) <|
  am_kd (fun d => ak_bipush d (by decide +kernel) rfl) <|
  am_kd (fun d => ak_irem d rfl) <|
  am_kd (fun d => ak_sld (by decide) d rfl) <|
  am_kd (fun d => ak_iast (t := 0) (fun _ => rfl) rfl d rfl) <|
  am_kd (fun d => ak_iinc d (by decide +kernel) rfl) <|
  am_kd (fun d => ak_goto d (by decide +kernel)) <|
  am_kd (fun d => ak_iconst d (by decide +kernel) rfl) <|
  am_kd (fun d => ak_istore_n d rfl rfl) <|
  am_kd (fun d => ak_iload_n d rfl rfl) <|
  am_kd (fun d => ak_bipush d (by decide +kernel) rfl) <|
  am_kd (fun d => ak_icmp_ge d (by decide +kernel) rfl) <|
  am_kd (fun d => ak_iload_n d rfl rfl) <|
  am_kd (fun d => ak_if_le d (by decide +kernel) rfl) <|
  am_kd (fun d => ak_aload_n d rfl rfl) <|
  am_kd (fun d => ak_getR (C := RX4) (T := TX4) (N := 19) rfl inX4w (by decide) rfl rfl rfl wd_294 d rfl) <|
  am_kd (fun d => ak_iload_n d rfl rfl) <|
  am_kd (fun d => ak_iconst d (by decide +kernel) rfl) <|
  am_kd (fun d => ak_isub d rfl) <|
  am_kd (fun d => ak_iload_n d rfl rfl) <|
  am_kd (fun d => ak_imul d rfl) <|
  am_kd (fun d => ak_aload_n d rfl rfl) <|
  am_kd (fun d => ak_getR (C := RX4) (T := TX4) (N := 19) rfl inX4w (by decide) rfl rfl rfl wd_294 d rfl) <|
  am_kd (fun d => ak_iload_n d rfl rfl) <|
  am_kd (fun d => ak_iload_n d rfl rfl) <|
  am_kd (fun d => ak_imul d rfl) <|
  am_kd (fun d => ak_iload_n d rfl rfl) <|
  am_kd (fun d => ak_copyI (am_w4 wd_499 wd_501 wd_500 wd_69) (by decide) d rfl) <|
  am_kd (fun d => ak_iconst d (by decide +kernel) rfl) <|
  am_kd (fun d => ak_istore d rfl) <|
  am_kd (fun d => ak_iload d rfl) <|
  am_kd (fun d => ak_aload_n d rfl rfl) <|
  am_kd (fun d => ak_getR (C := RX4) (T := TX4) (N := 19) rfl inX4w (by decide) rfl rfl rfl wd_291 d rfl) <|
  am_kd (fun d => ak_getR (C := RX0) (T := TX0) (N := 13) rfl inX0w (by decide) rfl rfl rfl wd_203 d rfl) <|
  am_kd (fun d => ak_getI (C := RX3) (T := TX3) (N := 3) rfl inX3w (by decide) rfl rfl rfl wd_149 d rfl) <|
  am_kd (fun d => ak_icmp_ge d (by decide +kernel) rfl) <|
  am_kd (fun d => ak_aload_n d rfl rfl) <|
  am_kd (fun d => ak_getR (C := RX4) (T := TX4) (N := 19) rfl inX4w (by decide) rfl rfl rfl wd_291 d rfl) <|
  am_kd (fun d => ak_getR (C := RX0) (T := TX0) (N := 13) rfl inX0w (by decide) rfl rfl rfl wd_203 d rfl) <|
  am_kd (fun d => ak_iload d rfl) <|
  am_kd (fun d => ak_iconst d (by decide +kernel) rfl) <|
  am_kd (fun d => ak_callV (C := RX3) (F := TX3) (N := 3) metX3_at rfl ⟨rfl, hy_X3_at⟩ (am_w5 wd_502 wd_503 wd_504 wd_64 wd_505) (by decide) d rfl) <|
  am_kd (fun d => ak_iload_n d rfl rfl) <|
  am_kd (fun d => ak_icmp_ne d (by decide +kernel) rfl) <|
  am_kd (fun d => ak_aload_n d rfl rfl) <|
  am_kd (fun d => ak_iload d rfl) <|
  am_kd (fun d => ak_iload_n d rfl rfl) <|
  am_kd (fun d => ak_aload_n d rfl rfl) <|
  am_kd (fun d => ak_getR (C := RX4) (T := TX4) (N := 19) rfl inX4w (by decide) rfl rfl rfl wd_291 d rfl) <|
  am_kd (fun d => ak_getR (C := RX0) (T := TX0) (N := 13) rfl inX0w (by decide) rfl rfl rfl wd_195 d rfl) <|
  am_kd (fun d => ak_getR (C := RX2) (T := TX2) (N := 8) rfl inX2w (by decide) rfl rfl rfl wd_107 d rfl) <|
  am_kd (fun d => ak_iload_n d rfl rfl) <|
  am_kd (fun d => ak_iald (t := 0) (fun _ => rfl) rfl d rfl) <|
  am_kd (fun d => ak_callV (C := RX4) (F := TX4) (N := 19) metX4_layAct rfl ⟨rfl, hy_X4_layAct⟩ (am_w5 wd_506 wd_508 wd_1 wd_60 wd_509) (by decide) d rfl) <|
  am_kd (fun d => ak_iinc d (by decide +kernel) rfl) <|
  am_kd (fun d => ak_goto d (by decide +kernel)) <|
  am_kd (fun d => ak_iinc d (by decide +kernel) rfl) <|
  am_kd (fun d => ak_goto d (by decide +kernel)) <|
  am_kd (fun d => ak_retV d) <| am_kdn
theorem i_div {x y : Int32} (hx : 0 ≤ x.toInt) (hy : 0 < y.toInt) : (x / y).toInt = x.toInt / y.toInt := by
  have h1 := Int.ediv_nonneg hx (Int.le_of_lt hy)
  have h2 := Int.ediv_le_self y.toInt hx
  have h3 := i_hi x
  rw [Int32.toInt_div, Int.tdiv_eq_ediv_of_nonneg hx]
  exact Int.bmod_eq_of_le (by omega) (by omega)
theorem i_rem6 {x : Int32} (h1 : 0 ≤ x.toInt) (h2 : x.toInt < 1000000) : am_in (x - x / 6 * 6) 6 := by
  have e := i_div (x := x) (y := 6) h1 (by decide)
  simp only [Int32.reduceToInt] at e
  have e2 := i_mul (x := x / 6) (y := 6) (by simp only [Int32.reduceToInt]; omega) (by simp only [Int32.reduceToInt]; omega)
  simp only [Int32.reduceToInt] at e2
  have e3 := i_sub (x := x) (y := x / 6 * 6) (by omega) (by omega)
  exact ⟨by omega, by omega⟩
def TX4_layNumbers : am_T := fun live as M R => match as with
  | [.ref n, .int p] => am_mn live ∧ n = 4 ∧ am_in p 12 ∧ g_rI M ∧ ∀ M', g_sc M M' → g_rI M' → R none M'
  | _ => False
def JX4_layNumbers : am_E → List Value → am_M → am_R → am_inv := fun live as M0 _ pc => match as with
  | [.ref n, .int p] => (match pc with
    | 5 => some ([0, 1, 2, 3], fun k L st M => ∃ i : Int32, L = [(0, .ref 4), (1, .int p), (2, .int 30), (3, .int i)] ∧ st = [] ∧ k = (1000 + (31 - i.toInt).toNat, 0) ∧ 0 ≤ i.toInt ∧ g_sc M0 M ∧ g_rI M)
    | 32 => some ([0, 1, 2, 3], fun k L st M => ∃ y : Int32, L = [(0, .ref 4), (1, .int p), (2, .int 30), (3, .int y)] ∧ st = [] ∧ k = ((42 - y.toInt).toNat * 2, 0) ∧ 0 ≤ y.toInt ∧ g_sc M0 M ∧ g_rI M)
    | 65 => some ([0, 1, 2, 3, 4], fun k L st M => ∃ y i : Int32, L = [(0, .ref 4), (1, .int p), (2, .int 30), (3, .int y), (4, .int i)] ∧ st = [] ∧ k = ((42 - y.toInt).toNat * 2 - 1, ((M.1 31 2).toInt - i.toInt).toNat) ∧ (0 ≤ y.toInt ∧ y.toInt < 40) ∧ 0 ≤ i.toInt ∧ g_sc M0 M ∧ g_rI M)
    | _ => none)
  | _ => none
set_option maxRecDepth 100000 in
set_option maxHeartbeats 4000000 in
theorem metX4_layNumbers : am_Met yX4_layNumbers cX4_layNumbers 5 none (2) (48) TX4_layNumbers := by
  refine am_met (own := RX4) (by decide +kernel) rfl kX4_layNumbers koX4_layNumbers 150 JX4_layNumbers ?_ ?_
  · intro live as M Ret h
    unfold TX4_layNumbers at h
    split at h
    · next n p =>
      refine ⟨Nat.le_of_ble_eq_true rfl, ?_⟩
      change am_wp _ _ _ _ [(0, Value.ref n), (1, Value.int p)] _ _
      obtain ⟨hmn, rfl, hp, hr, h⟩ := h
      repeat' (first | apply And.intro | exact rfl | intro hx | (refine Exists.intro _ (And.intro rfl ?_)))
      all_goals try first | (with_reducible change am_tI _ _) | (change Ret _ _) | (change Ret _ _ _) | (change Exists _)
      all_goals try dsimp only at *
      all_goals try (with_reducible exact absurd ‹(1000 : Int64) = 0› am_z1000)
      exact ⟨_, _, rfl, rfl, rfl, by decide, g_sc.rf, hr⟩
    · exact h.elim
  · intro live as M0 Ret h k pc I hI L st M hi
    unfold TX4_layNumbers at h
    split at h
    · next n p =>
      obtain ⟨hmn, rfl, hp, hr, h⟩ := h
      have hmn2 := hmn
      obtain ⟨i1, i2, rfl⟩ := hmn2
      have l5 : am_len 5 = 1200 := rfl
      change (match pc with | 5 => _ | 32 => _ | 65 => _ | _ => none) = _ at hI
      split at hI
      · cases hI
        obtain ⟨i, rfl, rfl, rfl, e1, e2, e3⟩ := hi
        by_cases hz : (30 : Int32) ≤ i
        · skip
          repeat' (first | apply And.intro | exact rfl | (intro hx; with_reducible exact absurd hz hx) | intro hx | (refine Exists.intro _ (And.intro rfl ?_)))
          all_goals try first | (with_reducible change am_tI _ _) | (change Ret _ _) | (change Ret _ _ _) | (change Exists _)
          all_goals try dsimp only at *
          all_goals try (with_reducible exact absurd ‹(1000 : Int64) = 0› am_z1000)
          exact ⟨_, am_lt_l (by simp only [Int32.reduceToInt]; omega), _, rfl, rfl, rfl, by decide, e2, e3⟩
        · have hz2 := hz
          simp only [i_le, Int32.reduceToInt] at hz2
          have hi := i_inc (x := i) (by omega) (by omega)
          have hr6 := i_rem6 (x := i) e1 (by omega)
          repeat' (first | apply And.intro | exact rfl | (intro hx; with_reducible exact absurd hx hz) | intro hx | (refine Exists.intro _ (And.intro rfl ?_)))
          all_goals try first | (with_reducible change am_tI _ _) | (change Ret _ _) | (change Ret _ _ _) | (change Exists _)
          all_goals try dsimp only at *
          all_goals try (with_reducible exact absurd ‹(1000 : Int64) = 0› am_z1000)
          all_goals first
            | decide
            | exact absurd hx (by decide)
            | (with_reducible exact hr6.1)
            | (with_reducible exact hr6.2)
            | omega
            | (rw [l5]; omega)
            | exact hr6.1
            | exact hr6.2
            | skip
          exact ⟨_, am_lt_l (by omega), _, rfl, rfl, rfl, by omega, e2.wI rfl, e3.w5⟩
      · cases hI
        obtain ⟨y, rfl, rfl, rfl, e1, e2, e3⟩ := hi
        by_cases hz : (40 : Int32) ≤ y
        · skip
          repeat' (first | apply And.intro | exact rfl | (intro hx; with_reducible exact absurd hz hx) | intro hx | (refine Exists.intro _ (And.intro rfl ?_)))
          all_goals try first | (with_reducible change am_tI _ _) | (change Ret _ _) | (change Ret _ _ _) | (change Exists _)
          all_goals try dsimp only at *
          all_goals try (with_reducible exact absurd ‹(1000 : Int64) = 0› am_z1000)
          exact h _ e2 e3
        · have hz2 := hz
          simp only [i_le, Int32.reduceToInt] at hz2
          have hs := i_sub (x := y) (y := 1) (by simp only [Int32.reduceToInt]; omega) (by simp only [Int32.reduceToInt]; omega)
          simp only [Int32.reduceToInt] at hs
          have ht := i_mul (x := y - 1) (y := 30) (by simp only [Int32.reduceToInt]; omega) (by simp only [Int32.reduceToInt]; omega)
          simp only [Int32.reduceToInt] at ht
          have hu := i_mul (x := y) (y := 30) (by simp only [Int32.reduceToInt]; omega) (by simp only [Int32.reduceToInt]; omega)
          simp only [Int32.reduceToInt] at hu
          by_cases hw : y ≤ 0
          · skip
            repeat' (first | apply And.intro | exact rfl | (intro hx; with_reducible exact absurd hx hz) | (intro hx; with_reducible exact absurd hw hx) | intro hx | (refine Exists.intro _ (And.intro rfl ?_)))
            all_goals try first | (with_reducible change am_tI _ _) | (change Ret _ _) | (change Ret _ _ _) | (change Exists _)
            all_goals try dsimp only at *
            all_goals try (with_reducible exact absurd ‹(1000 : Int64) = 0› am_z1000)
            exact ⟨_, am_lt_l (by omega), _, _, rfl, rfl, rfl, ⟨e1, by omega⟩, by decide, e2, e3⟩
          · have hw2 := hw
            simp only [i_le, Int32.reduceToInt] at hw2
            repeat' (first | apply And.intro | exact rfl | (intro hx; with_reducible exact absurd hx hz) | (intro hx; with_reducible exact absurd hx hw) | intro hx | (refine Exists.intro _ (And.intro rfl ?_)))
            all_goals try first | (with_reducible change am_tI _ _) | (change Ret _ _) | (change Ret _ _ _) | (change Exists _)
            all_goals try dsimp only at *
            all_goals try (with_reducible exact absurd ‹(1000 : Int64) = 0› am_z1000)
            all_goals first
              | exact ⟨_, am_lt_l (by omega), _, _, rfl, rfl, rfl, ⟨e1, by omega⟩, by decide, e2.cI rfl, e3.c5⟩
              | (simp only [l5, Int32.reduceToInt]; omega)
              | omega
              | skip
      · cases hI
        obtain ⟨y, i, rfl, rfl, rfl, ⟨e0, e4⟩, e1, e2, e3⟩ := hi
        have hy := i_inc (x := y) (by omega) (by omega)
        by_cases hz : M.1 31 2 ≤ i
        · skip
          repeat' (first | apply And.intro | exact rfl | (intro hx; with_reducible exact absurd hz hx) | intro hx | (refine Exists.intro _ (And.intro rfl ?_)))
          all_goals try first | (with_reducible change am_tI _ _) | (change Ret _ _) | (change Ret _ _ _) | (change Exists _)
          all_goals try dsimp only at *
          all_goals try (with_reducible exact absurd ‹(1000 : Int64) = 0› am_z1000)
          exact ⟨_, am_lt_l (by omega), _, rfl, rfl, rfl, by omega, e2, e3⟩
        · have hz2 := hz
          simp only [i_le] at hz2
          have hh := i_hi (M.1 31 2)
          have hi := i_add (x := i) (y := 1) (by simp only [Int32.reduceToInt]; omega) (by simp only [Int32.reduceToInt]; omega)
          simp only [Int32.reduceToInt] at hi
          have l22 : am_len 22 = 12 := rfl
          have hp1 := hp.1
          have hp2 := hp.2
          repeat' (first | (with_reducible exact hmn) | (with_reducible exact e3) | apply And.intro | exact rfl | (intro hx; with_reducible exact absurd hx hz) | intro hx | (refine Exists.intro _ (And.intro rfl ?_)))
          all_goals try first | (with_reducible change am_tI _ _) | (change Ret _ _) | (change Ret _ _ _) | (change Exists _)
          all_goals try dsimp only at *
          all_goals try (with_reducible exact absurd ‹(1000 : Int64) = 0› am_z1000)
          all_goals first
            | omega
            | (rw [l22]; omega)
            | exact ⟨_, am_lt_r (by omega), _, _, rfl, rfl, rfl, ⟨e0, e4⟩, by omega, e2, e3⟩
            | skip
          all_goals
            rename_i M1 c1
            exact ⟨_, am_lt_r (by rw [c1.i 2 (by decide)]; omega), _, _, rfl, rfl, rfl, ⟨e0, e4⟩, by omega, e2.tr c1, hx⟩
      · cases hI
    · exact h.elim
theorem hy_X4_isStruck : yX4_isStruck.cls ≠ "java/lang/invoke/MethodHandle" ∧ yX4_isStruck.cls ≠ "java/lang/invoke/VarHandle" ∧ (parseMethodDescriptor yX4_isStruck.desc).map (fun d => d.parameters.length) = some 2 := ⟨by decide +kernel, by decide +kernel, by decide +kernel⟩
set_option maxRecDepth 100000 in
theorem wd_576 : Cond.methodLink "LearnLoans$Run" 148 yX4_isStruck ∈ am_ws := am_wt3 (List.mem_of_getElem? (i := 39) (by rfl)) (by decide +kernel)
set_option maxRecDepth 100000 in
theorem wd_578 : Cond.instanceMethod yX4_isStruck ∈ am_ws := am_wt3 (List.mem_of_getElem? (i := 41) (by rfl)) (by decide +kernel)
set_option maxRecDepth 100000 in
theorem wd_3 : Cond.selects "LearnLoans$Run" yX4_isStruck yX4_isStruck ∈ am_ws := am_wsi (List.mem_of_getElem? (i := 3) (by rfl)) (by decide +kernel)
set_option maxRecDepth 100000 in
theorem wd_579 : Cond.code yX4_isStruck cX4_isStruck 4 (some .boolean) ∈ am_ws := am_wt3 (List.mem_of_getElem? (i := 42) (by rfl)) (by decide +kernel)
theorem hy_X4_rateOf : yX4_rateOf.cls ≠ "java/lang/invoke/MethodHandle" ∧ yX4_rateOf.cls ≠ "java/lang/invoke/VarHandle" ∧ (parseMethodDescriptor yX4_rateOf.desc).map (fun d => d.parameters.length) = some 2 := ⟨by decide +kernel, by decide +kernel, by decide +kernel⟩
set_option maxRecDepth 100000 in
theorem wd_588 : Cond.methodLink "LearnLoans$Run" 151 yX4_rateOf ∈ am_ws := am_wt3 (List.mem_of_getElem? (i := 51) (by rfl)) (by decide +kernel)
set_option maxRecDepth 100000 in
theorem wd_589 : Cond.instanceMethod yX4_rateOf ∈ am_ws := am_wt3 (List.mem_of_getElem? (i := 52) (by rfl)) (by decide +kernel)
set_option maxRecDepth 100000 in
theorem wd_590 : Cond.selects "LearnLoans$Run" yX4_rateOf yX4_rateOf ∈ am_ws := am_wt3 (List.mem_of_getElem? (i := 53) (by rfl)) (by decide +kernel)
set_option maxRecDepth 100000 in
theorem wd_591 : Cond.code yX4_rateOf cX4_rateOf 7 (some .int) ∈ am_ws := am_wt3 (List.mem_of_getElem? (i := 54) (by rfl)) (by decide +kernel)
theorem hy_X4_grow : yX4_grow.cls ≠ "java/lang/invoke/MethodHandle" ∧ yX4_grow.cls ≠ "java/lang/invoke/VarHandle" ∧ (parseMethodDescriptor yX4_grow.desc).map (fun d => d.parameters.length) = some 2 := ⟨by decide +kernel, by decide +kernel, by decide +kernel⟩
set_option maxRecDepth 100000 in
theorem wd_613 : Cond.methodLink "LearnLoans$Run" 154 yX4_grow ∈ am_ws := am_wt3 (List.mem_of_getElem? (i := 76) (by rfl)) (by decide +kernel)
set_option maxRecDepth 100000 in
theorem wd_615 : Cond.instanceMethod yX4_grow ∈ am_ws := am_wt3 (List.mem_of_getElem? (i := 78) (by rfl)) (by decide +kernel)
set_option maxRecDepth 100000 in
theorem wd_6 : Cond.selects "LearnLoans$Run" yX4_grow yX4_grow ∈ am_ws := am_wsi (List.mem_of_getElem? (i := 6) (by rfl)) (by decide +kernel)
set_option maxRecDepth 100000 in
theorem wd_616 : Cond.code yX4_grow cX4_grow 7 none ∈ am_ws := am_wt3 (List.mem_of_getElem? (i := 79) (by rfl)) (by decide +kernel)
theorem hy_X4_draw : yX4_draw.cls ≠ "java/lang/invoke/MethodHandle" ∧ yX4_draw.cls ≠ "java/lang/invoke/VarHandle" ∧ (parseMethodDescriptor yX4_draw.desc).map (fun d => d.parameters.length) = some 2 := ⟨by decide +kernel, by decide +kernel, by decide +kernel⟩
set_option maxRecDepth 100000 in
theorem wd_619 : Cond.methodLink "LearnLoans$Run" 158 yX4_draw ∈ am_ws := am_wt3 (List.mem_of_getElem? (i := 82) (by rfl)) (by decide +kernel)
set_option maxRecDepth 100000 in
theorem wd_621 : Cond.instanceMethod yX4_draw ∈ am_ws := am_wt3 (List.mem_of_getElem? (i := 84) (by rfl)) (by decide +kernel)
set_option maxRecDepth 100000 in
theorem wd_7 : Cond.selects "LearnLoans$Run" yX4_draw yX4_draw ∈ am_ws := am_wsi (List.mem_of_getElem? (i := 7) (by rfl)) (by decide +kernel)
set_option maxRecDepth 100000 in
theorem wd_622 : Cond.code yX4_draw cX4_draw 5 none ∈ am_ws := am_wt3 (List.mem_of_getElem? (i := 85) (by rfl)) (by decide +kernel)
theorem hy_X4_lineUp : yX4_lineUp.cls ≠ "java/lang/invoke/MethodHandle" ∧ yX4_lineUp.cls ≠ "java/lang/invoke/VarHandle" ∧ (parseMethodDescriptor yX4_lineUp.desc).map (fun d => d.parameters.length) = some 1 := ⟨by decide +kernel, by decide +kernel, by decide +kernel⟩
set_option maxRecDepth 100000 in
theorem wd_624 : Cond.methodLink "LearnLoans$Run" 161 yX4_lineUp ∈ am_ws := am_wt3 (List.mem_of_getElem? (i := 87) (by rfl)) (by decide +kernel)
set_option maxRecDepth 100000 in
theorem wd_626 : Cond.instanceMethod yX4_lineUp ∈ am_ws := am_wt3 (List.mem_of_getElem? (i := 89) (by rfl)) (by decide +kernel)
set_option maxRecDepth 100000 in
theorem wd_8 : Cond.selects "LearnLoans$Run" yX4_lineUp yX4_lineUp ∈ am_ws := am_wsi (List.mem_of_getElem? (i := 8) (by rfl)) (by decide +kernel)
set_option maxRecDepth 100000 in
theorem wd_627 : Cond.code yX4_lineUp cX4_lineUp 5 none ∈ am_ws := am_wt3 (List.mem_of_getElem? (i := 90) (by rfl)) (by decide +kernel)
theorem hy_X4_payAhead : yX4_payAhead.cls ≠ "java/lang/invoke/MethodHandle" ∧ yX4_payAhead.cls ≠ "java/lang/invoke/VarHandle" ∧ (parseMethodDescriptor yX4_payAhead.desc).map (fun d => d.parameters.length) = some 0 := ⟨by decide +kernel, by decide +kernel, by decide +kernel⟩
set_option maxRecDepth 100000 in
theorem wd_629 : Cond.methodLink "LearnLoans$Run" 164 yX4_payAhead ∈ am_ws := am_wt3 (List.mem_of_getElem? (i := 92) (by rfl)) (by decide +kernel)
set_option maxRecDepth 100000 in
theorem wd_631 : Cond.instanceMethod yX4_payAhead ∈ am_ws := am_wt3 (List.mem_of_getElem? (i := 94) (by rfl)) (by decide +kernel)
set_option maxRecDepth 100000 in
theorem wd_9 : Cond.selects "LearnLoans$Run" yX4_payAhead yX4_payAhead ∈ am_ws := am_wsi (List.mem_of_getElem? (i := 9) (by rfl)) (by decide +kernel)
set_option maxRecDepth 100000 in
theorem wd_632 : Cond.code yX4_payAhead cX4_payAhead 5 none ∈ am_ws := am_wt3 (List.mem_of_getElem? (i := 95) (by rfl)) (by decide +kernel)
theorem hy_X4_takeAll : yX4_takeAll.cls ≠ "java/lang/invoke/MethodHandle" ∧ yX4_takeAll.cls ≠ "java/lang/invoke/VarHandle" ∧ (parseMethodDescriptor yX4_takeAll.desc).map (fun d => d.parameters.length) = some 1 := ⟨by decide +kernel, by decide +kernel, by decide +kernel⟩
set_option maxRecDepth 100000 in
theorem wd_633 : Cond.methodLink "LearnLoans$Run" 167 yX4_takeAll ∈ am_ws := am_wt3 (List.mem_of_getElem? (i := 96) (by rfl)) (by decide +kernel)
set_option maxRecDepth 100000 in
theorem wd_635 : Cond.instanceMethod yX4_takeAll ∈ am_ws := am_wt3 (List.mem_of_getElem? (i := 98) (by rfl)) (by decide +kernel)
set_option maxRecDepth 100000 in
theorem wd_10 : Cond.selects "LearnLoans$Run" yX4_takeAll yX4_takeAll ∈ am_ws := am_wsi (List.mem_of_getElem? (i := 10) (by rfl)) (by decide +kernel)
set_option maxRecDepth 100000 in
theorem wd_636 : Cond.code yX4_takeAll cX4_takeAll 11 none ∈ am_ws := am_wt3 (List.mem_of_getElem? (i := 99) (by rfl)) (by decide +kernel)
def rwX4_turn : List dz_r := [(0, .iconst 0, 1), (1, .istore_n 2, 1), (2, .iload_n 2, 1), (3, .aload_n 0, 1), (4, .getfield 56, 3), (7, .if_icmp .ge 105, 3), (10, .aload_n 0, 1), (11, .getfield 26, 3), (14, .iload_n 2, 1), (15, .iaload, 1), (16, .istore_n 3, 1), (17, .aload_n 0, 1), (18, .getfield 22, 3), (21, .iconst 0, 1), (22, .iload_n 3, 1), (23, .iadd, 1), (24, .laload, 1), (25, .lstore 4, 2), (27, .aload_n 0, 1), (28, .iload_n 3, 1), (29, .iload_n 1, 1), (30, .invokevirtual 148, 3), (33, .istore 6, 2), (35, .aload_n 0, 1), (36, .getfield 22, 3), (39, .bipush 60, 2), (41, .iload_n 3, 1), (42, .iadd, 1), (43, .iload 6, 2), (45, .ifCond .eq 8, 3), (48, .lload 4, 2), (50, .goto 4, 3), (53, .lconst 0, 1), (54, .lastore, 1), (55, .aload_n 0, 1), (56, .getfield 22, 3), (59, .bipush 120, 2), (61, .iload_n 3, 1), (62, .iadd, 1), (63, .lconst 0, 1), (64, .lastore, 1), (65, .iload 6, 2), (67, .ifCond .eq 15, 3), (70, .aload_n 0, 1), (71, .getfield 22, 3), (74, .iconst 0, 1), (75, .iload_n 3, 1), (76, .iadd, 1), (77, .lconst 0, 1), (78, .lastore, 1), (79, .goto 27, 3), (82, .lload 4, 2), (84, .lconst 0, 1), (85, .lcmp, 1), (86, .ifCond .le 14, 3), (89, .aload_n 0, 1), (90, .iload_n 3, 1), (91, .aload_n 0, 1), (92, .iload_n 3, 1), (93, .iload_n 1, 1), (94, .invokevirtual 151, 3), (97, .invokevirtual 154, 3), (100, .aload_n 0, 1), (101, .iload_n 3, 1), (102, .iload_n 1, 1), (103, .invokevirtual 158, 3), (106, .iinc 2 1, 3), (109, .goto (-107), 3), (112, .aload_n 0, 1), (113, .iload_n 1, 1), (114, .invokevirtual 161, 3), (117, .aload_n 0, 1), (118, .getfield 94, 3), (121, .lconst 0, 1), (122, .lcmp, 1), (123, .ifCond .le 7, 3), (126, .aload_n 0, 1), (127, .invokevirtual 164, 3), (130, .aload_n 0, 1), (131, .iload_n 1, 1), (132, .invokevirtual 167, 3), (135, .return_, 1)]
theorem dzX4_turn : dz cX4_turn rwX4_turn := dz_all 0 (by decide +kernel)
def kX4_turn (live : am_E) (Ret : am_R) : am_code := [(0, am_const (.int 0) 1), (1, am_istore 2 7 2), (2, am_iload 2 3), (3, am_aload 0 4), (4, am_getI live 4 7 7), (7, am_if2 (fun x y => y ≤ x) 112 10), (10, am_aload 0 11), (11, am_getR live 4 3 14), (14, am_iload 2 15), (15, am_ald live 0 16), (16, am_istore 3 7 17), (17, am_aload 0 18), (18, am_getR live 4 2 21), (21, am_const (.int 0) 22), (22, am_iload 3 23), (23, am_i2 (fun x y => x + y) 24), (24, am_lald live 1 25), (25, am_lstore 4 7 27), (27, am_aload 0 28), (28, am_iload 3 29), (29, am_iload 1 30), (30, am_callV live 4 2 TX4_isStruck 33), (33, am_istore 6 7 35), (35, am_aload 0 36), (36, am_getR live 4 2 39), (39, am_const (.int 60) 41), (41, am_iload 3 42), (42, am_i2 (fun x y => x + y) 43), (43, am_iload 6 45), (45, am_if1 (fun x => x = 0) 53 48), (48, am_lload 4 50), (50, am_goto 54), (53, am_const (.long 0) 54), (54, am_last live 1 55), (55, am_aload 0 56), (56, am_getR live 4 2 59), (59, am_const (.int 120) 61), (61, am_iload 3 62), (62, am_i2 (fun x y => x + y) 63), (63, am_const (.long 0) 64), (64, am_last live 1 65), (65, am_iload 6 67), (67, am_if1 (fun x => x = 0) 82 70), (70, am_aload 0 71), (71, am_getR live 4 2 74), (74, am_const (.int 0) 75), (75, am_iload 3 76), (76, am_i2 (fun x y => x + y) 77), (77, am_const (.long 0) 78), (78, am_last live 1 79), (79, am_goto 106), (82, am_lload 4 84), (84, am_const (.long 0) 85), (85, am_lcmp 86), (86, am_if1 (fun x => x ≤ 0) 100 89), (89, am_aload 0 90), (90, am_iload 3 91), (91, am_aload 0 92), (92, am_iload 3 93), (93, am_iload 1 94), (94, am_callV live 4 2 TX4_rateOf 97), (97, am_callV live 4 2 TX4_grow 100), (100, am_aload 0 101), (101, am_iload 3 102), (102, am_iload 1 103), (103, am_callV live 4 2 TX4_draw 106), (106, am_iinc 2 7 1 109), (109, am_goto 2), (112, am_aload 0 113), (113, am_iload 1 114), (114, am_callV live 4 1 TX4_lineUp 117), (117, am_aload 0 118), (118, am_getJ live 4 14 121), (121, am_const (.long 0) 122), (122, am_lcmp 123), (123, am_if1 (fun x => x ≤ 0) 130 126), (126, am_aload 0 127), (127, am_callV live 4 0 TX4_payAhead 130), (130, am_aload 0 131), (131, am_iload 1 132), (132, am_callV live 4 1 TX4_takeAll 135), (135, am_retV Ret)]
theorem koX4_turn (live : am_E) (Ret : am_R) : ∀ q ∈ kX4_turn live Ret, am_ok RX4 cX4_turn 7 none 3 76 live Ret q.1 q.2 :=
  am_kz dzX4_turn <|
  am_kd (fun d => ak_iconst d (by decide +kernel) rfl) <|
  am_kd (fun d => ak_istore_n d rfl rfl) <|
  am_kd (fun d => ak_iload_n d rfl rfl) <|
  am_kd (fun d => ak_aload_n d rfl rfl) <|
  am_kd (fun d => ak_getI (C := RX4) (T := TX4) (N := 19) rfl inX4w (by decide) rfl rfl rfl wd_303 d rfl) <|
  am_kd (fun d => ak_icmp_ge d (by decide +kernel) rfl) <|
  am_kd (fun d => ak_aload_n d rfl rfl) <|
  am_kd (fun d => ak_getR (C := RX4) (T := TX4) (N := 19) rfl inX4w (by decide) rfl rfl rfl wd_299 d rfl) <|
  am_kd (fun d => ak_iload_n d rfl rfl) <|
  am_kd (fun d => ak_iald (t := 0) (fun _ => rfl) rfl d rfl) <|
  am_kd (fun d => ak_istore_n d rfl rfl) <|
  am_kd (fun d => ak_aload_n d rfl rfl) <|
  am_kd (fun d => ak_getR (C := RX4) (T := TX4) (N := 19) rfl inX4w (by decide) rfl rfl rfl wd_296 d rfl) <|
  am_kd (fun d => ak_iconst d (by decide +kernel) rfl) <|
  am_kd (fun d => ak_iload_n d rfl rfl) <|
  am_kd (fun d => ak_iadd d rfl) <|
  am_kd (fun d => ak_lald (t := 1) (fun _ => rfl) rfl d rfl) <|
  am_kd (fun d => ak_lstore d rfl) <|
  am_kd (fun d => ak_aload_n d rfl rfl) <|
  am_kd (fun d => ak_iload_n d rfl rfl) <|
  am_kd (fun d => ak_iload_n d rfl rfl) <|
  am_kd (fun d => ak_callV (C := RX4) (F := TX4) (N := 19) metX4_isStruck rfl ⟨rfl, hy_X4_isStruck⟩ (am_w5 wd_576 wd_578 wd_3 wd_60 wd_579) (by decide) d rfl) <|
  am_kd (fun d => ak_istore d rfl) <|
  am_kd (fun d => ak_aload_n d rfl rfl) <|
  am_kd (fun d => ak_getR (C := RX4) (T := TX4) (N := 19) rfl inX4w (by decide) rfl rfl rfl wd_296 d rfl) <|
  am_kd (fun d => ak_bipush d (by decide +kernel) rfl) <|
  am_kd (fun d => ak_iload_n d rfl rfl) <|
  am_kd (fun d => ak_iadd d rfl) <|
  am_kd (fun d => ak_iload d rfl) <|
  am_kd (fun d => ak_if_eq d (by decide +kernel) rfl) <|
  am_kd (fun d => ak_lload d rfl) <|
  am_kd (fun d => ak_goto d (by decide +kernel)) <|
  am_kd (fun d => ak_lconst d (by decide +kernel) rfl) <|
  am_kd (fun d => ak_last (t := 1) (fun _ => rfl) rfl d rfl) <|
  am_kd (fun d => ak_aload_n d rfl rfl) <|
  am_kd (fun d => ak_getR (C := RX4) (T := TX4) (N := 19) rfl inX4w (by decide) rfl rfl rfl wd_296 d rfl) <|
  am_kd (fun d => ak_bipush d (by decide +kernel) rfl) <|
  am_kd (fun d => ak_iload_n d rfl rfl) <|
  am_kd (fun d => ak_iadd d rfl) <|
  am_kd (fun d => ak_lconst d (by decide +kernel) rfl) <|
  am_kd (fun d => ak_last (t := 1) (fun _ => rfl) rfl d rfl) <|
  am_kd (fun d => ak_iload d rfl) <|
  am_kd (fun d => ak_if_eq d (by decide +kernel) rfl) <|
  am_kd (fun d => ak_aload_n d rfl rfl) <|
  am_kd (fun d => ak_getR (C := RX4) (T := TX4) (N := 19) rfl inX4w (by decide) rfl rfl rfl wd_296 d rfl) <|
  am_kd (fun d => ak_iconst d (by decide +kernel) rfl) <|
  am_kd (fun d => ak_iload_n d rfl rfl) <|
  am_kd (fun d => ak_iadd d rfl) <|
  am_kd (fun d => ak_lconst d (by decide +kernel) rfl) <|
  am_kd (fun d => ak_last (t := 1) (fun _ => rfl) rfl d rfl) <|
  am_kd (fun d => ak_goto d (by decide +kernel)) <|
  am_kd (fun d => ak_lload d rfl) <|
  am_kd (fun d => ak_lconst d (by decide +kernel) rfl) <|
  am_kd (fun d => ak_lcmp d rfl) <|
  am_kd (fun d => ak_if_le d (by decide +kernel) rfl) <|
  am_kd (fun d => ak_aload_n d rfl rfl) <|
  am_kd (fun d => ak_iload_n d rfl rfl) <|
  am_kd (fun d => ak_aload_n d rfl rfl) <|
  am_kd (fun d => ak_iload_n d rfl rfl) <|
  am_kd (fun d => ak_iload_n d rfl rfl) <|
  am_kd (fun d => ak_callV (C := RX4) (F := TX4) (N := 19) metX4_rateOf rfl ⟨rfl, hy_X4_rateOf⟩ (am_w5 wd_588 wd_589 wd_590 wd_60 wd_591) (by decide) d rfl) <|
  am_kd (fun d => ak_callV (C := RX4) (F := TX4) (N := 19) metX4_grow rfl ⟨rfl, hy_X4_grow⟩ (am_w5 wd_613 wd_615 wd_6 wd_60 wd_616) (by decide) d rfl) <|
  am_kd (fun d => ak_aload_n d rfl rfl) <|
  am_kd (fun d => ak_iload_n d rfl rfl) <|
  am_kd (fun d => ak_iload_n d rfl rfl) <|
  am_kd (fun d => ak_callV (C := RX4) (F := TX4) (N := 19) metX4_draw rfl ⟨rfl, hy_X4_draw⟩ (am_w5 wd_619 wd_621 wd_7 wd_60 wd_622) (by decide) d rfl) <|
  am_kd (fun d => ak_iinc d (by decide +kernel) rfl) <|
  am_kd (fun d => ak_goto d (by decide +kernel)) <|
  am_kd (fun d => ak_aload_n d rfl rfl) <|
  am_kd (fun d => ak_iload_n d rfl rfl) <|
  am_kd (fun d => ak_callV (C := RX4) (F := TX4) (N := 19) metX4_lineUp rfl ⟨rfl, hy_X4_lineUp⟩ (am_w5 wd_624 wd_626 wd_8 wd_60 wd_627) (by decide) d rfl) <|
  am_kd (fun d => ak_aload_n d rfl rfl) <|
  am_kd (fun d => ak_getJ (C := RX4) (T := TX4) (N := 19) rfl inX4w (by decide) rfl rfl rfl wd_310 d rfl) <|
  am_kd (fun d => ak_lconst d (by decide +kernel) rfl) <|
  am_kd (fun d => ak_lcmp d rfl) <|
  am_kd (fun d => ak_if_le d (by decide +kernel) rfl) <|
  am_kd (fun d => ak_aload_n d rfl rfl) <|
  am_kd (fun d => ak_callV (C := RX4) (F := TX4) (N := 19) metX4_payAhead rfl ⟨rfl, hy_X4_payAhead⟩ (am_w5 wd_629 wd_631 wd_9 wd_60 wd_632) (by decide) d rfl) <|
  am_kd (fun d => ak_aload_n d rfl rfl) <|
  am_kd (fun d => ak_iload_n d rfl rfl) <|
  am_kd (fun d => ak_callV (C := RX4) (F := TX4) (N := 19) metX4_takeAll rfl ⟨rfl, hy_X4_takeAll⟩ (am_w5 wd_633 wd_635 wd_10 wd_60 wd_636) (by decide) d rfl) <|
  am_kd (fun d => ak_retV d) <| am_kdn
def TX4_turn : am_T := fun live as M R => match as with
  | [.ref n, .int y] => am_mn live ∧ n = 4 ∧ am_in y 40 ∧ g_rI M ∧ ∀ M', g_sc M M' → g_rI M' → R none M'
  | _ => False
def JX4_turn : am_E → List Value → am_M → am_R → am_inv := fun live as M0 _ pc => match as with
  | [.ref n, .int y] => (match pc with
    | 2 => some ([0, 1, 2], fun k L st M => ∃ i : Int32, L = [(0, .ref 4), (1, .int y), (2, .int i)] ∧ st = [] ∧ k = ((31 - i.toInt).toNat, 0) ∧ 0 ≤ i.toInt ∧ g_sc M0 M ∧ g_rI M)
    | _ => none)
  | _ => none
set_option maxRecDepth 100000 in
set_option maxHeartbeats 4000000 in
theorem metX4_turn : am_Met yX4_turn cX4_turn 7 none (3) (76) TX4_turn := by
  refine am_met (own := RX4) (by decide +kernel) rfl kX4_turn koX4_turn 150 JX4_turn ?_ ?_
  · intro live as M Ret h
    unfold TX4_turn at h
    split at h
    · next n y =>
      refine ⟨Nat.le_of_ble_eq_true rfl, ?_⟩
      change am_wp _ _ _ _ [(0, Value.ref n), (1, Value.int y)] _ _
      obtain ⟨hmn, rfl, hy, hr, h⟩ := h
      repeat' (first | apply And.intro | exact rfl | intro hx | (refine Exists.intro _ (And.intro rfl ?_)))
      all_goals try first | (with_reducible change am_tI _ _) | (change Ret _ _) | (change Ret _ _ _) | (change Exists _)
      all_goals try dsimp only at *
      all_goals try (with_reducible exact absurd ‹(1000 : Int64) = 0› am_z1000)
      exact ⟨_, _, rfl, rfl, rfl, by decide, g_sc.rf, hr⟩
    · exact h.elim
  · intro live as M0 Ret h k pc I hI L st M hi
    unfold TX4_turn at h
    split at h
    · next n y =>
      obtain ⟨hmn, rfl, hy, hr, h⟩ := h
      have hmn2 := hmn
      obtain ⟨i1, i2, rfl⟩ := hmn2
      change (match pc with | 2 => _ | _ => none) = _ at hI
      split at hI
      · cases hI
        obtain ⟨i, rfl, rfl, rfl, e1, e2, e3⟩ := hi
        by_cases hz : M.1 4 7 ≤ i
        · skip
          repeat' (first | (with_reducible exact hmn) | (with_reducible exact hy) | (with_reducible exact e3) | apply And.intro | exact rfl | (intro hx; with_reducible exact absurd hz hx) | ((with_reducible change g_rI _); (with_reducible assumption)) | intro hx | (refine Exists.intro _ (And.intro rfl ?_)))
          all_goals try first | (with_reducible change am_tI _ _) | (change Ret _ _) | (change Ret _ _ _) | (change Exists _)
          all_goals try dsimp only at *
          all_goals try (with_reducible exact absurd ‹(1000 : Int64) = 0› am_z1000)
          all_goals exact h _ (by (repeat' (first | (with_reducible exact g_sc.rf) | (with_reducible assumption) | ((with_reducible change g_sc _ (am_wI _ _ _ _)); refine g_sc.wI ?_ rfl) | ((with_reducible change g_sc _ (am_wJ _ _ _ _)); refine g_sc.wJ ?_ rfl) | ((with_reducible change g_sc _ (am_cI _ _ _)); refine g_sc.cI ?_ rfl) | ((with_reducible change g_sc _ (am_cJ _ _ _)); refine g_sc.cJ ?_ rfl) | (refine g_sc.tr ?_ (by with_reducible assumption)) | (refine g_sc.st ?_ (by with_reducible assumption))))) (by (repeat' (first | (with_reducible assumption) | ((with_reducible change g_rI (am_wJ _ _ _ _)); refine g_rI.wJ ?_) | ((with_reducible change g_rI (am_cJ _ _ _)); refine g_rI.cJ ?_) | ((with_reducible change g_rI (am_wI _ 5 _ _)); refine g_rI.w5 ?_) | ((with_reducible change g_rI (am_wI _ _ _ _)); refine g_rI.wF ?_ rfl) | (refine g_rI.st ?_ (by with_reducible assumption)) | (refine g_rI.we ?_ (by with_reducible assumption)))))
        · have q := e3.s.sz
          have hz2 := hz
          simp only [i_le] at hz2
          have ha : am_in i 30 := ⟨e1, by omega⟩
          have hb := e3.s.mi (g_cl ha)
          have hp := e3.pln hb hy
          have hi := i_inc (x := i) (by omega) (by omega)
          have f0 := g_ix hb 0 0 rfl (by decide)
          have f60 := g_ix hb 60 60 rfl (by decide)
          have f120 := g_ix hb 120 120 rfl (by decide)
          have l6 : am_len 6 = 180 := rfl
          have l7 : am_len 7 = 30 := rfl
          repeat' (first | (with_reducible exact hmn) | (with_reducible exact hb) | (with_reducible exact hy) | (with_reducible exact hp) | apply And.intro | exact rfl | (intro hx; with_reducible exact absurd hx hz) | ((with_reducible change g_rI _); (with_reducible assumption)) | (intro hx; exact absurd hx (by decide)) | (intro hx; exact absurd (by decide) hx) | decide | intro hx | (refine Exists.intro _ (And.intro rfl ?_)))
          all_goals try first | (with_reducible change am_tI _ _) | (change Ret _ _) | (change Ret _ _ _) | (change Exists _)
          all_goals try dsimp only at *
          all_goals try (with_reducible exact absurd ‹(1000 : Int64) = 0› am_z1000)
          all_goals first
            | omega
            | (rw [l7]; exact ha.2)
            | (with_reducible exact f0.1)
            | (rw [l6]; exact f0.2.1)
            | (with_reducible exact f60.1)
            | (rw [l6]; exact f60.2.1)
            | (with_reducible exact f120.1)
            | (rw [l6]; exact f120.2.1)
            | (left; rfl)
            | (right; rfl)
            | exact f0.1
            | exact f60.1
            | exact f120.1
            | exact ⟨_, am_lt_l (by omega), _, rfl, rfl, rfl, by omega, by (repeat' (first | (with_reducible exact g_sc.rf) | (with_reducible assumption) | ((with_reducible change g_sc _ (am_wI _ _ _ _)); refine g_sc.wI ?_ rfl) | ((with_reducible change g_sc _ (am_wJ _ _ _ _)); refine g_sc.wJ ?_ rfl) | ((with_reducible change g_sc _ (am_cI _ _ _)); refine g_sc.cI ?_ rfl) | ((with_reducible change g_sc _ (am_cJ _ _ _)); refine g_sc.cJ ?_ rfl) | (refine g_sc.tr ?_ (by with_reducible assumption)) | (refine g_sc.st ?_ (by with_reducible assumption)))), by (repeat' (first | (with_reducible assumption) | ((with_reducible change g_rI (am_wJ _ _ _ _)); refine g_rI.wJ ?_) | ((with_reducible change g_rI (am_cJ _ _ _)); refine g_rI.cJ ?_) | ((with_reducible change g_rI (am_wI _ 5 _ _)); refine g_rI.w5 ?_) | ((with_reducible change g_rI (am_wI _ _ _ _)); refine g_rI.wF ?_ rfl) | (refine g_rI.st ?_ (by with_reducible assumption)) | (refine g_rI.we ?_ (by with_reducible assumption))))⟩
            | (change g_rI _; (repeat' (first | (with_reducible assumption) | ((with_reducible change g_rI (am_wJ _ _ _ _)); refine g_rI.wJ ?_) | ((with_reducible change g_rI (am_cJ _ _ _)); refine g_rI.cJ ?_) | ((with_reducible change g_rI (am_wI _ 5 _ _)); refine g_rI.w5 ?_) | ((with_reducible change g_rI (am_wI _ _ _ _)); refine g_rI.wF ?_ rfl) | (refine g_rI.st ?_ (by with_reducible assumption)) | (refine g_rI.we ?_ (by with_reducible assumption)))))
            | skip
      · cases hI
    · exact h.elim
