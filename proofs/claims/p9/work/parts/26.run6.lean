/-! Run: what is safe of it, IV -/
theorem hy_X4_look : yX4_look.cls ≠ "java/lang/invoke/MethodHandle" ∧ yX4_look.cls ≠ "java/lang/invoke/VarHandle" ∧ (parseMethodDescriptor yX4_look.desc).map (fun d => d.parameters.length) = some 1 := ⟨by decide +kernel, by decide +kernel, by decide +kernel⟩
set_option maxRecDepth 100000 in
theorem wd_563 : Cond.methodLink "LearnLoans$Run" 101 yX4_look ∈ am_ws := am_wt3 (List.mem_of_getElem? (i := 26) (by rfl)) (by decide +kernel)
set_option maxRecDepth 100000 in
theorem wd_564 : Cond.instanceMethod yX4_look ∈ am_ws := am_wt3 (List.mem_of_getElem? (i := 27) (by rfl)) (by decide +kernel)
set_option maxRecDepth 100000 in
theorem wd_565 : Cond.selects "LearnLoans$Run" yX4_look yX4_look ∈ am_ws := am_wt3 (List.mem_of_getElem? (i := 28) (by rfl)) (by decide +kernel)
set_option maxRecDepth 100000 in
theorem wd_566 : Cond.code yX4_look cX4_look 2 none ∈ am_ws := am_wt3 (List.mem_of_getElem? (i := 29) (by rfl)) (by decide +kernel)
theorem hy_X4_turn : yX4_turn.cls ≠ "java/lang/invoke/MethodHandle" ∧ yX4_turn.cls ≠ "java/lang/invoke/VarHandle" ∧ (parseMethodDescriptor yX4_turn.desc).map (fun d => d.parameters.length) = some 1 := ⟨by decide +kernel, by decide +kernel, by decide +kernel⟩
set_option maxRecDepth 100000 in
theorem wd_572 : Cond.methodLink "LearnLoans$Run" 104 yX4_turn ∈ am_ws := am_wt3 (List.mem_of_getElem? (i := 35) (by rfl)) (by decide +kernel)
set_option maxRecDepth 100000 in
theorem wd_573 : Cond.instanceMethod yX4_turn ∈ am_ws := am_wt3 (List.mem_of_getElem? (i := 36) (by rfl)) (by decide +kernel)
set_option maxRecDepth 100000 in
theorem wd_574 : Cond.selects "LearnLoans$Run" yX4_turn yX4_turn ∈ am_ws := am_wt3 (List.mem_of_getElem? (i := 37) (by rfl)) (by decide +kernel)
set_option maxRecDepth 100000 in
theorem wd_575 : Cond.code yX4_turn cX4_turn 7 none ∈ am_ws := am_wt3 (List.mem_of_getElem? (i := 38) (by rfl)) (by decide +kernel)
def rwX4_go : List dz_r := [(0, .aload_n 0, 1), (1, .getfield 49, 3), (4, .istore_n 2, 1), (5, .iload_n 2, 1), (6, .iload_n 1, 1), (7, .if_icmp .gt 32, 3), (10, .iload_n 2, 1), (11, .bipush 40, 2), (13, .if_icmp .ge 26, 3), (16, .aload_n 0, 1), (17, .iload_n 2, 1), (18, .invokevirtual 101, 3), (21, .aload_n 0, 1), (22, .iload_n 2, 1), (23, .invokevirtual 104, 3), (26, .aload_n 0, 1), (27, .iload_n 2, 1), (28, .iconst 1, 1), (29, .iadd, 1), (30, .putfield 49, 3), (33, .iinc 2 1, 3), (36, .goto (-31), 3), (39, .return_, 1)]
theorem dzX4_go : dz cX4_go rwX4_go := dz_all 0 (by decide +kernel)
def kX4_go (live : am_E) (Ret : am_R) : am_code := [(0, am_aload 0 1), (1, am_getI live 4 10 4), (4, am_istore 2 3 5), (5, am_iload 2 6), (6, am_iload 1 7), (7, am_if2 (fun x y => y < x) 39 10), (10, am_iload 2 11), (11, am_const (.int 40) 13), (13, am_if2 (fun x y => y ≤ x) 39 16), (16, am_aload 0 17), (17, am_iload 2 18), (18, am_callV live 4 1 TX4_look 21), (21, am_aload 0 22), (22, am_iload 2 23), (23, am_callV live 4 1 TX4_turn 26), (26, am_aload 0 27), (27, am_iload 2 28), (28, am_const (.int 1) 29), (29, am_i2 (fun x y => x + y) 30), (30, am_putI live 4 10 33), (33, am_iinc 2 3 1 36), (36, am_goto 5), (39, am_retV Ret)]
theorem koX4_go (live : am_E) (Ret : am_R) : ∀ q ∈ kX4_go live Ret, am_ok RX4 cX4_go 3 none 4 102 live Ret q.1 q.2 :=
  am_kz dzX4_go <|
  am_kd (fun d => ak_aload_n d rfl rfl) <|
  am_kd (fun d => ak_getI (C := RX4) (T := TX4) (N := 19) rfl inX4w (by decide) rfl rfl rfl wd_306 d rfl) <|
  am_kd (fun d => ak_istore_n d rfl rfl) <|
  am_kd (fun d => ak_iload_n d rfl rfl) <|
  am_kd (fun d => ak_iload_n d rfl rfl) <|
  am_kd (fun d => ak_icmp_gt d (by decide +kernel) rfl) <|
  am_kd (fun d => ak_iload_n d rfl rfl) <|
  am_kd (fun d => ak_bipush d (by decide +kernel) rfl) <|
  am_kd (fun d => ak_icmp_ge d (by decide +kernel) rfl) <|
  am_kd (fun d => ak_aload_n d rfl rfl) <|
  am_kd (fun d => ak_iload_n d rfl rfl) <|
  am_kd (fun d => ak_callV (C := RX4) (F := TX4) (N := 19) metX4_look rfl ⟨rfl, hy_X4_look⟩ (am_w5 wd_563 wd_564 wd_565 wd_60 wd_566) (by decide) d rfl) <|
  am_kd (fun d => ak_aload_n d rfl rfl) <|
  am_kd (fun d => ak_iload_n d rfl rfl) <|
  am_kd (fun d => ak_callV (C := RX4) (F := TX4) (N := 19) metX4_turn rfl ⟨rfl, hy_X4_turn⟩ (am_w5 wd_572 wd_573 wd_574 wd_60 wd_575) (by decide) d rfl) <|
  am_kd (fun d => ak_aload_n d rfl rfl) <|
  am_kd (fun d => ak_iload_n d rfl rfl) <|
  am_kd (fun d => ak_iconst d (by decide +kernel) rfl) <|
  am_kd (fun d => ak_iadd d rfl) <|
  am_kd (fun d => ak_putI (C := RX4) (T := TX4) (N := 19) rfl inX4w tyX4_ok nmX4 (by decide) rfl rfl rfl rfl (by decide +kernel) wd_306 d rfl) <|
  am_kd (fun d => ak_iinc d (by decide +kernel) rfl) <|
  am_kd (fun d => ak_goto d (by decide +kernel)) <|
  am_kd (fun d => ak_retV d) <| am_kdn
def TX4_go : am_T := fun live as M R => match as with
  | [.ref n, .int u] => am_mn live ∧ n = 4 ∧ g_rI M ∧ ∀ M', g_sc M M' → g_rI M' → R none M'
  | _ => False
def JX4_go : am_E → List Value → am_M → am_R → am_inv := fun live as M0 _ pc => match as with
  | [.ref n, .int u] => (match pc with
    | 5 => some ([0, 1, 2], fun k L st M => ∃ y : Int32, L = [(0, .ref 4), (1, .int u), (2, .int y)] ∧ st = [] ∧ k = ((41 - y.toInt).toNat, 0) ∧ 0 ≤ y.toInt ∧ g_sc M0 M ∧ g_rI M)
    | _ => none)
  | _ => none
set_option maxRecDepth 100000 in
set_option maxHeartbeats 4000000 in
theorem metX4_go : am_Met yX4_go cX4_go 3 none (4) (102) TX4_go := by
  refine am_met (own := RX4) (by decide +kernel) rfl kX4_go koX4_go 100 JX4_go ?_ ?_
  · intro live as M Ret h
    unfold TX4_go at h
    split at h
    · next n u =>
      refine ⟨Nat.le_of_ble_eq_true rfl, ?_⟩
      change am_wp _ _ _ _ [(0, Value.ref n), (1, Value.int u)] _ _
      obtain ⟨hmn, rfl, hr, h⟩ := h
      have hmn2 := hmn
      obtain ⟨i1, i2, rfl⟩ := hmn2
      repeat' (first | (with_reducible exact hmn) | apply And.intro | exact rfl | intro hx | (refine Exists.intro _ (And.intro rfl ?_)))
      all_goals try first | (with_reducible change am_tI _ _) | (change Ret _ _) | (change Ret _ _ _) | (change Exists _)
      all_goals try dsimp only at *
      all_goals try (with_reducible exact absurd ‹(1000 : Int64) = 0› am_z1000)
      exact ⟨_, _, rfl, rfl, rfl, hr.s.ny, g_sc.rf, hr⟩
    · exact h.elim
  · intro live as M0 Ret h k pc I hI L st M hi
    unfold TX4_go at h
    split at h
    · next n u =>
      obtain ⟨hmn, rfl, hr, h⟩ := h
      have hmn2 := hmn
      obtain ⟨i1, i2, rfl⟩ := hmn2
      change (match pc with | 5 => _ | _ => none) = _ at hI
      split at hI
      · cases hI
        obtain ⟨y, rfl, rfl, rfl, e1, e2, e3⟩ := hi
        by_cases hz : (40 : Int32) ≤ y
        · skip
          repeat' (first | apply And.intro | exact rfl | (intro hx; with_reducible exact absurd hz hx) | intro hx | (refine Exists.intro _ (And.intro rfl ?_)))
          all_goals try first | (with_reducible change am_tI _ _) | (change Ret _ _) | (change Ret _ _ _) | (change Exists _)
          all_goals try dsimp only at *
          all_goals try (with_reducible exact absurd ‹(1000 : Int64) = 0› am_z1000)
          all_goals exact h _ e2 e3
        · have hz2 := hz
          simp only [i_le, Int32.reduceToInt] at hz2
          have hy : am_in y 40 := ⟨e1, by omega⟩
          have hi := i_inc (x := y) (by omega) (by omega)
          repeat' (first | (with_reducible exact hmn) | (with_reducible exact hy) | (with_reducible exact e3) | apply And.intro | exact rfl | (intro hx; with_reducible exact absurd hx hz) | ((with_reducible change g_rI _); (with_reducible assumption)) | intro hx | (refine Exists.intro _ (And.intro rfl ?_)))
          all_goals try first | (with_reducible change am_tI _ _) | (change Ret _ _) | (change Ret _ _ _) | (change Exists _)
          all_goals try dsimp only at *
          all_goals try (with_reducible exact absurd ‹(1000 : Int64) = 0› am_z1000)
          · exact h _ e2 e3
          · exact ⟨_, am_lt_l (by omega), _, rfl, rfl, rfl, by omega, by (repeat' (first | (with_reducible exact g_sc.rf) | (with_reducible assumption) | ((with_reducible change g_sc _ (am_wI _ _ _ _)); refine g_sc.wI ?_ rfl) | ((with_reducible change g_sc _ (am_wJ _ _ _ _)); refine g_sc.wJ ?_ rfl) | ((with_reducible change g_sc _ (am_cI _ _ _)); refine g_sc.cI ?_ rfl) | ((with_reducible change g_sc _ (am_cJ _ _ _)); refine g_sc.cJ ?_ rfl) | (refine g_sc.tr ?_ (by with_reducible assumption)) | (refine g_sc.st ?_ (by with_reducible assumption)))), g_rI.w410 hx (by omega)⟩
      · cases hI
    · exact h.elim
theorem hy_X4_turnTo : yX4_turnTo.cls ≠ "java/lang/invoke/MethodHandle" ∧ yX4_turnTo.cls ≠ "java/lang/invoke/VarHandle" ∧ (parseMethodDescriptor yX4_turnTo.desc).map (fun d => d.parameters.length) = some 3 := ⟨by decide +kernel, by decide +kernel, by decide +kernel⟩
set_option maxRecDepth 100000 in
theorem wd_550 : Cond.methodLink "LearnLoans$Run" 52 yX4_turnTo ∈ am_ws := am_wt3 (List.mem_of_getElem? (i := 13) (by rfl)) (by decide +kernel)
set_option maxRecDepth 100000 in
theorem wd_551 : Cond.instanceMethod yX4_turnTo ∈ am_ws := am_wt3 (List.mem_of_getElem? (i := 14) (by rfl)) (by decide +kernel)
set_option maxRecDepth 100000 in
theorem wd_552 : Cond.selects "LearnLoans$Run" yX4_turnTo yX4_turnTo ∈ am_ws := am_wt3 (List.mem_of_getElem? (i := 15) (by rfl)) (by decide +kernel)
set_option maxRecDepth 100000 in
theorem wd_553 : Cond.code yX4_turnTo cX4_turnTo 5 none ∈ am_ws := am_wt3 (List.mem_of_getElem? (i := 16) (by rfl)) (by decide +kernel)
theorem hy_X4_layNumbers : yX4_layNumbers.cls ≠ "java/lang/invoke/MethodHandle" ∧ yX4_layNumbers.cls ≠ "java/lang/invoke/VarHandle" ∧ (parseMethodDescriptor yX4_layNumbers.desc).map (fun d => d.parameters.length) = some 1 := ⟨by decide +kernel, by decide +kernel, by decide +kernel⟩
set_option maxRecDepth 100000 in
theorem wd_558 : Cond.methodLink "LearnLoans$Run" 70 yX4_layNumbers ∈ am_ws := am_wt3 (List.mem_of_getElem? (i := 21) (by rfl)) (by decide +kernel)
set_option maxRecDepth 100000 in
theorem wd_494 : Cond.instanceMethod yX4_layNumbers ∈ am_ws := am_wt2 (List.mem_of_getElem? (i := 197) (by rfl)) (by decide +kernel)
set_option maxRecDepth 100000 in
theorem wd_495 : Cond.selects "LearnLoans$Run" yX4_layNumbers yX4_layNumbers ∈ am_ws := am_wt2 (List.mem_of_getElem? (i := 198) (by rfl)) (by decide +kernel)
set_option maxRecDepth 100000 in
theorem wd_496 : Cond.code yX4_layNumbers cX4_layNumbers 5 none ∈ am_ws := am_wt2 (List.mem_of_getElem? (i := 199) (by rfl)) (by decide +kernel)
def rwX4_begin : List dz_r := [(0, .aload_n 0, 1), (1, .iload_n 1, 1), (2, .putfield 42, 3), (5, .aload_n 0, 1), (6, .iload_n 2, 1), (7, .putfield 46, 3), (10, .aload_n 0, 1), (11, .iconst 0, 1), (12, .putfield 49, 3), (15, .aload_n 0, 1), (16, .iconst (-1), 1), (17, .iconst (-1), 1), (18, .lconst 0, 1), (19, .invokevirtual 52, 3), (22, .aload_n 0, 1), (23, .iconst 0, 1), (24, .putfield 56, 3), (27, .iconst 0, 1), (28, .istore_n 3, 1), (29, .iload_n 3, 1), (30, .aload_n 0, 1), (31, .getfield 12, 3), (34, .getfield 59, 3), (37, .getfield 63, 3), (40, .if_icmp .ge 80, 3), (43, .iload_n 3, 1), (44, .bipush 30, 2), (46, .if_icmp .ge 74, 3), (49, .aload_n 0, 1), (50, .getfield 12, 3), (53, .getfield 59, 3), (56, .iload_n 3, 1), (57, .iconst 0, 1), (58, .invokevirtual 66, 3), (61, .iload_n 1, 1), (62, .if_icmp .ne 52, 3), (65, .aload_n 0, 1), (66, .getfield 26, 3), (69, .aload_n 0, 1), (70, .getfield 56, 3), (73, .iload_n 3, 1), (74, .iastore, 1), (75, .aload_n 0, 1), (76, .dup, 1), (77, .getfield 56, 3), (80, .iconst 1, 1), (81, .iadd, 1), (82, .putfield 56, 3), (85, .iconst 0, 1), (86, .istore 4, 2), (88, .iload 4, 2), (90, .bipush 6, 2), (92, .if_icmp .ge 22, 3), (95, .aload_n 0, 1), (96, .getfield 22, 3), (99, .iload 4, 2), (101, .bipush 30, 2), (103, .imul, 1), (104, .iload_n 3, 1), (105, .iadd, 1), (106, .lconst 0, 1), (107, .lastore, 1), (108, .iinc 4 1, 3), (111, .goto (-23), 3), (114, .iinc 3 1, 3), (117, .goto (-88), 3), (120, .aload_n 0, 1), (121, .getfield 56, 3), (124, .ifCond .le 8, 3), (127, .aload_n 0, 1), (128, .iload_n 1, 1), (129, .invokevirtual 70, 3), (132, .return_, 1)]
theorem dzX4_begin : dz cX4_begin rwX4_begin := dz_all 0 (by decide +kernel)
def kX4_begin (live : am_E) (Ret : am_R) : am_code := [(0, am_aload 0 1), (1, am_iload 1 2), (2, am_putI live 4 8 5), (5, am_aload 0 6), (6, am_iload 2 7), (7, am_putI live 4 9 10), (10, am_aload 0 11), (11, am_const (.int 0) 12), (12, am_putI live 4 10 15), (15, am_aload 0 16), (16, am_const (.int (-1)) 17), (17, am_const (.int (-1)) 18), (18, am_const (.long 0) 19), (19, am_callV live 4 3 TX4_turnTo 22), (22, am_aload 0 23), (23, am_const (.int 0) 24), (24, am_putI live 4 7 27), (27, am_const (.int 0) 28), (28, am_istore 3 5 29), (29, am_iload 3 30), (30, am_aload 0 31), (31, am_getR live 4 0 34), (34, am_getR live 0 4 37), (37, am_getI live 3 2 40), (40, am_if2 (fun x y => y ≤ x) 120 43), (43, am_iload 3 44), (44, am_const (.int 30) 46), (46, am_if2 (fun x y => y ≤ x) 120 49), (49, am_aload 0 50), (50, am_getR live 4 0 53), (53, am_getR live 0 4 56), (56, am_iload 3 57), (57, am_const (.int 0) 58), (58, am_callV live 3 2 TX3_at 61), (61, am_iload 1 62), (62, am_if2 (fun x y => x = y) 65 114), (65, am_aload 0 66), (66, am_getR live 4 3 69), (69, am_aload 0 70), (70, am_getI live 4 7 73), (73, am_iload 3 74), (74, am_ast live 0 75), (75, am_aload 0 76), (76, am_dup 77), (77, am_getI live 4 7 80), (80, am_const (.int 1) 81), (81, am_i2 (fun x y => x + y) 82), (82, am_putI live 4 7 85), (85, am_const (.int 0) 86), (86, am_istore 4 5 88), (88, am_iload 4 90), (90, am_const (.int 6) 92), (92, am_if2 (fun x y => y ≤ x) 114 95), (95, am_aload 0 96), (96, am_getR live 4 2 99), (99, am_iload 4 101), (101, am_const (.int 30) 103), (103, am_i2 (fun x y => x * y) 104), (104, am_iload 3 105), (105, am_i2 (fun x y => x + y) 106), (106, am_const (.long 0) 107), (107, am_last live 1 108), (108, am_iinc 4 5 1 111), (111, am_goto 88), (114, am_iinc 3 5 1 117), (117, am_goto 29), (120, am_aload 0 121), (121, am_getI live 4 7 124), (124, am_if1 (fun x => x ≤ 0) 132 127), (127, am_aload 0 128), (128, am_iload 1 129), (129, am_callV live 4 1 TX4_layNumbers 132), (132, am_retV Ret)]
theorem koX4_begin (live : am_E) (Ret : am_R) : ∀ q ∈ kX4_begin live Ret, am_ok RX4 cX4_begin 5 none 3 72 live Ret q.1 q.2 :=
  am_kz dzX4_begin <|
  am_kd (fun d => ak_aload_n d rfl rfl) <|
  am_kd (fun d => ak_iload_n d rfl rfl) <|
  am_kd (fun d => ak_putI (C := RX4) (T := TX4) (N := 19) rfl inX4w tyX4_ok nmX4 (by decide) rfl rfl rfl rfl (by decide +kernel) wd_304 d rfl) <|
  am_kd (fun d => ak_aload_n d rfl rfl) <|
  am_kd (fun d => ak_iload_n d rfl rfl) <|
  am_kd (fun d => ak_putI (C := RX4) (T := TX4) (N := 19) rfl inX4w tyX4_ok nmX4 (by decide) rfl rfl rfl rfl (by decide +kernel) wd_305 d rfl) <|
  am_kd (fun d => ak_aload_n d rfl rfl) <|
  am_kd (fun d => ak_iconst d (by decide +kernel) rfl) <|
  am_kd (fun d => ak_putI (C := RX4) (T := TX4) (N := 19) rfl inX4w tyX4_ok nmX4 (by decide) rfl rfl rfl rfl (by decide +kernel) wd_306 d rfl) <|
  am_kd (fun d => ak_aload_n d rfl rfl) <|
  am_kd (fun d => ak_iconst d (by decide +kernel) rfl) <|
  am_kd (fun d => ak_iconst d (by decide +kernel) rfl) <|
  am_kd (fun d => ak_lconst d (by decide +kernel) rfl) <|
  am_kd (fun d => ak_callV (C := RX4) (F := TX4) (N := 19) metX4_turnTo rfl ⟨rfl, hy_X4_turnTo⟩ (am_w5 wd_550 wd_551 wd_552 wd_60 wd_553) (by decide) d rfl) <|
  am_kd (fun d => ak_aload_n d rfl rfl) <|
  am_kd (fun d => ak_iconst d (by decide +kernel) rfl) <|
  am_kd (fun d => ak_putI (C := RX4) (T := TX4) (N := 19) rfl inX4w tyX4_ok nmX4 (by decide) rfl rfl rfl rfl (by decide +kernel) wd_303 d rfl) <|
  am_kd (fun d => ak_iconst d (by decide +kernel) rfl) <|
  am_kd (fun d => ak_istore_n d rfl rfl) <|
  am_kd (fun d => ak_iload_n d rfl rfl) <|
  am_kd (fun d => ak_aload_n d rfl rfl) <|
  am_kd (fun d => ak_getR (C := RX4) (T := TX4) (N := 19) rfl inX4w (by decide) rfl rfl rfl wd_291 d rfl) <|
  am_kd (fun d => ak_getR (C := RX0) (T := TX0) (N := 13) rfl inX0w (by decide) rfl rfl rfl wd_206 d rfl) <|
  am_kd (fun d => ak_getI (C := RX3) (T := TX3) (N := 3) rfl inX3w (by decide) rfl rfl rfl wd_149 d rfl) <|
  am_kd (fun d => ak_icmp_ge d (by decide +kernel) rfl) <|
  am_kd (fun d => ak_iload_n d rfl rfl) <|
  am_kd (fun d => ak_bipush d (by decide +kernel) rfl) <|
  am_kd (fun d => ak_icmp_ge d (by decide +kernel) rfl) <|
  am_kd (fun d => ak_aload_n d rfl rfl) <|
  am_kd (fun d => ak_getR (C := RX4) (T := TX4) (N := 19) rfl inX4w (by decide) rfl rfl rfl wd_291 d rfl) <|
  am_kd (fun d => ak_getR (C := RX0) (T := TX0) (N := 13) rfl inX0w (by decide) rfl rfl rfl wd_206 d rfl) <|
  am_kd (fun d => ak_iload_n d rfl rfl) <|
  am_kd (fun d => ak_iconst d (by decide +kernel) rfl) <|
  am_kd (fun d => ak_callV (C := RX3) (F := TX3) (N := 3) metX3_at rfl ⟨rfl, hy_X3_at⟩ (am_w5 wd_502 wd_503 wd_504 wd_64 wd_505) (by decide) d rfl) <|
  am_kd (fun d => ak_iload_n d rfl rfl) <|
  am_kd (fun d => ak_icmp_ne d (by decide +kernel) rfl) <|
  am_kd (fun d => ak_aload_n d rfl rfl) <|
  am_kd (fun d => ak_getR (C := RX4) (T := TX4) (N := 19) rfl inX4w (by decide) rfl rfl rfl wd_299 d rfl) <|
  am_kd (fun d => ak_aload_n d rfl rfl) <|
  am_kd (fun d => ak_getI (C := RX4) (T := TX4) (N := 19) rfl inX4w (by decide) rfl rfl rfl wd_303 d rfl) <|
  am_kd (fun d => ak_iload_n d rfl rfl) <|
  am_kd (fun d => ak_iast (t := 0) (fun _ => rfl) rfl d rfl) <|
  am_kd (fun d => ak_aload_n d rfl rfl) <|
  am_kd (fun d => ak_dup d rfl) <|
  am_kd (fun d => ak_getI (C := RX4) (T := TX4) (N := 19) rfl inX4w (by decide) rfl rfl rfl wd_303 d rfl) <|
  am_kd (fun d => ak_iconst d (by decide +kernel) rfl) <|
  am_kd (fun d => ak_iadd d rfl) <|
  am_kd (fun d => ak_putI (C := RX4) (T := TX4) (N := 19) rfl inX4w tyX4_ok nmX4 (by decide) rfl rfl rfl rfl (by decide +kernel) wd_303 d rfl) <|
  am_kd (fun d => ak_iconst d (by decide +kernel) rfl) <|
  am_kd (fun d => ak_istore d rfl) <|
  am_kd (fun d => ak_iload d rfl) <|
  am_kd (fun d => ak_bipush d (by decide +kernel) rfl) <|
  am_kd (fun d => ak_icmp_ge d (by decide +kernel) rfl) <|
  am_kd (fun d => ak_aload_n d rfl rfl) <|
  am_kd (fun d => ak_getR (C := RX4) (T := TX4) (N := 19) rfl inX4w (by decide) rfl rfl rfl wd_296 d rfl) <|
  am_kd (fun d => ak_iload d rfl) <|
  am_kd (fun d => ak_bipush d (by decide +kernel) rfl) <|
  am_kd (fun d => ak_imul d rfl) <|
  am_kd (fun d => ak_iload_n d rfl rfl) <|
  am_kd (fun d => ak_iadd d rfl) <|
  am_kd (fun d => ak_lconst d (by decide +kernel) rfl) <|
  am_kd (fun d => ak_last (t := 1) (fun _ => rfl) rfl d rfl) <|
  am_kd (fun d => ak_iinc d (by decide +kernel) rfl) <|
  am_kd (fun d => ak_goto d (by decide +kernel)) <|
  am_kd (fun d => ak_iinc d (by decide +kernel) rfl) <|
  am_kd (fun d => ak_goto d (by decide +kernel)) <|
  am_kd (fun d => ak_aload_n d rfl rfl) <|
  am_kd (fun d => ak_getI (C := RX4) (T := TX4) (N := 19) rfl inX4w (by decide) rfl rfl rfl wd_303 d rfl) <|
  am_kd (fun d => ak_if_le d (by decide +kernel) rfl) <|
  am_kd (fun d => ak_aload_n d rfl rfl) <|
  am_kd (fun d => ak_iload_n d rfl rfl) <|
  am_kd (fun d => ak_callV (C := RX4) (F := TX4) (N := 19) metX4_layNumbers rfl ⟨rfl, hy_X4_layNumbers⟩ (am_w5 wd_558 wd_494 wd_495 wd_60 wd_496) (by decide) d rfl) <|
  am_kd (fun d => ak_retV d) <| am_kdn
def TX4_begin : am_T := fun live as M R => match as with
  | [.ref n, .int p, .int w] => am_mn live ∧ n = 4 ∧ am_in p 12 ∧ g_rI M ∧ ∀ M', g_sc M M' → g_rI M' → R none M'
  | _ => False
def JX4_begin : am_E → List Value → am_M → am_R → am_inv := fun live as M0 _ pc => match as with
  | [.ref n, .int p, .int w] => (match pc with
    | 29 => some ([0, 1, 3], fun k L st M => ∃ l : Int32, L = [(0, .ref 4), (1, .int p), (3, .int l)] ∧ st = [] ∧ k = ((31 - l.toInt).toNat * 2, 0) ∧ 0 ≤ l.toInt ∧ (M.1 4 7).toInt ≤ l.toInt ∧ g_sc M0 M ∧ g_rI M)
    | 88 => some ([0, 1, 3, 4], fun k L st M => ∃ l o : Int32, L = [(0, .ref 4), (1, .int p), (3, .int l), (4, .int o)] ∧ st = [] ∧ k = ((31 - l.toInt).toNat * 2 - 1, (6 - o.toInt).toNat) ∧ (0 ≤ l.toInt ∧ l.toInt < 30) ∧ (M.1 4 7).toInt ≤ l.toInt + 1 ∧ 0 ≤ o.toInt ∧ g_sc M0 M ∧ g_rI M)
    | _ => none)
  | _ => none
set_option maxRecDepth 100000 in
set_option maxHeartbeats 4000000 in
theorem metX4_begin : am_Met yX4_begin cX4_begin 5 none (3) (72) TX4_begin := by
  refine am_met (own := RX4) (by decide +kernel) rfl kX4_begin koX4_begin 150 JX4_begin ?_ ?_
  · intro live as M Ret h
    unfold TX4_begin at h
    split at h
    · next n p w =>
      refine ⟨Nat.le_of_ble_eq_true rfl, ?_⟩
      change am_wp _ _ _ _ [(0, Value.ref n), (1, Value.int p), (2, Value.int w)] _ _
      obtain ⟨hmn, rfl, hp, hr, h⟩ := h
      have hmn2 := hmn
      obtain ⟨i1, i2, rfl⟩ := hmn2
      repeat' (first | (with_reducible exact hmn) | (with_reducible exact hp) | apply And.intro | exact rfl | intro hx | (refine Exists.intro _ (And.intro rfl ?_)))
      all_goals try first | (with_reducible change am_tI _ _) | (change Ret _ _) | (change Ret _ _ _) | (change Exists _)
      all_goals try dsimp only at *
      all_goals try (with_reducible exact absurd ‹(1000 : Int64) = 0› am_z1000)
      all_goals first | (with_reducible exact hp.1) | (with_reducible exact hp.2) | exact hp.1 | exact hp.2 | skip
      refine ⟨_, _, rfl, rfl, rfl, by decide, by rw [am_wI_self]; decide, by (repeat' (first | (with_reducible exact g_sc.rf) | (with_reducible assumption) | ((with_reducible change g_sc _ (am_wI _ _ _ _)); refine g_sc.wI ?_ rfl) | ((with_reducible change g_sc _ (am_wJ _ _ _ _)); refine g_sc.wJ ?_ rfl) | ((with_reducible change g_sc _ (am_cI _ _ _)); refine g_sc.cI ?_ rfl) | ((with_reducible change g_sc _ (am_cJ _ _ _)); refine g_sc.cJ ?_ rfl) | (refine g_sc.tr ?_ (by with_reducible assumption)) | (refine g_sc.st ?_ (by with_reducible assumption)))), ?_⟩
      exact g_rI.w47 (g_rI.wJ (g_rI.wJ (g_rI.w413 (g_rI.w412 (g_rI.w411 (g_rI.w410 (g_rI.wF (g_rI.w48 hr hp) rfl) (by decide)) (Or.inl rfl)) (Or.inl rfl)) (g_i2 _)))) ⟨(), by decide, by decide⟩
    · exact h.elim
  · intro live as M0 Ret h k pc I hI L st M hi
    unfold TX4_begin at h
    split at h
    · next n p w =>
      obtain ⟨hmn, rfl, hp, hr, h⟩ := h
      have hmn2 := hmn
      obtain ⟨i1, i2, rfl⟩ := hmn2
      change (match pc with | 29 => _ | 88 => _ | _ => none) = _ at hI
      split at hI
      · cases hI
        obtain ⟨l, rfl, rfl, rfl, e1, e4, e2, e3⟩ := hi
        by_cases hz : (30 : Int32) ≤ l
        · skip
          repeat' (first | (with_reducible exact hmn) | (with_reducible exact hp) | (with_reducible exact e3) | apply And.intro | exact rfl | (intro hx; with_reducible exact absurd hz hx) | ((with_reducible change g_rI _); (with_reducible assumption)) | intro hx | (refine Exists.intro _ (And.intro rfl ?_)))
          all_goals try first | (with_reducible change am_tI _ _) | (change Ret _ _) | (change Ret _ _ _) | (change Exists _)
          all_goals try dsimp only at *
          all_goals try (with_reducible exact absurd ‹(1000 : Int64) = 0› am_z1000)
          all_goals exact h _ (by (repeat' (first | (with_reducible exact g_sc.rf) | (with_reducible assumption) | ((with_reducible change g_sc _ (am_wI _ _ _ _)); refine g_sc.wI ?_ rfl) | ((with_reducible change g_sc _ (am_wJ _ _ _ _)); refine g_sc.wJ ?_ rfl) | ((with_reducible change g_sc _ (am_cI _ _ _)); refine g_sc.cI ?_ rfl) | ((with_reducible change g_sc _ (am_cJ _ _ _)); refine g_sc.cJ ?_ rfl) | (refine g_sc.tr ?_ (by with_reducible assumption)) | (refine g_sc.st ?_ (by with_reducible assumption))))) (by (repeat' (first | (with_reducible assumption) | ((with_reducible change g_rI (am_wJ _ _ _ _)); refine g_rI.wJ ?_) | ((with_reducible change g_rI (am_cJ _ _ _)); refine g_rI.cJ ?_) | ((with_reducible change g_rI (am_wI _ 5 _ _)); refine g_rI.w5 ?_) | ((with_reducible change g_rI (am_wI _ _ _ _)); refine g_rI.wF ?_ rfl) | (refine g_rI.st ?_ (by with_reducible assumption)) | (refine g_rI.we ?_ (by with_reducible assumption)))))
        · have hz2 := hz
          simp only [i_le, Int32.reduceToInt] at hz2
          have hi := i_inc (x := l) (by omega) (by omega)
          have hl : am_in l 30 := ⟨e1, by omega⟩
          have hs := e3.s.sz
          have hsi := i_inc (x := M.1 4 7) (by omega) (by omega)
          have e47 : ∀ k v, (am_wI M 7 k v).1 4 7 = M.1 4 7 := fun k v => by rw [am_wI_1, if_neg (fun q => absurd q.1 (by decide))]
          have l7 : am_len 7 = 30 := rfl
          repeat' (first | (with_reducible exact hmn) | (with_reducible exact hp) | (with_reducible exact e3) | apply And.intro | exact rfl | (intro hx; with_reducible exact absurd hx hz) | ((with_reducible change g_rI _); (with_reducible assumption)) | intro hx | (refine Exists.intro _ (And.intro rfl ?_)))
          all_goals try first | (with_reducible change am_tI _ _) | (change Ret _ _) | (change Ret _ _ _) | (change Exists _)
          all_goals try dsimp only at *
          all_goals try (with_reducible exact absurd ‹(1000 : Int64) = 0› am_z1000)
          all_goals first
            | omega
            | (rw [l7]; omega)
            | exact h _ (by (repeat' (first | (with_reducible exact g_sc.rf) | (with_reducible assumption) | ((with_reducible change g_sc _ (am_wI _ _ _ _)); refine g_sc.wI ?_ rfl) | ((with_reducible change g_sc _ (am_wJ _ _ _ _)); refine g_sc.wJ ?_ rfl) | ((with_reducible change g_sc _ (am_cI _ _ _)); refine g_sc.cI ?_ rfl) | ((with_reducible change g_sc _ (am_cJ _ _ _)); refine g_sc.cJ ?_ rfl) | (refine g_sc.tr ?_ (by with_reducible assumption)) | (refine g_sc.st ?_ (by with_reducible assumption))))) (by (repeat' (first | (with_reducible assumption) | ((with_reducible change g_rI (am_wJ _ _ _ _)); refine g_rI.wJ ?_) | ((with_reducible change g_rI (am_cJ _ _ _)); refine g_rI.cJ ?_) | ((with_reducible change g_rI (am_wI _ 5 _ _)); refine g_rI.w5 ?_) | ((with_reducible change g_rI (am_wI _ _ _ _)); refine g_rI.wF ?_ rfl) | (refine g_rI.st ?_ (by with_reducible assumption)) | (refine g_rI.we ?_ (by with_reducible assumption)))))
            | exact ⟨_, am_lt_l (by omega), _, rfl, rfl, rfl, by omega, by omega, e2, e3⟩
            | skip
          refine ⟨_, am_lt_l (by omega), _, _, rfl, rfl, rfl, ⟨e1, by omega⟩, ?_, by decide, by (repeat' (first | (with_reducible exact g_sc.rf) | (with_reducible assumption) | ((with_reducible change g_sc _ (am_wI _ _ _ _)); refine g_sc.wI ?_ rfl) | ((with_reducible change g_sc _ (am_wJ _ _ _ _)); refine g_sc.wJ ?_ rfl) | ((with_reducible change g_sc _ (am_cI _ _ _)); refine g_sc.cI ?_ rfl) | ((with_reducible change g_sc _ (am_cJ _ _ _)); refine g_sc.cJ ?_ rfl) | (refine g_sc.tr ?_ (by with_reducible assumption)) | (refine g_sc.st ?_ (by with_reducible assumption)))), g_rI.w47 (g_rI.w7 e3 hl) ?_⟩
          · rw [am_wI_self, e47]; omega
          · rw [e47]; exact ⟨(), by omega, by omega⟩
      · cases hI
        obtain ⟨l, o, rfl, rfl, rfl, ⟨e1, e5⟩, e4, e6, e2, e3⟩ := hi
        have hi := i_inc (x := l) (by omega) (by omega)
        by_cases hz : (6 : Int32) ≤ o
        · skip
          repeat' (first | apply And.intro | exact rfl | (intro hx; with_reducible exact absurd hz hx) | intro hx | (refine Exists.intro _ (And.intro rfl ?_)))
          all_goals try first | (with_reducible change am_tI _ _) | (change Ret _ _) | (change Ret _ _ _) | (change Exists _)
          all_goals try dsimp only at *
          all_goals try (with_reducible exact absurd ‹(1000 : Int64) = 0› am_z1000)
          exact ⟨_, am_lt_l (by omega), _, rfl, rfl, rfl, by omega, by omega, e2, e3⟩
        · have hz2 := hz
          simp only [i_le, Int32.reduceToInt] at hz2
          have ho := i_inc (x := o) (by omega) (by omega)
          have e30 := i_mul (x := o) (y := 30) (by simp only [Int32.reduceToInt]; omega) (by simp only [Int32.reduceToInt]; omega)
          simp only [Int32.reduceToInt] at e30
          have e := i_add (x := o * 30) (y := l) (by rw [e30]; omega) (by rw [e30]; omega)
          have l6 : am_len 6 = 180 := rfl
          repeat' (first | apply And.intro | exact rfl | (intro hx; with_reducible exact absurd hx hz) | intro hx | (refine Exists.intro _ (And.intro rfl ?_)))
          all_goals try first | (with_reducible change am_tI _ _) | (change Ret _ _) | (change Ret _ _ _) | (change Exists _)
          all_goals try dsimp only at *
          all_goals try (with_reducible exact absurd ‹(1000 : Int64) = 0› am_z1000)
          all_goals first
            | omega
            | (rw [l6]; omega)
            | exact ⟨_, am_lt_r (by omega), _, _, rfl, rfl, rfl, ⟨e1, e5⟩, e4, by omega, by (repeat' (first | (with_reducible exact g_sc.rf) | (with_reducible assumption) | ((with_reducible change g_sc _ (am_wI _ _ _ _)); refine g_sc.wI ?_ rfl) | ((with_reducible change g_sc _ (am_wJ _ _ _ _)); refine g_sc.wJ ?_ rfl) | ((with_reducible change g_sc _ (am_cI _ _ _)); refine g_sc.cI ?_ rfl) | ((with_reducible change g_sc _ (am_cJ _ _ _)); refine g_sc.cJ ?_ rfl) | (refine g_sc.tr ?_ (by with_reducible assumption)) | (refine g_sc.st ?_ (by with_reducible assumption)))), by (repeat' (first | (with_reducible assumption) | ((with_reducible change g_rI (am_wJ _ _ _ _)); refine g_rI.wJ ?_) | ((with_reducible change g_rI (am_cJ _ _ _)); refine g_rI.cJ ?_) | ((with_reducible change g_rI (am_wI _ 5 _ _)); refine g_rI.w5 ?_) | ((with_reducible change g_rI (am_wI _ _ _ _)); refine g_rI.wF ?_ rfl) | (refine g_rI.st ?_ (by with_reducible assumption)) | (refine g_rI.we ?_ (by with_reducible assumption))))⟩
            | skip
      · cases hI
    · exact h.elim
