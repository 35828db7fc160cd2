/-! Ways: what is safe of them -/
set_option maxRecDepth 100000 in
theorem wd_361 : Cond.fieldLink "LearnLoans$Ways" 32 "LearnLoans$Ways" "mean" "J" ∈ am_ws := am_wt2 (List.mem_of_getElem? (i := 64) (by rfl)) (by decide +kernel)
set_option maxRecDepth 100000 in
theorem wd_367 : Cond.fieldLink "LearnLoans$Ways" 36 "LearnLoans$Ways" "neve\x72" "J" ∈ am_ws := am_wt2 (List.mem_of_getElem? (i := 70) (by rfl)) (by decide +kernel)
set_option maxRecDepth 100000 in
theorem wd_363 : Cond.fieldLink "LearnLoans$Ways" 41 "LearnLoans$Ways" "least" "J" ∈ am_ws := am_wt2 (List.mem_of_getElem? (i := 66) (by rfl)) (by decide +kernel)
set_option maxRecDepth 100000 in
theorem wd_798 : Cond.methodLink "LearnLoans$Ways" 93 Lib.MathLoose.min_long.x ∈ am_ws := am_wt4 (List.mem_of_getElem? (i := 21) (by rfl)) (by decide +kernel)
set_option maxRecDepth 100000 in
theorem wd_365 : Cond.fieldLink "LearnLoans$Ways" 44 "LearnLoans$Ways" "greatest" "J" ∈ am_ws := am_wt2 (List.mem_of_getElem? (i := 68) (by rfl)) (by decide +kernel)
set_option maxRecDepth 100000 in
theorem wd_799 : Cond.methodLink "LearnLoans$Ways" 99 Lib.MathLoose.max_long.x ∈ am_ws := am_wt4 (List.mem_of_getElem? (i := 22) (by rfl)) (by decide +kernel)
def rwX6_end : List dz_r := [(0, .aload_n 0, 1), (1, .dup, 1), (2, .getfield 32, 3), (5, .lload_n 1, 1), (6, .lload_n 3, 1), (7, .lmul, 1), (8, .ladd, 1), (9, .putfield 32, 3), (12, .aload_n 0, 1), (13, .dup, 1), (14, .getfield 36, 3), (17, .lload_n 1, 1), (18, .lload 5, 2), (20, .lmul, 1), (21, .ladd, 1), (22, .putfield 36, 3), (25, .aload_n 0, 1), (26, .aload_n 0, 1), (27, .getfield 41, 3), (30, .lload_n 3, 1), (31, .invokestatic 93, 3), (34, .putfield 41, 3), (37, .aload_n 0, 1), (38, .aload_n 0, 1), (39, .getfield 44, 3), (42, .lload_n 3, 1), (43, .invokestatic 99, 3), (46, .putfield 44, 3), (49, .return_, 1)]
theorem dzX6_end : dz cX6_end rwX6_end := dz_all 0 (by decide +kernel)
def kX6_end (live : am_E) (Ret : am_R) : am_code := [(0, am_aload 0 1), (1, am_dup 2), (2, am_getJ live 6 5 5), (5, am_lload 1 6), (6, am_lload 3 7), (7, am_l2 (fun x y => x * y) 8), (8, am_l2 (fun x y => x + y) 9), (9, am_putJ live 6 5 12), (12, am_aload 0 13), (13, am_dup 14), (14, am_getJ live 6 8 17), (17, am_lload 1 18), (18, am_lload 5 20), (20, am_l2 (fun x y => x * y) 21), (21, am_l2 (fun x y => x + y) 22), (22, am_putJ live 6 8 25), (25, am_aload 0 26), (26, am_aload 0 27), (27, am_getJ live 6 6 30), (30, am_lload 3 31), (31, am_mathl (fun x y => if y < x then y else x) 23 34), (34, am_putJ live 6 6 37), (37, am_aload 0 38), (38, am_aload 0 39), (39, am_getJ live 6 7 42), (42, am_lload 3 43), (43, am_mathl (fun x y => if y < x then x else y) 23 46), (46, am_putJ live 6 7 49), (49, am_retV Ret)]
theorem koX6_end (live : am_E) (Ret : am_R) : ∀ q ∈ kX6_end live Ret, am_ok RX6 cX6_end 7 none 1 23 live Ret q.1 q.2 :=
  am_kz dzX6_end <|
  am_kd (fun d => ak_aload_n d rfl rfl) <|
  am_kd (fun d => ak_dup d rfl) <|
  am_kd (fun d => ak_getJ (C := RX6) (T := TX6) (N := 9) rfl inX6w (by decide) rfl rfl rfl wd_361 d rfl) <|
  am_kd (fun d => ak_lload_n d rfl rfl) <|
  am_kd (fun d => ak_lload_n d rfl rfl) <|
  am_kd (fun d => ak_lmul d rfl) <|
  am_kd (fun d => ak_ladd d rfl) <|
  am_kd (fun d => ak_putJ (C := RX6) (T := TX6) (N := 9) rfl inX6w tyX6_ok nmX6 (by decide) rfl rfl rfl rfl (by decide +kernel) wd_361 d rfl) <|
  am_kd (fun d => ak_aload_n d rfl rfl) <|
  am_kd (fun d => ak_dup d rfl) <|
  am_kd (fun d => ak_getJ (C := RX6) (T := TX6) (N := 9) rfl inX6w (by decide) rfl rfl rfl wd_367 d rfl) <|
  am_kd (fun d => ak_lload_n d rfl rfl) <|
  am_kd (fun d => ak_lload d rfl) <|
  am_kd (fun d => ak_lmul d rfl) <|
  am_kd (fun d => ak_ladd d rfl) <|
  am_kd (fun d => ak_putJ (C := RX6) (T := TX6) (N := 9) rfl inX6w tyX6_ok nmX6 (by decide) rfl rfl rfl rfl (by decide +kernel) wd_367 d rfl) <|
  am_kd (fun d => ak_aload_n d rfl rfl) <|
  am_kd (fun d => ak_aload_n d rfl rfl) <|
  am_kd (fun d => ak_getJ (C := RX6) (T := TX6) (N := 9) rfl inX6w (by decide) rfl rfl rfl wd_363 d rfl) <|
  am_kd (fun d => ak_lload_n d rfl rfl) <|
  am_kd (fun d => ak_lmin (am_w4 wd_798 wd_608 wd_68 wd_609) (by decide) d rfl) <|
  am_kd (fun d => ak_putJ (C := RX6) (T := TX6) (N := 9) rfl inX6w tyX6_ok nmX6 (by decide) rfl rfl rfl rfl (by decide +kernel) wd_363 d rfl) <|
  am_kd (fun d => ak_aload_n d rfl rfl) <|
  am_kd (fun d => ak_aload_n d rfl rfl) <|
  am_kd (fun d => ak_getJ (C := RX6) (T := TX6) (N := 9) rfl inX6w (by decide) rfl rfl rfl wd_365 d rfl) <|
  am_kd (fun d => ak_lload_n d rfl rfl) <|
  am_kd (fun d => ak_lmax (am_w4 wd_799 wd_611 wd_68 wd_612) (by decide) d rfl) <|
  am_kd (fun d => ak_putJ (C := RX6) (T := TX6) (N := 9) rfl inX6w tyX6_ok nmX6 (by decide) rfl rfl rfl rfl (by decide +kernel) wd_365 d rfl) <|
  am_kd (fun d => ak_retV d) <| am_kdn
def TX6_end : am_T := fun live as M R => match as with
  | [.ref n, .long c, .long t, .long l] => am_mn live ∧ n = 2 ∧ ∀ M', g_we M M' → R none M'
  | _ => False
theorem g_we.rf {M : am_M} : g_we M M := ⟨(), rfl, fun _ _ _ => rfl⟩
theorem g_we.w {M M' : am_M} {k : Nat} {v : Int64} (h : g_we M M') : g_we M (am_wJ M' 2 k v) := by
  obtain ⟨-, h1, h2⟩ := h
  refine ⟨(), h1, fun a b z => ?_⟩
  rw [am_wJ_1, if_neg (fun q => z q.1)]
  exact h2 a b z
set_option maxRecDepth 100000 in
set_option maxHeartbeats 4000000 in
theorem metX6_end : am_Met yX6_end cX6_end 7 none (1) (23) TX6_end := by
  refine am_met (own := RX6) (by decide +kernel) rfl kX6_end koX6_end 100 (fun _ _ _ _ _ => none) (fun live as M Ret h => ?_) (fun _ _ _ _ _ _ _ _ hI => by cases hI)
  unfold TX6_end at h
  split at h
  · next n c t l =>
    refine ⟨Nat.le_of_ble_eq_true rfl, ?_⟩
    change am_wp _ _ _ _ [(0, Value.ref n), (1, Value.long c), (3, Value.long t), (5, Value.long l)] _ _
    obtain ⟨⟨i1, i2, rfl⟩, rfl, h⟩ := h
    repeat' (first | apply And.intro | exact rfl | intro hx | (refine Exists.intro _ (And.intro rfl ?_)))
    all_goals try first | (with_reducible change am_tI _ _) | (change Ret _ _) | (change Ret _ _ _) | (change Exists _)
    all_goals try dsimp only at *
    all_goals try (with_reducible exact absurd ‹(1000 : Int64) = 0› am_z1000)
    exact h _ (g_we.rf.w.w.w.w)
  · exact h.elim
set_option maxRecDepth 100000 in
theorem wd_355 : Cond.fieldLink "LearnLoans$Ways" 12 "LearnLoans$Ways" "run" "LLearnLoans$Run;" ∈ am_ws := am_wt2 (List.mem_of_getElem? (i := 58) (by rfl)) (by decide +kernel)
set_option maxRecDepth 100000 in
theorem wd_357 : Cond.fieldLink "LearnLoans$Ways" 18 "LearnLoans$Ways" "owedAhead" "[J" ∈ am_ws := am_wt2 (List.mem_of_getElem? (i := 60) (by rfl)) (by decide +kernel)
set_option maxRecDepth 100000 in
theorem wd_297 : Cond.fieldLink "LearnLoans$Ways" 55 "LearnLoans$Run" "sums" "[J" ∈ am_ws := am_wt2 (List.mem_of_getElem? (i := 0) (by rfl)) (by decide +kernel)
set_option maxRecDepth 100000 in
theorem wd_787 : Cond.methodLink "LearnLoans$Ways" 58 arraycopyName ∈ am_ws := am_wt4 (List.mem_of_getElem? (i := 10) (by rfl)) (by decide +kernel)
set_option maxRecDepth 100000 in
theorem wd_360 : Cond.fieldLink "LearnLoans$Ways" 29 "LearnLoans$Ways" "pence" "I" ∈ am_ws := am_wt2 (List.mem_of_getElem? (i := 63) (by rfl)) (by decide +kernel)
set_option maxRecDepth 100000 in
theorem wd_791 : Cond.methodLink "LearnLoans$Ways" 68 yX4_suppose ∈ am_ws := am_wt4 (List.mem_of_getElem? (i := 14) (by rfl)) (by decide +kernel)
set_option maxRecDepth 100000 in
theorem wd_358 : Cond.fieldLink "LearnLoans$Ways" 22 "LearnLoans$Ways" "yea\x72" "I" ∈ am_ws := am_wt2 (List.mem_of_getElem? (i := 61) (by rfl)) (by decide +kernel)
set_option maxRecDepth 100000 in
theorem wd_792 : Cond.methodLink "LearnLoans$Ways" 72 yX4_turn ∈ am_ws := am_wt4 (List.mem_of_getElem? (i := 15) (by rfl)) (by decide +kernel)
theorem hy_X4_together : yX4_together.cls ≠ "java/lang/invoke/MethodHandle" ∧ yX4_together.cls ≠ "java/lang/invoke/VarHandle" ∧ (parseMethodDescriptor yX4_together.desc).map (fun d => d.parameters.length) = some 1 := ⟨by decide +kernel, by decide +kernel, by decide +kernel⟩
set_option maxRecDepth 100000 in
theorem wd_793 : Cond.methodLink "LearnLoans$Ways" 75 yX4_together ∈ am_ws := am_wt4 (List.mem_of_getElem? (i := 16) (by rfl)) (by decide +kernel)
set_option maxRecDepth 100000 in
theorem wd_650 : Cond.instanceMethod yX4_together ∈ am_ws := am_wt3 (List.mem_of_getElem? (i := 113) (by rfl)) (by decide +kernel)
set_option maxRecDepth 100000 in
theorem wd_651 : Cond.selects "LearnLoans$Run" yX4_together yX4_together ∈ am_ws := am_wt3 (List.mem_of_getElem? (i := 114) (by rfl)) (by decide +kernel)
set_option maxRecDepth 100000 in
theorem wd_652 : Cond.code yX4_together cX4_together 5 (some .long) ∈ am_ws := am_wt3 (List.mem_of_getElem? (i := 115) (by rfl)) (by decide +kernel)
set_option maxRecDepth 100000 in
theorem wd_359 : Cond.fieldLink "LearnLoans$Ways" 26 "LearnLoans$Ways" "years" "I" ∈ am_ws := am_wt2 (List.mem_of_getElem? (i := 62) (by rfl)) (by decide +kernel)
theorem hy_X6_end : yX6_end.cls ≠ "java/lang/invoke/MethodHandle" ∧ yX6_end.cls ≠ "java/lang/invoke/VarHandle" ∧ (parseMethodDescriptor yX6_end.desc).map (fun d => d.parameters.length) = some 3 := ⟨by decide +kernel, by decide +kernel, by decide +kernel⟩
set_option maxRecDepth 100000 in
theorem wd_794 : Cond.methodLink "LearnLoans$Ways" 79 yX6_end ∈ am_ws := am_wt4 (List.mem_of_getElem? (i := 17) (by rfl)) (by decide +kernel)
set_option maxRecDepth 100000 in
theorem wd_796 : Cond.instanceMethod yX6_end ∈ am_ws := am_wt4 (List.mem_of_getElem? (i := 19) (by rfl)) (by decide +kernel)
set_option maxRecDepth 100000 in
theorem wd_25 : Cond.selects "LearnLoans$Ways" yX6_end yX6_end ∈ am_ws := am_wsi (List.mem_of_getElem? (i := 25) (by rfl)) (by decide +kernel)
set_option maxRecDepth 100000 in
theorem wd_59 : Cond.initialized "LearnLoans$Ways" ∈ am_ws := am_wt1 (List.mem_of_getElem? (i := 2) (by rfl)) (by decide +kernel)
set_option maxRecDepth 100000 in
theorem wd_797 : Cond.code yX6_end cX6_end 7 none ∈ am_ws := am_wt4 (List.mem_of_getElem? (i := 20) (by rfl)) (by decide +kernel)
set_option maxRecDepth 100000 in
theorem wd_293 : Cond.fieldLink "LearnLoans$Ways" 83 "LearnLoans$Run" "house" "LLearnLoans$House;" ∈ am_ws := am_wt1 (List.mem_of_getElem? (i := 236) (by rfl)) (by decide +kernel)
set_option maxRecDepth 100000 in
theorem wd_222 : Cond.fieldLink "LearnLoans$Ways" 87 "LearnLoans$House" "chances" "[I" ∈ am_ws := am_wt1 (List.mem_of_getElem? (i := 165) (by rfl)) (by decide +kernel)
theorem hy_X6_walk : yX6_walk.cls ≠ "java/lang/invoke/MethodHandle" ∧ yX6_walk.cls ≠ "java/lang/invoke/VarHandle" ∧ (parseMethodDescriptor yX6_walk.desc).map (fun d => d.parameters.length) = some 6 := ⟨by decide +kernel, by decide +kernel, by decide +kernel⟩
set_option maxRecDepth 100000 in
theorem wd_788 : Cond.methodLink "LearnLoans$Ways" 64 yX6_walk ∈ am_ws := am_wt4 (List.mem_of_getElem? (i := 11) (by rfl)) (by decide +kernel)
set_option maxRecDepth 100000 in
theorem wd_789 : Cond.static yX6_walk ∈ am_ws := am_wt4 (List.mem_of_getElem? (i := 12) (by rfl)) (by decide +kernel)
set_option maxRecDepth 100000 in
theorem wd_790 : Cond.code yX6_walk cX6_walk 14 none ∈ am_ws := am_wt4 (List.mem_of_getElem? (i := 13) (by rfl)) (by decide +kernel)
def rwX6_walk : List dz_r := [(0, .iload_n 1, 1), (1, .iconst 5, 1), (2, .if_icmp .lt 4, 3), (5, .return_, 1), (6, .aload_n 0, 1), (7, .getfield 12, 3), (10, .astore 9, 2), (12, .aload_n 0, 1), (13, .getfield 18, 3), (16, .iload_n 1, 1), (17, .bipush 30, 2), (19, .imul, 1), (20, .aload 9, 2), (22, .getfield 55, 3), (25, .iconst 0, 1), (26, .bipush 30, 2), (28, .invokestatic 58, 3), (31, .iload_n 2, 1), (32, .ifCond .ne 10, 3), (35, .aload_n 0, 1), (36, .getfield 29, 3), (39, .goto 13, 3), (42, .iload_n 2, 1), (43, .iconst 1, 1), (44, .if_icmp .ne 7, 3), (47, .iconst 0, 1), (48, .goto 4, 3), (51, .iconst (-1), 1), (52, .istore 10, 2), (54, .aload 9, 2), (56, .iload 10, 2), (58, .iload_n 2, 1), (59, .iconst 2, 1), (60, .if_icmp .ne 7, 3), (63, .iconst 1, 1), (64, .goto 4, 3), (67, .iconst 0, 1), (68, .iload_n 2, 1), (69, .iconst 3, 1), (70, .if_icmp .ne 7, 3), (73, .iconst 1, 1), (74, .goto 4, 3), (77, .iconst 0, 1), (78, .invokevirtual 68, 3), (81, .aload 9, 2), (83, .aload_n 0, 1), (84, .getfield 22, 3), (87, .iload_n 1, 1), (88, .iadd, 1), (89, .invokevirtual 72, 3), (92, .lload 5, 2), (94, .aload 9, 2), (96, .iconst 1, 1), (97, .invokevirtual 75, 3), (100, .ladd, 1), (101, .lstore 5, 2), (103, .lload 7, 2), (105, .aload 9, 2), (107, .iconst 2, 1), (108, .invokevirtual 75, 3), (111, .ladd, 1), (112, .lstore 7, 2), (114, .iload_n 1, 1), (115, .iconst 1, 1), (116, .iadd, 1), (117, .istore 11, 2), (119, .iload 11, 2), (121, .aload_n 0, 1), (122, .getfield 26, 3), (125, .if_icmp .ge 9, 3), (128, .iload 11, 2), (130, .iconst 5, 1), (131, .if_icmp .lt 20, 3), (134, .aload_n 0, 1), (135, .lload_n 3, 1), (136, .lload 5, 2), (138, .lload 7, 2), (140, .aload 9, 2), (142, .iconst 0, 1), (143, .invokevirtual 75, 3), (146, .ladd, 1), (147, .invokevirtual 79, 3), (150, .return_, 1), (151, .aload 9, 2), (153, .getfield 55, 3), (156, .iconst 0, 1), (157, .aload_n 0, 1), (158, .getfield 18, 3), (161, .iload 11, 2), (163, .bipush 30, 2), (165, .imul, 1), (166, .bipush 30, 2), (168, .invokestatic 58, 3), (171, .iconst 0, 1), (172, .istore 12, 2), (174, .iload 12, 2), (176, .iconst 4, 1), (177, .if_icmp .ge 48, 3), (180, .aload 9, 2), (182, .getfield 83, 3), (185, .getfield 87, 3), (188, .iload_n 2, 1), (189, .iconst 4, 1), (190, .imul, 1), (191, .iload 12, 2), (193, .iadd, 1), (194, .iaload, 1), (195, .istore 13, 2), (197, .iload 13, 2), (199, .ifCond .le 20, 3), (202, .aload_n 0, 1), (203, .iload 11, 2), (205, .iload 12, 2), (207, .lload_n 3, 1), (208, .iload 13, 2), (210, .i2l, 1), (211, .lmul, 1), (212, .lload 5, 2), (214, .lload 7, 2), (216, .invokestatic 64, 3), (219, .iinc 12 1, 3), (222, .goto (-48), 3), (225, .return_, 1)]
theorem dzX6_walk : dz cX6_walk rwX6_walk := dz_all 0 (by decide +kernel)
def kX6_walk (d rw lw : Nat) (Tw : am_T) (live : am_E) (Ret : am_R) : am_code := [(0, am_iload 1 1), (1, am_const (.int 5) 2), (2, am_if2 (fun x y => x < y) 6 5), (5, am_retV Ret), (6, am_aload 0 7), (7, am_getR live 6 0 10), (10, am_astore 9 14 12), (12, am_aload 0 13), (13, am_getR live 6 1 16), (16, am_iload 1 17), (17, am_const (.int 30) 19), (19, am_i2 (fun x y => x * y) 20), (20, am_aload 9 22), (22, am_getR live 4 2 25), (25, am_const (.int 0) 26), (26, am_const (.int 30) 28), (28, am_copyJ live (40 * d + 110) 31), (31, am_iload 2 32), (32, am_if1 (fun x => x = 0) 35 42), (35, am_aload 0 36), (36, am_getI live 6 4 39), (39, am_goto 52), (42, am_iload 2 43), (43, am_const (.int 1) 44), (44, am_if2 (fun x y => x = y) 47 51), (47, am_const (.int 0) 48), (48, am_goto 52), (51, am_const (.int (-1)) 52), (52, am_istore 10 14 54), (54, am_aload 9 56), (56, am_iload 10 58), (58, am_iload 2 59), (59, am_const (.int 2) 60), (60, am_if2 (fun x y => x = y) 63 67), (63, am_const (.int 1) 64), (64, am_goto 68), (67, am_const (.int 0) 68), (68, am_iload 2 69), (69, am_const (.int 3) 70), (70, am_if2 (fun x y => x = y) 73 77), (73, am_const (.int 1) 74), (74, am_goto 78), (77, am_const (.int 0) 78), (78, am_callV live 4 3 TX4_suppose 81), (81, am_aload 9 83), (83, am_aload 0 84), (84, am_getI live 6 2 87), (87, am_iload 1 88), (88, am_i2 (fun x y => x + y) 89), (89, am_callV live 4 1 TX4_turn 92), (92, am_lload 5 94), (94, am_aload 9 96), (96, am_const (.int 1) 97), (97, am_callV live 4 1 TX4_together 100), (100, am_l2 (fun x y => x + y) 101), (101, am_lstore 5 14 103), (103, am_lload 7 105), (105, am_aload 9 107), (107, am_const (.int 2) 108), (108, am_callV live 4 1 TX4_together 111), (111, am_l2 (fun x y => x + y) 112), (112, am_lstore 7 14 114), (114, am_iload 1 115), (115, am_const (.int 1) 116), (116, am_i2 (fun x y => x + y) 117), (117, am_istore 11 14 119), (119, am_iload 11 121), (121, am_aload 0 122), (122, am_getI live 6 3 125), (125, am_if2 (fun x y => y ≤ x) 134 128), (128, am_iload 11 130), (130, am_const (.int 5) 131), (131, am_if2 (fun x y => x < y) 151 134), (134, am_aload 0 135), (135, am_lload 3 136), (136, am_lload 5 138), (138, am_lload 7 140), (140, am_aload 9 142), (142, am_const (.int 0) 143), (143, am_callV live 4 1 TX4_together 146), (146, am_l2 (fun x y => x + y) 147), (147, am_callV live 6 3 TX6_end 150), (150, am_retV Ret), (151, am_aload 9 153), (153, am_getR live 4 2 156), (156, am_const (.int 0) 157), (157, am_aload 0 158), (158, am_getR live 6 1 161), (161, am_iload 11 163), (163, am_const (.int 30) 165), (165, am_i2 (fun x y => x * y) 166), (166, am_const (.int 30) 168), (168, am_copyJ live (40 * d + 110) 171), (171, am_const (.int 0) 172), (172, am_istore 12 14 174), (174, am_iload 12 176), (176, am_const (.int 4) 177), (177, am_if2 (fun x y => y ≤ x) 225 180), (180, am_aload 9 182), (182, am_getR live 4 0 185), (185, am_getR live 0 10 188), (188, am_iload 2 189), (189, am_const (.int 4) 190), (190, am_i2 (fun x y => x * y) 191), (191, am_iload 12 193), (193, am_i2 (fun x y => x + y) 194), (194, am_ald live 0 195), (195, am_istore 13 14 197), (197, am_iload 13 199), (199, am_if1 (fun x => x ≤ 0) 219 202), (202, am_aload 0 203), (203, am_iload 11 205), (205, am_iload 12 207), (207, am_lload 3 208), (208, am_iload 13 210), (210, am_i2l 211), (211, am_l2 (fun x y => x * y) 212), (212, am_lload 5 214), (214, am_lload 7 216), (216, am_callS live 6 Tw 219), (219, am_iinc 12 14 1 222), (222, am_goto 174), (225, am_retV Ret)]
theorem koX6_walk (d rw lw : Nat) (Tw : am_T) (hW : am_Met yX6_walk cX6_walk 14 none rw lw Tw) (hrc : rw + 1 ≤ d + 4 ∧ lw + 33 ≤ 40 * d + 110) (live : am_E) (Ret : am_R) : ∀ q ∈ kX6_walk d rw lw Tw live Ret, am_ok RX6 cX6_walk 14 none (d + 4) (40 * d + 110) live Ret q.1 q.2 :=
  am_kz dzX6_walk <|
  am_kd (fun d => ak_iload_n d rfl rfl) <|
  am_kd (fun d => ak_iconst d (by decide +kernel) rfl) <|
  am_kd (fun d => ak_icmp_lt d (by decide +kernel) rfl) <|
  am_kd (fun d => ak_retV d) <|
  am_kd (fun d => ak_aload_n d rfl rfl) <|
  am_kd (fun d => ak_getR (C := RX6) (T := TX6) (N := 9) rfl inX6w (by decide) rfl rfl rfl wd_355 d rfl) <|
  am_kd (fun d => ak_astore d rfl) <|
  am_kd (fun d => ak_aload_n d rfl rfl) <|
  am_kd (fun d => ak_getR (C := RX6) (T := TX6) (N := 9) rfl inX6w (by decide) rfl rfl rfl wd_357 d rfl) <|
  am_kd (fun d => ak_iload_n d rfl rfl) <|
  am_kd (fun d => ak_bipush d (by decide +kernel) rfl) <|
  am_kd (fun d => ak_imul d rfl) <|
  am_kd (fun d => ak_aload d rfl) <|
  am_kd (fun d => ak_getR (C := RX4) (T := TX4) (N := 19) rfl inX4w (by decide) rfl rfl rfl wd_297 d rfl) <|
  am_kd (fun d => ak_iconst d (by decide +kernel) rfl) <|
  am_kd (fun d => ak_bipush d (by decide +kernel) rfl) <|
  am_kd (fun d => ak_copyJ (am_w4 wd_787 wd_501 wd_500 wd_69) (by omega) d rfl) <|
  am_kd (fun d => ak_iload_n d rfl rfl) <|
  am_kd (fun d => ak_if_ne d (by decide +kernel) rfl) <|
  am_kd (fun d => ak_aload_n d rfl rfl) <|
  am_kd (fun d => ak_getI (C := RX6) (T := TX6) (N := 9) rfl inX6w (by decide) rfl rfl rfl wd_360 d rfl) <|
  am_kd (fun d => ak_goto d (by decide +kernel)) <|
  am_kd (fun d => ak_iload_n d rfl rfl) <|
  am_kd (fun d => ak_iconst d (by decide +kernel) rfl) <|
  am_kd (fun d => ak_icmp_ne d (by decide +kernel) rfl) <|
  am_kd (fun d => ak_iconst d (by decide +kernel) rfl) <|
  am_kd (fun d => ak_goto d (by decide +kernel)) <|
  am_kd (fun d => ak_iconst d (by decide +kernel) rfl) <|
  am_kd (fun d => ak_istore d rfl) <|
  am_kd (fun d => ak_aload d rfl) <|
  am_kd (fun d => ak_iload d rfl) <|
  am_kd (fun d => ak_iload_n d rfl rfl) <|
  am_kd (fun d => ak_iconst d (by decide +kernel) rfl) <|
  am_kd (fun d => ak_icmp_ne d (by decide +kernel) rfl) <|
  am_kd (fun d => ak_iconst d (by decide +kernel) rfl) <|
  am_kd (fun d => ak_goto d (by decide +kernel)) <|
  am_kd (fun d => ak_iconst d (by decide +kernel) rfl) <|
  am_kd (fun d => ak_iload_n d rfl rfl) <|
  am_kd (fun d => ak_iconst d (by decide +kernel) rfl) <|
  am_kd (fun d => ak_icmp_ne d (by decide +kernel) rfl) <|
  am_kd (fun d => ak_iconst d (by decide +kernel) rfl) <|
  am_kd (fun d => ak_goto d (by decide +kernel)) <|
  am_kd (fun d => ak_iconst d (by decide +kernel) rfl) <|
  am_kd (fun d => ak_callV (C := RX4) (F := TX4) (N := 19) metX4_suppose rfl ⟨rfl, hy_X4_suppose⟩ (am_w5 wd_791 wd_568 wd_569 wd_60 wd_570) (by omega) d rfl) <|
  am_kd (fun d => ak_aload d rfl) <|
  am_kd (fun d => ak_aload_n d rfl rfl) <|
  am_kd (fun d => ak_getI (C := RX6) (T := TX6) (N := 9) rfl inX6w (by decide) rfl rfl rfl wd_358 d rfl) <|
  am_kd (fun d => ak_iload_n d rfl rfl) <|
  am_kd (fun d => ak_iadd d rfl) <|
  am_kd (fun d => ak_callV (C := RX4) (F := TX4) (N := 19) metX4_turn rfl ⟨rfl, hy_X4_turn⟩ (am_w5 wd_792 wd_573 wd_574 wd_60 wd_575) (by omega) d rfl) <|
  am_kd (fun d => ak_lload d rfl) <|
  am_kd (fun d => ak_aload d rfl) <|
  am_kd (fun d => ak_iconst d (by decide +kernel) rfl) <|
  am_kd (fun d => ak_callV (C := RX4) (F := TX4) (N := 19) metX4_together rfl ⟨rfl, hy_X4_together⟩ (am_w5 wd_793 wd_650 wd_651 wd_60 wd_652) (by omega) d rfl) <|
  am_kd (fun d => ak_ladd d rfl) <|
  am_kd (fun d => ak_lstore d rfl) <|
  am_kd (fun d => ak_lload d rfl) <|
  am_kd (fun d => ak_aload d rfl) <|
  am_kd (fun d => ak_iconst d (by decide +kernel) rfl) <|
  am_kd (fun d => ak_callV (C := RX4) (F := TX4) (N := 19) metX4_together rfl ⟨rfl, hy_X4_together⟩ (am_w5 wd_793 wd_650 wd_651 wd_60 wd_652) (by omega) d rfl) <|
  am_kd (fun d => ak_ladd d rfl) <|
  am_kd (fun d => ak_lstore d rfl) <|
  am_kd (fun d => ak_iload_n d rfl rfl) <|
  am_kd (fun d => ak_iconst d (by decide +kernel) rfl) <|
  am_kd (fun d => ak_iadd d rfl) <|
  am_kd (fun d => ak_istore d rfl) <|
  am_kd (fun d => ak_iload d rfl) <|
  am_kd (fun d => ak_aload_n d rfl rfl) <|
  am_kd (fun d => ak_getI (C := RX6) (T := TX6) (N := 9) rfl inX6w (by decide) rfl rfl rfl wd_359 d rfl) <|
  am_kd (fun d => ak_icmp_ge d (by decide +kernel) rfl) <|
  am_kd (fun d => ak_iload d rfl) <|
  am_kd (fun d => ak_iconst d (by decide +kernel) rfl) <|
  am_kd (fun d => ak_icmp_lt d (by decide +kernel) rfl) <|
  am_kd (fun d => ak_aload_n d rfl rfl) <|
  am_kd (fun d => ak_lload_n d rfl rfl) <|
  am_kd (fun d => ak_lload d rfl) <|
  am_kd (fun d => ak_lload d rfl) <|
  am_kd (fun d => ak_aload d rfl) <|
  am_kd (fun d => ak_iconst d (by decide +kernel) rfl) <|
  am_kd (fun d => ak_callV (C := RX4) (F := TX4) (N := 19) metX4_together rfl ⟨rfl, hy_X4_together⟩ (am_w5 wd_793 wd_650 wd_651 wd_60 wd_652) (by omega) d rfl) <|
  am_kd (fun d => ak_ladd d rfl) <|
  am_kd (fun d => ak_callV (C := RX6) (F := TX6) (N := 9) metX6_end rfl ⟨rfl, hy_X6_end⟩ (am_w5 wd_794 wd_796 wd_25 wd_59 wd_797) (by omega) d rfl) <|
  am_kd (fun d => ak_retV d) <|
  am_kd (fun d => ak_aload d rfl) <|
  am_kd (fun d => ak_getR (C := RX4) (T := TX4) (N := 19) rfl inX4w (by decide) rfl rfl rfl wd_297 d rfl) <|
  am_kd (fun d => ak_iconst d (by decide +kernel) rfl) <|
  am_kd (fun d => ak_aload_n d rfl rfl) <|
  am_kd (fun d => ak_getR (C := RX6) (T := TX6) (N := 9) rfl inX6w (by decide) rfl rfl rfl wd_357 d rfl) <|
  am_kd (fun d => ak_iload d rfl) <|
  am_kd (fun d => ak_bipush d (by decide +kernel) rfl) <|
  am_kd (fun d => ak_imul d rfl) <|
  am_kd (fun d => ak_bipush d (by decide +kernel) rfl) <|
  am_kd (fun d => ak_copyJ (am_w4 wd_787 wd_501 wd_500 wd_69) (by omega) d rfl) <|
  am_kd (fun d => ak_iconst d (by decide +kernel) rfl) <|
  am_kd (fun d => ak_istore d rfl) <|
  am_kd (fun d => ak_iload d rfl) <|
  am_kd (fun d => ak_iconst d (by decide +kernel) rfl) <|
  am_kd (fun d => ak_icmp_ge d (by decide +kernel) rfl) <|
  am_kd (fun d => ak_aload d rfl) <|
  am_kd (fun d => ak_getR (C := RX4) (T := TX4) (N := 19) rfl inX4w (by decide) rfl rfl rfl wd_293 d rfl) <|
  am_kd (fun d => ak_getR (C := RX0) (T := TX0) (N := 13) rfl inX0w (by decide) rfl rfl rfl wd_222 d rfl) <|
  am_kd (fun d => ak_iload_n d rfl rfl) <|
  am_kd (fun d => ak_iconst d (by decide +kernel) rfl) <|
  am_kd (fun d => ak_imul d rfl) <|
  am_kd (fun d => ak_iload d rfl) <|
  am_kd (fun d => ak_iadd d rfl) <|
  am_kd (fun d => ak_iald (t := 0) (fun _ => rfl) rfl d rfl) <|
  am_kd (fun d => ak_istore d rfl) <|
  am_kd (fun d => ak_iload d rfl) <|
  am_kd (fun d => ak_if_le d (by decide +kernel) rfl) <|
  am_kd (fun d => ak_aload_n d rfl rfl) <|
  am_kd (fun d => ak_iload d rfl) <|
  am_kd (fun d => ak_iload d rfl) <|
  am_kd (fun d => ak_lload_n d rfl rfl) <|
  am_kd (fun d => ak_iload d rfl) <|
  am_kd (fun d => ak_i2l d rfl) <|
  am_kd (fun d => ak_lmul d rfl) <|
  am_kd (fun d => ak_lload d rfl) <|
  am_kd (fun d => ak_lload d rfl) <|
  am_kd (fun d => ak_callS hW ⟨rfl, hy_X6_walk⟩ (am_w4 wd_788 wd_789 wd_59 wd_790) (by omega) d rfl) <|
  am_kd (fun d => ak_iinc d (by decide +kernel) rfl) <|
  am_kd (fun d => ak_goto d (by decide +kernel)) <|
  am_kd (fun d => ak_retV d) <| am_kdn
def TX6_walk (d : Nat) : am_T := fun live as M R => match as with
  | [.ref n, .int p, .int s, .long c, .long t, .long u] => am_mn live ∧ n = 2 ∧ am_in s 4 ∧ g_wI M p ∧ 5 ≤ p.toInt + (d : Int) ∧ g_rI M ∧ ∀ M', g_sw M M' → g_rI M' → R none M'
  | _ => False
def JX6_walk : am_E → List Value → am_M → am_R → am_inv := fun live as M0 _ pc => match as with
  | [.ref n, .int p, .int s, .long c, .long t, .long u] => (match pc with
    | 174 => some ([0, 2, 3, 5, 7, 9, 11, 12], fun k L st M => ∃ (t u : Int64) (o : Int32), L = [(0, .ref 2), (2, .int s), (3, .long c), (5, .long t), (7, .long u), (9, .ref 4), (11, .int (p + 1)), (12, .int o)] ∧ st = [] ∧ k = ((5 - o.toInt).toNat, 0) ∧ 0 ≤ o.toInt ∧ g_wI M (p + 1) ∧ g_sw M0 M ∧ g_rI M)
    | _ => none)
  | _ => none
theorem g_yr {M : am_M} {p : Int32} (h : g_wI M p) : am_in (M.1 2 2 + p) 40 := by
  obtain ⟨-, ⟨h1, h5⟩, h2, h3, h4⟩ := h
  have e := i_add (x := M.1 2 2) (y := p) (by omega) (by omega)
  exact ⟨by omega, by omega⟩
theorem g_wI.p {M : am_M} {p : Int32} (h : g_wI M p) : 0 ≤ p.toInt ∧ p.toInt < 5 := by
  obtain ⟨-, ⟨h1, h5⟩, h2, h3, h4⟩ := h
  exact ⟨h1, by omega⟩
theorem g_wI.nx {M M' : am_M} {p : Int32} (h : g_wI M p) (c : g_sw M M') (hn : ¬ M'.1 2 3 ≤ p + 1) : g_wI M' (p + 1) := by
  have h2 := h.sw c
  obtain ⟨-, ⟨h1, h5⟩, h2, h3, h4⟩ := h2
  have e := i_inc (x := p) (by omega) (by omega)
  simp only [i_le] at hn
  exact ⟨(), ⟨by omega, by omega⟩, h2, h3, h4⟩
set_option maxRecDepth 100000 in
set_option maxHeartbeats 16000000 in
theorem metX6_walkG (d rw lw : Nat) (Tw : am_T) (hW : am_Met yX6_walk cX6_walk 14 none rw lw Tw) (hrc : rw + 1 ≤ d + 4 ∧ lw + 33 ≤ 40 * d + 110)
    (hT : ∀ (live : am_E) (p s : Int32) (c t u : Int64) (M : am_M) (R : am_R), am_mn live → am_in s 4 → g_wI M (p + 1) → 5 ≤ p.toInt + (d : Int) → g_rI M → (∀ M', g_sw M M' → g_rI M' → R none M') → Tw live [.ref 2, .int (p + 1), .int s, .long c, .long t, .long u] M R) :
    am_Met yX6_walk cX6_walk 14 none (d + 4) (40 * d + 110) (TX6_walk d) := by
  refine am_met (own := RX6) (by decide +kernel) rfl (kX6_walk d rw lw Tw) (koX6_walk d rw lw Tw hW hrc) 200 JX6_walk ?_ ?_
  · intro live as M Ret h
    unfold TX6_walk at h
    split at h
    · next n p s c t u =>
      refine ⟨Nat.le_of_ble_eq_true rfl, ?_⟩
      change am_wp _ _ _ _ [(0, Value.ref n), (1, Value.int p), (2, Value.int s), (3, Value.long c), (5, Value.long t), (7, Value.long u)] _ _
      obtain ⟨hmn, rfl, hs, hw, hd, hr, h⟩ := h
      have hmn2 := hmn
      obtain ⟨i1, i2, rfl⟩ := hmn2
      have hy := g_yr hw
      have hp := hw.p
      have hp1 := hp.1
      have hp2 := hp.2
      have hrl : ∀ k, Nat.ble k 110 = true → Nat.ble k (40 * d + 110) = true := fun k hk => Nat.ble_eq.mpr (by have := Nat.le_of_ble_eq_true hk; omega)
      have hrl2 := hrl 23 rfl
      have e30 := i_mul (x := p) (y := 30) (by simp only [Int32.reduceToInt]; omega) (by simp only [Int32.reduceToInt]; omega)
      simp only [Int32.reduceToInt] at e30
      have hi := i_inc (x := p) (by omega) (by omega)
      have e31 := i_mul (x := p + 1) (y := 30) (by simp only [Int32.reduceToInt]; omega) (by simp only [Int32.reduceToInt]; omega)
      simp only [Int32.reduceToInt] at e31
      have l3 : am_len 3 = 150 := rfl
      have l6 : am_len 6 = 180 := rfl
      have w0 : am_in (0 : Int32) 6 := ⟨by decide, by decide⟩
      have w1 : am_in (1 : Int32) 6 := ⟨by decide, by decide⟩
      have w2 : am_in (2 : Int32) 6 := ⟨by decide, by decide⟩
      have hz5 : ¬ (5 : Int32) ≤ p := by simp only [i_le, Int32.reduceToInt]; omega
      have hlt5 : p < 5 := by simp only [i_lt, Int32.reduceToInt]; omega
      have hc4 : s = 0 ∨ s = 1 ∨ s = 2 ∨ s = 3 := by
        have h1 := hs.1
        have h2 := hs.2
        simp only [i_eq, Int32.reduceToInt]
        omega
      rcases hc4 with rfl | rfl | rfl | rfl
      · skip
        repeat' (first | (with_reducible exact hmn) | (with_reducible exact hy) | (with_reducible exact hw) | (with_reducible exact w0) | (with_reducible exact w1) | (with_reducible exact w2) | (with_reducible exact hrl2) | apply And.intro | exact rfl | (intro hx; with_reducible exact absurd hx hz5) | (intro hx; with_reducible exact absurd hlt5 hx) | ((with_reducible change g_rI _); (with_reducible assumption)) | (intro hx; exact absurd hx (by decide)) | (intro hx; exact absurd (by decide) hx) | decide | intro hx | (refine Exists.intro _ (And.intro rfl ?_)) | ((with_reducible change _ = true); simp only [hrl2, Bool.true_and]; rfl))
        all_goals try first | (with_reducible change am_tI _ _) | (change Ret _ _) | (change Ret _ _ _) | (change Exists _)
        all_goals try dsimp only at *
        all_goals try (with_reducible exact absurd ‹(1000 : Int64) = 0› am_z1000)
        all_goals first
          | omega
          | (simp only [l3, e30, e31, Int32.reduceToInt]; omega)
          | (have q := hx; simp only [i_lt, hi, Int32.reduceToInt] at q; simp only [l3, e31, hi, Int32.reduceToInt]; omega)
          | exact hy.1
          | exact hy.2
          | (left; rfl)
          | (right; rfl)
          | (change g_rI _; exact g_rI.wF (g_rI.w417 (g_rI.wF (g_rI.cJ hr) rfl) ⟨by decide, by decide⟩) rfl)
          | exact h _ (by (repeat' (first | (with_reducible exact g_sw.rf) | (with_reducible assumption) | ((with_reducible change g_sw _ (am_wI _ _ _ _)); refine g_sw.wI ?_ rfl) | ((with_reducible change g_sw _ (am_wJ _ _ _ _)); refine g_sw.wJ ?_ rfl) | ((with_reducible change g_sw _ (am_cJ _ _ _)); refine g_sw.cJ ?_ rfl) | (refine g_sw.tr ?_ (by with_reducible assumption)) | (refine g_sw.sc ?_ (by with_reducible assumption)) | (refine g_sw.we ?_ (by with_reducible assumption))))) (by (repeat' (first | (with_reducible assumption) | ((with_reducible change g_rI (am_wJ _ _ _ _)); refine g_rI.wJ ?_) | ((with_reducible change g_rI (am_cJ _ _ _)); refine g_rI.cJ ?_) | ((with_reducible change g_rI (am_wI _ 5 _ _)); refine g_rI.w5 ?_) | ((with_reducible change g_rI (am_wI _ _ _ _)); refine g_rI.wF ?_ rfl) | (refine g_rI.st ?_ (by with_reducible assumption)) | (refine g_rI.we ?_ (by with_reducible assumption)))))
          | (have hw2 := hw.nx (M' := ‹am_M›) (by (repeat' (first | (with_reducible exact g_sw.rf) | (with_reducible assumption) | ((with_reducible change g_sw _ (am_wI _ _ _ _)); refine g_sw.wI ?_ rfl) | ((with_reducible change g_sw _ (am_wJ _ _ _ _)); refine g_sw.wJ ?_ rfl) | ((with_reducible change g_sw _ (am_cJ _ _ _)); refine g_sw.cJ ?_ rfl) | (refine g_sw.tr ?_ (by with_reducible assumption)) | (refine g_sw.sc ?_ (by with_reducible assumption)) | (refine g_sw.we ?_ (by with_reducible assumption))))) (by with_reducible assumption)
             exact ⟨_, _, _, _, rfl, rfl, rfl, by decide, hw2.sw (by (repeat' (first | (with_reducible exact g_sw.rf) | (with_reducible assumption) | ((with_reducible change g_sw _ (am_wI _ _ _ _)); refine g_sw.wI ?_ rfl) | ((with_reducible change g_sw _ (am_wJ _ _ _ _)); refine g_sw.wJ ?_ rfl) | ((with_reducible change g_sw _ (am_cJ _ _ _)); refine g_sw.cJ ?_ rfl) | (refine g_sw.tr ?_ (by with_reducible assumption)) | (refine g_sw.sc ?_ (by with_reducible assumption)) | (refine g_sw.we ?_ (by with_reducible assumption))))), by (repeat' (first | (with_reducible exact g_sw.rf) | (with_reducible assumption) | ((with_reducible change g_sw _ (am_wI _ _ _ _)); refine g_sw.wI ?_ rfl) | ((with_reducible change g_sw _ (am_wJ _ _ _ _)); refine g_sw.wJ ?_ rfl) | ((with_reducible change g_sw _ (am_cJ _ _ _)); refine g_sw.cJ ?_ rfl) | (refine g_sw.tr ?_ (by with_reducible assumption)) | (refine g_sw.sc ?_ (by with_reducible assumption)) | (refine g_sw.we ?_ (by with_reducible assumption)))), by (repeat' (first | (with_reducible assumption) | ((with_reducible change g_rI (am_wJ _ _ _ _)); refine g_rI.wJ ?_) | ((with_reducible change g_rI (am_cJ _ _ _)); refine g_rI.cJ ?_) | ((with_reducible change g_rI (am_wI _ 5 _ _)); refine g_rI.w5 ?_) | ((with_reducible change g_rI (am_wI _ _ _ _)); refine g_rI.wF ?_ rfl) | (refine g_rI.st ?_ (by with_reducible assumption)) | (refine g_rI.we ?_ (by with_reducible assumption))))⟩)
          | skip
      · skip
        repeat' (first | (with_reducible exact hmn) | (with_reducible exact hy) | (with_reducible exact hw) | (with_reducible exact w0) | (with_reducible exact w1) | (with_reducible exact w2) | (with_reducible exact hrl2) | apply And.intro | exact rfl | (intro hx; with_reducible exact absurd hx hz5) | (intro hx; with_reducible exact absurd hlt5 hx) | ((with_reducible change g_rI _); (with_reducible assumption)) | (intro hx; exact absurd hx (by decide)) | (intro hx; exact absurd (by decide) hx) | decide | intro hx | (refine Exists.intro _ (And.intro rfl ?_)) | ((with_reducible change _ = true); simp only [hrl2, Bool.true_and]; rfl))
        all_goals try first | (with_reducible change am_tI _ _) | (change Ret _ _) | (change Ret _ _ _) | (change Exists _)
        all_goals try dsimp only at *
        all_goals try (with_reducible exact absurd ‹(1000 : Int64) = 0› am_z1000)
        all_goals first
          | omega
          | (simp only [l3, e30, e31, Int32.reduceToInt]; omega)
          | (have q := hx; simp only [i_lt, hi, Int32.reduceToInt] at q; simp only [l3, e31, hi, Int32.reduceToInt]; omega)
          | exact hy.1
          | exact hy.2
          | (left; rfl)
          | (right; rfl)
          | (change g_rI _; exact g_rI.wF (g_rI.w417 (g_rI.wF (g_rI.cJ hr) rfl) ⟨by decide, by decide⟩) rfl)
          | exact h _ (by (repeat' (first | (with_reducible exact g_sw.rf) | (with_reducible assumption) | ((with_reducible change g_sw _ (am_wI _ _ _ _)); refine g_sw.wI ?_ rfl) | ((with_reducible change g_sw _ (am_wJ _ _ _ _)); refine g_sw.wJ ?_ rfl) | ((with_reducible change g_sw _ (am_cJ _ _ _)); refine g_sw.cJ ?_ rfl) | (refine g_sw.tr ?_ (by with_reducible assumption)) | (refine g_sw.sc ?_ (by with_reducible assumption)) | (refine g_sw.we ?_ (by with_reducible assumption))))) (by (repeat' (first | (with_reducible assumption) | ((with_reducible change g_rI (am_wJ _ _ _ _)); refine g_rI.wJ ?_) | ((with_reducible change g_rI (am_cJ _ _ _)); refine g_rI.cJ ?_) | ((with_reducible change g_rI (am_wI _ 5 _ _)); refine g_rI.w5 ?_) | ((with_reducible change g_rI (am_wI _ _ _ _)); refine g_rI.wF ?_ rfl) | (refine g_rI.st ?_ (by with_reducible assumption)) | (refine g_rI.we ?_ (by with_reducible assumption)))))
          | (have hw2 := hw.nx (M' := ‹am_M›) (by (repeat' (first | (with_reducible exact g_sw.rf) | (with_reducible assumption) | ((with_reducible change g_sw _ (am_wI _ _ _ _)); refine g_sw.wI ?_ rfl) | ((with_reducible change g_sw _ (am_wJ _ _ _ _)); refine g_sw.wJ ?_ rfl) | ((with_reducible change g_sw _ (am_cJ _ _ _)); refine g_sw.cJ ?_ rfl) | (refine g_sw.tr ?_ (by with_reducible assumption)) | (refine g_sw.sc ?_ (by with_reducible assumption)) | (refine g_sw.we ?_ (by with_reducible assumption))))) (by with_reducible assumption)
             exact ⟨_, _, _, _, rfl, rfl, rfl, by decide, hw2.sw (by (repeat' (first | (with_reducible exact g_sw.rf) | (with_reducible assumption) | ((with_reducible change g_sw _ (am_wI _ _ _ _)); refine g_sw.wI ?_ rfl) | ((with_reducible change g_sw _ (am_wJ _ _ _ _)); refine g_sw.wJ ?_ rfl) | ((with_reducible change g_sw _ (am_cJ _ _ _)); refine g_sw.cJ ?_ rfl) | (refine g_sw.tr ?_ (by with_reducible assumption)) | (refine g_sw.sc ?_ (by with_reducible assumption)) | (refine g_sw.we ?_ (by with_reducible assumption))))), by (repeat' (first | (with_reducible exact g_sw.rf) | (with_reducible assumption) | ((with_reducible change g_sw _ (am_wI _ _ _ _)); refine g_sw.wI ?_ rfl) | ((with_reducible change g_sw _ (am_wJ _ _ _ _)); refine g_sw.wJ ?_ rfl) | ((with_reducible change g_sw _ (am_cJ _ _ _)); refine g_sw.cJ ?_ rfl) | (refine g_sw.tr ?_ (by with_reducible assumption)) | (refine g_sw.sc ?_ (by with_reducible assumption)) | (refine g_sw.we ?_ (by with_reducible assumption)))), by (repeat' (first | (with_reducible assumption) | ((with_reducible change g_rI (am_wJ _ _ _ _)); refine g_rI.wJ ?_) | ((with_reducible change g_rI (am_cJ _ _ _)); refine g_rI.cJ ?_) | ((with_reducible change g_rI (am_wI _ 5 _ _)); refine g_rI.w5 ?_) | ((with_reducible change g_rI (am_wI _ _ _ _)); refine g_rI.wF ?_ rfl) | (refine g_rI.st ?_ (by with_reducible assumption)) | (refine g_rI.we ?_ (by with_reducible assumption))))⟩)
          | skip
      · skip
        repeat' (first | (with_reducible exact hmn) | (with_reducible exact hy) | (with_reducible exact hw) | (with_reducible exact w0) | (with_reducible exact w1) | (with_reducible exact w2) | (with_reducible exact hrl2) | apply And.intro | exact rfl | (intro hx; with_reducible exact absurd hx hz5) | (intro hx; with_reducible exact absurd hlt5 hx) | ((with_reducible change g_rI _); (with_reducible assumption)) | (intro hx; exact absurd hx (by decide)) | (intro hx; exact absurd (by decide) hx) | decide | intro hx | (refine Exists.intro _ (And.intro rfl ?_)) | ((with_reducible change _ = true); simp only [hrl2, Bool.true_and]; rfl))
        all_goals try first | (with_reducible change am_tI _ _) | (change Ret _ _) | (change Ret _ _ _) | (change Exists _)
        all_goals try dsimp only at *
        all_goals try (with_reducible exact absurd ‹(1000 : Int64) = 0› am_z1000)
        all_goals first
          | omega
          | (simp only [l3, e30, e31, Int32.reduceToInt]; omega)
          | (have q := hx; simp only [i_lt, hi, Int32.reduceToInt] at q; simp only [l3, e31, hi, Int32.reduceToInt]; omega)
          | exact hy.1
          | exact hy.2
          | (left; rfl)
          | (right; rfl)
          | (change g_rI _; exact g_rI.wF (g_rI.w417 (g_rI.wF (g_rI.cJ hr) rfl) ⟨by decide, by decide⟩) rfl)
          | exact h _ (by (repeat' (first | (with_reducible exact g_sw.rf) | (with_reducible assumption) | ((with_reducible change g_sw _ (am_wI _ _ _ _)); refine g_sw.wI ?_ rfl) | ((with_reducible change g_sw _ (am_wJ _ _ _ _)); refine g_sw.wJ ?_ rfl) | ((with_reducible change g_sw _ (am_cJ _ _ _)); refine g_sw.cJ ?_ rfl) | (refine g_sw.tr ?_ (by with_reducible assumption)) | (refine g_sw.sc ?_ (by with_reducible assumption)) | (refine g_sw.we ?_ (by with_reducible assumption))))) (by (repeat' (first | (with_reducible assumption) | ((with_reducible change g_rI (am_wJ _ _ _ _)); refine g_rI.wJ ?_) | ((with_reducible change g_rI (am_cJ _ _ _)); refine g_rI.cJ ?_) | ((with_reducible change g_rI (am_wI _ 5 _ _)); refine g_rI.w5 ?_) | ((with_reducible change g_rI (am_wI _ _ _ _)); refine g_rI.wF ?_ rfl) | (refine g_rI.st ?_ (by with_reducible assumption)) | (refine g_rI.we ?_ (by with_reducible assumption)))))
          | (have hw2 := hw.nx (M' := ‹am_M›) (by (repeat' (first | (with_reducible exact g_sw.rf) | (with_reducible assumption) | ((with_reducible change g_sw _ (am_wI _ _ _ _)); refine g_sw.wI ?_ rfl) | ((with_reducible change g_sw _ (am_wJ _ _ _ _)); refine g_sw.wJ ?_ rfl) | ((with_reducible change g_sw _ (am_cJ _ _ _)); refine g_sw.cJ ?_ rfl) | (refine g_sw.tr ?_ (by with_reducible assumption)) | (refine g_sw.sc ?_ (by with_reducible assumption)) | (refine g_sw.we ?_ (by with_reducible assumption))))) (by with_reducible assumption)
             exact ⟨_, _, _, _, rfl, rfl, rfl, by decide, hw2.sw (by (repeat' (first | (with_reducible exact g_sw.rf) | (with_reducible assumption) | ((with_reducible change g_sw _ (am_wI _ _ _ _)); refine g_sw.wI ?_ rfl) | ((with_reducible change g_sw _ (am_wJ _ _ _ _)); refine g_sw.wJ ?_ rfl) | ((with_reducible change g_sw _ (am_cJ _ _ _)); refine g_sw.cJ ?_ rfl) | (refine g_sw.tr ?_ (by with_reducible assumption)) | (refine g_sw.sc ?_ (by with_reducible assumption)) | (refine g_sw.we ?_ (by with_reducible assumption))))), by (repeat' (first | (with_reducible exact g_sw.rf) | (with_reducible assumption) | ((with_reducible change g_sw _ (am_wI _ _ _ _)); refine g_sw.wI ?_ rfl) | ((with_reducible change g_sw _ (am_wJ _ _ _ _)); refine g_sw.wJ ?_ rfl) | ((with_reducible change g_sw _ (am_cJ _ _ _)); refine g_sw.cJ ?_ rfl) | (refine g_sw.tr ?_ (by with_reducible assumption)) | (refine g_sw.sc ?_ (by with_reducible assumption)) | (refine g_sw.we ?_ (by with_reducible assumption)))), by (repeat' (first | (with_reducible assumption) | ((with_reducible change g_rI (am_wJ _ _ _ _)); refine g_rI.wJ ?_) | ((with_reducible change g_rI (am_cJ _ _ _)); refine g_rI.cJ ?_) | ((with_reducible change g_rI (am_wI _ 5 _ _)); refine g_rI.w5 ?_) | ((with_reducible change g_rI (am_wI _ _ _ _)); refine g_rI.wF ?_ rfl) | (refine g_rI.st ?_ (by with_reducible assumption)) | (refine g_rI.we ?_ (by with_reducible assumption))))⟩)
          | skip
      · skip
        repeat' (first | (with_reducible exact hmn) | (with_reducible exact hy) | (with_reducible exact hw) | (with_reducible exact w0) | (with_reducible exact w1) | (with_reducible exact w2) | (with_reducible exact hrl2) | apply And.intro | exact rfl | (intro hx; with_reducible exact absurd hx hz5) | (intro hx; with_reducible exact absurd hlt5 hx) | ((with_reducible change g_rI _); (with_reducible assumption)) | (intro hx; exact absurd hx (by decide)) | (intro hx; exact absurd (by decide) hx) | decide | intro hx | (refine Exists.intro _ (And.intro rfl ?_)) | ((with_reducible change _ = true); simp only [hrl2, Bool.true_and]; rfl))
        all_goals try first | (with_reducible change am_tI _ _) | (change Ret _ _) | (change Ret _ _ _) | (change Exists _)
        all_goals try dsimp only at *
        all_goals try (with_reducible exact absurd ‹(1000 : Int64) = 0› am_z1000)
        all_goals first
          | omega
          | (simp only [l3, e30, e31, Int32.reduceToInt]; omega)
          | (have q := hx; simp only [i_lt, hi, Int32.reduceToInt] at q; simp only [l3, e31, hi, Int32.reduceToInt]; omega)
          | exact hy.1
          | exact hy.2
          | (left; rfl)
          | (right; rfl)
          | (change g_rI _; exact g_rI.wF (g_rI.w417 (g_rI.wF (g_rI.cJ hr) rfl) ⟨by decide, by decide⟩) rfl)
          | exact h _ (by (repeat' (first | (with_reducible exact g_sw.rf) | (with_reducible assumption) | ((with_reducible change g_sw _ (am_wI _ _ _ _)); refine g_sw.wI ?_ rfl) | ((with_reducible change g_sw _ (am_wJ _ _ _ _)); refine g_sw.wJ ?_ rfl) | ((with_reducible change g_sw _ (am_cJ _ _ _)); refine g_sw.cJ ?_ rfl) | (refine g_sw.tr ?_ (by with_reducible assumption)) | (refine g_sw.sc ?_ (by with_reducible assumption)) | (refine g_sw.we ?_ (by with_reducible assumption))))) (by (repeat' (first | (with_reducible assumption) | ((with_reducible change g_rI (am_wJ _ _ _ _)); refine g_rI.wJ ?_) | ((with_reducible change g_rI (am_cJ _ _ _)); refine g_rI.cJ ?_) | ((with_reducible change g_rI (am_wI _ 5 _ _)); refine g_rI.w5 ?_) | ((with_reducible change g_rI (am_wI _ _ _ _)); refine g_rI.wF ?_ rfl) | (refine g_rI.st ?_ (by with_reducible assumption)) | (refine g_rI.we ?_ (by with_reducible assumption)))))
          | (have hw2 := hw.nx (M' := ‹am_M›) (by (repeat' (first | (with_reducible exact g_sw.rf) | (with_reducible assumption) | ((with_reducible change g_sw _ (am_wI _ _ _ _)); refine g_sw.wI ?_ rfl) | ((with_reducible change g_sw _ (am_wJ _ _ _ _)); refine g_sw.wJ ?_ rfl) | ((with_reducible change g_sw _ (am_cJ _ _ _)); refine g_sw.cJ ?_ rfl) | (refine g_sw.tr ?_ (by with_reducible assumption)) | (refine g_sw.sc ?_ (by with_reducible assumption)) | (refine g_sw.we ?_ (by with_reducible assumption))))) (by with_reducible assumption)
             exact ⟨_, _, _, _, rfl, rfl, rfl, by decide, hw2.sw (by (repeat' (first | (with_reducible exact g_sw.rf) | (with_reducible assumption) | ((with_reducible change g_sw _ (am_wI _ _ _ _)); refine g_sw.wI ?_ rfl) | ((with_reducible change g_sw _ (am_wJ _ _ _ _)); refine g_sw.wJ ?_ rfl) | ((with_reducible change g_sw _ (am_cJ _ _ _)); refine g_sw.cJ ?_ rfl) | (refine g_sw.tr ?_ (by with_reducible assumption)) | (refine g_sw.sc ?_ (by with_reducible assumption)) | (refine g_sw.we ?_ (by with_reducible assumption))))), by (repeat' (first | (with_reducible exact g_sw.rf) | (with_reducible assumption) | ((with_reducible change g_sw _ (am_wI _ _ _ _)); refine g_sw.wI ?_ rfl) | ((with_reducible change g_sw _ (am_wJ _ _ _ _)); refine g_sw.wJ ?_ rfl) | ((with_reducible change g_sw _ (am_cJ _ _ _)); refine g_sw.cJ ?_ rfl) | (refine g_sw.tr ?_ (by with_reducible assumption)) | (refine g_sw.sc ?_ (by with_reducible assumption)) | (refine g_sw.we ?_ (by with_reducible assumption)))), by (repeat' (first | (with_reducible assumption) | ((with_reducible change g_rI (am_wJ _ _ _ _)); refine g_rI.wJ ?_) | ((with_reducible change g_rI (am_cJ _ _ _)); refine g_rI.cJ ?_) | ((with_reducible change g_rI (am_wI _ 5 _ _)); refine g_rI.w5 ?_) | ((with_reducible change g_rI (am_wI _ _ _ _)); refine g_rI.wF ?_ rfl) | (refine g_rI.st ?_ (by with_reducible assumption)) | (refine g_rI.we ?_ (by with_reducible assumption))))⟩)
          | skip
    · exact h.elim
  · intro live as M0 Ret h k pc I hI L st M hi
    unfold TX6_walk at h
    split at h
    · next n p s c t u =>
      obtain ⟨hmn, rfl, hs, hw, hd, hr, h⟩ := h
      have hmn2 := hmn
      obtain ⟨i1, i2, rfl⟩ := hmn2
      change (match pc with | 174 => _ | _ => none) = _ at hI
      split at hI
      · cases hI
        obtain ⟨t, u, o, rfl, rfl, rfl, e1, e4, e2, e3⟩ := hi
        have hs1 := hs.1
        have hs2 := hs.2
        by_cases hz : (4 : Int32) ≤ o
        · skip
          repeat' (first | apply And.intro | exact rfl | (intro hx; with_reducible exact absurd hz hx) | intro hx | (refine Exists.intro _ (And.intro rfl ?_)))
          all_goals try first | (with_reducible change am_tI _ _) | (change Ret _ _) | (change Ret _ _ _) | (change Exists _)
          all_goals try dsimp only at *
          all_goals try (with_reducible exact absurd ‹(1000 : Int64) = 0› am_z1000)
          exact h _ e2 e3
        · have hz2 := hz
          simp only [i_le, Int32.reduceToInt] at hz2
          have ho := i_inc (x := o) (by omega) (by omega)
          have ho4 : am_in o 4 := ⟨e1, by omega⟩
          have e40 := i_mul (x := s) (y := 4) (by simp only [Int32.reduceToInt]; omega) (by simp only [Int32.reduceToInt]; omega)
          simp only [Int32.reduceToInt] at e40
          have e := i_add (x := s * 4) (y := o) (by rw [e40]; omega) (by rw [e40]; omega)
          have l57 : am_len 57 = 16 := rfl
          have hp := hw.p
          repeat' (first | (with_reducible exact hmn) | (with_reducible exact hw) | (with_reducible exact ho4) | (with_reducible exact e4) | (with_reducible exact e3) | apply And.intro | exact rfl | (intro hx; with_reducible exact absurd hx hz) | ((with_reducible change g_rI _); (with_reducible assumption)) | intro hx | (refine Exists.intro _ (And.intro rfl ?_)) | (refine hT _ _ _ _ _ _ _ _ hmn ho4 e4 hd e3 (fun M1 c1 r1 => ?_)))
          all_goals try first | (with_reducible change am_tI _ _) | (change Ret _ _) | (change Ret _ _ _) | (change Exists _)
          all_goals try dsimp only at *
          all_goals try (with_reducible exact absurd ‹(1000 : Int64) = 0› am_z1000)
          all_goals first
            | omega
            | (simp only [l57, e, e40]; omega)
            | exact ⟨_, am_lt_l (by omega), _, _, _, rfl, rfl, rfl, by omega, e4, e2, e3⟩
            | exact ⟨_, am_lt_l (by omega), _, _, _, rfl, rfl, rfl, by omega, e4.sw ‹g_sw M _›, e2.tr ‹g_sw M _›, ‹g_rI _›⟩
            | skip
      · cases hI
    · exact h.elim
theorem am_MetF2 (y : MethodName) (cc : ByteArray) (nL : Nat) (rt : Option FieldType) (rf rl : Nat) : am_Met y cc nL rt rf rl (fun _ _ _ _ => False) := fun _ _ _ _ _ _ _ _ _ h => h.elim
theorem metX6_walk : ∀ d : Nat, am_Met yX6_walk cX6_walk 14 none (d + 4) (40 * d + 110) (TX6_walk d)
  | 0 => metX6_walkG 0 0 0 _ (am_MetF2 _ _ _ _ _ _) (by omega) (fun live p s c t u M R h1 h2 h3 h4 h5 h6 => by
      exfalso
      have := h3.p
      by_cases z : p.toInt < 2000000000
      · by_cases z2 : -1 ≤ p.toInt
        · have e := i_inc (x := p) z2 z
          omega
        · omega
      · have h := i_hi p
        by_cases z3 : p.toInt < 2147483647
        · have e := i_add (x := p) (y := 1) (by simp only [Int32.reduceToInt]; omega) (by simp only [Int32.reduceToInt]; omega)
          simp only [Int32.reduceToInt] at e
          omega
        · have e : p = 2147483647 := (i_eq _ _).mpr (by simp only [Int32.reduceToInt]; omega)
          rw [e] at this
          exact absurd this.1 (by decide))
  | d + 1 => metX6_walkG (d + 1) (d + 4) (40 * d + 110) _ (metX6_walk d) (by omega) (fun live p s c t u M R h1 h2 h3 h4 h5 h6 => ⟨h1, rfl, h2, h3, (by
      have := h3.p
      have h := i_hi p
      have h' := i_lo p
      by_cases z3 : p.toInt < 2147483647
      · have e := i_add (x := p) (y := 1) (by simp only [Int32.reduceToInt]; omega) (by simp only [Int32.reduceToInt]; omega)
        simp only [Int32.reduceToInt] at e
        omega
      · have e : p = 2147483647 := (i_eq _ _).mpr (by simp only [Int32.reduceToInt]; omega)
        rw [e] at this
        exact absurd this.1 (by decide)), h5, h6⟩)
set_option maxRecDepth 100000 in
theorem wd_784 : Cond.constantLong "LearnLoans$Ways" 39 1000000000000000000 ∈ am_ws := am_wt4 (List.mem_of_getElem? (i := 7) (by rfl)) (by decide +kernel)
theorem hy_X4_begin : yX4_begin.cls ≠ "java/lang/invoke/MethodHandle" ∧ yX4_begin.cls ≠ "java/lang/invoke/VarHandle" ∧ (parseMethodDescriptor yX4_begin.desc).map (fun d => d.parameters.length) = some 2 := ⟨by decide +kernel, by decide +kernel, by decide +kernel⟩
set_option maxRecDepth 100000 in
theorem wd_785 : Cond.methodLink "LearnLoans$Ways" 47 yX4_begin ∈ am_ws := am_wt4 (List.mem_of_getElem? (i := 8) (by rfl)) (by decide +kernel)
set_option maxRecDepth 100000 in
theorem wd_547 : Cond.instanceMethod yX4_begin ∈ am_ws := am_wt3 (List.mem_of_getElem? (i := 10) (by rfl)) (by decide +kernel)
set_option maxRecDepth 100000 in
theorem wd_548 : Cond.selects "LearnLoans$Run" yX4_begin yX4_begin ∈ am_ws := am_wt3 (List.mem_of_getElem? (i := 11) (by rfl)) (by decide +kernel)
set_option maxRecDepth 100000 in
theorem wd_549 : Cond.code yX4_begin cX4_begin 5 none ∈ am_ws := am_wt3 (List.mem_of_getElem? (i := 12) (by rfl)) (by decide +kernel)
theorem hy_X4_go : yX4_go.cls ≠ "java/lang/invoke/MethodHandle" ∧ yX4_go.cls ≠ "java/lang/invoke/VarHandle" ∧ (parseMethodDescriptor yX4_go.desc).map (fun d => d.parameters.length) = some 1 := ⟨by decide +kernel, by decide +kernel, by decide +kernel⟩
set_option maxRecDepth 100000 in
theorem wd_786 : Cond.methodLink "LearnLoans$Ways" 51 yX4_go ∈ am_ws := am_wt4 (List.mem_of_getElem? (i := 9) (by rfl)) (by decide +kernel)
set_option maxRecDepth 100000 in
theorem wd_560 : Cond.instanceMethod yX4_go ∈ am_ws := am_wt3 (List.mem_of_getElem? (i := 23) (by rfl)) (by decide +kernel)
set_option maxRecDepth 100000 in
theorem wd_561 : Cond.selects "LearnLoans$Run" yX4_go yX4_go ∈ am_ws := am_wt3 (List.mem_of_getElem? (i := 24) (by rfl)) (by decide +kernel)
set_option maxRecDepth 100000 in
theorem wd_562 : Cond.code yX4_go cX4_go 3 none ∈ am_ws := am_wt3 (List.mem_of_getElem? (i := 25) (by rfl)) (by decide +kernel)
def rwX6_follow : List dz_r := [(0, .aload_n 0, 1), (1, .iload 4, 2), (3, .putfield 22, 3), (6, .aload_n 0, 1), (7, .iload 5, 2), (9, .putfield 26, 3), (12, .aload_n 0, 1), (13, .iload_n 3, 1), (14, .putfield 29, 3), (17, .aload_n 0, 1), (18, .lconst 0, 1), (19, .putfield 32, 3), (22, .aload_n 0, 1), (23, .lconst 0, 1), (24, .putfield 36, 3), (27, .aload_n 0, 1), (28, .ldc2_w 39, 3), (31, .putfield 41, 3), (34, .aload_n 0, 1), (35, .lconst 0, 1), (36, .putfield 44, 3), (39, .aload_n 0, 1), (40, .getfield 12, 3), (43, .iload_n 1, 1), (44, .bipush 39, 2), (46, .invokevirtual 47, 3), (49, .aload_n 0, 1), (50, .getfield 12, 3), (53, .iload 4, 2), (55, .iconst 1, 1), (56, .isub, 1), (57, .invokevirtual 51, 3), (60, .aload_n 0, 1), (61, .getfield 12, 3), (64, .getfield 55, 3), (67, .iconst 0, 1), (68, .aload_n 0, 1), (69, .getfield 18, 3), (72, .iconst 0, 1), (73, .bipush 30, 2), (75, .invokestatic 58, 3), (78, .aload_n 0, 1), (79, .iconst 0, 1), (80, .iload_n 2, 1), (81, .lconst 1, 1), (82, .lconst 0, 1), (83, .lconst 0, 1), (84, .invokestatic 64, 3), (87, .return_, 1)]
theorem dzX6_follow : dz cX6_follow rwX6_follow := dz_all 0 (by decide +kernel)
def kX6_follow (live : am_E) (Ret : am_R) : am_code := [(0, am_aload 0 1), (1, am_iload 4 3), (3, am_putI live 6 2 6), (6, am_aload 0 7), (7, am_iload 5 9), (9, am_putI live 6 3 12), (12, am_aload 0 13), (13, am_iload 3 14), (14, am_putI live 6 4 17), (17, am_aload 0 18), (18, am_const (.long 0) 19), (19, am_putJ live 6 5 22), (22, am_aload 0 23), (23, am_const (.long 0) 24), (24, am_putJ live 6 8 27), (27, am_aload 0 28), (28, am_const (.long 1000000000000000000) 31), (31, am_putJ live 6 6 34), (34, am_aload 0 35), (35, am_const (.long 0) 36), (36, am_putJ live 6 7 39), (39, am_aload 0 40), (40, am_getR live 6 0 43), (43, am_iload 1 44), (44, am_const (.int 39) 46), (46, am_callV live 4 2 TX4_begin 49), (49, am_aload 0 50), (50, am_getR live 6 0 53), (53, am_iload 4 55), (55, am_const (.int 1) 56), (56, am_i2 (fun x y => x - y) 57), (57, am_callV live 4 1 TX4_go 60), (60, am_aload 0 61), (61, am_getR live 6 0 64), (64, am_getR live 4 2 67), (67, am_const (.int 0) 68), (68, am_aload 0 69), (69, am_getR live 6 1 72), (72, am_const (.int 0) 73), (73, am_const (.int 30) 75), (75, am_copyJ live 343 78), (78, am_aload 0 79), (79, am_const (.int 0) 80), (80, am_iload 2 81), (81, am_const (.long 1) 82), (82, am_const (.long 0) 83), (83, am_const (.long 0) 84), (84, am_callS live 6 (TX6_walk 5) 87), (87, am_retV Ret)]
theorem koX6_follow (live : am_E) (Ret : am_R) : ∀ q ∈ kX6_follow live Ret, am_ok RX6 cX6_follow 6 none 10 343 live Ret q.1 q.2 :=
  am_kz dzX6_follow <|
  am_kd (fun d => ak_aload_n d rfl rfl) <|
  am_kd (fun d => ak_iload d rfl) <|
  am_kd (fun d => ak_putI (C := RX6) (T := TX6) (N := 9) rfl inX6w tyX6_ok nmX6 (by decide) rfl rfl rfl rfl (by decide +kernel) wd_358 d rfl) <|
  am_kd (fun d => ak_aload_n d rfl rfl) <|
  am_kd (fun d => ak_iload d rfl) <|
  am_kd (fun d => ak_putI (C := RX6) (T := TX6) (N := 9) rfl inX6w tyX6_ok nmX6 (by decide) rfl rfl rfl rfl (by decide +kernel) wd_359 d rfl) <|
  am_kd (fun d => ak_aload_n d rfl rfl) <|
  am_kd (fun d => ak_iload_n d rfl rfl) <|
  am_kd (fun d => ak_putI (C := RX6) (T := TX6) (N := 9) rfl inX6w tyX6_ok nmX6 (by decide) rfl rfl rfl rfl (by decide +kernel) wd_360 d rfl) <|
  am_kd (fun d => ak_aload_n d rfl rfl) <|
  am_kd (fun d => ak_lconst d (by decide +kernel) rfl) <|
  am_kd (fun d => ak_putJ (C := RX6) (T := TX6) (N := 9) rfl inX6w tyX6_ok nmX6 (by decide) rfl rfl rfl rfl (by decide +kernel) wd_361 d rfl) <|
  am_kd (fun d => ak_aload_n d rfl rfl) <|
  am_kd (fun d => ak_lconst d (by decide +kernel) rfl) <|
  am_kd (fun d => ak_putJ (C := RX6) (T := TX6) (N := 9) rfl inX6w tyX6_ok nmX6 (by decide) rfl rfl rfl rfl (by decide +kernel) wd_367 d rfl) <|
  am_kd (fun d => ak_aload_n d rfl rfl) <|
  am_kd (fun d => ak_ldc2 wd_784 d rfl) <|
  am_kd (fun d => ak_putJ (C := RX6) (T := TX6) (N := 9) rfl inX6w tyX6_ok nmX6 (by decide) rfl rfl rfl rfl (by decide +kernel) wd_363 d rfl) <|
  am_kd (fun d => ak_aload_n d rfl rfl) <|
  am_kd (fun d => ak_lconst d (by decide +kernel) rfl) <|
  am_kd (fun d => ak_putJ (C := RX6) (T := TX6) (N := 9) rfl inX6w tyX6_ok nmX6 (by decide) rfl rfl rfl rfl (by decide +kernel) wd_365 d rfl) <|
  am_kd (fun d => ak_aload_n d rfl rfl) <|
  am_kd (fun d => ak_getR (C := RX6) (T := TX6) (N := 9) rfl inX6w (by decide) rfl rfl rfl wd_355 d rfl) <|
  am_kd (fun d => ak_iload_n d rfl rfl) <|
  am_kd (fun d => ak_bipush d (by decide +kernel) rfl) <|
  am_kd (fun d => ak_callV (C := RX4) (F := TX4) (N := 19) metX4_begin rfl ⟨rfl, hy_X4_begin⟩ (am_w5 wd_785 wd_547 wd_548 wd_60 wd_549) (by decide) d rfl) <|
  am_kd (fun d => ak_aload_n d rfl rfl) <|
  am_kd (fun d => ak_getR (C := RX6) (T := TX6) (N := 9) rfl inX6w (by decide) rfl rfl rfl wd_355 d rfl) <|
  am_kd (fun d => ak_iload d rfl) <|
  am_kd (fun d => ak_iconst d (by decide +kernel) rfl) <|
  am_kd (fun d => ak_isub d rfl) <|
  am_kd (fun d => ak_callV (C := RX4) (F := TX4) (N := 19) metX4_go rfl ⟨rfl, hy_X4_go⟩ (am_w5 wd_786 wd_560 wd_561 wd_60 wd_562) (by decide) d rfl) <|
  am_kd (fun d => ak_aload_n d rfl rfl) <|
  am_kd (fun d => ak_getR (C := RX6) (T := TX6) (N := 9) rfl inX6w (by decide) rfl rfl rfl wd_355 d rfl) <|
  am_kd (fun d => ak_getR (C := RX4) (T := TX4) (N := 19) rfl inX4w (by decide) rfl rfl rfl wd_297 d rfl) <|
  am_kd (fun d => ak_iconst d (by decide +kernel) rfl) <|
  am_kd (fun d => ak_aload_n d rfl rfl) <|
  am_kd (fun d => ak_getR (C := RX6) (T := TX6) (N := 9) rfl inX6w (by decide) rfl rfl rfl wd_357 d rfl) <|
  am_kd (fun d => ak_iconst d (by decide +kernel) rfl) <|
  am_kd (fun d => ak_bipush d (by decide +kernel) rfl) <|
  am_kd (fun d => ak_copyJ (am_w4 wd_787 wd_501 wd_500 wd_69) (by decide) d rfl) <|
  am_kd (fun d => ak_aload_n d rfl rfl) <|
  am_kd (fun d => ak_iconst d (by decide +kernel) rfl) <|
  am_kd (fun d => ak_iload_n d rfl rfl) <|
  am_kd (fun d => ak_lconst d (by decide +kernel) rfl) <|
  am_kd (fun d => ak_lconst d (by decide +kernel) rfl) <|
  am_kd (fun d => ak_lconst d (by decide +kernel) rfl) <|
  am_kd (fun d => ak_callS (metX6_walk 5) ⟨rfl, hy_X6_walk⟩ (am_w4 wd_788 wd_789 wd_59 wd_790) (by decide) d rfl) <|
  am_kd (fun d => ak_retV d) <| am_kdn
def TX6_follow : am_T := fun live as M R => match as with
  | [.ref n, .int p, .int s, .int c, .int y, .int w] => am_mn live ∧ n = 2 ∧ am_in p 12 ∧ am_in s 4 ∧ (0 ≤ y.toInt ∧ 1 ≤ w.toInt ∧ w.toInt ≤ 5 ∧ y.toInt + w.toInt ≤ 40) ∧ g_rI M ∧ ∀ M', g_sv M M' → g_rI M' → R none M'
  | _ => False
set_option maxRecDepth 100000 in
set_option maxHeartbeats 4000000 in
theorem metX6_follow : am_Met yX6_follow cX6_follow 6 none (10) (343) TX6_follow := by
  refine am_met (own := RX6) (by decide +kernel) rfl kX6_follow koX6_follow 150 (fun _ _ _ _ _ => none) (fun live as M Ret h => ?_) (fun _ _ _ _ _ _ _ _ hI => by cases hI)
  unfold TX6_follow at h
  split at h
  · next n p s c y w =>
    refine ⟨Nat.le_of_ble_eq_true rfl, ?_⟩
    change am_wp _ _ _ _ [(0, Value.ref n), (1, Value.int p), (2, Value.int s), (3, Value.int c), (4, Value.int y), (5, Value.int w)] _ _
    obtain ⟨hmn, rfl, hp, hs, ⟨y1, w1, w2, w3⟩, hr, h⟩ := h
    have hmn2 := hmn
    obtain ⟨i1, i2, rfl⟩ := hmn2
    have hv : g_sv M (am_wJ (am_wJ (am_wJ (am_wJ (am_wI (am_wI (am_wI M 2 2 y) 2 3 w) 2 4 c) 2 5 0) 2 8 0) 2 6 1000000000000000000) 2 7 0) := g_sv.rf.w2.w2.w2.w2J.w2J.w2J.w2J
    have hr2 : g_rI (am_wJ (am_wJ (am_wJ (am_wJ (am_wI (am_wI (am_wI M 2 2 y) 2 3 w) 2 4 c) 2 5 0) 2 8 0) 2 6 1000000000000000000) 2 7 0) := hr.w2.w2.w2.wJ.wJ.wJ.wJ
    have hw2 : g_wI (am_wJ (am_wJ (am_wJ (am_wJ (am_wI (am_wI (am_wI M 2 2 y) 2 3 w) 2 4 c) 2 5 0) 2 8 0) 2 6 1000000000000000000) 2 7 0) 0 := ⟨(), ⟨by decide, w1⟩, w2, y1, w3⟩
    have l3 : am_len 3 = 150 := rfl
    have l6 : am_len 6 = 180 := rfl
    repeat' (first | (with_reducible exact hmn) | (with_reducible exact hp) | (with_reducible exact hs) | (with_reducible exact hr2) | apply And.intro | exact rfl | ((with_reducible change g_rI _); (with_reducible assumption)) | intro hx | (refine Exists.intro _ (And.intro rfl ?_)))
    all_goals try first | (with_reducible change am_tI _ _) | (change Ret _ _) | (change Ret _ _ _) | (change Exists _)
    all_goals try dsimp only at *
    all_goals try (with_reducible exact absurd ‹(1000 : Int64) = 0› am_z1000)
    all_goals first
      | decide
      | (simp only [l3, l6, Int32.reduceToInt]; omega)
      | exact g_wI.sw hw2 (by (repeat' (first | (with_reducible exact g_sw.rf) | (with_reducible assumption) | ((with_reducible change g_sw _ (am_wI _ _ _ _)); refine g_sw.wI ?_ rfl) | ((with_reducible change g_sw _ (am_wJ _ _ _ _)); refine g_sw.wJ ?_ rfl) | ((with_reducible change g_sw _ (am_cJ _ _ _)); refine g_sw.cJ ?_ rfl) | (refine g_sw.tr ?_ (by with_reducible assumption)) | (refine g_sw.sc ?_ (by with_reducible assumption)) | (refine g_sw.we ?_ (by with_reducible assumption)))))
      | (change g_rI _; (repeat' (first | (with_reducible assumption) | ((with_reducible change g_rI (am_wJ _ _ _ _)); refine g_rI.wJ ?_) | ((with_reducible change g_rI (am_cJ _ _ _)); refine g_rI.cJ ?_) | ((with_reducible change g_rI (am_wI _ 5 _ _)); refine g_rI.w5 ?_) | ((with_reducible change g_rI (am_wI _ _ _ _)); refine g_rI.wF ?_ rfl) | (refine g_rI.st ?_ (by with_reducible assumption)) | (refine g_rI.we ?_ (by with_reducible assumption)))))
      | (exact h _ (hv.tr (g_sw.v (by (repeat' (first | (with_reducible exact g_sw.rf) | (with_reducible assumption) | ((with_reducible change g_sw _ (am_wI _ _ _ _)); refine g_sw.wI ?_ rfl) | ((with_reducible change g_sw _ (am_wJ _ _ _ _)); refine g_sw.wJ ?_ rfl) | ((with_reducible change g_sw _ (am_cJ _ _ _)); refine g_sw.cJ ?_ rfl) | (refine g_sw.tr ?_ (by with_reducible assumption)) | (refine g_sw.sc ?_ (by with_reducible assumption)) | (refine g_sw.we ?_ (by with_reducible assumption))))))) (by with_reducible assumption))
  · exact h.elim
