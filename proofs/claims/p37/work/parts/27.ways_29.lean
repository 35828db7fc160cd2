-- part 27.ways.lean.txt
section
/-! Ways: what is safe of them -/
set_option maxRecDepth 100000 in
theorem wd_361 : Cond.fieldLink "LearnLoans$Ways" 32 "LearnLoans$Ways" "mean" "J" ∈ am_ws := am_wt2 (List.mem_of_getElem? (i := 64) (by rfl)) (by decide +kernel)
set_option maxRecDepth 100000 in
theorem wd_367 : Cond.fieldLink "LearnLoans$Ways" 36 "LearnLoans$Ways" "neve\x72" "J" ∈ am_ws := am_wt2 (List.mem_of_getElem? (i := 70) (by rfl)) (by decide +kernel)
set_option maxRecDepth 100000 in
theorem wd_363 : Cond.fieldLink "LearnLoans$Ways" 41 "LearnLoans$Ways" "least" "J" ∈ am_ws := am_wt2 (List.mem_of_getElem? (i := 66) (by rfl)) (by decide +kernel)
set_option maxRecDepth 100000 in
theorem wd_798 : Cond.methodLink "LearnLoans$Ways" 93 Lib.MathLoose.min_long.x ∈ am_ws := am_wt4 (List.mem_of_getElem? (i := 21) (by rfl)) (by decide +kernel)
set_option maxRecDepth 100000 in
theorem wd_365 : Cond.fieldLink "LearnLoans$Ways" 44 "LearnLoans$Ways" "greatest" "J" ∈ am_ws := am_wt2 (List.mem_of_getElem? (i := 68) (by rfl)) (by decide +kernel)
set_option maxRecDepth 100000 in
theorem wd_799 : Cond.methodLink "LearnLoans$Ways" 99 Lib.MathLoose.max_long.x ∈ am_ws := am_wt4 (List.mem_of_getElem? (i := 22) (by rfl)) (by decide +kernel)
def rwX6_end : List dz_r := [(0, .aload_n 0, 1), (1, .dup, 1), (2, .getfield 32, 3), (5, .lload_n 1, 1), (6, .lload_n 3, 1), (7, .lmul, 1), (8, .ladd, 1), (9, .putfield 32, 3), (12, .aload_n 0, 1), (13, .dup, 1), (14, .getfield 36, 3), (17, .lload_n 1, 1), (18, .lload 5, 2), (20, .lmul, 1), (21, .ladd, 1), (22, .putfield 36, 3), (25, .aload_n 0, 1), (26, .aload_n 0, 1), (27, .getfield 41, 3), (30, .lload_n 3, 1), (31, .invokestatic 93, 3), (34, .putfield 41, 3), (37, .aload_n 0, 1), (38, .aload_n 0, 1), (39, .getfield 44, 3), (42, .lload_n 3, 1), (43, .invokestatic 99, 3), (46, .putfield 44, 3), (49, .return_, 1)]
theorem dzX6_end : dz cX6_end rwX6_end := dz_all 0 (by decide +kernel)
def kX6_end (live : am_E) (Ret : am_R) : am_code := [(0, am_aload 0 1), (1, am_dup 2), (2, am_getJ live 6 5 5), (5, am_lload 1 6), (6, am_lload 3 7), (7, am_l2 (fun x y => x * y) 8), (8, am_l2 (fun x y => x + y) 9), (9, am_putJ live 6 5 12), (12, am_aload 0 13), (13, am_dup 14), (14, am_getJ live 6 8 17), (17, am_lload 1 18), (18, am_lload 5 20), (20, am_l2 (fun x y => x * y) 21), (21, am_l2 (fun x y => x + y) 22), (22, am_putJ live 6 8 25), (25, am_aload 0 26), (26, am_aload 0 27), (27, am_getJ live 6 6 30), (30, am_lload 3 31), (31, am_mathl (fun x y => if y < x then y else x) 23 34), (34, am_putJ live 6 6 37), (37, am_aload 0 38), (38, am_aload 0 39), (39, am_getJ live 6 7 42), (42, am_lload 3 43), (43, am_mathl (fun x y => if y < x then x else y) 23 46), (46, am_putJ live 6 7 49), (49, am_retV Ret)]
theorem koX6_end (live : am_E) (Ret : am_R) : ∀ q ∈ kX6_end live Ret, am_ok RX6 cX6_end 7 none 1 23 live Ret q.1 q.2 :=
  am_kz dzX6_end <|
  am_kd (fun d => ak_aload_n d rfl rfl) <|
  am_kd (fun d => ak_dup d rfl) <|
  am_kd (fun d => ak_getJ (C := RX6) (T := TX6) (N := 9) rfl inX6w (by decide) rfl rfl rfl wd_361 d rfl) <|
  am_kd (fun d => ak_lload_n d rfl rfl) <|
  am_kd (fun d => ak_lload_n d rfl rfl) <|
  am_kd (fun d => ak_lmul d rfl) <|
  am_kd (fun d => ak_ladd d rfl) <|
  am_kd (fun d => ak_putJ (C := RX6) (T := TX6) (N := 9) rfl inX6w tyX6_ok nmX6 (by decide) rfl rfl rfl rfl (by decide +kernel) wd_361 d rfl) <|
  am_kd (fun d => ak_aload_n d rfl rfl) <|
  am_kd (fun d => ak_dup d rfl) <|
  am_kd (fun d => ak_getJ (C := RX6) (T := TX6) (N := 9) rfl inX6w (by decide) rfl rfl rfl wd_367 d rfl) <|
  am_kd (fun d => ak_lload_n d rfl rfl) <|
  am_kd (fun d => ak_lload d rfl) <|
  am_kd (fun d => ak_lmul d rfl) <|
  am_kd (fun d => ak_ladd d rfl) <|
  am_kd (fun d => ak_putJ (C := RX6) (T := TX6) (N := 9) rfl inX6w tyX6_ok nmX6 (by decide) rfl rfl rfl rfl (by decide +kernel) wd_367 d rfl) <|
  am_kd (fun d => ak_aload_n d rfl rfl) <|
  am_kd (fun d => ak_aload_n d rfl rfl) <|
  am_kd (fun d => ak_getJ (C := RX6) (T := TX6) (N := 9) rfl inX6w (by decide) rfl rfl rfl wd_363 d rfl) <|
  am_kd (fun d => ak_lload_n d rfl rfl) <|
  am_kd (fun d => ak_lmin (am_w4 wd_798 wd_608 wd_68 wd_609) (by decide) d rfl) <|
  am_kd (fun d => ak_putJ (C := RX6) (T := TX6) (N := 9) rfl inX6w tyX6_ok nmX6 (by decide) rfl rfl rfl rfl (by decide +kernel) wd_363 d rfl) <|
  am_kd (fun d => ak_aload_n d rfl rfl) <|
  am_kd (fun d => ak_aload_n d rfl rfl) <|
  am_kd (fun d => ak_getJ (C := RX6) (T := TX6) (N := 9) rfl inX6w (by decide) rfl rfl rfl wd_365 d rfl) <|
  am_kd (fun d => ak_lload_n d rfl rfl) <|
  am_kd (fun d => ak_lmax (am_w4 wd_799 wd_611 wd_68 wd_612) (by decide) d rfl) <|
  am_kd (fun d => ak_putJ (C := RX6) (T := TX6) (N := 9) rfl inX6w tyX6_ok nmX6 (by decide) rfl rfl rfl rfl (by decide +kernel) wd_365 d rfl) <|
  am_kd (fun d => ak_retV d) <| am_kdn
def TX6_end : am_T := fun live as M R => match as with
  | [.ref n, .long c, .long t, .long l] => am_mn live ∧ n = 2 ∧ ∀ M', g_we M M' → R none M'
  | _ => False
theorem g_we.rf {M : am_M} : g_we M M := ⟨(), rfl, fun _ _ _ => rfl⟩
theorem g_we.w {M M' : am_M} {k : Nat} {v : Int64} (h : g_we M M') : g_we M (am_wJ M' 2 k v) := by
  obtain ⟨-, h1, h2⟩ := h
  refine ⟨(), h1, fun a b z => ?_⟩
  rw [am_wJ_1, if_neg (fun q => z q.1)]
  exact h2 a b z
set_option maxRecDepth 100000 in
set_option maxHeartbeats 4000000 in
theorem metX6_end : am_Met yX6_end cX6_end 7 none (1) (23) TX6_end := by
  refine am_met (own := RX6) (by decide +kernel) rfl kX6_end koX6_end 100 (fun _ _ _ _ _ => none) (fun live as M Ret h => ?_) (fun _ _ _ _ _ _ _ _ hI => by cases hI)
  unfold TX6_end at h
  split at h
  · next n c t l =>
    refine ⟨Nat.le_of_ble_eq_true rfl, ?_⟩
    change am_wp _ _ _ _ [(0, Value.ref n), (1, Value.long c), (3, Value.long t), (5, Value.long l)] _ _
    obtain ⟨⟨i1, i2, rfl⟩, rfl, h⟩ := h
    repeat' (first | apply And.intro | exact rfl | intro hx | (refine Exists.intro _ (And.intro rfl ?_)))
    all_goals try first | (with_reducible change am_tI _ _) | (change Ret _ _) | (change Ret _ _ _) | (change Exists _)
    all_goals try dsimp only at *
    all_goals try (with_reducible exact absurd ‹(1000 : Int64) = 0› am_z1000)
    exact h _ (g_we.rf.w.w.w.w)
  · exact h.elim
set_option maxRecDepth 100000 in
theorem wd_355 : Cond.fieldLink "LearnLoans$Ways" 12 "LearnLoans$Ways" "run" "LLearnLoans$Run;" ∈ am_ws := am_wt2 (List.mem_of_getElem? (i := 58) (by rfl)) (by decide +kernel)
set_option maxRecDepth 100000 in
theorem wd_357 : Cond.fieldLink "LearnLoans$Ways" 18 "LearnLoans$Ways" "owedAhead" "[J" ∈ am_ws := am_wt2 (List.mem_of_getElem? (i := 60) (by rfl)) (by decide +kernel)
set_option maxRecDepth 100000 in
theorem wd_297 : Cond.fieldLink "LearnLoans$Ways" 55 "LearnLoans$Run" "sums" "[J" ∈ am_ws := am_wt2 (List.mem_of_getElem? (i := 0) (by rfl)) (by decide +kernel)
set_option maxRecDepth 100000 in
theorem wd_787 : Cond.methodLink "LearnLoans$Ways" 58 arraycopyName ∈ am_ws := am_wt4 (List.mem_of_getElem? (i := 10) (by rfl)) (by decide +kernel)
set_option maxRecDepth 100000 in
theorem wd_360 : Cond.fieldLink "LearnLoans$Ways" 29 "LearnLoans$Ways" "pence" "I" ∈ am_ws := am_wt2 (List.mem_of_getElem? (i := 63) (by rfl)) (by decide +kernel)
set_option maxRecDepth 100000 in
theorem wd_791 : Cond.methodLink "LearnLoans$Ways" 68 yX4_suppose ∈ am_ws := am_wt4 (List.mem_of_getElem? (i := 14) (by rfl)) (by decide +kernel)
set_option maxRecDepth 100000 in
theorem wd_358 : Cond.fieldLink "LearnLoans$Ways" 22 "LearnLoans$Ways" "yea\x72" "I" ∈ am_ws := am_wt2 (List.mem_of_getElem? (i := 61) (by rfl)) (by decide +kernel)
set_option maxRecDepth 100000 in
theorem wd_792 : Cond.methodLink "LearnLoans$Ways" 72 yX4_turn ∈ am_ws := am_wt4 (List.mem_of_getElem? (i := 15) (by rfl)) (by decide +kernel)
theorem hy_X4_together : yX4_together.cls ≠ "java/lang/invoke/MethodHandle" ∧ yX4_together.cls ≠ "java/lang/invoke/VarHandle" ∧ (parseMethodDescriptor yX4_together.desc).map (fun d => d.parameters.length) = some 1 := ⟨by decide +kernel, by decide +kernel, by decide +kernel⟩
set_option maxRecDepth 100000 in
theorem wd_793 : Cond.methodLink "LearnLoans$Ways" 75 yX4_together ∈ am_ws := am_wt4 (List.mem_of_getElem? (i := 16) (by rfl)) (by decide +kernel)
set_option maxRecDepth 100000 in
theorem wd_650 : Cond.instanceMethod yX4_together ∈ am_ws := am_wt3 (List.mem_of_getElem? (i := 113) (by rfl)) (by decide +kernel)
set_option maxRecDepth 100000 in
theorem wd_651 : Cond.selects "LearnLoans$Run" yX4_together yX4_together ∈ am_ws := am_wt3 (List.mem_of_getElem? (i := 114) (by rfl)) (by decide +kernel)
set_option maxRecDepth 100000 in
theorem wd_652 : Cond.code yX4_together cX4_together 5 (some .long) ∈ am_ws := am_wt3 (List.mem_of_getElem? (i := 115) (by rfl)) (by decide +kernel)
set_option maxRecDepth 100000 in
theorem wd_359 : Cond.fieldLink "LearnLoans$Ways" 26 "LearnLoans$Ways" "years" "I" ∈ am_ws := am_wt2 (List.mem_of_getElem? (i := 62) (by rfl)) (by decide +kernel)
theorem hy_X6_end : yX6_end.cls ≠ "java/lang/invoke/MethodHandle" ∧ yX6_end.cls ≠ "java/lang/invoke/VarHandle" ∧ (parseMethodDescriptor yX6_end.desc).map (fun d => d.parameters.length) = some 3 := ⟨by decide +kernel, by decide +kernel, by decide +kernel⟩
set_option maxRecDepth 100000 in
theorem wd_794 : Cond.methodLink "LearnLoans$Ways" 79 yX6_end ∈ am_ws := am_wt4 (List.mem_of_getElem? (i := 17) (by rfl)) (by decide +kernel)
set_option maxRecDepth 100000 in
theorem wd_796 : Cond.instanceMethod yX6_end ∈ am_ws := am_wt4 (List.mem_of_getElem? (i := 19) (by rfl)) (by decide +kernel)
set_option maxRecDepth 100000 in
theorem wd_25 : Cond.selects "LearnLoans$Ways" yX6_end yX6_end ∈ am_ws := am_wsi (List.mem_of_getElem? (i := 25) (by rfl)) (by decide +kernel)
set_option maxRecDepth 100000 in
theorem wd_59 : Cond.initialized "LearnLoans$Ways" ∈ am_ws := am_wt1 (List.mem_of_getElem? (i := 2) (by rfl)) (by decide +kernel)
set_option maxRecDepth 100000 in
theorem wd_797 : Cond.code yX6_end cX6_end 7 none ∈ am_ws := am_wt4 (List.mem_of_getElem? (i := 20) (by rfl)) (by decide +kernel)
set_option maxRecDepth 100000 in
theorem wd_293 : Cond.fieldLink "LearnLoans$Ways" 83 "LearnLoans$Run" "house" "LLearnLoans$House;" ∈ am_ws := am_wt1 (List.mem_of_getElem? (i := 236) (by rfl)) (by decide +kernel)
set_option maxRecDepth 100000 in
theorem wd_222 : Cond.fieldLink "LearnLoans$Ways" 87 "LearnLoans$House" "chances" "[I" ∈ am_ws := am_wt1 (List.mem_of_getElem? (i := 165) (by rfl)) (by decide +kernel)
theorem hy_X6_walk : yX6_walk.cls ≠ "java/lang/invoke/MethodHandle" ∧ yX6_walk.cls ≠ "java/lang/invoke/VarHandle" ∧ (parseMethodDescriptor yX6_walk.desc).map (fun d => d.parameters.length) = some 6 := ⟨by decide +kernel, by decide +kernel, by decide +kernel⟩
set_option maxRecDepth 100000 in
theorem wd_788 : Cond.methodLink "LearnLoans$Ways" 64 yX6_walk ∈ am_ws := am_wt4 (List.mem_of_getElem? (i := 11) (by rfl)) (by decide +kernel)
set_option maxRecDepth 100000 in
theorem wd_789 : Cond.static yX6_walk ∈ am_ws := am_wt4 (List.mem_of_getElem? (i := 12) (by rfl)) (by decide +kernel)
set_option maxRecDepth 100000 in
theorem wd_790 : Cond.code yX6_walk cX6_walk 14 none ∈ am_ws := am_wt4 (List.mem_of_getElem? (i := 13) (by rfl)) (by decide +kernel)
def rwX6_walk : List dz_r := [(0, .iload_n 1, 1), (1, .iconst 5, 1), (2, .if_icmp .lt 4, 3), (5, .return_, 1), (6, .aload_n 0, 1), (7, .getfield 12, 3), (10, .astore 9, 2), (12, .aload_n 0, 1), (13, .getfield 18, 3), (16, .iload_n 1, 1), (17, .bipush 30, 2), (19, .imul, 1), (20, .aload 9, 2), (22, .getfield 55, 3), (25, .iconst 0, 1), (26, .bipush 30, 2), (28, .invokestatic 58, 3), (31, .iload_n 2, 1), (32, .ifCond .ne 10, 3), (35, .aload_n 0, 1), (36, .getfield 29, 3), (39, .goto 13, 3), (42, .iload_n 2, 1), (43, .iconst 1, 1), (44, .if_icmp .ne 7, 3), (47, .iconst 0, 1), (48, .goto 4, 3), (51, .iconst (-1), 1), (52, .istore 10, 2), (54, .aload 9, 2), (56, .iload 10, 2), (58, .iload_n 2, 1), (59, .iconst 2, 1), (60, .if_icmp .ne 7, 3), (63, .iconst 1, 1), (64, .goto 4, 3), (67, .iconst 0, 1), (68, .iload_n 2, 1), (69, .iconst 3, 1), (70, .if_icmp .ne 7, 3), (73, .iconst 1, 1), (74, .goto 4, 3), (77, .iconst 0, 1), (78, .invokevirtual 68, 3), (81, .aload 9, 2), (83, .aload_n 0, 1), (84, .getfield 22, 3), (87, .iload_n 1, 1), (88, .iadd, 1), (89, .invokevirtual 72, 3), (92, .lload 5, 2), (94, .aload 9, 2), (96, .iconst 1, 1), (97, .invokevirtual 75, 3), (100, .ladd, 1), (101, .lstore 5, 2), (103, .lload 7, 2), (105, .aload 9, 2), (107, .iconst 2, 1), (108, .invokevirtual 75, 3), (111, .ladd, 1), (112, .lstore 7, 2), (114, .iload_n 1, 1), (115, .iconst 1, 1), (116, .iadd, 1), (117, .istore 11, 2), (119, .iload 11, 2), (121, .aload_n 0, 1), (122, .getfield 26, 3), (125, .if_icmp .ge 9, 3), (128, .iload 11, 2), (130, .iconst 5, 1), (131, .if_icmp .lt 20, 3), (134, .aload_n 0, 1), (135, .lload_n 3, 1), (136, .lload 5, 2), (138, .lload 7, 2), (140, .aload 9, 2), (142, .iconst 0, 1), (143, .invokevirtual 75, 3), (146, .ladd, 1), (147, .invokevirtual 79, 3), (150, .return_, 1), (151, .aload 9, 2), (153, .getfield 55, 3), (156, .iconst 0, 1), (157, .aload_n 0, 1), (158, .getfield 18, 3), (161, .iload 11, 2), (163, .bipush 30, 2), (165, .imul, 1), (166, .bipush 30, 2), (168, .invokestatic 58, 3), (171, .iconst 0, 1), (172, .istore 12, 2), (174, .iload 12, 2), (176, .iconst 4, 1), (177, .if_icmp .ge 48, 3), (180, .aload 9, 2), (182, .getfield 83, 3), (185, .getfield 87, 3), (188, .iload_n 2, 1), (189, .iconst 4, 1), (190, .imul, 1), (191, .iload 12, 2), (193, .iadd, 1), (194, .iaload, 1), (195, .istore 13, 2), (197, .iload 13, 2), (199, .ifCond .le 20, 3), (202, .aload_n 0, 1), (203, .iload 11, 2), (205, .iload 12, 2), (207, .lload_n 3, 1), (208, .iload 13, 2), (210, .i2l, 1), (211, .lmul, 1), (212, .lload 5, 2), (214, .lload 7, 2), (216, .invokestatic 64, 3), (219, .iinc 12 1, 3), (222, .goto (-48), 3), (225, .return_, 1)]
theorem dzX6_walk : dz cX6_walk rwX6_walk := dz_all 0 (by decide +kernel)
def kX6_walk (d rw lw : Nat) (Tw : am_T) (live : am_E) (Ret : am_R) : am_code := [(0, am_iload 1 1), (1, am_const (.int 5) 2), (2, am_if2 (fun x y => x < y) 6 5), (5, am_retV Ret), (6, am_aload 0 7), (7, am_getR live 6 0 10), (10, am_astore 9 14 12), (12, am_aload 0 13), (13, am_getR live 6 1 16), (16, am_iload 1 17), (17, am_const (.int 30) 19), (19, am_i2 (fun x y => x * y) 20), (20, am_aload 9 22), (22, am_getR live 4 2 25), (25, am_const (.int 0) 26), (26, am_const (.int 30) 28), (28, am_copyJ live (40 * d + 110) 31), (31, am_iload 2 32), (32, am_if1 (fun x => x = 0) 35 42), (35, am_aload 0 36), (36, am_getI live 6 4 39), (39, am_goto 52), (42, am_iload 2 43), (43, am_const (.int 1) 44), (44, am_if2 (fun x y => x = y) 47 51), (47, am_const (.int 0) 48), (48, am_goto 52), (51, am_const (.int (-1)) 52), (52, am_istore 10 14 54), (54, am_aload 9 56), (56, am_iload 10 58), (58, am_iload 2 59), (59, am_const (.int 2) 60), (60, am_if2 (fun x y => x = y) 63 67), (63, am_const (.int 1) 64), (64, am_goto 68), (67, am_const (.int 0) 68), (68, am_iload 2 69), (69, am_const (.int 3) 70), (70, am_if2 (fun x y => x = y) 73 77), (73, am_const (.int 1) 74), (74, am_goto 78), (77, am_const (.int 0) 78), (78, am_callV live 4 3 TX4_suppose 81), (81, am_aload 9 83), (83, am_aload 0 84), (84, am_getI live 6 2 87), (87, am_iload 1 88), (88, am_i2 (fun x y => x + y) 89), (89, am_callV live 4 1 TX4_turn 92), (92, am_lload 5 94), (94, am_aload 9 96), (96, am_const (.int 1) 97), (97, am_callV live 4 1 TX4_together 100), (100, am_l2 (fun x y => x + y) 101), (101, am_lstore 5 14 103), (103, am_lload 7 105), (105, am_aload 9 107), (107, am_const (.int 2) 108), (108, am_callV live 4 1 TX4_together 111), (111, am_l2 (fun x y => x + y) 112), (112, am_lstore 7 14 114), (114, am_iload 1 115), (115, am_const (.int 1) 116), (116, am_i2 (fun x y => x + y) 117), (117, am_istore 11 14 119), (119, am_iload 11 121), (121, am_aload 0 122), (122, am_getI live 6 3 125), (125, am_if2 (fun x y => y ≤ x) 134 128), (128, am_iload 11 130), (130, am_const (.int 5) 131), (131, am_if2 (fun x y => x < y) 151 134), (134, am_aload 0 135), (135, am_lload 3 136), (136, am_lload 5 138), (138, am_lload 7 140), (140, am_aload 9 142), (142, am_const (.int 0) 143), (143, am_callV live 4 1 TX4_together 146), (146, am_l2 (fun x y => x + y) 147), (147, am_callV live 6 3 TX6_end 150), (150, am_retV Ret), (151, am_aload 9 153), (153, am_getR live 4 2 156), (156, am_const (.int 0) 157), (157, am_aload 0 158), (158, am_getR live 6 1 161), (161, am_iload 11 163), (163, am_const (.int 30) 165), (165, am_i2 (fun x y => x * y) 166), (166, am_const (.int 30) 168), (168, am_copyJ live (40 * d + 110) 171), (171, am_const (.int 0) 172), (172, am_istore 12 14 174), (174, am_iload 12 176), (176, am_const (.int 4) 177), (177, am_if2 (fun x y => y ≤ x) 225 180), (180, am_aload 9 182), (182, am_getR live 4 0 185), (185, am_getR live 0 10 188), (188, am_iload 2 189), (189, am_const (.int 4) 190), (190, am_i2 (fun x y => x * y) 191), (191, am_iload 12 193), (193, am_i2 (fun x y => x + y) 194), (194, am_ald live 0 195), (195, am_istore 13 14 197), (197, am_iload 13 199), (199, am_if1 (fun x => x ≤ 0) 219 202), (202, am_aload 0 203), (203, am_iload 11 205), (205, am_iload 12 207), (207, am_lload 3 208), (208, am_iload 13 210), (210, am_i2l 211), (211, am_l2 (fun x y => x * y) 212), (212, am_lload 5 214), (214, am_lload 7 216), (216, am_callS live 6 Tw 219), (219, am_iinc 12 14 1 222), (222, am_goto 174), (225, am_retV Ret)]
theorem koX6_walk (d rw lw : Nat) (Tw : am_T) (hW : am_Met yX6_walk cX6_walk 14 none rw lw Tw) (hrc : rw + 1 ≤ d + 4 ∧ lw + 33 ≤ 40 * d + 110) (live : am_E) (Ret : am_R) : ∀ q ∈ kX6_walk d rw lw Tw live Ret, am_ok RX6 cX6_walk 14 none (d + 4) (40 * d + 110) live Ret q.1 q.2 :=
  am_kz dzX6_walk <|
  am_kd (fun d => ak_iload_n d rfl rfl) <|
  am_kd (fun d => ak_iconst d (by decide +kernel) rfl) <|
  am_kd (fun d => ak_icmp_lt d (by decide +kernel) rfl) <|
  am_kd (fun d => ak_retV d) <|
  am_kd (fun d => ak_aload_n d rfl rfl) <|
  am_kd (fun d => ak_getR (C := RX6) (T := TX6) (N := 9) rfl inX6w (by decide) rfl rfl rfl wd_355 d rfl) <|
  am_kd (fun d => ak_astore d rfl) <|
  am_kd (fun d => ak_aload_n d rfl rfl) <|
  am_kd (fun d => ak_getR (C := RX6) (T := TX6) (N := 9) rfl inX6w (by decide) rfl rfl rfl wd_357 d rfl) <|
  am_kd (fun d => ak_iload_n d rfl rfl) <|
  am_kd (fun d => ak_bipush d (by decide +kernel) rfl) <|
  am_kd (fun d => ak_imul d rfl) <|
  am_kd (fun d => ak_aload d rfl) <|
  am_kd (fun d => ak_getR (C := RX4) (T := TX4) (N := 19) rfl inX4w (by decide) rfl rfl rfl wd_297 d rfl) <|
  am_kd (fun d => ak_iconst d (by decide +kernel) rfl) <|
  am_kd (fun d => ak_bipush d (by decide +kernel) rfl) <|
  am_kd (fun d => ak_copyJ (am_w4 wd_787 wd_501 wd_500 wd_69) (by omega) d rfl) <|
  am_kd (fun d => ak_iload_n d rfl rfl) <|
  am_kd (fun d => ak_if_ne d (by decide +kernel) rfl) <|
  am_kd (fun d => ak_aload_n d rfl rfl) <|
  am_kd (fun d => ak_getI (C := RX6) (T := TX6) (N := 9) rfl inX6w (by decide) rfl rfl rfl wd_360 d rfl) <|
  am_kd (fun d => ak_goto d (by decide +kernel)) <|
  am_kd (fun d => ak_iload_n d rfl rfl) <|
  am_kd (fun d => ak_iconst d (by decide +kernel) rfl) <|
  am_kd (fun d => ak_icmp_ne d (by decide +kernel) rfl) <|
  am_kd (fun d => ak_iconst d (by decide +kernel) rfl) <|
  am_kd (fun d => ak_goto d (by decide +kernel)) <|
  am_kd (fun d => ak_iconst d (by decide +kernel) rfl) <|
  am_kd (fun d => ak_istore d rfl) <|
  am_kd (fun d => ak_aload d rfl) <|
  am_kd (fun d => ak_iload d rfl) <|
  am_kd (fun d => ak_iload_n d rfl rfl) <|
  am_kd (fun d => ak_iconst d (by decide +kernel) rfl) <|
  am_kd (fun d => ak_icmp_ne d (by decide +kernel) rfl) <|
  am_kd (fun d => ak_iconst d (by decide +kernel) rfl) <|
  am_kd (fun d => ak_goto d (by decide +kernel)) <|
  am_kd (fun d => ak_iconst d (by decide +kernel) rfl) <|
  am_kd (fun d => ak_iload_n d rfl rfl) <|
  am_kd (fun d => ak_iconst d (by decide +kernel) rfl) <|
  am_kd (fun d => ak_icmp_ne d (by decide +kernel) rfl) <|
  am_kd (fun d => ak_iconst d (by decide +kernel) rfl) <|
  am_kd (fun d => ak_goto d (by decide +kernel)) <|
  am_kd (fun d => ak_iconst d (by decide +kernel) rfl) <|
  am_kd (fun d => ak_callV (C := RX4) (F := TX4) (N := 19) metX4_suppose rfl ⟨rfl, hy_X4_suppose⟩ (am_w5 wd_791 wd_568 wd_569 wd_60 wd_570) (by omega) d rfl) <|
  am_kd (fun d => ak_aload d rfl) <|
  am_kd (fun d => ak_aload_n d rfl rfl) <|
  am_kd (fun d => ak_getI (C := RX6) (T := TX6) (N := 9) rfl inX6w (by decide) rfl rfl rfl wd_358 d rfl) <|
  am_kd (fun d => ak_iload_n d rfl rfl) <|
  am_kd (fun d => ak_iadd d rfl) <|
  am_kd (fun d => ak_callV (C := RX4) (F := TX4) (N := 19) metX4_turn rfl ⟨rfl, hy_X4_turn⟩ (am_w5 wd_792 wd_573 wd_574 wd_60 wd_575) (by omega) d rfl) <|
  am_kd (fun d => ak_lload d rfl) <|
  am_kd (fun d => ak_aload d rfl) <|
  am_kd (fun d => ak_iconst d (by decide +kernel) rfl) <|
  am_kd (fun d => ak_callV (C := RX4) (F := TX4) (N := 19) metX4_together rfl ⟨rfl, hy_X4_together⟩ (am_w5 wd_793 wd_650 wd_651 wd_60 wd_652) (by omega) d rfl) <|
  am_kd (fun d => ak_ladd d rfl) <|
  am_kd (fun d => ak_lstore d rfl) <|
  am_kd (fun d => ak_lload d rfl) <|
  am_kd (fun d => ak_aload d rfl) <|
  am_kd (fun d => ak_iconst d (by decide +kernel) rfl) <|
  am_kd (fun d => ak_callV (C := RX4) (F := TX4) (N := 19) metX4_together rfl ⟨rfl, hy_X4_together⟩ (am_w5 wd_793 wd_650 wd_651 wd_60 wd_652) (by omega) d rfl) <|
  am_kd (fun d => ak_ladd d rfl) <|
  am_kd (fun d => ak_lstore d rfl) <|
  am_kd (fun d => ak_iload_n d rfl rfl) <|
  am_kd (fun d => ak_iconst d (by decide +kernel) rfl) <|
  am_kd (fun d => ak_iadd d rfl) <|
  am_kd (fun d => ak_istore d rfl) <|
  am_kd (fun d => ak_iload d rfl) <|
  am_kd (fun d => ak_aload_n d rfl rfl) <|
  am_kd (fun d => ak_getI (C := RX6) (T := TX6) (N := 9) rfl inX6w (by decide) rfl rfl rfl wd_359 d rfl) <|
  am_kd (fun d => ak_icmp_ge d (by decide +kernel) rfl) <|
  am_kd (fun d => ak_iload d rfl) <|
  am_kd (fun d => ak_iconst d (by decide +kernel) rfl) <|
  am_kd (fun d => ak_icmp_lt d (by decide +kernel) rfl) <|
  am_kd (fun d => ak_aload_n d rfl rfl) <|
  am_kd (fun d => ak_lload_n d rfl rfl) <|
  am_kd (fun d => ak_lload d rfl) <|
  am_kd (fun d => ak_lload d rfl) <|
  am_kd (fun d => ak_aload d rfl) <|
  am_kd (fun d => ak_iconst d (by decide +kernel) rfl) <|
  am_kd (fun d => ak_callV (C := RX4) (F := TX4) (N := 19) metX4_together rfl ⟨rfl, hy_X4_together⟩ (am_w5 wd_793 wd_650 wd_651 wd_60 wd_652) (by omega) d rfl) <|
  am_kd (fun d => ak_ladd d rfl) <|
  am_kd (fun d => ak_callV (C := RX6) (F := TX6) (N := 9) metX6_end rfl ⟨rfl, hy_X6_end⟩ (am_w5 wd_794 wd_796 wd_25 wd_59 wd_797) (by omega) d rfl) <|
  am_kd (fun d => ak_retV d) <|
  am_kd (fun d => ak_aload d rfl) <|
  am_kd (fun d => ak_getR (C := RX4) (T := TX4) (N := 19) rfl inX4w (by decide) rfl rfl rfl wd_297 d rfl) <|
  am_kd (fun d => ak_iconst d (by decide +kernel) rfl) <|
  am_kd (fun d => ak_aload_n d rfl rfl) <|
  am_kd (fun d => ak_getR (C := RX6) (T := TX6) (N := 9) rfl inX6w (by decide) rfl rfl rfl wd_357 d rfl) <|
  am_kd (fun d => ak_iload d rfl) <|
  am_kd (fun d => ak_bipush d (by decide +kernel) rfl) <|
  am_kd (fun d => ak_imul d rfl) <|
  am_kd (fun d => ak_bipush d (by decide +kernel) rfl) <|
  am_kd (fun d => ak_copyJ (am_w4 wd_787 wd_501 wd_500 wd_69) (by omega) d rfl) <|
  am_kd (fun d => ak_iconst d (by decide +kernel) rfl) <|
  am_kd (fun d => ak_istore d rfl) <|
  am_kd (fun d => ak_iload d rfl) <|
  am_kd (fun d => ak_iconst d (by decide +kernel) rfl) <|
  am_kd (fun d => ak_icmp_ge d (by decide +kernel) rfl) <|
  am_kd (fun d => ak_aload d rfl) <|
  am_kd (fun d => ak_getR (C := RX4) (T := TX4) (N := 19) rfl inX4w (by decide) rfl rfl rfl wd_293 d rfl) <|
  am_kd (fun d => ak_getR (C := RX0) (T := TX0) (N := 13) rfl inX0w (by decide) rfl rfl rfl wd_222 d rfl) <|
  am_kd (fun d => ak_iload_n d rfl rfl) <|
  am_kd (fun d => ak_iconst d (by decide +kernel) rfl) <|
  am_kd (fun d => ak_imul d rfl) <|
  am_kd (fun d => ak_iload d rfl) <|
  am_kd (fun d => ak_iadd d rfl) <|
  am_kd (fun d => ak_iald (t := 0) (fun _ => rfl) rfl d rfl) <|
  am_kd (fun d => ak_istore d rfl) <|
  am_kd (fun d => ak_iload d rfl) <|
  am_kd (fun d => ak_if_le d (by decide +kernel) rfl) <|
  am_kd (fun d => ak_aload_n d rfl rfl) <|
  am_kd (fun d => ak_iload d rfl) <|
  am_kd (fun d => ak_iload d rfl) <|
  am_kd (fun d => ak_lload_n d rfl rfl) <|
  am_kd (fun d => ak_iload d rfl) <|
  am_kd (fun d => ak_i2l d rfl) <|
  am_kd (fun d => ak_lmul d rfl) <|
  am_kd (fun d => ak_lload d rfl) <|
  am_kd (fun d => ak_lload d rfl) <|
  am_kd (fun d => ak_callS hW ⟨rfl, hy_X6_walk⟩ (am_w4 wd_788 wd_789 wd_59 wd_790) (by omega) d rfl) <|
  am_kd (fun d => ak_iinc d (by decide +kernel) rfl) <|
  am_kd (fun d => ak_goto d (by decide +kernel)) <|
  am_kd (fun d => ak_retV d) <| am_kdn
def TX6_walk (d : Nat) : am_T := fun live as M R => match as with
  | [.ref n, .int p, .int s, .long c, .long t, .long u] => am_mn live ∧ n = 2 ∧ am_in s 4 ∧ g_wI M p ∧ 5 ≤ p.toInt + (d : Int) ∧ g_rI M ∧ ∀ M', g_sw M M' → g_rI M' → R none M'
  | _ => False
def JX6_walk : am_E → List Value → am_M → am_R → am_inv := fun live as M0 _ pc => match as with
  | [.ref n, .int p, .int s, .long c, .long t, .long u] => (match pc with
    | 174 => some ([0, 2, 3, 5, 7, 9, 11, 12], fun k L st M => ∃ (t u : Int64) (o : Int32), L = [(0, .ref 2), (2, .int s), (3, .long c), (5, .long t), (7, .long u), (9, .ref 4), (11, .int (p + 1)), (12, .int o)] ∧ st = [] ∧ k = ((5 - o.toInt).toNat, 0) ∧ 0 ≤ o.toInt ∧ g_wI M (p + 1) ∧ g_sw M0 M ∧ g_rI M)
    | _ => none)
  | _ => none
theorem g_yr {M : am_M} {p : Int32} (h : g_wI M p) : am_in (M.1 2 2 + p) 40 := by
  obtain ⟨-, ⟨h1, h5⟩, h2, h3, h4⟩ := h
  have e := i_add (x := M.1 2 2) (y := p) (by omega) (by omega)
  exact ⟨by omega, by omega⟩
theorem g_wI.p {M : am_M} {p : Int32} (h : g_wI M p) : 0 ≤ p.toInt ∧ p.toInt < 5 := by
  obtain ⟨-, ⟨h1, h5⟩, h2, h3, h4⟩ := h
  exact ⟨h1, by omega⟩
theorem g_wI.nx {M M' : am_M} {p : Int32} (h : g_wI M p) (c : g_sw M M') (hn : ¬ M'.1 2 3 ≤ p + 1) : g_wI M' (p + 1) := by
  have h2 := h.sw c
  obtain ⟨-, ⟨h1, h5⟩, h2, h3, h4⟩ := h2
  have e := i_inc (x := p) (by omega) (by omega)
  simp only [i_le] at hn
  exact ⟨(), ⟨by omega, by omega⟩, h2, h3, h4⟩
set_option maxRecDepth 100000 in
set_option maxHeartbeats 16000000 in
theorem metX6_walkG (d rw lw : Nat) (Tw : am_T) (hW : am_Met yX6_walk cX6_walk 14 none rw lw Tw) (hrc : rw + 1 ≤ d + 4 ∧ lw + 33 ≤ 40 * d + 110)
    (hT : ∀ (live : am_E) (p s : Int32) (c t u : Int64) (M : am_M) (R : am_R), am_mn live → am_in s 4 → g_wI M (p + 1) → 5 ≤ p.toInt + (d : Int) → g_rI M → (∀ M', g_sw M M' → g_rI M' → R none M') → Tw live [.ref 2, .int (p + 1), .int s, .long c, .long t, .long u] M R) :
    am_Met yX6_walk cX6_walk 14 none (d + 4) (40 * d + 110) (TX6_walk d) := by
  refine am_met (own := RX6) (by decide +kernel) rfl (kX6_walk d rw lw Tw) (koX6_walk d rw lw Tw hW hrc) 200 JX6_walk ?_ ?_
  · intro live as M Ret h
    unfold TX6_walk at h
    split at h
    · next n p s c t u =>
      refine ⟨Nat.le_of_ble_eq_true rfl, ?_⟩
      change am_wp _ _ _ _ [(0, Value.ref n), (1, Value.int p), (2, Value.int s), (3, Value.long c), (5, Value.long t), (7, Value.long u)] _ _
      obtain ⟨hmn, rfl, hs, hw, hd, hr, h⟩ := h
      have hmn2 := hmn
      obtain ⟨i1, i2, rfl⟩ := hmn2
      have hy := g_yr hw
      have hp := hw.p
      have hp1 := hp.1
      have hp2 := hp.2
      have hrl : ∀ k, Nat.ble k 110 = true → Nat.ble k (40 * d + 110) = true := fun k hk => Nat.ble_eq.mpr (by have := Nat.le_of_ble_eq_true hk; omega)
      have hrl2 := hrl 23 rfl
      have e30 := i_mul (x := p) (y := 30) (by simp only [Int32.reduceToInt]; omega) (by simp only [Int32.reduceToInt]; omega)
      simp only [Int32.reduceToInt] at e30
      have hi := i_inc (x := p) (by omega) (by omega)
      have e31 := i_mul (x := p + 1) (y := 30) (by simp only [Int32.reduceToInt]; omega) (by simp only [Int32.reduceToInt]; omega)
      simp only [Int32.reduceToInt] at e31
      have l3 : am_len 3 = 150 := rfl
      have l6 : am_len 6 = 180 := rfl
      have w0 : am_in (0 : Int32) 6 := ⟨by decide, by decide⟩
      have w1 : am_in (1 : Int32) 6 := ⟨by decide, by decide⟩
      have w2 : am_in (2 : Int32) 6 := ⟨by decide, by decide⟩
      have hz5 : ¬ (5 : Int32) ≤ p := by simp only [i_le, Int32.reduceToInt]; omega
      have hlt5 : p < 5 := by simp only [i_lt, Int32.reduceToInt]; omega
      have hc4 : s = 0 ∨ s = 1 ∨ s = 2 ∨ s = 3 := by
        have h1 := hs.1
        have h2 := hs.2
        simp only [i_eq, Int32.reduceToInt]
        omega
      rcases hc4 with rfl | rfl | rfl | rfl
      · skip
        repeat' (first | (with_reducible exact hmn) | (with_reducible exact hy) | (with_reducible exact hw) | (with_reducible exact w0) | (with_reducible exact w1) | (with_reducible exact w2) | (with_reducible exact hrl2) | apply And.intro | exact rfl | (intro hx; with_reducible exact absurd hx hz5) | (intro hx; with_reducible exact absurd hlt5 hx) | ((with_reducible change g_rI _); (with_reducible assumption)) | (intro hx; exact absurd hx (by decide)) | (intro hx; exact absurd (by decide) hx) | decide | intro hx | (refine Exists.intro _ (And.intro rfl ?_)) | ((with_reducible change _ = true); simp only [hrl2, Bool.true_and]; rfl))
        all_goals try first | (with_reducible change am_tI _ _) | (change Ret _ _) | (change Ret _ _ _) | (change Exists _)
        all_goals try dsimp only at *
        all_goals try (with_reducible exact absurd ‹(1000 : Int64) = 0› am_z1000)
        all_goals first
          | omega
          | (simp only [l3, e30, e31, Int32.reduceToInt]; omega)
          | (have q := hx; simp only [i_lt, hi, Int32.reduceToInt] at q; simp only [l3, e31, hi, Int32.reduceToInt]; omega)
          | exact hy.1
          | exact hy.2
          | (left; rfl)
          | (right; rfl)
          | (change g_rI _; exact g_rI.wF (g_rI.w417 (g_rI.wF (g_rI.cJ hr) rfl) ⟨by decide, by decide⟩) rfl)
          | exact h _ (by (repeat' (first | (with_reducible exact g_sw.rf) | (with_reducible assumption) | ((with_reducible change g_sw _ (am_wI _ _ _ _)); refine g_sw.wI ?_ rfl) | ((with_reducible change g_sw _ (am_wJ _ _ _ _)); refine g_sw.wJ ?_ rfl) | ((with_reducible change g_sw _ (am_cJ _ _ _)); refine g_sw.cJ ?_ rfl) | (refine g_sw.tr ?_ (by with_reducible assumption)) | (refine g_sw.sc ?_ (by with_reducible assumption)) | (refine g_sw.we ?_ (by with_reducible assumption))))) (by (repeat' (first | (with_reducible assumption) | ((with_reducible change g_rI (am_wJ _ _ _ _)); refine g_rI.wJ ?_) | ((with_reducible change g_rI (am_cJ _ _ _)); refine g_rI.cJ ?_) | ((with_reducible change g_rI (am_wI _ 5 _ _)); refine g_rI.w5 ?_) | ((with_reducible change g_rI (am_wI _ _ _ _)); refine g_rI.wF ?_ rfl) | (refine g_rI.st ?_ (by with_reducible assumption)) | (refine g_rI.we ?_ (by with_reducible assumption)))))
          | (have hw2 := hw.nx (M' := ‹am_M›) (by (repeat' (first | (with_reducible exact g_sw.rf) | (with_reducible assumption) | ((with_reducible change g_sw _ (am_wI _ _ _ _)); refine g_sw.wI ?_ rfl) | ((with_reducible change g_sw _ (am_wJ _ _ _ _)); refine g_sw.wJ ?_ rfl) | ((with_reducible change g_sw _ (am_cJ _ _ _)); refine g_sw.cJ ?_ rfl) | (refine g_sw.tr ?_ (by with_reducible assumption)) | (refine g_sw.sc ?_ (by with_reducible assumption)) | (refine g_sw.we ?_ (by with_reducible assumption))))) (by with_reducible assumption)
             exact ⟨_, _, _, _, rfl, rfl, rfl, by decide, hw2.sw (by (repeat' (first | (with_reducible exact g_sw.rf) | (with_reducible assumption) | ((with_reducible change g_sw _ (am_wI _ _ _ _)); refine g_sw.wI ?_ rfl) | ((with_reducible change g_sw _ (am_wJ _ _ _ _)); refine g_sw.wJ ?_ rfl) | ((with_reducible change g_sw _ (am_cJ _ _ _)); refine g_sw.cJ ?_ rfl) | (refine g_sw.tr ?_ (by with_reducible assumption)) | (refine g_sw.sc ?_ (by with_reducible assumption)) | (refine g_sw.we ?_ (by with_reducible assumption))))), by (repeat' (first | (with_reducible exact g_sw.rf) | (with_reducible assumption) | ((with_reducible change g_sw _ (am_wI _ _ _ _)); refine g_sw.wI ?_ rfl) | ((with_reducible change g_sw _ (am_wJ _ _ _ _)); refine g_sw.wJ ?_ rfl) | ((with_reducible change g_sw _ (am_cJ _ _ _)); refine g_sw.cJ ?_ rfl) | (refine g_sw.tr ?_ (by with_reducible assumption)) | (refine g_sw.sc ?_ (by with_reducible assumption)) | (refine g_sw.we ?_ (by with_reducible assumption)))), by (repeat' (first | (with_reducible assumption) | ((with_reducible change g_rI (am_wJ _ _ _ _)); refine g_rI.wJ ?_) | ((with_reducible change g_rI (am_cJ _ _ _)); refine g_rI.cJ ?_) | ((with_reducible change g_rI (am_wI _ 5 _ _)); refine g_rI.w5 ?_) | ((with_reducible change g_rI (am_wI _ _ _ _)); refine g_rI.wF ?_ rfl) | (refine g_rI.st ?_ (by with_reducible assumption)) | (refine g_rI.we ?_ (by with_reducible assumption))))⟩)
          | skip
      · skip
        repeat' (first | (with_reducible exact hmn) | (with_reducible exact hy) | (with_reducible exact hw) | (with_reducible exact w0) | (with_reducible exact w1) | (with_reducible exact w2) | (with_reducible exact hrl2) | apply And.intro | exact rfl | (intro hx; with_reducible exact absurd hx hz5) | (intro hx; with_reducible exact absurd hlt5 hx) | ((with_reducible change g_rI _); (with_reducible assumption)) | (intro hx; exact absurd hx (by decide)) | (intro hx; exact absurd (by decide) hx) | decide | intro hx | (refine Exists.intro _ (And.intro rfl ?_)) | ((with_reducible change _ = true); simp only [hrl2, Bool.true_and]; rfl))
        all_goals try first | (with_reducible change am_tI _ _) | (change Ret _ _) | (change Ret _ _ _) | (change Exists _)
        all_goals try dsimp only at *
        all_goals try (with_reducible exact absurd ‹(1000 : Int64) = 0› am_z1000)
        all_goals first
          | omega
          | (simp only [l3, e30, e31, Int32.reduceToInt]; omega)
          | (have q := hx; simp only [i_lt, hi, Int32.reduceToInt] at q; simp only [l3, e31, hi, Int32.reduceToInt]; omega)
          | exact hy.1
          | exact hy.2
          | (left; rfl)
          | (right; rfl)
          | (change g_rI _; exact g_rI.wF (g_rI.w417 (g_rI.wF (g_rI.cJ hr) rfl) ⟨by decide, by decide⟩) rfl)
          | exact h _ (by (repeat' (first | (with_reducible exact g_sw.rf) | (with_reducible assumption) | ((with_reducible change g_sw _ (am_wI _ _ _ _)); refine g_sw.wI ?_ rfl) | ((with_reducible change g_sw _ (am_wJ _ _ _ _)); refine g_sw.wJ ?_ rfl) | ((with_reducible change g_sw _ (am_cJ _ _ _)); refine g_sw.cJ ?_ rfl) | (refine g_sw.tr ?_ (by with_reducible assumption)) | (refine g_sw.sc ?_ (by with_reducible assumption)) | (refine g_sw.we ?_ (by with_reducible assumption))))) (by (repeat' (first | (with_reducible assumption) | ((with_reducible change g_rI (am_wJ _ _ _ _)); refine g_rI.wJ ?_) | ((with_reducible change g_rI (am_cJ _ _ _)); refine g_rI.cJ ?_) | ((with_reducible change g_rI (am_wI _ 5 _ _)); refine g_rI.w5 ?_) | ((with_reducible change g_rI (am_wI _ _ _ _)); refine g_rI.wF ?_ rfl) | (refine g_rI.st ?_ (by with_reducible assumption)) | (refine g_rI.we ?_ (by with_reducible assumption)))))
          | (have hw2 := hw.nx (M' := ‹am_M›) (by (repeat' (first | (with_reducible exact g_sw.rf) | (with_reducible assumption) | ((with_reducible change g_sw _ (am_wI _ _ _ _)); refine g_sw.wI ?_ rfl) | ((with_reducible change g_sw _ (am_wJ _ _ _ _)); refine g_sw.wJ ?_ rfl) | ((with_reducible change g_sw _ (am_cJ _ _ _)); refine g_sw.cJ ?_ rfl) | (refine g_sw.tr ?_ (by with_reducible assumption)) | (refine g_sw.sc ?_ (by with_reducible assumption)) | (refine g_sw.we ?_ (by with_reducible assumption))))) (by with_reducible assumption)
             exact ⟨_, _, _, _, rfl, rfl, rfl, by decide, hw2.sw (by (repeat' (first | (with_reducible exact g_sw.rf) | (with_reducible assumption) | ((with_reducible change g_sw _ (am_wI _ _ _ _)); refine g_sw.wI ?_ rfl) | ((with_reducible change g_sw _ (am_wJ _ _ _ _)); refine g_sw.wJ ?_ rfl) | ((with_reducible change g_sw _ (am_cJ _ _ _)); refine g_sw.cJ ?_ rfl) | (refine g_sw.tr ?_ (by with_reducible assumption)) | (refine g_sw.sc ?_ (by with_reducible assumption)) | (refine g_sw.we ?_ (by with_reducible assumption))))), by (repeat' (first | (with_reducible exact g_sw.rf) | (with_reducible assumption) | ((with_reducible change g_sw _ (am_wI _ _ _ _)); refine g_sw.wI ?_ rfl) | ((with_reducible change g_sw _ (am_wJ _ _ _ _)); refine g_sw.wJ ?_ rfl) | ((with_reducible change g_sw _ (am_cJ _ _ _)); refine g_sw.cJ ?_ rfl) | (refine g_sw.tr ?_ (by with_reducible assumption)) | (refine g_sw.sc ?_ (by with_reducible assumption)) | (refine g_sw.we ?_ (by with_reducible assumption)))), by (repeat' (first | (with_reducible assumption) | ((with_reducible change g_rI (am_wJ _ _ _ _)); refine g_rI.wJ ?_) | ((with_reducible change g_rI (am_cJ _ _ _)); refine g_rI.cJ ?_) | ((with_reducible change g_rI (am_wI _ 5 _ _)); refine g_rI.w5 ?_) | ((with_reducible change g_rI (am_wI _ _ _ _)); refine g_rI.wF ?_ rfl) | (refine g_rI.st ?_ (by with_reducible assumption)) | (refine g_rI.we ?_ (by with_reducible assumption))))⟩)
          | skip
      · skip
        repeat' (first | (with_reducible exact hmn) | (with_reducible exact hy) | (with_reducible exact hw) | (with_reducible exact w0) | (with_reducible exact w1) | (with_reducible exact w2) | (with_reducible exact hrl2) | apply And.intro | exact rfl | (intro hx; with_reducible exact absurd hx hz5) | (intro hx; with_reducible exact absurd hlt5 hx) | ((with_reducible change g_rI _); (with_reducible assumption)) | (intro hx; exact absurd hx (by decide)) | (intro hx; exact absurd (by decide) hx) | decide | intro hx | (refine Exists.intro _ (And.intro rfl ?_)) | ((with_reducible change _ = true); simp only [hrl2, Bool.true_and]; rfl))
        all_goals try first | (with_reducible change am_tI _ _) | (change Ret _ _) | (change Ret _ _ _) | (change Exists _)
        all_goals try dsimp only at *
        all_goals try (with_reducible exact absurd ‹(1000 : Int64) = 0› am_z1000)
        all_goals first
          | omega
          | (simp only [l3, e30, e31, Int32.reduceToInt]; omega)
          | (have q := hx; simp only [i_lt, hi, Int32.reduceToInt] at q; simp only [l3, e31, hi, Int32.reduceToInt]; omega)
          | exact hy.1
          | exact hy.2
          | (left; rfl)
          | (right; rfl)
          | (change g_rI _; exact g_rI.wF (g_rI.w417 (g_rI.wF (g_rI.cJ hr) rfl) ⟨by decide, by decide⟩) rfl)
          | exact h _ (by (repeat' (first | (with_reducible exact g_sw.rf) | (with_reducible assumption) | ((with_reducible change g_sw _ (am_wI _ _ _ _)); refine g_sw.wI ?_ rfl) | ((with_reducible change g_sw _ (am_wJ _ _ _ _)); refine g_sw.wJ ?_ rfl) | ((with_reducible change g_sw _ (am_cJ _ _ _)); refine g_sw.cJ ?_ rfl) | (refine g_sw.tr ?_ (by with_reducible assumption)) | (refine g_sw.sc ?_ (by with_reducible assumption)) | (refine g_sw.we ?_ (by with_reducible assumption))))) (by (repeat' (first | (with_reducible assumption) | ((with_reducible change g_rI (am_wJ _ _ _ _)); refine g_rI.wJ ?_) | ((with_reducible change g_rI (am_cJ _ _ _)); refine g_rI.cJ ?_) | ((with_reducible change g_rI (am_wI _ 5 _ _)); refine g_rI.w5 ?_) | ((with_reducible change g_rI (am_wI _ _ _ _)); refine g_rI.wF ?_ rfl) | (refine g_rI.st ?_ (by with_reducible assumption)) | (refine g_rI.we ?_ (by with_reducible assumption)))))
          | (have hw2 := hw.nx (M' := ‹am_M›) (by (repeat' (first | (with_reducible exact g_sw.rf) | (with_reducible assumption) | ((with_reducible change g_sw _ (am_wI _ _ _ _)); refine g_sw.wI ?_ rfl) | ((with_reducible change g_sw _ (am_wJ _ _ _ _)); refine g_sw.wJ ?_ rfl) | ((with_reducible change g_sw _ (am_cJ _ _ _)); refine g_sw.cJ ?_ rfl) | (refine g_sw.tr ?_ (by with_reducible assumption)) | (refine g_sw.sc ?_ (by with_reducible assumption)) | (refine g_sw.we ?_ (by with_reducible assumption))))) (by with_reducible assumption)
             exact ⟨_, _, _, _, rfl, rfl, rfl, by decide, hw2.sw (by (repeat' (first | (with_reducible exact g_sw.rf) | (with_reducible assumption) | ((with_reducible change g_sw _ (am_wI _ _ _ _)); refine g_sw.wI ?_ rfl) | ((with_reducible change g_sw _ (am_wJ _ _ _ _)); refine g_sw.wJ ?_ rfl) | ((with_reducible change g_sw _ (am_cJ _ _ _)); refine g_sw.cJ ?_ rfl) | (refine g_sw.tr ?_ (by with_reducible assumption)) | (refine g_sw.sc ?_ (by with_reducible assumption)) | (refine g_sw.we ?_ (by with_reducible assumption))))), by (repeat' (first | (with_reducible exact g_sw.rf) | (with_reducible assumption) | ((with_reducible change g_sw _ (am_wI _ _ _ _)); refine g_sw.wI ?_ rfl) | ((with_reducible change g_sw _ (am_wJ _ _ _ _)); refine g_sw.wJ ?_ rfl) | ((with_reducible change g_sw _ (am_cJ _ _ _)); refine g_sw.cJ ?_ rfl) | (refine g_sw.tr ?_ (by with_reducible assumption)) | (refine g_sw.sc ?_ (by with_reducible assumption)) | (refine g_sw.we ?_ (by with_reducible assumption)))), by (repeat' (first | (with_reducible assumption) | ((with_reducible change g_rI (am_wJ _ _ _ _)); refine g_rI.wJ ?_) | ((with_reducible change g_rI (am_cJ _ _ _)); refine g_rI.cJ ?_) | ((with_reducible change g_rI (am_wI _ 5 _ _)); refine g_rI.w5 ?_) | ((with_reducible change g_rI (am_wI _ _ _ _)); refine g_rI.wF ?_ rfl) | (refine g_rI.st ?_ (by with_reducible assumption)) | (refine g_rI.we ?_ (by with_reducible assumption))))⟩)
          | skip
      · skip
        repeat' (first | (with_reducible exact hmn) | (with_reducible exact hy) | (with_reducible exact hw) | (with_reducible exact w0) | (with_reducible exact w1) | (with_reducible exact w2) | (with_reducible exact hrl2) | apply And.intro | exact rfl | (intro hx; with_reducible exact absurd hx hz5) | (intro hx; with_reducible exact absurd hlt5 hx) | ((with_reducible change g_rI _); (with_reducible assumption)) | (intro hx; exact absurd hx (by decide)) | (intro hx; exact absurd (by decide) hx) | decide | intro hx | (refine Exists.intro _ (And.intro rfl ?_)) | ((with_reducible change _ = true); simp only [hrl2, Bool.true_and]; rfl))
        all_goals try first | (with_reducible change am_tI _ _) | (change Ret _ _) | (change Ret _ _ _) | (change Exists _)
        all_goals try dsimp only at *
        all_goals try (with_reducible exact absurd ‹(1000 : Int64) = 0› am_z1000)
        all_goals first
          | omega
          | (simp only [l3, e30, e31, Int32.reduceToInt]; omega)
          | (have q := hx; simp only [i_lt, hi, Int32.reduceToInt] at q; simp only [l3, e31, hi, Int32.reduceToInt]; omega)
          | exact hy.1
          | exact hy.2
          | (left; rfl)
          | (right; rfl)
          | (change g_rI _; exact g_rI.wF (g_rI.w417 (g_rI.wF (g_rI.cJ hr) rfl) ⟨by decide, by decide⟩) rfl)
          | exact h _ (by (repeat' (first | (with_reducible exact g_sw.rf) | (with_reducible assumption) | ((with_reducible change g_sw _ (am_wI _ _ _ _)); refine g_sw.wI ?_ rfl) | ((with_reducible change g_sw _ (am_wJ _ _ _ _)); refine g_sw.wJ ?_ rfl) | ((with_reducible change g_sw _ (am_cJ _ _ _)); refine g_sw.cJ ?_ rfl) | (refine g_sw.tr ?_ (by with_reducible assumption)) | (refine g_sw.sc ?_ (by with_reducible assumption)) | (refine g_sw.we ?_ (by with_reducible assumption))))) (by (repeat' (first | (with_reducible assumption) | ((with_reducible change g_rI (am_wJ _ _ _ _)); refine g_rI.wJ ?_) | ((with_reducible change g_rI (am_cJ _ _ _)); refine g_rI.cJ ?_) | ((with_reducible change g_rI (am_wI _ 5 _ _)); refine g_rI.w5 ?_) | ((with_reducible change g_rI (am_wI _ _ _ _)); refine g_rI.wF ?_ rfl) | (refine g_rI.st ?_ (by with_reducible assumption)) | (refine g_rI.we ?_ (by with_reducible assumption)))))
          | (have hw2 := hw.nx (M' := ‹am_M›) (by (repeat' (first | (with_reducible exact g_sw.rf) | (with_reducible assumption) | ((with_reducible change g_sw _ (am_wI _ _ _ _)); refine g_sw.wI ?_ rfl) | ((with_reducible change g_sw _ (am_wJ _ _ _ _)); refine g_sw.wJ ?_ rfl) | ((with_reducible change g_sw _ (am_cJ _ _ _)); refine g_sw.cJ ?_ rfl) | (refine g_sw.tr ?_ (by with_reducible assumption)) | (refine g_sw.sc ?_ (by with_reducible assumption)) | (refine g_sw.we ?_ (by with_reducible assumption))))) (by with_reducible assumption)
             exact ⟨_, _, _, _, rfl, rfl, rfl, by decide, hw2.sw (by (repeat' (first | (with_reducible exact g_sw.rf) | (with_reducible assumption) | ((with_reducible change g_sw _ (am_wI _ _ _ _)); refine g_sw.wI ?_ rfl) | ((with_reducible change g_sw _ (am_wJ _ _ _ _)); refine g_sw.wJ ?_ rfl) | ((with_reducible change g_sw _ (am_cJ _ _ _)); refine g_sw.cJ ?_ rfl) | (refine g_sw.tr ?_ (by with_reducible assumption)) | (refine g_sw.sc ?_ (by with_reducible assumption)) | (refine g_sw.we ?_ (by with_reducible assumption))))), by (repeat' (first | (with_reducible exact g_sw.rf) | (with_reducible assumption) | ((with_reducible change g_sw _ (am_wI _ _ _ _)); refine g_sw.wI ?_ rfl) | ((with_reducible change g_sw _ (am_wJ _ _ _ _)); refine g_sw.wJ ?_ rfl) | ((with_reducible change g_sw _ (am_cJ _ _ _)); refine g_sw.cJ ?_ rfl) | (refine g_sw.tr ?_ (by with_reducible assumption)) | (refine g_sw.sc ?_ (by with_reducible assumption)) | (refine g_sw.we ?_ (by with_reducible assumption)))), by (repeat' (first | (with_reducible assumption) | ((with_reducible change g_rI (am_wJ _ _ _ _)); refine g_rI.wJ ?_) | ((with_reducible change g_rI (am_cJ _ _ _)); refine g_rI.cJ ?_) | ((with_reducible change g_rI (am_wI _ 5 _ _)); refine g_rI.w5 ?_) | ((with_reducible change g_rI (am_wI _ _ _ _)); refine g_rI.wF ?_ rfl) | (refine g_rI.st ?_ (by with_reducible assumption)) | (refine g_rI.we ?_ (by with_reducible assumption))))⟩)
          | skip
    · exact h.elim
  · intro live as M0 Ret h k pc I hI L st M hi
    unfold TX6_walk at h
    split at h
    · next n p s c t u =>
      obtain ⟨hmn, rfl, hs, hw, hd, hr, h⟩ := h
      have hmn2 := hmn
      obtain ⟨i1, i2, rfl⟩ := hmn2
      change (match pc with | 174 => _ | _ => none) = _ at hI
      split at hI
      · cases hI
        obtain ⟨t, u, o, rfl, rfl, rfl, e1, e4, e2, e3⟩ := hi
        have hs1 := hs.1
        have hs2 := hs.2
        by_cases hz : (4 : Int32) ≤ o
        · skip
          repeat' (first | apply And.intro | exact rfl | (intro hx; with_reducible exact absurd hz hx) | intro hx | (refine Exists.intro _ (And.intro rfl ?_)))
          all_goals try first | (with_reducible change am_tI _ _) | (change Ret _ _) | (change Ret _ _ _) | (change Exists _)
          all_goals try dsimp only at *
          all_goals try (with_reducible exact absurd ‹(1000 : Int64) = 0› am_z1000)
          exact h _ e2 e3
        · have hz2 := hz
          simp only [i_le, Int32.reduceToInt] at hz2
          have ho := i_inc (x := o) (by omega) (by omega)
          have ho4 : am_in o 4 := ⟨e1, by omega⟩
          have e40 := i_mul (x := s) (y := 4) (by simp only [Int32.reduceToInt]; omega) (by simp only [Int32.reduceToInt]; omega)
          simp only [Int32.reduceToInt] at e40
          have e := i_add (x := s * 4) (y := o) (by rw [e40]; omega) (by rw [e40]; omega)
          have l57 : am_len 57 = 16 := rfl
          have hp := hw.p
          repeat' (first | (with_reducible exact hmn) | (with_reducible exact hw) | (with_reducible exact ho4) | (with_reducible exact e4) | (with_reducible exact e3) | apply And.intro | exact rfl | (intro hx; with_reducible exact absurd hx hz) | ((with_reducible change g_rI _); (with_reducible assumption)) | intro hx | (refine Exists.intro _ (And.intro rfl ?_)) | (refine hT _ _ _ _ _ _ _ _ hmn ho4 e4 hd e3 (fun M1 c1 r1 => ?_)))
          all_goals try first | (with_reducible change am_tI _ _) | (change Ret _ _) | (change Ret _ _ _) | (change Exists _)
          all_goals try dsimp only at *
          all_goals try (with_reducible exact absurd ‹(1000 : Int64) = 0› am_z1000)
          all_goals first
            | omega
            | (simp only [l57, e, e40]; omega)
            | exact ⟨_, am_lt_l (by omega), _, _, _, rfl, rfl, rfl, by omega, e4, e2, e3⟩
            | exact ⟨_, am_lt_l (by omega), _, _, _, rfl, rfl, rfl, by omega, e4.sw ‹g_sw M _›, e2.tr ‹g_sw M _›, ‹g_rI _›⟩
            | skip
      · cases hI
    · exact h.elim
theorem am_MetF2 (y : MethodName) (cc : ByteArray) (nL : Nat) (rt : Option FieldType) (rf rl : Nat) : am_Met y cc nL rt rf rl (fun _ _ _ _ => False) := fun _ _ _ _ _ _ _ _ _ h => h.elim
theorem metX6_walk : ∀ d : Nat, am_Met yX6_walk cX6_walk 14 none (d + 4) (40 * d + 110) (TX6_walk d)
  | 0 => metX6_walkG 0 0 0 _ (am_MetF2 _ _ _ _ _ _) (by omega) (fun live p s c t u M R h1 h2 h3 h4 h5 h6 => by
      exfalso
      have := h3.p
      by_cases z : p.toInt < 2000000000
      · by_cases z2 : -1 ≤ p.toInt
        · have e := i_inc (x := p) z2 z
          omega
        · omega
      · have h := i_hi p
        by_cases z3 : p.toInt < 2147483647
        · have e := i_add (x := p) (y := 1) (by simp only [Int32.reduceToInt]; omega) (by simp only [Int32.reduceToInt]; omega)
          simp only [Int32.reduceToInt] at e
          omega
        · have e : p = 2147483647 := (i_eq _ _).mpr (by simp only [Int32.reduceToInt]; omega)
          rw [e] at this
          exact absurd this.1 (by decide))
  | d + 1 => metX6_walkG (d + 1) (d + 4) (40 * d + 110) _ (metX6_walk d) (by omega) (fun live p s c t u M R h1 h2 h3 h4 h5 h6 => ⟨h1, rfl, h2, h3, (by
      have := h3.p
      have h := i_hi p
      have h' := i_lo p
      by_cases z3 : p.toInt < 2147483647
      · have e := i_add (x := p) (y := 1) (by simp only [Int32.reduceToInt]; omega) (by simp only [Int32.reduceToInt]; omega)
        simp only [Int32.reduceToInt] at e
        omega
      · have e : p = 2147483647 := (i_eq _ _).mpr (by simp only [Int32.reduceToInt]; omega)
        rw [e] at this
        exact absurd this.1 (by decide)), h5, h6⟩)
set_option maxRecDepth 100000 in
theorem wd_784 : Cond.constantLong "LearnLoans$Ways" 39 1000000000000000000 ∈ am_ws := am_wt4 (List.mem_of_getElem? (i := 7) (by rfl)) (by decide +kernel)
theorem hy_X4_begin : yX4_begin.cls ≠ "java/lang/invoke/MethodHandle" ∧ yX4_begin.cls ≠ "java/lang/invoke/VarHandle" ∧ (parseMethodDescriptor yX4_begin.desc).map (fun d => d.parameters.length) = some 2 := ⟨by decide +kernel, by decide +kernel, by decide +kernel⟩
set_option maxRecDepth 100000 in
theorem wd_785 : Cond.methodLink "LearnLoans$Ways" 47 yX4_begin ∈ am_ws := am_wt4 (List.mem_of_getElem? (i := 8) (by rfl)) (by decide +kernel)
set_option maxRecDepth 100000 in
theorem wd_547 : Cond.instanceMethod yX4_begin ∈ am_ws := am_wt3 (List.mem_of_getElem? (i := 10) (by rfl)) (by decide +kernel)
set_option maxRecDepth 100000 in
theorem wd_548 : Cond.selects "LearnLoans$Run" yX4_begin yX4_begin ∈ am_ws := am_wt3 (List.mem_of_getElem? (i := 11) (by rfl)) (by decide +kernel)
set_option maxRecDepth 100000 in
theorem wd_549 : Cond.code yX4_begin cX4_begin 5 none ∈ am_ws := am_wt3 (List.mem_of_getElem? (i := 12) (by rfl)) (by decide +kernel)
theorem hy_X4_go : yX4_go.cls ≠ "java/lang/invoke/MethodHandle" ∧ yX4_go.cls ≠ "java/lang/invoke/VarHandle" ∧ (parseMethodDescriptor yX4_go.desc).map (fun d => d.parameters.length) = some 1 := ⟨by decide +kernel, by decide +kernel, by decide +kernel⟩
set_option maxRecDepth 100000 in
theorem wd_786 : Cond.methodLink "LearnLoans$Ways" 51 yX4_go ∈ am_ws := am_wt4 (List.mem_of_getElem? (i := 9) (by rfl)) (by decide +kernel)
set_option maxRecDepth 100000 in
theorem wd_560 : Cond.instanceMethod yX4_go ∈ am_ws := am_wt3 (List.mem_of_getElem? (i := 23) (by rfl)) (by decide +kernel)
set_option maxRecDepth 100000 in
theorem wd_561 : Cond.selects "LearnLoans$Run" yX4_go yX4_go ∈ am_ws := am_wt3 (List.mem_of_getElem? (i := 24) (by rfl)) (by decide +kernel)
set_option maxRecDepth 100000 in
theorem wd_562 : Cond.code yX4_go cX4_go 3 none ∈ am_ws := am_wt3 (List.mem_of_getElem? (i := 25) (by rfl)) (by decide +kernel)
def rwX6_follow : List dz_r := [(0, .aload_n 0, 1), (1, .iload 4, 2), (3, .putfield 22, 3), (6, .aload_n 0, 1), (7, .iload 5, 2), (9, .putfield 26, 3), (12, .aload_n 0, 1), (13, .iload_n 3, 1), (14, .putfield 29, 3), (17, .aload_n 0, 1), (18, .lconst 0, 1), (19, .putfield 32, 3), (22, .aload_n 0, 1), (23, .lconst 0, 1), (24, .putfield 36, 3), (27, .aload_n 0, 1), (28, .ldc2_w 39, 3), (31, .putfield 41, 3), (34, .aload_n 0, 1), (35, .lconst 0, 1), (36, .putfield 44, 3), (39, .aload_n 0, 1), (40, .getfield 12, 3), (43, .iload_n 1, 1), (44, .bipush 39, 2), (46, .invokevirtual 47, 3), (49, .aload_n 0, 1), (50, .getfield 12, 3), (53, .iload 4, 2), (55, .iconst 1, 1), (56, .isub, 1), (57, .invokevirtual 51, 3), (60, .aload_n 0, 1), (61, .getfield 12, 3), (64, .getfield 55, 3), (67, .iconst 0, 1), (68, .aload_n 0, 1), (69, .getfield 18, 3), (72, .iconst 0, 1), (73, .bipush 30, 2), (75, .invokestatic 58, 3), (78, .aload_n 0, 1), (79, .iconst 0, 1), (80, .iload_n 2, 1), (81, .lconst 1, 1), (82, .lconst 0, 1), (83, .lconst 0, 1), (84, .invokestatic 64, 3), (87, .return_, 1)]
theorem dzX6_follow : dz cX6_follow rwX6_follow := dz_all 0 (by decide +kernel)
def kX6_follow (live : am_E) (Ret : am_R) : am_code := [(0, am_aload 0 1), (1, am_iload 4 3), (3, am_putI live 6 2 6), (6, am_aload 0 7), (7, am_iload 5 9), (9, am_putI live 6 3 12), (12, am_aload 0 13), (13, am_iload 3 14), (14, am_putI live 6 4 17), (17, am_aload 0 18), (18, am_const (.long 0) 19), (19, am_putJ live 6 5 22), (22, am_aload 0 23), (23, am_const (.long 0) 24), (24, am_putJ live 6 8 27), (27, am_aload 0 28), (28, am_const (.long 1000000000000000000) 31), (31, am_putJ live 6 6 34), (34, am_aload 0 35), (35, am_const (.long 0) 36), (36, am_putJ live 6 7 39), (39, am_aload 0 40), (40, am_getR live 6 0 43), (43, am_iload 1 44), (44, am_const (.int 39) 46), (46, am_callV live 4 2 TX4_begin 49), (49, am_aload 0 50), (50, am_getR live 6 0 53), (53, am_iload 4 55), (55, am_const (.int 1) 56), (56, am_i2 (fun x y => x - y) 57), (57, am_callV live 4 1 TX4_go 60), (60, am_aload 0 61), (61, am_getR live 6 0 64), (64, am_getR live 4 2 67), (67, am_const (.int 0) 68), (68, am_aload 0 69), (69, am_getR live 6 1 72), (72, am_const (.int 0) 73), (73, am_const (.int 30) 75), (75, am_copyJ live 343 78), (78, am_aload 0 79), (79, am_const (.int 0) 80), (80, am_iload 2 81), (81, am_const (.long 1) 82), (82, am_const (.long 0) 83), (83, am_const (.long 0) 84), (84, am_callS live 6 (TX6_walk 5) 87), (87, am_retV Ret)]
theorem koX6_follow (live : am_E) (Ret : am_R) : ∀ q ∈ kX6_follow live Ret, am_ok RX6 cX6_follow 6 none 10 343 live Ret q.1 q.2 :=
  am_kz dzX6_follow <|
  am_kd (fun d => ak_aload_n d rfl rfl) <|
  am_kd (fun d => ak_iload d rfl) <|
  am_kd (fun d => ak_putI (C := RX6) (T := TX6) (N := 9) rfl inX6w tyX6_ok nmX6 (by decide) rfl rfl rfl rfl (by decide +kernel) wd_358 d rfl) <|
  am_kd (fun d => ak_aload_n d rfl rfl) <|
  am_kd (fun d => ak_iload d rfl) <|
  am_kd (fun d => ak_putI (C := RX6) (T := TX6) (N := 9) rfl inX6w tyX6_ok nmX6 (by decide) rfl rfl rfl rfl (by decide +kernel) wd_359 d rfl) <|
  am_kd (fun d => ak_aload_n d rfl rfl) <|
  am_kd (fun d => ak_iload_n d rfl rfl) <|
  am_kd (fun d => ak_putI (C := RX6) (T := TX6) (N := 9) rfl inX6w tyX6_ok nmX6 (by decide) rfl rfl rfl rfl (by decide +kernel) wd_360 d rfl) <|
  am_kd (fun d => ak_aload_n d rfl rfl) <|
  am_kd (fun d => ak_lconst d (by decide +kernel) rfl) <|
  am_kd (fun d => ak_putJ (C := RX6) (T := TX6) (N := 9) rfl inX6w tyX6_ok nmX6 (by decide) rfl rfl rfl rfl (by decide +kernel) wd_361 d rfl) <|
  am_kd (fun d => ak_aload_n d rfl rfl) <|
  am_kd (fun d => ak_lconst d (by decide +kernel) rfl) <|
  am_kd (fun d => ak_putJ (C := RX6) (T := TX6) (N := 9) rfl inX6w tyX6_ok nmX6 (by decide) rfl rfl rfl rfl (by decide +kernel) wd_367 d rfl) <|
  am_kd (fun d => ak_aload_n d rfl rfl) <|
  am_kd (fun d => ak_ldc2 wd_784 d rfl) <|
  am_kd (fun d => ak_putJ (C := RX6) (T := TX6) (N := 9) rfl inX6w tyX6_ok nmX6 (by decide) rfl rfl rfl rfl (by decide +kernel) wd_363 d rfl) <|
  am_kd (fun d => ak_aload_n d rfl rfl) <|
  am_kd (fun d => ak_lconst d (by decide +kernel) rfl) <|
  am_kd (fun d => ak_putJ (C := RX6) (T := TX6) (N := 9) rfl inX6w tyX6_ok nmX6 (by decide) rfl rfl rfl rfl (by decide +kernel) wd_365 d rfl) <|
  am_kd (fun d => ak_aload_n d rfl rfl) <|
  am_kd (fun d => ak_getR (C := RX6) (T := TX6) (N := 9) rfl inX6w (by decide) rfl rfl rfl wd_355 d rfl) <|
  am_kd (fun d => ak_iload_n d rfl rfl) <|
  am_kd (fun d => ak_bipush d (by decide +kernel) rfl) <|
  am_kd (fun d => ak_callV (C := RX4) (F := TX4) (N := 19) metX4_begin rfl ⟨rfl, hy_X4_begin⟩ (am_w5 wd_785 wd_547 wd_548 wd_60 wd_549) (by decide) d rfl) <|
  am_kd (fun d => ak_aload_n d rfl rfl) <|
  am_kd (fun d => ak_getR (C := RX6) (T := TX6) (N := 9) rfl inX6w (by decide) rfl rfl rfl wd_355 d rfl) <|
  am_kd (fun d => ak_iload d rfl) <|
  am_kd (fun d => ak_iconst d (by decide +kernel) rfl) <|
  am_kd (fun d => ak_isub d rfl) <|
  am_kd (fun d => ak_callV (C := RX4) (F := TX4) (N := 19) metX4_go rfl ⟨rfl, hy_X4_go⟩ (am_w5 wd_786 wd_560 wd_561 wd_60 wd_562) (by decide) d rfl) <|
  am_kd (fun d => ak_aload_n d rfl rfl) <|
  am_kd (fun d => ak_getR (C := RX6) (T := TX6) (N := 9) rfl inX6w (by decide) rfl rfl rfl wd_355 d rfl) <|
  am_kd (fun d => ak_getR (C := RX4) (T := TX4) (N := 19) rfl inX4w (by decide) rfl rfl rfl wd_297 d rfl) <|
  am_kd (fun d => ak_iconst d (by decide +kernel) rfl) <|
  am_kd (fun d => ak_aload_n d rfl rfl) <|
  am_kd (fun d => ak_getR (C := RX6) (T := TX6) (N := 9) rfl inX6w (by decide) rfl rfl rfl wd_357 d rfl) <|
  am_kd (fun d => ak_iconst d (by decide +kernel) rfl) <|
  am_kd (fun d => ak_bipush d (by decide +kernel) rfl) <|
  am_kd (fun d => ak_copyJ (am_w4 wd_787 wd_501 wd_500 wd_69) (by decide) d rfl) <|
  am_kd (fun d => ak_aload_n d rfl rfl) <|
  am_kd (fun d => ak_iconst d (by decide +kernel) rfl) <|
  am_kd (fun d => ak_iload_n d rfl rfl) <|
  am_kd (fun d => ak_lconst d (by decide +kernel) rfl) <|
  am_kd (fun d => ak_lconst d (by decide +kernel) rfl) <|
  am_kd (fun d => ak_lconst d (by decide +kernel) rfl) <|
  am_kd (fun d => ak_callS (metX6_walk 5) ⟨rfl, hy_X6_walk⟩ (am_w4 wd_788 wd_789 wd_59 wd_790) (by decide) d rfl) <|
  am_kd (fun d => ak_retV d) <| am_kdn
def TX6_follow : am_T := fun live as M R => match as with
  | [.ref n, .int p, .int s, .int c, .int y, .int w] => am_mn live ∧ n = 2 ∧ am_in p 12 ∧ am_in s 4 ∧ (0 ≤ y.toInt ∧ 1 ≤ w.toInt ∧ w.toInt ≤ 5 ∧ y.toInt + w.toInt ≤ 40) ∧ g_rI M ∧ ∀ M', g_sv M M' → g_rI M' → R none M'
  | _ => False
set_option maxRecDepth 100000 in
set_option maxHeartbeats 4000000 in
theorem metX6_follow : am_Met yX6_follow cX6_follow 6 none (10) (343) TX6_follow := by
  refine am_met (own := RX6) (by decide +kernel) rfl kX6_follow koX6_follow 150 (fun _ _ _ _ _ => none) (fun live as M Ret h => ?_) (fun _ _ _ _ _ _ _ _ hI => by cases hI)
  unfold TX6_follow at h
  split at h
  · next n p s c y w =>
    refine ⟨Nat.le_of_ble_eq_true rfl, ?_⟩
    change am_wp _ _ _ _ [(0, Value.ref n), (1, Value.int p), (2, Value.int s), (3, Value.int c), (4, Value.int y), (5, Value.int w)] _ _
    obtain ⟨hmn, rfl, hp, hs, ⟨y1, w1, w2, w3⟩, hr, h⟩ := h
    have hmn2 := hmn
    obtain ⟨i1, i2, rfl⟩ := hmn2
    have hv : g_sv M (am_wJ (am_wJ (am_wJ (am_wJ (am_wI (am_wI (am_wI M 2 2 y) 2 3 w) 2 4 c) 2 5 0) 2 8 0) 2 6 1000000000000000000) 2 7 0) := g_sv.rf.w2.w2.w2.w2J.w2J.w2J.w2J
    have hr2 : g_rI (am_wJ (am_wJ (am_wJ (am_wJ (am_wI (am_wI (am_wI M 2 2 y) 2 3 w) 2 4 c) 2 5 0) 2 8 0) 2 6 1000000000000000000) 2 7 0) := hr.w2.w2.w2.wJ.wJ.wJ.wJ
    have hw2 : g_wI (am_wJ (am_wJ (am_wJ (am_wJ (am_wI (am_wI (am_wI M 2 2 y) 2 3 w) 2 4 c) 2 5 0) 2 8 0) 2 6 1000000000000000000) 2 7 0) 0 := ⟨(), ⟨by decide, w1⟩, w2, y1, w3⟩
    have l3 : am_len 3 = 150 := rfl
    have l6 : am_len 6 = 180 := rfl
    repeat' (first | (with_reducible exact hmn) | (with_reducible exact hp) | (with_reducible exact hs) | (with_reducible exact hr2) | apply And.intro | exact rfl | ((with_reducible change g_rI _); (with_reducible assumption)) | intro hx | (refine Exists.intro _ (And.intro rfl ?_)))
    all_goals try first | (with_reducible change am_tI _ _) | (change Ret _ _) | (change Ret _ _ _) | (change Exists _)
    all_goals try dsimp only at *
    all_goals try (with_reducible exact absurd ‹(1000 : Int64) = 0› am_z1000)
    all_goals first
      | decide
      | (simp only [l3, l6, Int32.reduceToInt]; omega)
      | exact g_wI.sw hw2 (by (repeat' (first | (with_reducible exact g_sw.rf) | (with_reducible assumption) | ((with_reducible change g_sw _ (am_wI _ _ _ _)); refine g_sw.wI ?_ rfl) | ((with_reducible change g_sw _ (am_wJ _ _ _ _)); refine g_sw.wJ ?_ rfl) | ((with_reducible change g_sw _ (am_cJ _ _ _)); refine g_sw.cJ ?_ rfl) | (refine g_sw.tr ?_ (by with_reducible assumption)) | (refine g_sw.sc ?_ (by with_reducible assumption)) | (refine g_sw.we ?_ (by with_reducible assumption)))))
      | (change g_rI _; (repeat' (first | (with_reducible assumption) | ((with_reducible change g_rI (am_wJ _ _ _ _)); refine g_rI.wJ ?_) | ((with_reducible change g_rI (am_cJ _ _ _)); refine g_rI.cJ ?_) | ((with_reducible change g_rI (am_wI _ 5 _ _)); refine g_rI.w5 ?_) | ((with_reducible change g_rI (am_wI _ _ _ _)); refine g_rI.wF ?_ rfl) | (refine g_rI.st ?_ (by with_reducible assumption)) | (refine g_rI.we ?_ (by with_reducible assumption)))))
      | (exact h _ (hv.tr (g_sw.v (by (repeat' (first | (with_reducible exact g_sw.rf) | (with_reducible assumption) | ((with_reducible change g_sw _ (am_wI _ _ _ _)); refine g_sw.wI ?_ rfl) | ((with_reducible change g_sw _ (am_wJ _ _ _ _)); refine g_sw.wJ ?_ rfl) | ((with_reducible change g_sw _ (am_cJ _ _ _)); refine g_sw.cJ ?_ rfl) | (refine g_sw.tr ?_ (by with_reducible assumption)) | (refine g_sw.sc ?_ (by with_reducible assumption)) | (refine g_sw.we ?_ (by with_reducible assumption))))))) (by with_reducible assumption))
  · exact h.elim
end
-- part 28.help2.lean.txt
section
/-! general: what is told, for calls; helpers -/
def g_nm (a : Nat) : Bool := [4, 7, 8, 24, 37, 39, 42, 45, 48, 51].contains a
theorem g_rI.on {M M' : am_M} (h : g_rI M) (e : ∀ a b, g_nm a = true → M'.1 a b = M.1 a b) : g_rI M' := by
  obtain ⟨-, h1, h2⟩ := h
  obtain ⟨-, a1, a2, a3, a4, a5, a6, a7⟩ := h1
  obtain ⟨-, b1, b2, b3, b4, b5, b6, b7, b8, b9⟩ := h2
  have ht : ∀ t, g_nm t = true → am_t0 M t → am_t0 M' t := fun t ht z => by
    obtain ⟨-, z1, z2⟩ := z
    refine ⟨(), ?_, ?_⟩
    · rw [e t 2 ht]; exact z1
    · rw [e t 5 ht]; exact z2
  refine ⟨(), ⟨(), fun k hk => ?_, fun k hk => ?_, ht _ rfl a3, ht _ rfl a4, ht _ rfl a5, ht _ rfl a6, ht _ rfl a7⟩, ⟨(), ?_, fun k hk => ?_, fun k hk => ?_, ?_, ?_, ?_, ?_, ?_, ?_⟩⟩
  all_goals rw [e _ _ rfl]
  · exact a1 k hk
  · exact a2 k hk
  · exact b1
  · exact b2 k hk
  · exact b3 k hk
  · exact b4
  · exact b5
  · exact b6
  · exact b7
  · exact b8
  · exact b9
/-- told, for calls: how many, how wide, whose loans -/
def g_hI (M : am_M) : Prop := ∃ _ : Unit, am_rg (M.1 21 7) 12 ∧ (M.1 31 1 = 6 ∧ am_rg (M.1 31 2) 60) ∧ (M.1 33 1 = 8 ∧ am_rg (M.1 33 2) 30) ∧ (M.1 35 1 = 3 ∧ am_rg (M.1 35 2) 60) ∧ (M.1 54 1 = 3 ∧ am_rg (M.1 54 2) 20) ∧ am_rg (M.1 20 12) 9 ∧ ∀ l, l < 30 → am_in (M.1 34 (8 * l)) 12
theorem g_hI.pe {M : am_M} (h : g_hI M) : 0 ≤ (M.1 21 7).toInt ∧ (M.1 21 7).toInt ≤ 12 := by obtain ⟨-, h, -⟩ := h; exact h.i
theorem g_hI.ac {M : am_M} (h : g_hI M) : M.1 31 1 = 6 ∧ 0 ≤ (M.1 31 2).toInt ∧ (M.1 31 2).toInt ≤ 60 := by obtain ⟨-, -, h, -⟩ := h; exact ⟨h.1, h.2.i⟩
theorem g_hI.lo {M : am_M} (h : g_hI M) : M.1 33 1 = 8 ∧ 0 ≤ (M.1 33 2).toInt ∧ (M.1 33 2).toInt ≤ 30 := by obtain ⟨-, -, -, h, -⟩ := h; exact ⟨h.1, h.2.i⟩
theorem g_hI.mo {M : am_M} (h : g_hI M) : M.1 35 1 = 3 ∧ 0 ≤ (M.1 35 2).toInt ∧ (M.1 35 2).toInt ≤ 60 := by obtain ⟨-, -, -, -, h, -⟩ := h; exact ⟨h.1, h.2.i⟩
theorem g_hI.pr {M : am_M} (h : g_hI M) : M.1 54 1 = 3 ∧ 0 ≤ (M.1 54 2).toInt ∧ (M.1 54 2).toInt ≤ 20 := by obtain ⟨-, -, -, -, -, h, -⟩ := h; exact ⟨h.1, h.2.i⟩
theorem g_hI.to {M : am_M} (h : g_hI M) : 0 ≤ (M.1 20 12).toInt ∧ (M.1 20 12).toInt ≤ 9 := by obtain ⟨-, -, -, -, -, -, h, -⟩ := h; exact h.i
theorem g_hI.lp {M : am_M} (h : g_hI M) {l : Nat} (hl : l < 30) : am_in (M.1 34 (8 * l)) 12 := by obtain ⟨-, -, -, -, -, -, -, h⟩ := h; exact h l hl
/-- a store of Rows.put, at rows of six, eight, three -/
theorem g_rput6 {M : am_M} {r c : Nat} {a k v : Int32} (hw : M.1 r 1 = 6) (ha : 0 ≤ a.toInt) (hk : 0 ≤ k.toInt ∧ k.toInt < 6) (hl : a.toInt * 6 + k.toInt < (am_len c : Int)) (hc : am_len c < 100000) : am_rput M r c a k v = am_wI M c (6 * a.toNatClampNeg + k.toNatClampNeg) v := by
  have e := i_mul (x := a) (y := 6) (by simp only [Int32.reduceToInt]; omega) (by simp only [Int32.reduceToInt]; omega)
  simp only [Int32.reduceToInt] at e
  have e2 := i_add (x := a * 6) (y := k) (by rw [e]; omega) (by rw [e]; omega)
  have e3 := i_clamp (x := a * 6 + k) (by rw [e2, e]; omega)
  have e4 := i_clamp (x := a) ha
  have e5 := i_clamp (x := k) hk.1
  rw [am_rput_t (by rw [hw, i_lt]; simp only [Int32.reduceToInt]; exact hk.2) (by rw [hw]; exact ⟨by rw [e2, e]; omega, by rw [e2, e]; omega⟩), hw]
  exact congrArg (fun z => am_wI M c z v) (by omega)
theorem g_rput8 {M : am_M} {r c : Nat} {a k v : Int32} (hw : M.1 r 1 = 8) (ha : 0 ≤ a.toInt) (hk : 0 ≤ k.toInt ∧ k.toInt < 8) (hl : a.toInt * 8 + k.toInt < (am_len c : Int)) (hc : am_len c < 100000) : am_rput M r c a k v = am_wI M c (8 * a.toNatClampNeg + k.toNatClampNeg) v := by
  have e := i_mul (x := a) (y := 8) (by simp only [Int32.reduceToInt]; omega) (by simp only [Int32.reduceToInt]; omega)
  simp only [Int32.reduceToInt] at e
  have e2 := i_add (x := a * 8) (y := k) (by rw [e]; omega) (by rw [e]; omega)
  have e3 := i_clamp (x := a * 8 + k) (by rw [e2, e]; omega)
  have e4 := i_clamp (x := a) ha
  have e5 := i_clamp (x := k) hk.1
  rw [am_rput_t (by rw [hw, i_lt]; simp only [Int32.reduceToInt]; exact hk.2) (by rw [hw]; exact ⟨by rw [e2, e]; omega, by rw [e2, e]; omega⟩), hw]
  exact congrArg (fun z => am_wI M c z v) (by omega)
theorem g_rput3 {M : am_M} {r c : Nat} {a k v : Int32} (hw : M.1 r 1 = 3) (ha : 0 ≤ a.toInt) (hk : 0 ≤ k.toInt ∧ k.toInt < 3) (hl : a.toInt * 3 + k.toInt < (am_len c : Int)) (hc : am_len c < 100000) : am_rput M r c a k v = am_wI M c (3 * a.toNatClampNeg + k.toNatClampNeg) v := by
  have e := i_mul (x := a) (y := 3) (by simp only [Int32.reduceToInt]; omega) (by simp only [Int32.reduceToInt]; omega)
  simp only [Int32.reduceToInt] at e
  have e2 := i_add (x := a * 3) (y := k) (by rw [e]; omega) (by rw [e]; omega)
  have e3 := i_clamp (x := a * 3 + k) (by rw [e2, e]; omega)
  have e4 := i_clamp (x := a) ha
  have e5 := i_clamp (x := k) hk.1
  rw [am_rput_t (by rw [hw, i_lt]; simp only [Int32.reduceToInt]; exact hk.2) (by rw [hw]; exact ⟨by rw [e2, e]; omega, by rw [e2, e]; omega⟩), hw]
  exact congrArg (fun z => am_wI M c z v) (by omega)
/-- an act more, written out -/
theorem g_addAct {M : am_M} {p w v f b e : Int32} (hw : M.1 31 1 = 6) (h1 : 0 ≤ (M.1 31 2).toInt) (h2 : (M.1 31 2).toInt ≤ 60) : am_addAct M p w v f b e = am_wI (am_wI (am_wI (am_wI (am_wI (am_wI (am_wI M 32 (6 * (M.1 31 2).toNatClampNeg + 0) p) 32 (6 * (M.1 31 2).toNatClampNeg + 1) w) 32 (6 * (M.1 31 2).toNatClampNeg + 2) v) 31 2 (M.1 31 2 + 1)) 32 (6 * (M.1 31 2).toNatClampNeg + 3) f) 32 (6 * (M.1 31 2).toNatClampNeg + 4) b) 32 (6 * (M.1 31 2).toNatClampNeg + 5) e := by
  have l32 : am_len 32 = 366 := rfl
  have wd : ∀ (N : am_M) k z, (am_wI N 32 k z).1 31 1 = N.1 31 1 := fun N k z => by rw [am_wI_1, if_neg (fun q => absurd q.1 (by decide))]
  have wd2 : ∀ (N : am_M) z, (am_wI N 31 2 z).1 31 1 = N.1 31 1 := fun N z => by rw [am_wI_1, if_neg (fun q => absurd q.2 (by decide))]
  unfold am_addAct am_radd
  rw [g_rput6 (k := 0) (v := p) hw h1 ⟨by decide, by decide⟩ (by rw [l32]; simp only [Int32.reduceToInt]; omega) (by decide)]
  rw [g_rput6 (k := 1) (v := w) ((wd _ _ _).trans hw) h1 ⟨by decide, by decide⟩ (by rw [l32]; simp only [Int32.reduceToInt]; omega) (by decide)]
  rw [g_rput6 (k := 2) (v := v) ((wd _ _ _).trans ((wd _ _ _).trans hw)) h1 ⟨by decide, by decide⟩ (by rw [l32]; simp only [Int32.reduceToInt]; omega) (by decide)]
  have w3 := (wd2 (am_wI (am_wI (am_wI M 32 (6 * (M.1 31 2).toNatClampNeg + Int32.toNatClampNeg 0) p) 32 (6 * (M.1 31 2).toNatClampNeg + Int32.toNatClampNeg 1) w) 32 (6 * (M.1 31 2).toNatClampNeg + Int32.toNatClampNeg 2) v) (M.1 31 2 + 1)).trans ((wd _ _ _).trans ((wd _ _ _).trans ((wd _ _ _).trans hw)))
  rw [g_rput6 (k := 3) (v := f) w3 h1 ⟨by decide, by decide⟩ (by rw [l32]; simp only [Int32.reduceToInt]; omega) (by decide)]
  rw [g_rput6 (k := 4) (v := b) ((wd _ _ _).trans w3) h1 ⟨by decide, by decide⟩ (by rw [l32]; simp only [Int32.reduceToInt]; omega) (by decide)]
  rw [g_rput6 (k := 5) (v := e) ((wd _ _ _).trans ((wd _ _ _).trans w3)) h1 ⟨by decide, by decide⟩ (by rw [l32]; simp only [Int32.reduceToInt]; omega) (by decide)]
  rfl
/-- what trying another number leaves: the row behind the last act may hold anything -/
def g_sa (M M' : am_M) : Prop := ∃ _ : Unit, ∀ a b, 11 ≤ a → (a = 32 → b < 6 * (M.1 31 2).toNatClampNeg) → M'.1 a b = M.1 a b ∧ M'.2 a b = M.2 a b
theorem g_sv.a {M M' : am_M} (h : g_sv M M') : g_sa M M' := by
  obtain ⟨-, h⟩ := h
  exact ⟨(), fun a b z _ => h a b z⟩
theorem g_sa.tr {M M' M'' : am_M} (h : g_sa M M') (h2 : g_sa M' M'') : g_sa M M'' := by
  obtain ⟨-, h⟩ := h
  obtain ⟨-, h2⟩ := h2
  have e := (h 31 2 (by decide) (fun q => absurd q (by decide))).1
  refine ⟨(), fun a b z y => ?_⟩
  have y2 := h2 a b z (fun q => by rw [e]; exact y q)
  have y1 := h a b z y
  exact ⟨y2.1.trans y1.1, y2.2.trans y1.2⟩
set_option maxRecDepth 100000 in
theorem wd_392 : Cond.fieldLink "LearnLoans" 20 "LearnLoans" "run" "LLearnLoans$Run;" ∈ am_ws := am_wt2 (List.mem_of_getElem? (i := 95) (by rfl)) (by decide +kernel)
set_option maxRecDepth 100000 in
theorem wd_546 : Cond.methodLink "LearnLoans" 151 yX4_begin ∈ am_ws := am_wt3 (List.mem_of_getElem? (i := 9) (by rfl)) (by decide +kernel)
set_option maxRecDepth 100000 in
theorem wd_559 : Cond.methodLink "LearnLoans" 155 yX4_go ∈ am_ws := am_wt3 (List.mem_of_getElem? (i := 22) (by rfl)) (by decide +kernel)
set_option maxRecDepth 100000 in
theorem wd_649 : Cond.methodLink "LearnLoans" 284 yX4_together ∈ am_ws := am_wt3 (List.mem_of_getElem? (i := 112) (by rfl)) (by decide +kernel)
def rwX7_together : List dz_r := [(0, .aload_n 0, 1), (1, .getfield 20, 3), (4, .iload_n 1, 1), (5, .iload_n 3, 1), (6, .invokevirtual 151, 3), (9, .aload_n 0, 1), (10, .getfield 20, 3), (13, .iload_n 2, 1), (14, .invokevirtual 155, 3), (17, .aload_n 0, 1), (18, .getfield 20, 3), (21, .iload 4, 2), (23, .invokevirtual 284, 3), (26, .lreturn, 1)]
theorem dzX7_together : dz cX7_together rwX7_together := dz_all 0 (by decide +kernel)
def kX7_together (live : am_E) (Ret : am_R) : am_code := [(0, am_aload 0 1), (1, am_getR live 7 2 4), (4, am_iload 1 5), (5, am_iload 3 6), (6, am_callV live 4 2 TX4_begin 9), (9, am_aload 0 10), (10, am_getR live 7 2 13), (13, am_iload 2 14), (14, am_callV live 4 1 TX4_go 17), (17, am_aload 0 18), (18, am_getR live 7 2 21), (21, am_iload 4 23), (23, am_callV live 4 1 TX4_together 26), (26, am_retL Ret)]
theorem koX7_together (live : am_E) (Ret : am_R) : ∀ q ∈ kX7_together live Ret, am_ok RX7 cX7_together 5 (some .long) 5 124 live Ret q.1 q.2 :=
  am_kz dzX7_together <|
  am_kd (fun d => ak_aload_n d rfl rfl) <|
  am_kd (fun d => ak_getR (C := RX7) (T := TX7) (N := 4) rfl inX7w (by decide) rfl rfl rfl wd_392 d rfl) <|
  am_kd (fun d => ak_iload_n d rfl rfl) <|
  am_kd (fun d => ak_iload_n d rfl rfl) <|
  am_kd (fun d => ak_callV (C := RX4) (F := TX4) (N := 19) metX4_begin rfl ⟨rfl, hy_X4_begin⟩ (am_w5 wd_546 wd_547 wd_548 wd_60 wd_549) (by decide) d rfl) <|
  am_kd (fun d => ak_aload_n d rfl rfl) <|
  am_kd (fun d => ak_getR (C := RX7) (T := TX7) (N := 4) rfl inX7w (by decide) rfl rfl rfl wd_392 d rfl) <|
  am_kd (fun d => ak_iload_n d rfl rfl) <|
  am_kd (fun d => ak_callV (C := RX4) (F := TX4) (N := 19) metX4_go rfl ⟨rfl, hy_X4_go⟩ (am_w5 wd_559 wd_560 wd_561 wd_60 wd_562) (by decide) d rfl) <|
  am_kd (fun d => ak_aload_n d rfl rfl) <|
  am_kd (fun d => ak_getR (C := RX7) (T := TX7) (N := 4) rfl inX7w (by decide) rfl rfl rfl wd_392 d rfl) <|
  am_kd (fun d => ak_iload d rfl) <|
  am_kd (fun d => ak_callV (C := RX4) (F := TX4) (N := 19) metX4_together rfl ⟨rfl, hy_X4_together⟩ (am_w5 wd_649 wd_650 wd_651 wd_60 wd_652) (by decide) d rfl) <|
  am_kd (fun d => ak_retL d) <| am_kdn
def TX7_together : am_T := fun live as M R => match as with
  | [.ref n, .int p, .int y, .int k, .int w] => am_mn live ∧ n = 0 ∧ am_in p 12 ∧ am_in w 6 ∧ g_rI M ∧ ∀ v M', g_sc M M' → g_rI M' → R (some (.long v)) M'
  | _ => False
set_option maxRecDepth 100000 in
set_option maxHeartbeats 4000000 in
theorem metX7_together : am_Met yX7_together cX7_together 5 (some .long) (5) (124) TX7_together := by
  refine am_met (own := RX7) (by decide +kernel) rfl kX7_together koX7_together 100 (fun _ _ _ _ _ => none) (fun live as M Ret h => ?_) (fun _ _ _ _ _ _ _ _ hI => by cases hI)
  unfold TX7_together at h
  split at h
  · next n p y k w =>
    refine ⟨Nat.le_of_ble_eq_true rfl, ?_⟩
    change am_wp _ _ _ _ [(0, Value.ref n), (1, Value.int p), (2, Value.int y), (3, Value.int k), (4, Value.int w)] _ _
    obtain ⟨hmn, rfl, hp, hw, hr, h⟩ := h
    have hmn2 := hmn
    obtain ⟨i1, i2, rfl⟩ := hmn2
    repeat' (first | (with_reducible exact hmn) | (with_reducible exact hp) | (with_reducible exact hw) | (with_reducible exact hr) | apply And.intro | exact rfl | ((with_reducible change g_rI _); (with_reducible assumption)) | intro hx | (refine Exists.intro _ (And.intro rfl ?_)))
    all_goals try first | (with_reducible change am_tI _ _) | (change Ret _ _) | (change Ret _ _ _) | (change Exists _)
    all_goals try dsimp only at *
    all_goals try (with_reducible exact absurd ‹(1000 : Int64) = 0› am_z1000)
    exact h _ _ (by (repeat' (first | (with_reducible exact g_sc.rf) | (with_reducible assumption) | ((with_reducible change g_sc _ (am_wI _ _ _ _)); refine g_sc.wI ?_ rfl) | ((with_reducible change g_sc _ (am_wJ _ _ _ _)); refine g_sc.wJ ?_ rfl) | ((with_reducible change g_sc _ (am_cI _ _ _)); refine g_sc.cI ?_ rfl) | ((with_reducible change g_sc _ (am_cJ _ _ _)); refine g_sc.cJ ?_ rfl) | (refine g_sc.tr ?_ (by with_reducible assumption)) | (refine g_sc.st ?_ (by with_reducible assumption))))) (by (repeat' (first | (with_reducible assumption) | ((with_reducible change g_rI (am_wJ _ _ _ _)); refine g_rI.wJ ?_) | ((with_reducible change g_rI (am_cJ _ _ _)); refine g_rI.cJ ?_) | ((with_reducible change g_rI (am_wI _ 5 _ _)); refine g_rI.w5 ?_) | ((with_reducible change g_rI (am_wI _ _ _ _)); refine g_rI.wF ?_ rfl) | (refine g_rI.st ?_ (by with_reducible assumption)) | (refine g_rI.we ?_ (by with_reducible assumption)))))
  · exact h.elim
set_option maxRecDepth 100000 in
theorem wd_764 : Cond.methodLink "LearnLoans" 286 yX4_turnTo ∈ am_ws := am_wt3 (List.mem_of_getElem? (i := 227) (by rfl)) (by decide +kernel)
def rwX7_takenByLife : List dz_r := [(0, .aload_n 0, 1), (1, .getfield 20, 3), (4, .iload_n 1, 1), (5, .iload 5, 2), (7, .invokevirtual 151, 3), (10, .aload_n 0, 1), (11, .getfield 20, 3), (14, .iload 4, 2), (16, .iconst 1, 1), (17, .isub, 1), (18, .invokevirtual 155, 3), (21, .aload_n 0, 1), (22, .getfield 20, 3), (25, .iconst 3, 1), (26, .invokevirtual 284, 3), (29, .lstore 7, 2), (31, .aload_n 0, 1), (32, .getfield 20, 3), (35, .iload_n 3, 1), (36, .iload_n 2, 1), (37, .iload 6, 2), (39, .i2l, 1), (40, .invokevirtual 286, 3), (43, .aload_n 0, 1), (44, .getfield 20, 3), (47, .bipush 39, 2), (49, .invokevirtual 155, 3), (52, .aload_n 0, 1), (53, .getfield 20, 3), (56, .iconst 3, 1), (57, .invokevirtual 284, 3), (60, .lload 7, 2), (62, .lsub, 1), (63, .lreturn, 1)]
theorem dzX7_takenByLife : dz cX7_takenByLife rwX7_takenByLife := dz_all 0 (by decide +kernel)
def kX7_takenByLife (live : am_E) (Ret : am_R) : am_code := [(0, am_aload 0 1), (1, am_getR live 7 2 4), (4, am_iload 1 5), (5, am_iload 5 7), (7, am_callV live 4 2 TX4_begin 10), (10, am_aload 0 11), (11, am_getR live 7 2 14), (14, am_iload 4 16), (16, am_const (.int 1) 17), (17, am_i2 (fun x y => x - y) 18), (18, am_callV live 4 1 TX4_go 21), (21, am_aload 0 22), (22, am_getR live 7 2 25), (25, am_const (.int 3) 26), (26, am_callV live 4 1 TX4_together 29), (29, am_lstore 7 9 31), (31, am_aload 0 32), (32, am_getR live 7 2 35), (35, am_iload 3 36), (36, am_iload 2 37), (37, am_iload 6 39), (39, am_i2l 40), (40, am_callV live 4 3 TX4_turnTo 43), (43, am_aload 0 44), (44, am_getR live 7 2 47), (47, am_const (.int 39) 49), (49, am_callV live 4 1 TX4_go 52), (52, am_aload 0 53), (53, am_getR live 7 2 56), (56, am_const (.int 3) 57), (57, am_callV live 4 1 TX4_together 60), (60, am_lload 7 62), (62, am_l2 (fun x y => x - y) 63), (63, am_retL Ret)]
theorem koX7_takenByLife (live : am_E) (Ret : am_R) : ∀ q ∈ kX7_takenByLife live Ret, am_ok RX7 cX7_takenByLife 9 (some .long) 5 124 live Ret q.1 q.2 :=
  am_kz dzX7_takenByLife <|
  am_kd (fun d => ak_aload_n d rfl rfl) <|
  am_kd (fun d => ak_getR (C := RX7) (T := TX7) (N := 4) rfl inX7w (by decide) rfl rfl rfl wd_392 d rfl) <|
  am_kd (fun d => ak_iload_n d rfl rfl) <|
  am_kd (fun d => ak_iload d rfl) <|
  am_kd (fun d => ak_callV (C := RX4) (F := TX4) (N := 19) metX4_begin rfl ⟨rfl, hy_X4_begin⟩ (am_w5 wd_546 wd_547 wd_548 wd_60 wd_549) (by decide) d rfl) <|
  am_kd (fun d => ak_aload_n d rfl rfl) <|
  am_kd (fun d => ak_getR (C := RX7) (T := TX7) (N := 4) rfl inX7w (by decide) rfl rfl rfl wd_392 d rfl) <|
  am_kd (fun d => ak_iload d rfl) <|
  am_kd (fun d => ak_iconst d (by decide +kernel) rfl) <|
  am_kd (fun d => ak_isub d rfl) <|
  am_kd (fun d => ak_callV (C := RX4) (F := TX4) (N := 19) metX4_go rfl ⟨rfl, hy_X4_go⟩ (am_w5 wd_559 wd_560 wd_561 wd_60 wd_562) (by decide) d rfl) <|
  am_kd (fun d => ak_aload_n d rfl rfl) <|
  am_kd (fun d => ak_getR (C := RX7) (T := TX7) (N := 4) rfl inX7w (by decide) rfl rfl rfl wd_392 d rfl) <|
  am_kd (fun d => ak_iconst d (by decide +kernel) rfl) <|
  am_kd (fun d => ak_callV (C := RX4) (F := TX4) (N := 19) metX4_together rfl ⟨rfl, hy_X4_together⟩ (am_w5 wd_649 wd_650 wd_651 wd_60 wd_652) (by decide) d rfl) <|
  am_kd (fun d => ak_lstore d rfl) <|
  am_kd (fun d => ak_aload_n d rfl rfl) <|
  am_kd (fun d => ak_getR (C := RX7) (T := TX7) (N := 4) rfl inX7w (by decide) rfl rfl rfl wd_392 d rfl) <|
  am_kd (fun d => ak_iload_n d rfl rfl) <|
  am_kd (fun d => ak_iload_n d rfl rfl) <|
  am_kd (fun d => ak_iload d rfl) <|
  am_kd (fun d => ak_i2l d rfl) <|
  am_kd (fun d => ak_callV (C := RX4) (F := TX4) (N := 19) metX4_turnTo rfl ⟨rfl, hy_X4_turnTo⟩ (am_w5 wd_764 wd_551 wd_552 wd_60 wd_553) (by decide) d rfl) <|
  am_kd (fun d => ak_aload_n d rfl rfl) <|
  am_kd (fun d => ak_getR (C := RX7) (T := TX7) (N := 4) rfl inX7w (by decide) rfl rfl rfl wd_392 d rfl) <|
  am_kd (fun d => ak_bipush d (by decide +kernel) rfl) <|
  am_kd (fun d => ak_callV (C := RX4) (F := TX4) (N := 19) metX4_go rfl ⟨rfl, hy_X4_go⟩ (am_w5 wd_559 wd_560 wd_561 wd_60 wd_562) (by decide) d rfl) <|
  am_kd (fun d => ak_aload_n d rfl rfl) <|
  am_kd (fun d => ak_getR (C := RX7) (T := TX7) (N := 4) rfl inX7w (by decide) rfl rfl rfl wd_392 d rfl) <|
  am_kd (fun d => ak_iconst d (by decide +kernel) rfl) <|
  am_kd (fun d => ak_callV (C := RX4) (F := TX4) (N := 19) metX4_together rfl ⟨rfl, hy_X4_together⟩ (am_w5 wd_649 wd_650 wd_651 wd_60 wd_652) (by decide) d rfl) <|
  am_kd (fun d => ak_lload d rfl) <|
  am_kd (fun d => ak_lsub d rfl) <|
  am_kd (fun d => ak_retL d) <| am_kdn
def TX7_takenByLife : am_T := fun live as M R => match as with
  | [.ref n, .int p, .int q, .int l, .int y, .int k, .int s] => am_mn live ∧ n = 0 ∧ am_in p 12 ∧ (q = -1 ∨ am_in q 5) ∧ am_in l 4 ∧ g_rI M ∧ ∀ v M', g_sc M M' → g_rI M' → R (some (.long v)) M'
  | _ => False
set_option maxRecDepth 100000 in
set_option maxHeartbeats 4000000 in
theorem metX7_takenByLife : am_Met yX7_takenByLife cX7_takenByLife 9 (some .long) (5) (124) TX7_takenByLife := by
  refine am_met (own := RX7) (by decide +kernel) rfl kX7_takenByLife koX7_takenByLife 100 (fun _ _ _ _ _ => none) (fun live as M Ret h => ?_) (fun _ _ _ _ _ _ _ _ hI => by cases hI)
  unfold TX7_takenByLife at h
  split at h
  · next n p q l y k s =>
    refine ⟨Nat.le_of_ble_eq_true rfl, ?_⟩
    change am_wp _ _ _ _ [(0, Value.ref n), (1, Value.int p), (2, Value.int q), (3, Value.int l), (4, Value.int y), (5, Value.int k), (6, Value.int s)] _ _
    obtain ⟨hmn, rfl, hp, hq, hl, hr, h⟩ := h
    have hmn2 := hmn
    obtain ⟨i1, i2, rfl⟩ := hmn2
    have w3 : am_in (3 : Int32) 6 := ⟨by decide, by decide⟩
    repeat' (first | (with_reducible exact hmn) | (with_reducible exact hp) | (with_reducible exact w3) | (with_reducible exact hr) | apply And.intro | exact rfl | ((with_reducible change g_rI _); (with_reducible assumption)) | intro hx | (refine Exists.intro _ (And.intro rfl ?_)))
    all_goals try first | (with_reducible change am_tI _ _) | (change Ret _ _) | (change Ret _ _ _) | (change Exists _)
    all_goals try dsimp only at *
    all_goals try (with_reducible exact absurd ‹(1000 : Int64) = 0› am_z1000)
    all_goals first
      | (change 0 ≤ Int32.toInt _; exact (g_sI.pe (g_rI.s (by with_reducible assumption))).1)
      | (change Int32.toInt _ < _; exact (g_sI.pe (g_rI.s (by with_reducible assumption))).2)
      | (change g_rI _; exact g_rI.wJ (g_rI.wJ (g_rI.w413 (g_rI.w412 (g_rI.w411 (by with_reducible assumption) (Or.inr hl)) hq) (g_i2 _))))
      | skip
    exact h _ _ (by (repeat' (first | (with_reducible exact g_sc.rf) | (with_reducible assumption) | ((with_reducible change g_sc _ (am_wI _ _ _ _)); refine g_sc.wI ?_ rfl) | ((with_reducible change g_sc _ (am_wJ _ _ _ _)); refine g_sc.wJ ?_ rfl) | ((with_reducible change g_sc _ (am_cI _ _ _)); refine g_sc.cI ?_ rfl) | ((with_reducible change g_sc _ (am_cJ _ _ _)); refine g_sc.cJ ?_ rfl) | (refine g_sc.tr ?_ (by with_reducible assumption)) | (refine g_sc.st ?_ (by with_reducible assumption))))) (by (repeat' (first | (with_reducible assumption) | ((with_reducible change g_rI (am_wJ _ _ _ _)); refine g_rI.wJ ?_) | ((with_reducible change g_rI (am_cJ _ _ _)); refine g_rI.cJ ?_) | ((with_reducible change g_rI (am_wI _ 5 _ _)); refine g_rI.w5 ?_) | ((with_reducible change g_rI (am_wI _ _ _ _)); refine g_rI.wF ?_ rfl) | (refine g_rI.st ?_ (by with_reducible assumption)) | (refine g_rI.we ?_ (by with_reducible assumption)))))
  · exact h.elim
def rwX7_runEverybody : List dz_r := [(0, .iconst 0, 1), (1, .istore_n 3, 1), (2, .iload_n 3, 1), (3, .aload_n 0, 1), (4, .getfield 27, 3), (7, .getfield 38, 3), (10, .getfield 42, 3), (13, .if_icmp .ge 26, 3), (16, .aload_n 0, 1), (17, .getfield 20, 3), (20, .iload_n 3, 1), (21, .iload_n 2, 1), (22, .invokevirtual 151, 3), (25, .aload_n 0, 1), (26, .getfield 20, 3), (29, .iload_n 1, 1), (30, .invokevirtual 155, 3), (33, .iinc 3 1, 3), (36, .goto (-34), 3), (39, .return_, 1)]
theorem dzX7_runEverybody : dz cX7_runEverybody rwX7_runEverybody := dz_all 0 (by decide +kernel)
def kX7_runEverybody (live : am_E) (Ret : am_R) : am_code := [(0, am_const (.int 0) 1), (1, am_istore 3 4 2), (2, am_iload 3 3), (3, am_aload 0 4), (4, am_getR live 7 0 7), (7, am_getR live 0 0 10), (10, am_getI live 2 7 13), (13, am_if2 (fun x y => y ≤ x) 39 16), (16, am_aload 0 17), (17, am_getR live 7 2 20), (20, am_iload 3 21), (21, am_iload 2 22), (22, am_callV live 4 2 TX4_begin 25), (25, am_aload 0 26), (26, am_getR live 7 2 29), (29, am_iload 1 30), (30, am_callV live 4 1 TX4_go 33), (33, am_iinc 3 4 1 36), (36, am_goto 2), (39, am_retV Ret)]
theorem koX7_runEverybody (live : am_E) (Ret : am_R) : ∀ q ∈ kX7_runEverybody live Ret, am_ok RX7 cX7_runEverybody 4 none 5 124 live Ret q.1 q.2 :=
  am_kz dzX7_runEverybody <|
  am_kd (fun d => ak_iconst d (by decide +kernel) rfl) <|
  am_kd (fun d => ak_istore_n d rfl rfl) <|
  am_kd (fun d => ak_iload_n d rfl rfl) <|
  am_kd (fun d => ak_aload_n d rfl rfl) <|
  am_kd (fun d => ak_getR (C := RX7) (T := TX7) (N := 4) rfl inX7w (by decide) rfl rfl rfl wd_390 d rfl) <|
  am_kd (fun d => ak_getR (C := RX0) (T := TX0) (N := 13) rfl inX0w (by decide) rfl rfl rfl wd_194 d rfl) <|
  am_kd (fun d => ak_getI (C := RX2) (T := TX2) (N := 8) rfl inX2w (by decide) rfl rfl rfl wd_121 d rfl) <|
  am_kd (fun d => ak_icmp_ge d (by decide +kernel) rfl) <|
  am_kd (fun d => ak_aload_n d rfl rfl) <|
  am_kd (fun d => ak_getR (C := RX7) (T := TX7) (N := 4) rfl inX7w (by decide) rfl rfl rfl wd_392 d rfl) <|
  am_kd (fun d => ak_iload_n d rfl rfl) <|
  am_kd (fun d => ak_iload_n d rfl rfl) <|
  am_kd (fun d => ak_callV (C := RX4) (F := TX4) (N := 19) metX4_begin rfl ⟨rfl, hy_X4_begin⟩ (am_w5 wd_546 wd_547 wd_548 wd_60 wd_549) (by decide) d rfl) <|
  am_kd (fun d => ak_aload_n d rfl rfl) <|
  am_kd (fun d => ak_getR (C := RX7) (T := TX7) (N := 4) rfl inX7w (by decide) rfl rfl rfl wd_392 d rfl) <|
  am_kd (fun d => ak_iload_n d rfl rfl) <|
  am_kd (fun d => ak_callV (C := RX4) (F := TX4) (N := 19) metX4_go rfl ⟨rfl, hy_X4_go⟩ (am_w5 wd_559 wd_560 wd_561 wd_60 wd_562) (by decide) d rfl) <|
  am_kd (fun d => ak_iinc d (by decide +kernel) rfl) <|
  am_kd (fun d => ak_goto d (by decide +kernel)) <|
  am_kd (fun d => ak_retV d) <| am_kdn
def TX7_runEverybody : am_T := fun live as M R => match as with
  | [.ref n, .int y, .int k] => am_mn live ∧ n = 0 ∧ g_hI M ∧ g_rI M ∧ ∀ M', g_sc M M' → g_rI M' → R none M'
  | _ => False
def JX7_runEverybody : am_E → List Value → am_M → am_R → am_inv := fun live as M0 _ pc => match as with
  | [.ref n, .int y, .int w] => (match pc with
    | 2 => some ([0, 1, 2, 3], fun k L st M => ∃ i : Int32, L = [(0, .ref 0), (1, .int y), (2, .int w), (3, .int i)] ∧ st = [] ∧ k = ((13 - i.toInt).toNat, 0) ∧ 0 ≤ i.toInt ∧ g_sc M0 M ∧ g_rI M)
    | _ => none)
  | _ => none
set_option maxRecDepth 100000 in
set_option maxHeartbeats 4000000 in
theorem metX7_runEverybody : am_Met yX7_runEverybody cX7_runEverybody 4 none (5) (124) TX7_runEverybody := by
  refine am_met (own := RX7) (by decide +kernel) rfl kX7_runEverybody koX7_runEverybody 100 JX7_runEverybody ?_ ?_
  · intro live as M Ret h
    unfold TX7_runEverybody at h
    split at h
    · next n y w =>
      refine ⟨Nat.le_of_ble_eq_true rfl, ?_⟩
      change am_wp _ _ _ _ [(0, Value.ref n), (1, Value.int y), (2, Value.int w)] _ _
      obtain ⟨hmn, rfl, hh, hr, h⟩ := h
      repeat' (first | apply And.intro | exact rfl | intro hx | (refine Exists.intro _ (And.intro rfl ?_)))
      all_goals try first | (with_reducible change am_tI _ _) | (change Ret _ _) | (change Ret _ _ _) | (change Exists _)
      all_goals try dsimp only at *
      all_goals try (with_reducible exact absurd ‹(1000 : Int64) = 0› am_z1000)
      exact ⟨_, _, rfl, rfl, rfl, by decide, g_sc.rf, hr⟩
    · exact h.elim
  · intro live as M0 Ret h k pc I hI L st M hi
    unfold TX7_runEverybody at h
    split at h
    · next n y w =>
      obtain ⟨hmn, rfl, hh, hr, h⟩ := h
      have hmn2 := hmn
      obtain ⟨i1, i2, rfl⟩ := hmn2
      change (match pc with | 2 => _ | _ => none) = _ at hI
      split at hI
      · cases hI
        obtain ⟨i, rfl, rfl, rfl, e1, e2, e3⟩ := hi
        by_cases hz : M.1 21 7 ≤ i
        · skip
          repeat' (first | apply And.intro | exact rfl | (intro hx; with_reducible exact absurd hz hx) | intro hx | (refine Exists.intro _ (And.intro rfl ?_)))
          all_goals try first | (with_reducible change am_tI _ _) | (change Ret _ _) | (change Ret _ _ _) | (change Exists _)
          all_goals try dsimp only at *
          all_goals try (with_reducible exact absurd ‹(1000 : Int64) = 0› am_z1000)
          exact h _ e2 e3
        · have hz2 := hz
          have hs := hh.pe
          rw [e2.i 7 (by decide)] at hz2
          simp only [i_le] at hz2
          have hp : am_in i 12 := ⟨e1, by omega⟩
          have hi := i_inc (x := i) (by omega) (by omega)
          repeat' (first | (with_reducible exact hmn) | (with_reducible exact hp) | (with_reducible exact e3) | apply And.intro | exact rfl | (intro hx; with_reducible exact absurd hx hz) | ((with_reducible change g_rI _); (with_reducible assumption)) | intro hx | (refine Exists.intro _ (And.intro rfl ?_)))
          all_goals try first | (with_reducible change am_tI _ _) | (change Ret _ _) | (change Ret _ _ _) | (change Exists _)
          all_goals try dsimp only at *
          all_goals try (with_reducible exact absurd ‹(1000 : Int64) = 0› am_z1000)
          exact ⟨_, am_lt_l (by omega), _, rfl, rfl, rfl, by omega, by (repeat' (first | (with_reducible exact g_sc.rf) | (with_reducible assumption) | ((with_reducible change g_sc _ (am_wI _ _ _ _)); refine g_sc.wI ?_ rfl) | ((with_reducible change g_sc _ (am_wJ _ _ _ _)); refine g_sc.wJ ?_ rfl) | ((with_reducible change g_sc _ (am_cI _ _ _)); refine g_sc.cI ?_ rfl) | ((with_reducible change g_sc _ (am_cJ _ _ _)); refine g_sc.cJ ?_ rfl) | (refine g_sc.tr ?_ (by with_reducible assumption)) | (refine g_sc.st ?_ (by with_reducible assumption)))), by (repeat' (first | (with_reducible assumption) | ((with_reducible change g_rI (am_wJ _ _ _ _)); refine g_rI.wJ ?_) | ((with_reducible change g_rI (am_cJ _ _ _)); refine g_rI.cJ ?_) | ((with_reducible change g_rI (am_wI _ 5 _ _)); refine g_rI.w5 ?_) | ((with_reducible change g_rI (am_wI _ _ _ _)); refine g_rI.wF ?_ rfl) | (refine g_rI.st ?_ (by with_reducible assumption)) | (refine g_rI.we ?_ (by with_reducible assumption))))⟩
      · cases hI
    · exact h.elim
set_option maxRecDepth 100000 in
theorem wd_828 : Cond.methodLink "LearnLoans" 293 Lib.Math.abs.name ∈ am_ws := am_wt4 (List.mem_of_getElem? (i := 51) (by rfl)) (by decide +kernel)
set_option maxRecDepth 100000 in
theorem wd_829 : Cond.static Lib.Math.abs.name ∈ am_ws := am_wt4 (List.mem_of_getElem? (i := 52) (by rfl)) (by decide +kernel)
set_option maxRecDepth 100000 in
theorem wd_830 : Cond.code Lib.Math.abs.name Lib.Math.abs.code 1 (some .int) ∈ am_ws := am_wt4 (List.mem_of_getElem? (i := 53) (by rfl)) (by decide +kernel)
def rwX7_isNearer : List dz_r := [(0, .iload_n 1, 1), (1, .iconst (-1), 1), (2, .if_icmp .ne 5, 3), (5, .iconst 1, 1), (6, .ireturn, 1), (7, .iload_n 0, 1), (8, .iload_n 2, 1), (9, .isub, 1), (10, .invokestatic 293, 3), (13, .istore_n 3, 1), (14, .iload_n 1, 1), (15, .iload_n 2, 1), (16, .isub, 1), (17, .invokestatic 293, 3), (20, .istore 4, 2), (22, .iload_n 3, 1), (23, .iload 4, 2), (25, .if_icmp .lt 14, 3), (28, .iload_n 3, 1), (29, .iload 4, 2), (31, .if_icmp .ne 12, 3), (34, .iload_n 0, 1), (35, .iload_n 1, 1), (36, .if_icmp .ge 7, 3), (39, .iconst 1, 1), (40, .goto 4, 3), (43, .iconst 0, 1), (44, .ireturn, 1)]
theorem dzX7_isNearer : dz cX7_isNearer rwX7_isNearer := dz_all 0 (by decide +kernel)
def kX7_isNearer (live : am_E) (Ret : am_R) : am_code := [(0, am_iload 1 1), (1, am_const (.int (-1)) 2), (2, am_if2 (fun x y => x = y) 5 7), (5, am_const (.int 1) 6), (6, am_retZ Ret), (7, am_iload 0 8), (8, am_iload 2 9), (9, am_i2 (fun x y => x - y) 10), (10, am_math1 (fun x => if 0 ≤ x then x else 0 - x) 23 13), (13, am_istore 3 5 14), (14, am_iload 1 15), (15, am_iload 2 16), (16, am_i2 (fun x y => x - y) 17), (17, am_math1 (fun x => if 0 ≤ x then x else 0 - x) 23 20), (20, am_istore 4 5 22), (22, am_iload 3 23), (23, am_iload 4 25), (25, am_if2 (fun x y => x < y) 39 28), (28, am_iload 3 29), (29, am_iload 4 31), (31, am_if2 (fun x y => x = y) 34 43), (34, am_iload 0 35), (35, am_iload 1 36), (36, am_if2 (fun x y => y ≤ x) 43 39), (39, am_const (.int 1) 40), (40, am_goto 44), (43, am_const (.int 0) 44), (44, am_retZ Ret)]
theorem koX7_isNearer (live : am_E) (Ret : am_R) : ∀ q ∈ kX7_isNearer live Ret, am_ok RX7 cX7_isNearer 5 (some .boolean) 1 23 live Ret q.1 q.2 :=
  am_kz dzX7_isNearer <|
  am_kd (fun d => ak_iload_n d rfl rfl) <|
  am_kd (fun d => ak_iconst d (by decide +kernel) rfl) <|
  am_kd (fun d => ak_icmp_ne d (by decide +kernel) rfl) <|
  am_kd (fun d => ak_iconst d (by decide +kernel) rfl) <|
  am_kd (fun d => ak_retZ d) <|
  am_kd (fun d => ak_iload_n d rfl rfl) <|
  am_kd (fun d => ak_iload_n d rfl rfl) <|
  am_kd (fun d => ak_isub d rfl) <|
  am_kd (fun d => ak_iabs (am_w4 wd_828 wd_829 wd_68 wd_830) (by decide) d rfl) <|
  am_kd (fun d => ak_istore_n d rfl rfl) <|
  am_kd (fun d => ak_iload_n d rfl rfl) <|
  am_kd (fun d => ak_iload_n d rfl rfl) <|
  am_kd (fun d => ak_isub d rfl) <|
  am_kd (fun d => ak_iabs (am_w4 wd_828 wd_829 wd_68 wd_830) (by decide) d rfl) <|
  am_kd (fun d => ak_istore d rfl) <|
  am_kd (fun d => ak_iload_n d rfl rfl) <|
  am_kd (fun d => ak_iload d rfl) <|
  am_kd (fun d => ak_icmp_lt d (by decide +kernel) rfl) <|
  am_kd (fun d => ak_iload_n d rfl rfl) <|
  am_kd (fun d => ak_iload d rfl) <|
  am_kd (fun d => ak_icmp_ne d (by decide +kernel) rfl) <|
  am_kd (fun d => ak_iload_n d rfl rfl) <|
  am_kd (fun d => ak_iload_n d rfl rfl) <|
  am_kd (fun d => ak_icmp_ge d (by decide +kernel) rfl) <|
  am_kd (fun d => ak_iconst d (by decide +kernel) rfl) <|
  am_kd (fun d => ak_goto d (by decide +kernel)) <|
  am_kd (fun d => ak_iconst d (by decide +kernel) rfl) <|
  am_kd (fun d => ak_retZ d) <| am_kdn
def TX7_isNearer : am_T := fun live as M R => match as with
  | [.int a, .int b, .int c] => R (some (.int 0)) M ∧ R (some (.int 1)) M
  | _ => False
set_option maxRecDepth 100000 in
set_option maxHeartbeats 4000000 in
theorem metX7_isNearer : am_Met yX7_isNearer cX7_isNearer 5 (some .boolean) (1) (23) TX7_isNearer := by
  refine am_met (own := RX7) (by decide +kernel) rfl kX7_isNearer koX7_isNearer 100 (fun _ _ _ _ _ => none) (fun live as M Ret h => ?_) (fun _ _ _ _ _ _ _ _ hI => by cases hI)
  unfold TX7_isNearer at h
  split at h
  · next a b c =>
    refine ⟨Nat.le_of_ble_eq_true rfl, ?_⟩
    change am_wp _ _ _ _ [(0, Value.int a), (1, Value.int b), (2, Value.int c)] _ _
    obtain ⟨h0, h1⟩ := h
    repeat' (first | (with_reducible exact h0) | (with_reducible exact h1) | apply And.intro | exact rfl | intro hx | (refine Exists.intro _ (And.intro rfl ?_)) | ((with_reducible change _ = true); simp only [h0, h1, Bool.true_and]; rfl))
    all_goals try first | (with_reducible change am_tI _ _) | (change Ret _ _) | (change Ret _ _ _) | (change Exists _)
    all_goals try dsimp only at *
    all_goals try (with_reducible exact absurd ‹(1000 : Int64) = 0› am_z1000)
    all_goals first | (left; rfl) | (right; rfl) | (with_reducible exact h0) | (with_reducible exact h1) | exact h0 | exact h1
  · exact h.elim
theorem hy_X0_addAct : yX0_addAct.cls ≠ "java/lang/invoke/MethodHandle" ∧ yX0_addAct.cls ≠ "java/lang/invoke/VarHandle" ∧ (parseMethodDescriptor yX0_addAct.desc).map (fun d => d.parameters.length) = some 6 := ⟨by decide +kernel, by decide +kernel, by decide +kernel⟩
set_option maxRecDepth 100000 in
theorem wd_476 : Cond.methodLink "LearnLoans" 111 yX0_addAct ∈ am_ws := am_wt2 (List.mem_of_getElem? (i := 179) (by rfl)) (by decide +kernel)
set_option maxRecDepth 100000 in
theorem wd_477 : Cond.instanceMethod yX0_addAct ∈ am_ws := am_wt2 (List.mem_of_getElem? (i := 180) (by rfl)) (by decide +kernel)
set_option maxRecDepth 100000 in
theorem wd_478 : Cond.selects "LearnLoans$House" yX0_addAct yX0_addAct ∈ am_ws := am_wt2 (List.mem_of_getElem? (i := 181) (by rfl)) (by decide +kernel)
set_option maxRecDepth 100000 in
theorem wd_479 : Cond.code yX0_addAct cX0_addAct 8 (some .int) ∈ am_ws := am_wt2 (List.mem_of_getElem? (i := 182) (by rfl)) (by decide +kernel)
set_option maxRecDepth 100000 in
theorem wd_204 : Cond.fieldLink "LearnLoans" 104 "LearnLoans$House" "acts" "LLearnLoans$Rows;" ∈ am_ws := am_wt1 (List.mem_of_getElem? (i := 147) (by rfl)) (by decide +kernel)
theorem hy_X3_dropLast : yX3_dropLast.cls ≠ "java/lang/invoke/MethodHandle" ∧ yX3_dropLast.cls ≠ "java/lang/invoke/VarHandle" ∧ (parseMethodDescriptor yX3_dropLast.desc).map (fun d => d.parameters.length) = some 0 := ⟨by decide +kernel, by decide +kernel, by decide +kernel⟩
set_option maxRecDepth 100000 in
theorem wd_808 : Cond.methodLink "LearnLoans" 290 yX3_dropLast ∈ am_ws := am_wt4 (List.mem_of_getElem? (i := 31) (by rfl)) (by decide +kernel)
set_option maxRecDepth 100000 in
theorem wd_809 : Cond.instanceMethod yX3_dropLast ∈ am_ws := am_wt4 (List.mem_of_getElem? (i := 32) (by rfl)) (by decide +kernel)
set_option maxRecDepth 100000 in
theorem wd_810 : Cond.selects "LearnLoans$Rows" yX3_dropLast yX3_dropLast ∈ am_ws := am_wt4 (List.mem_of_getElem? (i := 33) (by rfl)) (by decide +kernel)
set_option maxRecDepth 100000 in
theorem wd_811 : Cond.code yX3_dropLast cX3_dropLast 1 none ∈ am_ws := am_wt4 (List.mem_of_getElem? (i := 34) (by rfl)) (by decide +kernel)
def rwX7_takenIf : List dz_r := [(0, .aload_n 0, 1), (1, .getfield 27, 3), (4, .iload_n 1, 1), (5, .iload_n 2, 1), (6, .iload_n 3, 1), (7, .iload 4, 2), (9, .iconst 0, 1), (10, .bipush 39, 2), (12, .invokevirtual 111, 3), (15, .pop, 1), (16, .lconst 0, 1), (17, .lstore 6, 2), (19, .iconst 0, 1), (20, .istore 8, 2), (22, .iload 8, 2), (24, .aload_n 0, 1), (25, .getfield 27, 3), (28, .getfield 38, 3), (31, .getfield 42, 3), (34, .if_icmp .ge 42, 3), (37, .aload_n 0, 1), (38, .getfield 20, 3), (41, .iload 8, 2), (43, .bipush 39, 2), (45, .invokevirtual 151, 3), (48, .aload_n 0, 1), (49, .getfield 20, 3), (52, .iload 5, 2), (54, .invokevirtual 155, 3), (57, .lload 6, 2), (59, .aload_n 0, 1), (60, .getfield 20, 3), (63, .iconst 1, 1), (64, .invokevirtual 284, 3), (67, .ladd, 1), (68, .lstore 6, 2), (70, .iinc 8 1, 3), (73, .goto (-51), 3), (76, .aload_n 0, 1), (77, .getfield 27, 3), (80, .getfield 104, 3), (83, .invokevirtual 290, 3), (86, .lload 6, 2), (88, .lreturn, 1)]
theorem dzX7_takenIf : dz cX7_takenIf rwX7_takenIf := dz_all 0 (by decide +kernel)
def kX7_takenIf (live : am_E) (Ret : am_R) : am_code := [(0, am_aload 0 1), (1, am_getR live 7 0 4), (4, am_iload 1 5), (5, am_iload 2 6), (6, am_iload 3 7), (7, am_iload 4 9), (9, am_const (.int 0) 10), (10, am_const (.int 39) 12), (12, am_callV live 0 6 TX0_addAct 15), (15, am_pop 16), (16, am_const (.long 0) 17), (17, am_lstore 6 9 19), (19, am_const (.int 0) 20), (20, am_istore 8 9 22), (22, am_iload 8 24), (24, am_aload 0 25), (25, am_getR live 7 0 28), (28, am_getR live 0 0 31), (31, am_getI live 2 7 34), (34, am_if2 (fun x y => y ≤ x) 76 37), (37, am_aload 0 38), (38, am_getR live 7 2 41), (41, am_iload 8 43), (43, am_const (.int 39) 45), (45, am_callV live 4 2 TX4_begin 48), (48, am_aload 0 49), (49, am_getR live 7 2 52), (52, am_iload 5 54), (54, am_callV live 4 1 TX4_go 57), (57, am_lload 6 59), (59, am_aload 0 60), (60, am_getR live 7 2 63), (63, am_const (.int 1) 64), (64, am_callV live 4 1 TX4_together 67), (67, am_l2 (fun x y => x + y) 68), (68, am_lstore 6 9 70), (70, am_iinc 8 9 1 73), (73, am_goto 22), (76, am_aload 0 77), (77, am_getR live 7 0 80), (80, am_getR live 0 3 83), (83, am_callV live 3 0 TX3_dropLast 86), (86, am_lload 6 88), (88, am_retL Ret)]
theorem koX7_takenIf (live : am_E) (Ret : am_R) : ∀ q ∈ kX7_takenIf live Ret, am_ok RX7 cX7_takenIf 9 (some .long) 5 124 live Ret q.1 q.2 :=
  am_kz dzX7_takenIf <|
  am_kd (fun d => ak_aload_n d rfl rfl) <|
  am_kd (fun d => ak_getR (C := RX7) (T := TX7) (N := 4) rfl inX7w (by decide) rfl rfl rfl wd_390 d rfl) <|
  am_kd (fun d => ak_iload_n d rfl rfl) <|
  am_kd (fun d => ak_iload_n d rfl rfl) <|
  am_kd (fun d => ak_iload_n d rfl rfl) <|
  am_kd (fun d => ak_iload d rfl) <|
  am_kd (fun d => ak_iconst d (by decide +kernel) rfl) <|
  am_kd (fun d => ak_bipush d (by decide +kernel) rfl) <|
  am_kd (fun d => ak_callV (C := RX0) (F := TX0) (N := 13) metX0_addAct rfl ⟨rfl, hy_X0_addAct⟩ (am_w5 wd_476 wd_477 wd_478 wd_61 wd_479) (by decide) d rfl) <|
  am_kd (fun d => ak_pop d rfl) <|
  am_kd (fun d => ak_lconst d (by decide +kernel) rfl) <|
  am_kd (fun d => ak_lstore d rfl) <|
  am_kd (fun d => ak_iconst d (by decide +kernel) rfl) <|
  am_kd (fun d => ak_istore d rfl) <|
  am_kd (fun d => ak_iload d rfl) <|
  am_kd (fun d => ak_aload_n d rfl rfl) <|
  am_kd (fun d => ak_getR (C := RX7) (T := TX7) (N := 4) rfl inX7w (by decide) rfl rfl rfl wd_390 d rfl) <|
  am_kd (fun d => ak_getR (C := RX0) (T := TX0) (N := 13) rfl inX0w (by decide) rfl rfl rfl wd_194 d rfl) <|
  am_kd (fun d => ak_getI (C := RX2) (T := TX2) (N := 8) rfl inX2w (by decide) rfl rfl rfl wd_121 d rfl) <|
  am_kd (fun d => ak_icmp_ge d (by decide +kernel) rfl) <|
  am_kd (fun d => ak_aload_n d rfl rfl) <|
  am_kd (fun d => ak_getR (C := RX7) (T := TX7) (N := 4) rfl inX7w (by decide) rfl rfl rfl wd_392 d rfl) <|
  am_kd (fun d => ak_iload d rfl) <|
  am_kd (fun d => ak_bipush d (by decide +kernel) rfl) <|
  am_kd (fun d => ak_callV (C := RX4) (F := TX4) (N := 19) metX4_begin rfl ⟨rfl, hy_X4_begin⟩ (am_w5 wd_546 wd_547 wd_548 wd_60 wd_549) (by decide) d rfl) <|
  am_kd (fun d => ak_aload_n d rfl rfl) <|
  am_kd (fun d => ak_getR (C := RX7) (T := TX7) (N := 4) rfl inX7w (by decide) rfl rfl rfl wd_392 d rfl) <|
  am_kd (fun d => ak_iload d rfl) <|
  am_kd (fun d => ak_callV (C := RX4) (F := TX4) (N := 19) metX4_go rfl ⟨rfl, hy_X4_go⟩ (am_w5 wd_559 wd_560 wd_561 wd_60 wd_562) (by decide) d rfl) <|
  am_kd (fun d => ak_lload d rfl) <|
  am_kd (fun d => ak_aload_n d rfl rfl) <|
  am_kd (fun d => ak_getR (C := RX7) (T := TX7) (N := 4) rfl inX7w (by decide) rfl rfl rfl wd_392 d rfl) <|
  am_kd (fun d => ak_iconst d (by decide +kernel) rfl) <|
  am_kd (fun d => ak_callV (C := RX4) (F := TX4) (N := 19) metX4_together rfl ⟨rfl, hy_X4_together⟩ (am_w5 wd_649 wd_650 wd_651 wd_60 wd_652) (by decide) d rfl) <|
  am_kd (fun d => ak_ladd d rfl) <|
  am_kd (fun d => ak_lstore d rfl) <|
  am_kd (fun d => ak_iinc d (by decide +kernel) rfl) <|
  am_kd (fun d => ak_goto d (by decide +kernel)) <|
  am_kd (fun d => ak_aload_n d rfl rfl) <|
  am_kd (fun d => ak_getR (C := RX7) (T := TX7) (N := 4) rfl inX7w (by decide) rfl rfl rfl wd_390 d rfl) <|
  am_kd (fun d => ak_getR (C := RX0) (T := TX0) (N := 13) rfl inX0w (by decide) rfl rfl rfl wd_204 d rfl) <|
  am_kd (fun d => ak_callV (C := RX3) (F := TX3) (N := 3) metX3_dropLast rfl ⟨rfl, hy_X3_dropLast⟩ (am_w5 wd_808 wd_809 wd_810 wd_64 wd_811) (by decide) d rfl) <|
  am_kd (fun d => ak_lload d rfl) <|
  am_kd (fun d => ak_retL d) <| am_kdn
def TX7_takenIf : am_T := fun live as M R => match as with
  | [.ref n, .int p, .int w, .int v, .int f, .int y] => am_mn live ∧ n = 0 ∧ g_hI M ∧ g_rI M ∧ ∀ v M', g_sa M M' → g_rI M' → R (some (.long v)) M'
  | _ => False
def JX7_takenIf : am_E → List Value → am_M → am_R → am_inv := fun live as M0 _ pc => match as with
  | [.ref n, .int p, .int w, .int v, .int f, .int y] => (match pc with
    | 22 => some ([0, 5, 6, 8], fun k L st M => ∃ (t : Int64) (i : Int32), L = [(0, .ref 0), (5, .int y), (6, .long t), (8, .int i)] ∧ st = [] ∧ k = ((13 - i.toInt).toNat, 0) ∧ 0 ≤ i.toInt ∧ g_sc (am_addAct M0 p w v f 0 39) M ∧ g_rI M)
    | _ => none)
  | _ => none
theorem g_addAct_o {M : am_M} {p w v f b e : Int32} (h : g_hI M) {n k : Nat} (hn : n ≠ 31 ∨ k ≠ 2) (hk : n = 32 → k < 6 * (M.1 31 2).toNatClampNeg) : (am_addAct M p w v f b e).1 n k = M.1 n k := by
  rw [g_addAct h.ac.1 h.ac.2.1 h.ac.2.2]
  simp only [am_wI_1]
  repeat rw [if_neg (by intro q; have q1 := q.1; have q2 := q.2; first | (have := hk q1; omega) | omega)]
theorem g_addAct_J {M : am_M} {p w v f b e : Int32} (h : g_hI M) : (am_addAct M p w v f b e).2 = M.2 := by
  rw [g_addAct h.ac.1 h.ac.2.1 h.ac.2.2]
  rfl
theorem g_addAct_s {M : am_M} {p w v f b e : Int32} (h : g_hI M) : (am_addAct M p w v f b e).1 31 2 = M.1 31 2 + 1 := by
  rw [g_addAct h.ac.1 h.ac.2.1 h.ac.2.2]
  simp [am_wI_1]
set_option maxRecDepth 100000 in
set_option maxHeartbeats 4000000 in
theorem metX7_takenIf : am_Met yX7_takenIf cX7_takenIf 9 (some .long) (5) (124) TX7_takenIf := by
  refine am_met (own := RX7) (by decide +kernel) rfl kX7_takenIf koX7_takenIf 100 JX7_takenIf ?_ ?_
  · intro live as M Ret h
    unfold TX7_takenIf at h
    split at h
    · next n p w v f y =>
      refine ⟨Nat.le_of_ble_eq_true rfl, ?_⟩
      change am_wp _ _ _ _ [(0, Value.ref n), (1, Value.int p), (2, Value.int w), (3, Value.int v), (4, Value.int f), (5, Value.int y)] _ _
      obtain ⟨hmn, rfl, hh, hr, h⟩ := h
      have hmn2 := hmn
      obtain ⟨i1, i2, rfl⟩ := hmn2
      repeat' (first | (with_reducible exact hmn) | apply And.intro | exact rfl | intro hx | (refine Exists.intro _ (And.intro rfl ?_)))
      all_goals try first | (with_reducible change am_tI _ _) | (change Ret _ _) | (change Ret _ _ _) | (change Exists _)
      all_goals try dsimp only at *
      all_goals try (with_reducible exact absurd ‹(1000 : Int64) = 0› am_z1000)
      exact ⟨_, _, _, rfl, rfl, rfl, by decide, g_sc.rf, hr.on (fun a b z => g_addAct_o hh (Or.inl (fun q => by rw [q] at z; exact absurd z (by decide))) (fun q => by rw [q] at z; exact absurd z (by decide)))⟩
    · exact h.elim
  · intro live as M0 Ret h k pc I hI L st M hi
    unfold TX7_takenIf at h
    split at h
    · next n p w v f y =>
      obtain ⟨hmn, rfl, hh, hr, h⟩ := h
      have hmn2 := hmn
      obtain ⟨i1, i2, rfl⟩ := hmn2
      change (match pc with | 22 => _ | _ => none) = _ at hI
      split at hI
      · cases hI
        obtain ⟨t, i, rfl, rfl, rfl, e1, e2, e3⟩ := hi
        have w1 : am_in (1 : Int32) 6 := ⟨by decide, by decide⟩
        have hs := hh.pe
        have ha := hh.ac
        have e21 : M.1 21 7 = M0.1 21 7 := (e2.i 7 (by decide)).trans (g_addAct_o hh (Or.inl (by decide)) (fun q => absurd q (by decide)))
        have e31 : M.1 31 2 = M0.1 31 2 + 1 := (e2.i 2 (by decide)).trans (g_addAct_s hh)
        have h31 := i_inc (x := M0.1 31 2) (by omega) (by omega)
        by_cases hz : M.1 21 7 ≤ i
        · skip
          repeat' (first | (with_reducible exact hmn) | apply And.intro | exact rfl | (intro hx; with_reducible exact absurd hz hx) | intro hx | (refine Exists.intro _ (And.intro rfl ?_)))
          all_goals try first | (with_reducible change am_tI _ _) | (change Ret _ _) | (change Ret _ _ _) | (change Exists _)
          all_goals try dsimp only at *
          all_goals try (with_reducible exact absurd ‹(1000 : Int64) = 0› am_z1000)
          refine h _ _ ?_ ?_
          · rw [am_wIc_t (by rw [e31, i_lt, h31]; simp only [Int32.reduceToInt]; omega), e31, Int32.add_sub_cancel]
            have e2b := e2.v
            obtain ⟨-, e2b⟩ := e2b
            refine ⟨(), fun a b z y => ⟨?_, ?_⟩⟩
            · rw [am_wI_1]
              by_cases q : a = 31 ∧ b = 2
              · rw [if_pos q, q.1, q.2]
              · rw [if_neg q, (e2b a b z).1]
                exact g_addAct_o hh (by omega) y
            · show M.2 a b = _
              rw [(e2b a b z).2, g_addAct_J hh]
          · refine e3.on (fun a b z => ?_)
            unfold am_wIc
            show (if _ then _ else _) = _
            rw [if_neg (fun q => by rw [q.2.1] at z; exact absurd z (by decide))]
        · have hz2 := hz
          rw [e21] at hz2
          simp only [i_le] at hz2
          have hp : am_in i 12 := ⟨e1, by omega⟩
          have hi := i_inc (x := i) (by omega) (by omega)
          repeat' (first | (with_reducible exact hmn) | (with_reducible exact hp) | (with_reducible exact w1) | (with_reducible exact e3) | apply And.intro | exact rfl | (intro hx; with_reducible exact absurd hx hz) | ((with_reducible change g_rI _); (with_reducible assumption)) | intro hx | (refine Exists.intro _ (And.intro rfl ?_)))
          all_goals try first | (with_reducible change am_tI _ _) | (change Ret _ _) | (change Ret _ _ _) | (change Exists _)
          all_goals try dsimp only at *
          all_goals try (with_reducible exact absurd ‹(1000 : Int64) = 0› am_z1000)
          exact ⟨_, am_lt_l (by omega), _, _, rfl, rfl, rfl, by omega, by (repeat' (first | (with_reducible exact g_sc.rf) | (with_reducible assumption) | ((with_reducible change g_sc _ (am_wI _ _ _ _)); refine g_sc.wI ?_ rfl) | ((with_reducible change g_sc _ (am_wJ _ _ _ _)); refine g_sc.wJ ?_ rfl) | ((with_reducible change g_sc _ (am_cI _ _ _)); refine g_sc.cI ?_ rfl) | ((with_reducible change g_sc _ (am_cJ _ _ _)); refine g_sc.cJ ?_ rfl) | (refine g_sc.tr ?_ (by with_reducible assumption)) | (refine g_sc.st ?_ (by with_reducible assumption)))), by (repeat' (first | (with_reducible assumption) | ((with_reducible change g_rI (am_wJ _ _ _ _)); refine g_rI.wJ ?_) | ((with_reducible change g_rI (am_cJ _ _ _)); refine g_rI.cJ ?_) | ((with_reducible change g_rI (am_wI _ 5 _ _)); refine g_rI.w5 ?_) | ((with_reducible change g_rI (am_wI _ _ _ _)); refine g_rI.wF ?_ rfl) | (refine g_rI.st ?_ (by with_reducible assumption)) | (refine g_rI.we ?_ (by with_reducible assumption))))⟩
      · cases hI
    · exact h.elim
end
-- part 29.takeover.lean.txt
section
/-! general: a house taken over from another -/
def g_hit (D : List (Nat × Nat × Nat)) (o k : Nat) : Bool := D.any (fun q => Nat.beq o q.1 && Nat.ble q.2.1 k && Nat.blt k (q.2.1 + q.2.2))
def g_cs (b m : Nat) (D : List (Nat × Nat × Nat)) (M M' : am_M) : Prop := ∃ _ : Unit, M'.2 = M.2 ∧ ∀ a k, M'.1 a k = if b ≤ a ∧ g_hit D (a - b) k = true then M.1 (m + (a - b)) k else M.1 a k
def g_small (D : List (Nat × Nat × Nat)) : Bool := D.all (fun q => Nat.blt q.1 40)
theorem g_hit_lt {D : List (Nat × Nat × Nat)} {o k : Nat} (hD : g_small D = true) (h : g_hit D o k = true) : o < 40 := by
  unfold g_hit at h
  obtain ⟨q, hq, h2⟩ := List.any_eq_true.mp h
  rw [Bool.and_eq_true, Bool.and_eq_true] at h2
  have e := Nat.eq_of_beq_eq_true h2.1.1
  have := List.all_eq_true.mp hD q hq
  have := Nat.le_of_ble_eq_true this
  omega
theorem g_cs.tr {b m : Nat} {D D' : List (Nat × Nat × Nat)} {M M1 M2 : am_M} (hbm : b + 40 ≤ m ∨ m + 40 ≤ b) (hD : g_small D = true) (hD' : g_small D' = true) (h : g_cs b m D M M1) (h2 : g_cs b m D' M1 M2) : g_cs b m (D ++ D') M M2 := by
  obtain ⟨-, hj, h⟩ := h
  obtain ⟨-, hj2, h2⟩ := h2
  refine ⟨(), hj2.trans hj, fun a k => ?_⟩
  have ha : g_hit (D ++ D') (a - b) k = (g_hit D (a - b) k || g_hit D' (a - b) k) := List.any_append
  rw [h2 a k, ha]
  by_cases z2 : b ≤ a ∧ g_hit D' (a - b) k = true
  · rw [if_pos z2, if_pos ⟨z2.1, by rw [z2.2, Bool.or_true]⟩]
    have hl := g_hit_lt hD' z2.2
    rw [h _ k, if_neg (fun q => ?_)]
    have hl2 := g_hit_lt hD q.2
    omega
  · rw [if_neg z2, h a k]
    by_cases z1 : b ≤ a ∧ g_hit D (a - b) k = true
    · rw [if_pos z1, if_pos ⟨z1.1, by rw [z1.2, Bool.true_or]⟩]
    · rw [if_neg z1, if_neg (fun q => ?_)]
      rcases Bool.or_eq_true _ _ |>.mp q.2 with y | y
      · exact z1 ⟨q.1, y⟩
      · exact z2 ⟨q.1, y⟩
theorem g_cs_c {b m : Nat} {M : am_M} (o n : Nat) : g_cs b m [(o, 0, n)] M (am_cI M (b + o) (va_cpy (M.1 (m + o)) (M.1 (b + o)) 0 0 n)) := by
  refine ⟨(), rfl, fun a k => ?_⟩
  rw [am_cI_1]
  by_cases e : a = b + o
  · subst e
    rw [if_pos rfl, Nat.add_sub_cancel_left]
    by_cases z : k < n
    · rw [if_pos ⟨by omega, by simp [g_hit, z]⟩]
      simp [va_cpy, z]
    · rw [if_neg (fun q => by have := q.2; simp [g_hit] at this; omega)]
      simp [va_cpy, z]
  · rw [if_neg e, if_neg (fun q => ?_)]
    have := q.2
    simp [g_hit] at this
    omega
theorem g_cs_w {b m : Nat} {M : am_M} (o f : Nat) : g_cs b m [(o, f, 1)] M (am_wI M (b + o) f (M.1 (m + o) f)) := by
  refine ⟨(), rfl, fun a k => ?_⟩
  rw [am_wI_1]
  by_cases e : a = b + o ∧ k = f
  · obtain ⟨rfl, rfl⟩ := e
    rw [if_pos ⟨rfl, rfl⟩, Nat.add_sub_cancel_left, if_pos ⟨by omega, by simp [g_hit]⟩]
  · rw [if_neg e, if_neg (fun q => ?_)]
    have := q.2
    simp [g_hit] at this
    omega
def g_sh2 : List (Nat × Nat × Nat) := [(2, 0, 12), (3, 0, 12), (4, 0, 480), (5, 0, 480), (6, 0, 480), (7, 0, 480), (8, 0, 480), (1, 7, 1)]
def g_sh0 : List (Nat × Nat × Nat) := [(2, 0, 12), (3, 0, 12), (4, 0, 480), (5, 0, 480), (6, 0, 480), (7, 0, 480), (8, 0, 480), (1, 7, 1), (9, 0, 4), (10, 0, 40), (12, 0, 366), (11, 2, 1), (14, 0, 240), (13, 2, 1), (16, 0, 180), (15, 2, 1), (17, 0, 1200), (20, 0, 50), (21, 0, 50), (19, 5, 1), (19, 2, 1), (19, 6, 1), (23, 0, 50), (24, 0, 50), (22, 5, 1), (22, 2, 1), (22, 6, 1), (26, 0, 50), (27, 0, 50), (25, 5, 1), (25, 2, 1), (25, 6, 1), (29, 0, 50), (30, 0, 50), (28, 5, 1), (28, 2, 1), (28, 6, 1), (32, 0, 50), (33, 0, 50), (31, 5, 1), (31, 2, 1), (31, 6, 1), (35, 0, 60), (34, 2, 1), (36, 0, 160), (37, 0, 16), (38, 0, 9), (0, 12, 1)]
def g_pair (n m : Nat) : Prop := (n = 60 ∧ m = 20) ∨ (n = 100 ∧ m = 20) ∨ (n = 20 ∧ m = 60) ∨ (n = 20 ∧ m = 100)
set_option maxRecDepth 100000 in
theorem wd_105 : Cond.fieldLink "LearnLoans$People" 9 "LearnLoans$People" "began" "[I" ∈ am_ws := am_wt1 (List.mem_of_getElem? (i := 48) (by rfl)) (by decide +kernel)
set_option maxRecDepth 100000 in
theorem wd_844 : Cond.methodLink "LearnLoans$People" 39 arraycopyName ∈ am_ws := am_wt4 (List.mem_of_getElem? (i := 67) (by rfl)) (by decide +kernel)
set_option maxRecDepth 100000 in
theorem wd_110 : Cond.fieldLink "LearnLoans$People" 18 "LearnLoans$People" "lands" "[I" ∈ am_ws := am_wt1 (List.mem_of_getElem? (i := 53) (by rfl)) (by decide +kernel)
set_option maxRecDepth 100000 in
theorem wd_122 : Cond.fieldLink "LearnLoans$People" 45 "LearnLoans$People" "size" "I" ∈ am_ws := am_wt1 (List.mem_of_getElem? (i := 65) (by rfl)) (by decide +kernel)
def rwX2_takeOver : List dz_r := [(0, .aload_n 1, 1), (1, .getfield 9, 3), (4, .iconst 0, 1), (5, .aload_n 0, 1), (6, .getfield 9, 3), (9, .iconst 0, 1), (10, .bipush 12, 2), (12, .invokestatic 39, 3), (15, .aload_n 1, 1), (16, .getfield 15, 3), (19, .iconst 0, 1), (20, .aload_n 0, 1), (21, .getfield 15, 3), (24, .iconst 0, 1), (25, .bipush 12, 2), (27, .invokestatic 39, 3), (30, .aload_n 1, 1), (31, .getfield 18, 3), (34, .iconst 0, 1), (35, .aload_n 0, 1), (36, .getfield 18, 3), (39, .iconst 0, 1), (40, .sipush 480, 3), (43, .invokestatic 39, 3), (46, .aload_n 1, 1), (47, .getfield 21, 3), (50, .iconst 0, 1), (51, .aload_n 0, 1), (52, .getfield 21, 3), (55, .iconst 0, 1), (56, .sipush 480, 3), (59, .invokestatic 39, 3), (62, .aload_n 1, 1), (63, .getfield 24, 3), (66, .iconst 0, 1), (67, .aload_n 0, 1), (68, .getfield 24, 3), (71, .iconst 0, 1), (72, .sipush 480, 3), (75, .invokestatic 39, 3), (78, .aload_n 1, 1), (79, .getfield 27, 3), (82, .iconst 0, 1), (83, .aload_n 0, 1), (84, .getfield 27, 3), (87, .iconst 0, 1), (88, .sipush 480, 3), (91, .invokestatic 39, 3), (94, .aload_n 1, 1), (95, .getfield 30, 3), (98, .iconst 0, 1), (99, .aload_n 0, 1), (100, .getfield 30, 3), (103, .iconst 0, 1), (104, .sipush 480, 3), (107, .invokestatic 39, 3), (110, .aload_n 0, 1), (111, .aload_n 1, 1), (112, .getfield 45, 3), (115, .putfield 45, 3), (118, .return_, 1)]
theorem dzX2_takeOver : dz cX2_takeOver rwX2_takeOver := dz_all 0 (by decide +kernel)
def kX2_takeOver (live : am_E) (Ret : am_R) : am_code := [(0, am_aload 1 1), (1, am_getR live 2 0 4), (4, am_const (.int 0) 5), (5, am_aload 0 6), (6, am_getR live 2 0 9), (9, am_const (.int 0) 10), (10, am_const (.int 12) 12), (12, am_copyI live 31 15), (15, am_aload 1 16), (16, am_getR live 2 1 19), (19, am_const (.int 0) 20), (20, am_aload 0 21), (21, am_getR live 2 1 24), (24, am_const (.int 0) 25), (25, am_const (.int 12) 27), (27, am_copyI live 31 30), (30, am_aload 1 31), (31, am_getR live 2 2 34), (34, am_const (.int 0) 35), (35, am_aload 0 36), (36, am_getR live 2 2 39), (39, am_const (.int 0) 40), (40, am_const (.int 480) 43), (43, am_copyI live 31 46), (46, am_aload 1 47), (47, am_getR live 2 3 50), (50, am_const (.int 0) 51), (51, am_aload 0 52), (52, am_getR live 2 3 55), (55, am_const (.int 0) 56), (56, am_const (.int 480) 59), (59, am_copyI live 31 62), (62, am_aload 1 63), (63, am_getR live 2 4 66), (66, am_const (.int 0) 67), (67, am_aload 0 68), (68, am_getR live 2 4 71), (71, am_const (.int 0) 72), (72, am_const (.int 480) 75), (75, am_copyI live 31 78), (78, am_aload 1 79), (79, am_getR live 2 5 82), (82, am_const (.int 0) 83), (83, am_aload 0 84), (84, am_getR live 2 5 87), (87, am_const (.int 0) 88), (88, am_const (.int 480) 91), (91, am_copyI live 31 94), (94, am_aload 1 95), (95, am_getR live 2 6 98), (98, am_const (.int 0) 99), (99, am_aload 0 100), (100, am_getR live 2 6 103), (103, am_const (.int 0) 104), (104, am_const (.int 480) 107), (107, am_copyI live 31 110), (110, am_aload 0 111), (111, am_aload 1 112), (112, am_getI live 2 7 115), (115, am_putI live 2 7 118), (118, am_retV Ret)]
theorem koX2_takeOver (live : am_E) (Ret : am_R) : ∀ q ∈ kX2_takeOver live Ret, am_ok RX2 cX2_takeOver 2 none 1 31 live Ret q.1 q.2 :=
  am_kz dzX2_takeOver <|
  am_kd (fun d => ak_aload_n d rfl rfl) <|
  am_kd (fun d => ak_getR (C := RX2) (T := TX2) (N := 8) rfl inX2w (by decide) rfl rfl rfl wd_105 d rfl) <|
  am_kd (fun d => ak_iconst d (by decide +kernel) rfl) <|
  am_kd (fun d => ak_aload_n d rfl rfl) <|
  am_kd (fun d => ak_getR (C := RX2) (T := TX2) (N := 8) rfl inX2w (by decide) rfl rfl rfl wd_105 d rfl) <|
  am_kd (fun d => ak_iconst d (by decide +kernel) rfl) <|
  am_kd (fun d => ak_bipush d (by decide +kernel) rfl) <|
  am_kd (fun d => ak_copyI (am_w4 wd_844 wd_501 wd_500 wd_69) (by decide) d rfl) <|
  am_kd (fun d => ak_aload_n d rfl rfl) <|
  am_kd (fun d => ak_getR (C := RX2) (T := TX2) (N := 8) rfl inX2w (by decide) rfl rfl rfl wd_108 d rfl) <|
  am_kd (fun d => ak_iconst d (by decide +kernel) rfl) <|
  am_kd (fun d => ak_aload_n d rfl rfl) <|
  am_kd (fun d => ak_getR (C := RX2) (T := TX2) (N := 8) rfl inX2w (by decide) rfl rfl rfl wd_108 d rfl) <|
  am_kd (fun d => ak_iconst d (by decide +kernel) rfl) <|
  am_kd (fun d => ak_bipush d (by decide +kernel) rfl) <|
  am_kd (fun d => ak_copyI (am_w4 wd_844 wd_501 wd_500 wd_69) (by decide) d rfl) <|
  am_kd (fun d => ak_aload_n d rfl rfl) <|
  am_kd (fun d => ak_getR (C := RX2) (T := TX2) (N := 8) rfl inX2w (by decide) rfl rfl rfl wd_110 d rfl) <|
  am_kd (fun d => ak_iconst d (by decide +kernel) rfl) <|
  am_kd (fun d => ak_aload_n d rfl rfl) <|
  am_kd (fun d => ak_getR (C := RX2) (T := TX2) (N := 8) rfl inX2w (by decide) rfl rfl rfl wd_110 d rfl) <|
  am_kd (fun d => ak_iconst d (by decide +kernel) rfl) <|
  am_kd (fun d => ak_sipush d (by decide +kernel) rfl) <|
  am_kd (fun d => ak_copyI (am_w4 wd_844 wd_501 wd_500 wd_69) (by decide) d rfl) <|
  am_kd (fun d => ak_aload_n d rfl rfl) <|
  am_kd (fun d => ak_getR (C := RX2) (T := TX2) (N := 8) rfl inX2w (by decide) rfl rfl rfl wd_113 d rfl) <|
  am_kd (fun d => ak_iconst d (by decide +kernel) rfl) <|
  am_kd (fun d => ak_aload_n d rfl rfl) <|
  am_kd (fun d => ak_getR (C := RX2) (T := TX2) (N := 8) rfl inX2w (by decide) rfl rfl rfl wd_113 d rfl) <|
  am_kd (fun d => ak_iconst d (by decide +kernel) rfl) <|
  am_kd (fun d => ak_sipush d (by decide +kernel) rfl) <|
  am_kd (fun d => ak_copyI (am_w4 wd_844 wd_501 wd_500 wd_69) (by decide) d rfl) <|
  am_kd (fun d => ak_aload_n d rfl rfl) <|
  am_kd (fun d => ak_getR (C := RX2) (T := TX2) (N := 8) rfl inX2w (by decide) rfl rfl rfl wd_115 d rfl) <|
  am_kd (fun d => ak_iconst d (by decide +kernel) rfl) <|
  am_kd (fun d => ak_aload_n d rfl rfl) <|
  am_kd (fun d => ak_getR (C := RX2) (T := TX2) (N := 8) rfl inX2w (by decide) rfl rfl rfl wd_115 d rfl) <|
  am_kd (fun d => ak_iconst d (by decide +kernel) rfl) <|
  am_kd (fun d => ak_sipush d (by decide +kernel) rfl) <|
  am_kd (fun d => ak_copyI (am_w4 wd_844 wd_501 wd_500 wd_69) (by decide) d rfl) <|
  am_kd (fun d => ak_aload_n d rfl rfl) <|
  am_kd (fun d => ak_getR (C := RX2) (T := TX2) (N := 8) rfl inX2w (by decide) rfl rfl rfl wd_117 d rfl) <|
  am_kd (fun d => ak_iconst d (by decide +kernel) rfl) <|
  am_kd (fun d => ak_aload_n d rfl rfl) <|
  am_kd (fun d => ak_getR (C := RX2) (T := TX2) (N := 8) rfl inX2w (by decide) rfl rfl rfl wd_117 d rfl) <|
  am_kd (fun d => ak_iconst d (by decide +kernel) rfl) <|
  am_kd (fun d => ak_sipush d (by decide +kernel) rfl) <|
  am_kd (fun d => ak_copyI (am_w4 wd_844 wd_501 wd_500 wd_69) (by decide) d rfl) <|
  am_kd (fun d => ak_aload_n d rfl rfl) <|
  am_kd (fun d => ak_getR (C := RX2) (T := TX2) (N := 8) rfl inX2w (by decide) rfl rfl rfl wd_119 d rfl) <|
  am_kd (fun d => ak_iconst d (by decide +kernel) rfl) <|
  am_kd (fun d => ak_aload_n d rfl rfl) <|
  am_kd (fun d => ak_getR (C := RX2) (T := TX2) (N := 8) rfl inX2w (by decide) rfl rfl rfl wd_119 d rfl) <|
  am_kd (fun d => ak_iconst d (by decide +kernel) rfl) <|
  am_kd (fun d => ak_sipush d (by decide +kernel) rfl) <|
  am_kd (fun d => ak_copyI (am_w4 wd_844 wd_501 wd_500 wd_69) (by decide) d rfl) <|
  am_kd (fun d => ak_aload_n d rfl rfl) <|
  am_kd (fun d => ak_aload_n d rfl rfl) <|
  am_kd (fun d => ak_getI (C := RX2) (T := TX2) (N := 8) rfl inX2w (by decide) rfl rfl rfl wd_122 d rfl) <|
  am_kd (fun d => ak_putI (C := RX2) (T := TX2) (N := 8) rfl inX2w tyX2_ok nmX2 (by decide) rfl rfl rfl rfl (by decide +kernel) wd_122 d rfl) <|
  am_kd (fun d => ak_retV d) <| am_kdn
def TX2_takeOver : am_T := fun live as M R => match as with
  | [.ref n, .ref m] => am_mn live ∧ live.1 n = true ∧ live.1 m = true ∧ g_pair (n - 1) (m - 1) ∧ ∀ M', g_cs (n - 1) (m - 1) g_sh2 M M' → R none M'
  | _ => False
theorem g_pred {n k : Nat} (h : n - 1 = k + 1) : n = k + 2 := by omega
/-- a weaker start -/
theorem am_Met.mono {y : MethodName} {cc : ByteArray} {nL : Nat} {rt : Option FieldType} {rf rl : Nat} {T T' : am_T} (h : am_Met y cc nL rt rf rl T) (hT : ∀ live as M R, T' live as M R → T live as M R) : am_Met y cc nL rt rf rl T' := fun l D cA al B live as M Ret q => h l D cA al B live as M Ret (hT live as M Ret q)
set_option maxRecDepth 100000 in
set_option maxHeartbeats 4000000 in
theorem metX2_takeOver : am_Met yX2_takeOver cX2_takeOver 2 none (1) (31) TX2_takeOver := by
  refine am_met (own := RX2) (by decide +kernel) rfl kX2_takeOver koX2_takeOver 200 (fun _ _ _ _ _ => none) (fun live as M Ret h => ?_) (fun _ _ _ _ _ _ _ _ hI => by cases hI)
  unfold TX2_takeOver at h
  split at h
  · next n m =>
    refine ⟨Nat.le_of_ble_eq_true rfl, ?_⟩
    change am_wp _ _ _ _ [(0, Value.ref n), (1, Value.ref m)] _ _
    obtain ⟨⟨i1, i2, rfl⟩, hl, hm, hn, h⟩ := h
    have hn2 : (n = 61 ∧ m = 21) ∨ (n = 101 ∧ m = 21) ∨ (n = 21 ∧ m = 61) ∨ (n = 21 ∧ m = 101) := by
      unfold g_pair at hn
      rcases hn with ⟨a1, a2⟩ | ⟨a1, a2⟩ | ⟨a1, a2⟩ | ⟨a1, a2⟩
      · exact Or.inl ⟨g_pred a1, g_pred a2⟩
      · exact Or.inr (Or.inl ⟨g_pred a1, g_pred a2⟩)
      · exact Or.inr (Or.inr (Or.inl ⟨g_pred a1, g_pred a2⟩))
      · exact Or.inr (Or.inr (Or.inr ⟨g_pred a1, g_pred a2⟩))
    rcases hn2 with ⟨rfl, rfl⟩ | ⟨rfl, rfl⟩ | ⟨rfl, rfl⟩ | ⟨rfl, rfl⟩
    · have e1 : i1 = true := by
        cases i1 with
        | true => rfl
        | false => cases hl
      subst e1
      have hbm : 60 + 40 ≤ 20 ∨ 20 + 40 ≤ 60 := by decide
      repeat' (first | apply And.intro | exact rfl | (intro hx; exact absurd hx (by decide)) | (intro hx; exact absurd (by decide) hx) | decide | intro hx | (refine Exists.intro _ (And.intro rfl ?_)))
      all_goals try first | (with_reducible change am_tI _ _) | (change Ret _ _) | (change Ret _ _ _) | (change Exists _)
      all_goals try dsimp only at *
      all_goals try (with_reducible exact absurd ‹(1000 : Int64) = 0› am_z1000)
      all_goals exact h _ (show g_cs 60 20 _ M _ from (g_cs.tr hbm rfl rfl (g_cs.tr hbm rfl rfl (g_cs.tr hbm rfl rfl (g_cs.tr hbm rfl rfl (g_cs.tr hbm rfl rfl (g_cs.tr hbm rfl rfl (g_cs.tr hbm rfl rfl (g_cs_c 2 12) (g_cs_c 3 12)) (g_cs_c 4 480)) (g_cs_c 5 480)) (g_cs_c 6 480)) (g_cs_c 7 480)) (g_cs_c 8 480)) (g_cs_w 1 7)))
    · have e1 : i2 = true := by
        cases i2 with
        | true => rfl
        | false => cases hl
      subst e1
      have hbm : 100 + 40 ≤ 20 ∨ 20 + 40 ≤ 100 := by decide
      repeat' (first | apply And.intro | exact rfl | (intro hx; exact absurd hx (by decide)) | (intro hx; exact absurd (by decide) hx) | decide | intro hx | (refine Exists.intro _ (And.intro rfl ?_)))
      all_goals try first | (with_reducible change am_tI _ _) | (change Ret _ _) | (change Ret _ _ _) | (change Exists _)
      all_goals try dsimp only at *
      all_goals try (with_reducible exact absurd ‹(1000 : Int64) = 0› am_z1000)
      all_goals exact h _ (show g_cs 100 20 _ M _ from (g_cs.tr hbm rfl rfl (g_cs.tr hbm rfl rfl (g_cs.tr hbm rfl rfl (g_cs.tr hbm rfl rfl (g_cs.tr hbm rfl rfl (g_cs.tr hbm rfl rfl (g_cs.tr hbm rfl rfl (g_cs_c 2 12) (g_cs_c 3 12)) (g_cs_c 4 480)) (g_cs_c 5 480)) (g_cs_c 6 480)) (g_cs_c 7 480)) (g_cs_c 8 480)) (g_cs_w 1 7)))
    · have e1 : i1 = true := by
        cases i1 with
        | true => rfl
        | false => cases hm
      subst e1
      have hbm : 20 + 40 ≤ 60 ∨ 60 + 40 ≤ 20 := by decide
      repeat' (first | apply And.intro | exact rfl | (intro hx; exact absurd hx (by decide)) | (intro hx; exact absurd (by decide) hx) | decide | intro hx | (refine Exists.intro _ (And.intro rfl ?_)))
      all_goals try first | (with_reducible change am_tI _ _) | (change Ret _ _) | (change Ret _ _ _) | (change Exists _)
      all_goals try dsimp only at *
      all_goals try (with_reducible exact absurd ‹(1000 : Int64) = 0› am_z1000)
      all_goals exact h _ (show g_cs 20 60 _ M _ from (g_cs.tr hbm rfl rfl (g_cs.tr hbm rfl rfl (g_cs.tr hbm rfl rfl (g_cs.tr hbm rfl rfl (g_cs.tr hbm rfl rfl (g_cs.tr hbm rfl rfl (g_cs.tr hbm rfl rfl (g_cs_c 2 12) (g_cs_c 3 12)) (g_cs_c 4 480)) (g_cs_c 5 480)) (g_cs_c 6 480)) (g_cs_c 7 480)) (g_cs_c 8 480)) (g_cs_w 1 7)))
    · have e1 : i2 = true := by
        cases i2 with
        | true => rfl
        | false => cases hm
      subst e1
      have hbm : 20 + 40 ≤ 100 ∨ 100 + 40 ≤ 20 := by decide
      repeat' (first | apply And.intro | exact rfl | (intro hx; exact absurd hx (by decide)) | (intro hx; exact absurd (by decide) hx) | decide | intro hx | (refine Exists.intro _ (And.intro rfl ?_)))
      all_goals try first | (with_reducible change am_tI _ _) | (change Ret _ _) | (change Ret _ _ _) | (change Exists _)
      all_goals try dsimp only at *
      all_goals try (with_reducible exact absurd ‹(1000 : Int64) = 0› am_z1000)
      all_goals exact h _ (show g_cs 20 100 _ M _ from (g_cs.tr hbm rfl rfl (g_cs.tr hbm rfl rfl (g_cs.tr hbm rfl rfl (g_cs.tr hbm rfl rfl (g_cs.tr hbm rfl rfl (g_cs.tr hbm rfl rfl (g_cs.tr hbm rfl rfl (g_cs_c 2 12) (g_cs_c 3 12)) (g_cs_c 4 480)) (g_cs_c 5 480)) (g_cs_c 6 480)) (g_cs_c 7 480)) (g_cs_c 8 480)) (g_cs_w 1 7)))
  · exact h.elim
set_option maxRecDepth 100000 in
theorem wd_858 : Cond.methodLink "LearnLoans$Text" 46 arraycopyName ∈ am_ws := am_wt4 (List.mem_of_getElem? (i := 81) (by rfl)) (by decide +kernel)
def rwX5_takeOver : List dz_r := [(0, .aload_n 1, 1), (1, .getfield 9, 3), (4, .iconst 0, 1), (5, .aload_n 0, 1), (6, .getfield 9, 3), (9, .iconst 0, 1), (10, .bipush 50, 2), (12, .invokestatic 46, 3), (15, .aload_n 1, 1), (16, .getfield 15, 3), (19, .iconst 0, 1), (20, .aload_n 0, 1), (21, .getfield 15, 3), (24, .iconst 0, 1), (25, .bipush 50, 2), (27, .invokestatic 46, 3), (30, .aload_n 0, 1), (31, .aload_n 1, 1), (32, .getfield 22, 3), (35, .putfield 22, 3), (38, .aload_n 0, 1), (39, .aload_n 1, 1), (40, .getfield 25, 3), (43, .putfield 25, 3), (46, .aload_n 0, 1), (47, .aload_n 1, 1), (48, .getfield 18, 3), (51, .putfield 18, 3), (54, .return_, 1)]
theorem dzX5_takeOver : dz cX5_takeOver rwX5_takeOver := dz_all 0 (by decide +kernel)
def kX5_takeOver (live : am_E) (Ret : am_R) : am_code := [(0, am_aload 1 1), (1, am_getR live 5 0 4), (4, am_const (.int 0) 5), (5, am_aload 0 6), (6, am_getR live 5 0 9), (9, am_const (.int 0) 10), (10, am_const (.int 50) 12), (12, am_copyI live 31 15), (15, am_aload 1 16), (16, am_getR live 5 1 19), (19, am_const (.int 0) 20), (20, am_aload 0 21), (21, am_getR live 5 1 24), (24, am_const (.int 0) 25), (25, am_const (.int 50) 27), (27, am_copyI live 31 30), (30, am_aload 0 31), (31, am_aload 1 32), (32, am_getI live 5 5 35), (35, am_putI live 5 5 38), (38, am_aload 0 39), (39, am_aload 1 40), (40, am_getI live 5 2 43), (43, am_putI live 5 2 46), (46, am_aload 0 47), (47, am_aload 1 48), (48, am_getI live 5 6 51), (51, am_putI live 5 6 54), (54, am_retV Ret)]
theorem koX5_takeOver (live : am_E) (Ret : am_R) : ∀ q ∈ kX5_takeOver live Ret, am_ok RX5 cX5_takeOver 2 none 1 31 live Ret q.1 q.2 :=
  am_kz dzX5_takeOver <|
  am_kd (fun d => ak_aload_n d rfl rfl) <|
  am_kd (fun d => ak_getR (C := RX5) (T := TX5) (N := 7) rfl inX5w (by decide) rfl rfl rfl wd_168 d rfl) <|
  am_kd (fun d => ak_iconst d (by decide +kernel) rfl) <|
  am_kd (fun d => ak_aload_n d rfl rfl) <|
  am_kd (fun d => ak_getR (C := RX5) (T := TX5) (N := 7) rfl inX5w (by decide) rfl rfl rfl wd_168 d rfl) <|
  am_kd (fun d => ak_iconst d (by decide +kernel) rfl) <|
  am_kd (fun d => ak_bipush d (by decide +kernel) rfl) <|
  am_kd (fun d => ak_copyI (am_w4 wd_858 wd_501 wd_500 wd_69) (by decide) d rfl) <|
  am_kd (fun d => ak_aload_n d rfl rfl) <|
  am_kd (fun d => ak_getR (C := RX5) (T := TX5) (N := 7) rfl inX5w (by decide) rfl rfl rfl wd_169 d rfl) <|
  am_kd (fun d => ak_iconst d (by decide +kernel) rfl) <|
  am_kd (fun d => ak_aload_n d rfl rfl) <|
  am_kd (fun d => ak_getR (C := RX5) (T := TX5) (N := 7) rfl inX5w (by decide) rfl rfl rfl wd_169 d rfl) <|
  am_kd (fun d => ak_iconst d (by decide +kernel) rfl) <|
  am_kd (fun d => ak_bipush d (by decide +kernel) rfl) <|
  am_kd (fun d => ak_copyI (am_w4 wd_858 wd_501 wd_500 wd_69) (by decide) d rfl) <|
  am_kd (fun d => ak_aload_n d rfl rfl) <|
  am_kd (fun d => ak_aload_n d rfl rfl) <|
  am_kd (fun d => ak_getI (C := RX5) (T := TX5) (N := 7) rfl inX5w (by decide) rfl rfl rfl wd_173 d rfl) <|
  am_kd (fun d => ak_putI (C := RX5) (T := TX5) (N := 7) rfl inX5w tyX5_ok nmX5 (by decide) rfl rfl rfl rfl (by decide +kernel) wd_173 d rfl) <|
  am_kd (fun d => ak_aload_n d rfl rfl) <|
  am_kd (fun d => ak_aload_n d rfl rfl) <|
  am_kd (fun d => ak_getI (C := RX5) (T := TX5) (N := 7) rfl inX5w (by decide) rfl rfl rfl wd_170 d rfl) <|
  am_kd (fun d => ak_putI (C := RX5) (T := TX5) (N := 7) rfl inX5w tyX5_ok nmX5 (by decide) rfl rfl rfl rfl (by decide +kernel) wd_170 d rfl) <|
  am_kd (fun d => ak_aload_n d rfl rfl) <|
  am_kd (fun d => ak_aload_n d rfl rfl) <|
  am_kd (fun d => ak_getI (C := RX5) (T := TX5) (N := 7) rfl inX5w (by decide) rfl rfl rfl wd_175 d rfl) <|
  am_kd (fun d => ak_putI (C := RX5) (T := TX5) (N := 7) rfl inX5w tyX5_ok nmX5 (by decide) rfl rfl rfl rfl (by decide +kernel) wd_175 d rfl) <|
  am_kd (fun d => ak_retV d) <| am_kdn
def g_txcp (M : am_M) (t s c u s' c' : Nat) : am_M := (fun M1 : am_M => (fun M2 : am_M => (fun M3 : am_M => (fun M4 : am_M => am_wI M4 t 6 (M4.1 u 6)) (am_wI M3 t 2 (M3.1 u 2))) (am_wI M2 t 5 (M2.1 u 5))) (am_cI M1 c (va_cpy (M1.1 c') (M1.1 c) 0 0 50))) (am_cI M s (va_cpy (M.1 s') (M.1 s) 0 0 50))
def TX5_takeOver : am_T := fun live as M R => match as with
  | [.ref t, .ref u] => am_tP live t (fun s c => am_tP live u (fun s' c' => R none (g_txcp M t s c u s' c')))
  | _ => False
set_option maxRecDepth 100000 in
set_option maxHeartbeats 4000000 in
theorem metX5_takeOver : am_Met yX5_takeOver cX5_takeOver 2 none (1) (31) TX5_takeOver := by
  refine am_met (own := RX5) (by decide +kernel) rfl kX5_takeOver koX5_takeOver 120 (fun _ _ _ _ _ => none) (fun live as M Ret h => ?_) (fun _ _ _ _ _ _ _ _ hI => by cases hI)
  unfold TX5_takeOver at h
  split at h
  · next t u =>
    refine ⟨Nat.le_of_ble_eq_true rfl, ?_⟩
    change am_wp _ _ _ _ [(0, Value.ref t), (1, Value.ref u)] _ _
    have hh := am_tP_mp h
    clear h
    obtain ⟨s, c, h2, h6, hb, h1, g1, g2, l1, l2, n1, n2, n3, h⟩ := hh
    have hh := am_tP_mp h
    clear h
    obtain ⟨s', c', h3, h7, hb', u1, u2, u3, l1', l2', n1', n2', n3', h⟩ := hh
    repeat' (first | (with_reducible exact h1) | (with_reducible exact h2) | (with_reducible exact h6) | (with_reducible exact g1) | (with_reducible exact g2) | (with_reducible exact u1) | (with_reducible exact h3) | (with_reducible exact h7) | (with_reducible exact u2) | (with_reducible exact u3) | (refine Exists.intro _ (Exists.intro _ (And.intro h2 (And.intro h6 ?_)))) | (refine Exists.intro _ (And.intro h2 ?_)) | (refine Exists.intro _ (And.intro h6 ?_)) | apply And.intro | exact rfl | (intro hx; exact absurd hx (by decide)) | (intro hx; exact absurd (by decide) hx) | decide | intro hx | (refine Exists.intro _ (And.intro rfl ?_)) | (refine Exists.intro _ (And.intro h3 ?_)) | (refine Exists.intro _ (And.intro h7 ?_)) | ((with_reducible change _ = true); simp only [h1, h2, h6, g1, g2, u1, h3, h7, u2, u3, Bool.true_and]; rfl))
    all_goals try first | (with_reducible change am_tI _ _) | (change Ret _ _) | (change Ret _ _ _) | (change Exists _)
    all_goals try dsimp only at *
    all_goals try (with_reducible exact absurd ‹(1000 : Int64) = 0› am_z1000)
    all_goals first
      | (with_reducible exact h)
      | (clear h; decide)
      | (clear h; simp only [l1, l2, l1', l2']; decide)
      | exact h
  · exact h.elim
theorem g_cs_row {b m : Nat} {M : am_M} (hbm : b + 40 ≤ m ∨ m + 40 ≤ b) (o n : Nat) (ho : o < 38) : g_cs b m [(o + 1, 0, n), (o, 2, 1)] M (am_wI (am_cI M (b + (o + 1)) (va_cpy (M.1 (m + (o + 1))) (M.1 (b + (o + 1))) 0 0 n)) (b + o) 2 (M.1 (m + o) 2)) := by
  have h1 : g_cs b m [(o + 1, 0, n)] M _ := g_cs_c (o + 1) n
  have h2 : g_cs b m [(o, 2, 1)] (am_cI M (b + (o + 1)) (va_cpy (M.1 (m + (o + 1))) (M.1 (b + (o + 1))) 0 0 n)) _ := g_cs_w o 2
  have e : (am_cI M (b + (o + 1)) (va_cpy (M.1 (m + (o + 1))) (M.1 (b + (o + 1))) 0 0 n)).1 (m + o) 2 = M.1 (m + o) 2 := by rw [am_cI_1, if_neg (by omega)]
  rw [e] at h2
  exact g_cs.tr hbm (by simp [g_small]; omega) (by simp [g_small]; omega) h1 h2
theorem g_cs_tx {b m : Nat} {M : am_M} (hbm : b + 40 ≤ m ∨ m + 40 ≤ b) (o : Nat) (ho : o < 37) : g_cs b m [(o + 1, 0, 50), (o + 2, 0, 50), (o, 5, 1), (o, 2, 1), (o, 6, 1)] M (g_txcp M (b + o) (b + (o + 1)) (b + (o + 2)) (m + o) (m + (o + 1)) (m + (o + 2))) := by
  unfold g_txcp
  have z : ∀ x y, x < 40 → g_small [(x, y)] = true := fun x y h => by simp [g_small]; omega
  exact g_cs.tr (D := [(o + 1, 0, 50), (o + 2, 0, 50), (o, 5, 1), (o, 2, 1)]) (D' := [(o, 6, 1)]) hbm (by simp [g_small]; omega) (by simp [g_small]; omega) (g_cs.tr (D := [(o + 1, 0, 50), (o + 2, 0, 50), (o, 5, 1)]) (D' := [(o, 2, 1)]) hbm (by simp [g_small]; omega) (by simp [g_small]; omega) (g_cs.tr (D := [(o + 1, 0, 50), (o + 2, 0, 50)]) (D' := [(o, 5, 1)]) hbm (by simp [g_small]; omega) (by simp [g_small]; omega) (g_cs.tr (D := [(o + 1, 0, 50)]) (D' := [(o + 2, 0, 50)]) hbm (by simp [g_small]; omega) (by simp [g_small]; omega) (g_cs_c (o + 1) 50) (g_cs_c (o + 2) 50)) (g_cs_w o 5)) (g_cs_w o 2)) (g_cs_w o 6)
/-- the same, as a house calls them -/
def TX3_takeOverG : am_T := fun live as M R => match as with
  | [.ref r, .ref r2] => ∃ b m o n, r = b + o ∧ r2 = m + o ∧ (b + 40 ≤ m ∨ m + 40 ≤ b) ∧ o < 38 ∧ live.2 r 0 = some (b + (o + 1)) ∧ live.2 r2 0 = some (m + (o + 1)) ∧ am_rc live r (b + (o + 1)) = true ∧ am_rc live r2 (m + (o + 1)) = true ∧ am_len (b + (o + 1)) = n ∧ am_len (m + (o + 1)) = n ∧ ∀ M', g_cs b m [(o + 1, 0, n), (o, 2, 1)] M M' → R none M'
  | _ => False
theorem metX3_takeOverG : am_Met yX3_takeOver cX3_takeOver 2 none 1 31 TX3_takeOverG := by
  refine metX3_takeOver.mono (fun live as M R h => ?_)
  unfold TX3_takeOverG at h
  split at h
  · next r r2 =>
    obtain ⟨b, m, o, n, rfl, rfl, hbm, ho, h1, h2, h3, h4, h5, h6, h⟩ := h
    refine ⟨_, h1, _, h2, ?_, ?_⟩
    · rw [h3, h4, h5, h6]; simp
    · rw [h5]
      exact h _ (g_cs_row hbm o n ho)
  · exact h.elim
def TX5_takeOverG : am_T := fun live as M R => match as with
  | [.ref t, .ref u] => ∃ b m o, t = b + o ∧ u = m + o ∧ (b + 40 ≤ m ∨ m + 40 ≤ b) ∧ o < 37 ∧ live.2 t 0 = some (b + (o + 1)) ∧ live.2 t 1 = some (b + (o + 2)) ∧ live.2 u 0 = some (m + (o + 1)) ∧ live.2 u 1 = some (m + (o + 2)) ∧ am_tc live t (b + (o + 1)) (b + (o + 2)) = true ∧ am_tc live u (m + (o + 1)) (m + (o + 2)) = true ∧ ∀ M', g_cs b m [(o + 1, 0, 50), (o + 2, 0, 50), (o, 5, 1), (o, 2, 1), (o, 6, 1)] M M' → R none M'
  | _ => False
theorem metX5_takeOverG : am_Met yX5_takeOver cX5_takeOver 2 none 1 31 TX5_takeOverG := by
  refine metX5_takeOver.mono (fun live as M R h => ?_)
  unfold TX5_takeOverG at h
  split at h
  · next t u =>
    obtain ⟨b, m, o, rfl, rfl, hbm, ho, h1, h2, h3, h4, h5, h6, h⟩ := h
    exact am_tP_in h1 h2 h5 (am_tP_in h3 h4 h6 (h _ (g_cs_tx hbm o ho)))
  · exact h.elim
set_option maxRecDepth 100000 in
theorem wd_193 : Cond.fieldLink "LearnLoans$House" 12 "LearnLoans$House" "people" "LLearnLoans$People;" ∈ am_ws := am_wt1 (List.mem_of_getElem? (i := 136) (by rfl)) (by decide +kernel)
theorem hy_X2_takeOver : yX2_takeOver.cls ≠ "java/lang/invoke/MethodHandle" ∧ yX2_takeOver.cls ≠ "java/lang/invoke/VarHandle" ∧ (parseMethodDescriptor yX2_takeOver.desc).map (fun d => d.parameters.length) = some 1 := ⟨by decide +kernel, by decide +kernel, by decide +kernel⟩
set_option maxRecDepth 100000 in
theorem wd_840 : Cond.methodLink "LearnLoans$House" 89 yX2_takeOver ∈ am_ws := am_wt4 (List.mem_of_getElem? (i := 63) (by rfl)) (by decide +kernel)
set_option maxRecDepth 100000 in
theorem wd_841 : Cond.instanceMethod yX2_takeOver ∈ am_ws := am_wt4 (List.mem_of_getElem? (i := 64) (by rfl)) (by decide +kernel)
set_option maxRecDepth 100000 in
theorem wd_842 : Cond.selects "LearnLoans$People" yX2_takeOver yX2_takeOver ∈ am_ws := am_wt4 (List.mem_of_getElem? (i := 65) (by rfl)) (by decide +kernel)
set_option maxRecDepth 100000 in
theorem wd_843 : Cond.code yX2_takeOver cX2_takeOver 2 none ∈ am_ws := am_wt4 (List.mem_of_getElem? (i := 66) (by rfl)) (by decide +kernel)
set_option maxRecDepth 100000 in
theorem wd_196 : Cond.fieldLink "LearnLoans$House" 18 "LearnLoans$House" "scales" "[I" ∈ am_ws := am_wt1 (List.mem_of_getElem? (i := 139) (by rfl)) (by decide +kernel)
set_option maxRecDepth 100000 in
theorem wd_845 : Cond.methodLink "LearnLoans$House" 93 arraycopyName ∈ am_ws := am_wt4 (List.mem_of_getElem? (i := 68) (by rfl)) (by decide +kernel)
set_option maxRecDepth 100000 in
theorem wd_199 : Cond.fieldLink "LearnLoans$House" 22 "LearnLoans$House" "prices" "[I" ∈ am_ws := am_wt1 (List.mem_of_getElem? (i := 142) (by rfl)) (by decide +kernel)
theorem hy_X3_takeOver : yX3_takeOver.cls ≠ "java/lang/invoke/MethodHandle" ∧ yX3_takeOver.cls ≠ "java/lang/invoke/VarHandle" ∧ (parseMethodDescriptor yX3_takeOver.desc).map (fun d => d.parameters.length) = some 1 := ⟨by decide +kernel, by decide +kernel, by decide +kernel⟩
set_option maxRecDepth 100000 in
theorem wd_846 : Cond.methodLink "LearnLoans$House" 99 yX3_takeOver ∈ am_ws := am_wt4 (List.mem_of_getElem? (i := 69) (by rfl)) (by decide +kernel)
set_option maxRecDepth 100000 in
theorem wd_847 : Cond.instanceMethod yX3_takeOver ∈ am_ws := am_wt4 (List.mem_of_getElem? (i := 70) (by rfl)) (by decide +kernel)
set_option maxRecDepth 100000 in
theorem wd_848 : Cond.selects "LearnLoans$Rows" yX3_takeOver yX3_takeOver ∈ am_ws := am_wt4 (List.mem_of_getElem? (i := 71) (by rfl)) (by decide +kernel)
set_option maxRecDepth 100000 in
theorem wd_849 : Cond.code yX3_takeOver cX3_takeOver 2 none ∈ am_ws := am_wt4 (List.mem_of_getElem? (i := 72) (by rfl)) (by decide +kernel)
set_option maxRecDepth 100000 in
theorem wd_208 : Cond.fieldLink "LearnLoans$House" 37 "LearnLoans$House" "moves" "LLearnLoans$Rows;" ∈ am_ws := am_wt1 (List.mem_of_getElem? (i := 151) (by rfl)) (by decide +kernel)
set_option maxRecDepth 100000 in
theorem wd_210 : Cond.fieldLink "LearnLoans$House" 40 "LearnLoans$House" "planAt" "[I" ∈ am_ws := am_wt1 (List.mem_of_getElem? (i := 153) (by rfl)) (by decide +kernel)
set_option maxRecDepth 100000 in
theorem wd_213 : Cond.fieldLink "LearnLoans$House" 45 "LearnLoans$House" "texts" "[LLearnLoans$Text;" ∈ am_ws := am_wt1 (List.mem_of_getElem? (i := 156) (by rfl)) (by decide +kernel)
theorem hy_X5_takeOver : yX5_takeOver.cls ≠ "java/lang/invoke/MethodHandle" ∧ yX5_takeOver.cls ≠ "java/lang/invoke/VarHandle" ∧ (parseMethodDescriptor yX5_takeOver.desc).map (fun d => d.parameters.length) = some 1 := ⟨by decide +kernel, by decide +kernel, by decide +kernel⟩
set_option maxRecDepth 100000 in
theorem wd_854 : Cond.methodLink "LearnLoans$House" 102 yX5_takeOver ∈ am_ws := am_wt4 (List.mem_of_getElem? (i := 77) (by rfl)) (by decide +kernel)
set_option maxRecDepth 100000 in
theorem wd_855 : Cond.instanceMethod yX5_takeOver ∈ am_ws := am_wt4 (List.mem_of_getElem? (i := 78) (by rfl)) (by decide +kernel)
set_option maxRecDepth 100000 in
theorem wd_856 : Cond.selects "LearnLoans$Text" yX5_takeOver yX5_takeOver ∈ am_ws := am_wt4 (List.mem_of_getElem? (i := 79) (by rfl)) (by decide +kernel)
set_option maxRecDepth 100000 in
theorem wd_857 : Cond.code yX5_takeOver cX5_takeOver 2 none ∈ am_ws := am_wt4 (List.mem_of_getElem? (i := 80) (by rfl)) (by decide +kernel)
set_option maxRecDepth 100000 in
theorem wd_218 : Cond.fieldLink "LearnLoans$House" 52 "LearnLoans$House" "lives" "[I" ∈ am_ws := am_wt1 (List.mem_of_getElem? (i := 161) (by rfl)) (by decide +kernel)
set_option maxRecDepth 100000 in
theorem wd_221 : Cond.fieldLink "LearnLoans$House" 55 "LearnLoans$House" "chances" "[I" ∈ am_ws := am_wt1 (List.mem_of_getElem? (i := 164) (by rfl)) (by decide +kernel)
set_option maxRecDepth 100000 in
theorem wd_224 : Cond.fieldLink "LearnLoans$House" 58 "LearnLoans$House" "told" "[I" ∈ am_ws := am_wt1 (List.mem_of_getElem? (i := 167) (by rfl)) (by decide +kernel)
set_option maxRecDepth 100000 in
theorem wd_226 : Cond.fieldLink "LearnLoans$House" 105 "LearnLoans$House" "toldSize" "I" ∈ am_ws := am_wt1 (List.mem_of_getElem? (i := 169) (by rfl)) (by decide +kernel)
def rwX0_takeOver : List dz_r := [(0, .aload_n 0, 1), (1, .getfield 12, 3), (4, .aload_n 1, 1), (5, .getfield 12, 3), (8, .invokevirtual 89, 3), (11, .aload_n 1, 1), (12, .getfield 18, 3), (15, .iconst 0, 1), (16, .aload_n 0, 1), (17, .getfield 18, 3), (20, .iconst 0, 1), (21, .iconst 4, 1), (22, .invokestatic 93, 3), (25, .aload_n 1, 1), (26, .getfield 22, 3), (29, .iconst 0, 1), (30, .aload_n 0, 1), (31, .getfield 22, 3), (34, .iconst 0, 1), (35, .bipush 40, 2), (37, .invokestatic 93, 3), (40, .aload_n 0, 1), (41, .getfield 30, 3), (44, .aload_n 1, 1), (45, .getfield 30, 3), (48, .invokevirtual 99, 3), (51, .aload_n 0, 1), (52, .getfield 34, 3), (55, .aload_n 1, 1), (56, .getfield 34, 3), (59, .invokevirtual 99, 3), (62, .aload_n 0, 1), (63, .getfield 37, 3), (66, .aload_n 1, 1), (67, .getfield 37, 3), (70, .invokevirtual 99, 3), (73, .aload_n 1, 1), (74, .getfield 40, 3), (77, .iconst 0, 1), (78, .aload_n 0, 1), (79, .getfield 40, 3), (82, .iconst 0, 1), (83, .sipush 1200, 3), (86, .invokestatic 93, 3), (89, .iconst 0, 1), (90, .istore_n 2, 1), (91, .iload_n 2, 1), (92, .iconst 5, 1), (93, .if_icmp .ge 24, 3), (96, .aload_n 0, 1), (97, .getfield 45, 3), (100, .iload_n 2, 1), (101, .aaload, 1), (102, .aload_n 1, 1), (103, .getfield 45, 3), (106, .iload_n 2, 1), (107, .aaload, 1), (108, .invokevirtual 102, 3), (111, .iinc 2 1, 3), (114, .goto (-23), 3), (117, .aload_n 0, 1), (118, .getfield 49, 3), (121, .aload_n 1, 1), (122, .getfield 49, 3), (125, .invokevirtual 99, 3), (128, .aload_n 1, 1), (129, .getfield 52, 3), (132, .iconst 0, 1), (133, .aload_n 0, 1), (134, .getfield 52, 3), (137, .iconst 0, 1), (138, .sipush 160, 3), (141, .invokestatic 93, 3), (144, .aload_n 1, 1), (145, .getfield 55, 3), (148, .iconst 0, 1), (149, .aload_n 0, 1), (150, .getfield 55, 3), (153, .iconst 0, 1), (154, .bipush 16, 2), (156, .invokestatic 93, 3), (159, .aload_n 1, 1), (160, .getfield 58, 3), (163, .iconst 0, 1), (164, .aload_n 0, 1), (165, .getfield 58, 3), (168, .iconst 0, 1), (169, .bipush 9, 2), (171, .invokestatic 93, 3), (174, .aload_n 0, 1), (175, .aload_n 1, 1), (176, .getfield 105, 3), (179, .putfield 105, 3), (182, .return_, 1)]
theorem dzX0_takeOver : dz cX0_takeOver rwX0_takeOver := dz_all 0 (by decide +kernel)
def kX0_takeOver (live : am_E) (Ret : am_R) : am_code := [(0, am_aload 0 1), (1, am_getR live 0 0 4), (4, am_aload 1 5), (5, am_getR live 0 0 8), (8, am_callV live 2 1 TX2_takeOver 11), (11, am_aload 1 12), (12, am_getR live 0 1 15), (15, am_const (.int 0) 16), (16, am_aload 0 17), (17, am_getR live 0 1 20), (20, am_const (.int 0) 21), (21, am_const (.int 4) 22), (22, am_copyI live 52 25), (25, am_aload 1 26), (26, am_getR live 0 2 29), (29, am_const (.int 0) 30), (30, am_aload 0 31), (31, am_getR live 0 2 34), (34, am_const (.int 0) 35), (35, am_const (.int 40) 37), (37, am_copyI live 52 40), (40, am_aload 0 41), (41, am_getR live 0 3 44), (44, am_aload 1 45), (45, am_getR live 0 3 48), (48, am_callV live 3 1 TX3_takeOverG 51), (51, am_aload 0 52), (52, am_getR live 0 4 55), (55, am_aload 1 56), (56, am_getR live 0 4 59), (59, am_callV live 3 1 TX3_takeOverG 62), (62, am_aload 0 63), (63, am_getR live 0 5 66), (66, am_aload 1 67), (67, am_getR live 0 5 70), (70, am_callV live 3 1 TX3_takeOverG 73), (73, am_aload 1 74), (74, am_getR live 0 6 77), (77, am_const (.int 0) 78), (78, am_aload 0 79), (79, am_getR live 0 6 82), (82, am_const (.int 0) 83), (83, am_const (.int 1200) 86), (86, am_copyI live 52 89), (89, am_const (.int 0) 90), (90, am_istore 2 3 91), (91, am_iload 2 92), (92, am_const (.int 5) 93), (93, am_if2 (fun x y => y ≤ x) 117 96), (96, am_aload 0 97), (97, am_getR live 0 7 100), (100, am_iload 2 101), (101, am_aald live 3 102), (102, am_aload 1 103), (103, am_getR live 0 7 106), (106, am_iload 2 107), (107, am_aald live 3 108), (108, am_callV live 5 1 TX5_takeOverG 111), (111, am_iinc 2 3 1 114), (114, am_goto 91), (117, am_aload 0 118), (118, am_getR live 0 8 121), (121, am_aload 1 122), (122, am_getR live 0 8 125), (125, am_callV live 3 1 TX3_takeOverG 128), (128, am_aload 1 129), (129, am_getR live 0 9 132), (132, am_const (.int 0) 133), (133, am_aload 0 134), (134, am_getR live 0 9 137), (137, am_const (.int 0) 138), (138, am_const (.int 160) 141), (141, am_copyI live 52 144), (144, am_aload 1 145), (145, am_getR live 0 10 148), (148, am_const (.int 0) 149), (149, am_aload 0 150), (150, am_getR live 0 10 153), (153, am_const (.int 0) 154), (154, am_const (.int 16) 156), (156, am_copyI live 52 159), (159, am_aload 1 160), (160, am_getR live 0 11 163), (163, am_const (.int 0) 164), (164, am_aload 0 165), (165, am_getR live 0 11 168), (168, am_const (.int 0) 169), (169, am_const (.int 9) 171), (171, am_copyI live 52 174), (174, am_aload 0 175), (175, am_aload 1 176), (176, am_getI live 0 12 179), (179, am_putI live 0 12 182), (182, am_retV Ret)]
theorem koX0_takeOver (live : am_E) (Ret : am_R) : ∀ q ∈ kX0_takeOver live Ret, am_ok RX0 cX0_takeOver 3 none 2 52 live Ret q.1 q.2 :=
  am_kz dzX0_takeOver <|
  am_kd (fun d => ak_aload_n d rfl rfl) <|
  am_kd (fun d => ak_getR (C := RX0) (T := TX0) (N := 13) rfl inX0w (by decide) rfl rfl rfl wd_193 d rfl) <|
  am_kd (fun d => ak_aload_n d rfl rfl) <|
  am_kd (fun d => ak_getR (C := RX0) (T := TX0) (N := 13) rfl inX0w (by decide) rfl rfl rfl wd_193 d rfl) <|
  am_kd (fun d => ak_callV (C := RX2) (F := TX2) (N := 8) metX2_takeOver rfl ⟨rfl, hy_X2_takeOver⟩ (am_w5 wd_840 wd_841 wd_842 wd_62 wd_843) (by decide) d rfl) <|
  am_kd (fun d => ak_aload_n d rfl rfl) <|
  am_kd (fun d => ak_getR (C := RX0) (T := TX0) (N := 13) rfl inX0w (by decide) rfl rfl rfl wd_196 d rfl) <|
  am_kd (fun d => ak_iconst d (by decide +kernel) rfl) <|
  am_kd (fun d => ak_aload_n d rfl rfl) <|
  am_kd (fun d => ak_getR (C := RX0) (T := TX0) (N := 13) rfl inX0w (by decide) rfl rfl rfl wd_196 d rfl) <|
  am_kd (fun d => ak_iconst d (by decide +kernel) rfl) <|
  am_kd (fun d => ak_iconst d (by decide +kernel) rfl) <|
  am_kd (fun d => ak_copyI (am_w4 wd_845 wd_501 wd_500 wd_69) (by decide) d rfl) <|
  am_kd (fun d => ak_aload_n d rfl rfl) <|
  am_kd (fun d => ak_getR (C := RX0) (T := TX0) (N := 13) rfl inX0w (by decide) rfl rfl rfl wd_199 d rfl) <|
  am_kd (fun d => ak_iconst d (by decide +kernel) rfl) <|
  am_kd (fun d => ak_aload_n d rfl rfl) <|
  am_kd (fun d => ak_getR (C := RX0) (T := TX0) (N := 13) rfl inX0w (by decide) rfl rfl rfl wd_199 d rfl) <|
  am_kd (fun d => ak_iconst d (by decide +kernel) rfl) <|
  am_kd (fun d => ak_bipush d (by decide +kernel) rfl) <|
  am_kd (fun d => ak_copyI (am_w4 wd_845 wd_501 wd_500 wd_69) (by decide) d rfl) <|
  am_kd (fun d => ak_aload_n d rfl rfl) <|
  am_kd (fun d => ak_getR (C := RX0) (T := TX0) (N := 13) rfl inX0w (by decide) rfl rfl rfl wd_202 d rfl) <|
  am_kd (fun d => ak_aload_n d rfl rfl) <|
  am_kd (fun d => ak_getR (C := RX0) (T := TX0) (N := 13) rfl inX0w (by decide) rfl rfl rfl wd_202 d rfl) <|
  am_kd (fun d => ak_callV (C := RX3) (F := TX3) (N := 3) metX3_takeOverG rfl ⟨rfl, hy_X3_takeOver⟩ (am_w5 wd_846 wd_847 wd_848 wd_64 wd_849) (by decide) d rfl) <|
  am_kd (fun d => ak_aload_n d rfl rfl) <|
  am_kd (fun d => ak_getR (C := RX0) (T := TX0) (N := 13) rfl inX0w (by decide) rfl rfl rfl wd_205 d rfl) <|
  am_kd (fun d => ak_aload_n d rfl rfl) <|
  am_kd (fun d => ak_getR (C := RX0) (T := TX0) (N := 13) rfl inX0w (by decide) rfl rfl rfl wd_205 d rfl) <|
  am_kd (fun d => ak_callV (C := RX3) (F := TX3) (N := 3) metX3_takeOverG rfl ⟨rfl, hy_X3_takeOver⟩ (am_w5 wd_846 wd_847 wd_848 wd_64 wd_849) (by decide) d rfl) <|
  am_kd (fun d => ak_aload_n d rfl rfl) <|
  am_kd (fun d => ak_getR (C := RX0) (T := TX0) (N := 13) rfl inX0w (by decide) rfl rfl rfl wd_208 d rfl) <|
  am_kd (fun d => ak_aload_n d rfl rfl) <|
  am_kd (fun d => ak_getR (C := RX0) (T := TX0) (N := 13) rfl inX0w (by decide) rfl rfl rfl wd_208 d rfl) <|
  am_kd (fun d => ak_callV (C := RX3) (F := TX3) (N := 3) metX3_takeOverG rfl ⟨rfl, hy_X3_takeOver⟩ (am_w5 wd_846 wd_847 wd_848 wd_64 wd_849) (by decide) d rfl) <|
  am_kd (fun d => ak_aload_n d rfl rfl) <|
  am_kd (fun d => ak_getR (C := RX0) (T := TX0) (N := 13) rfl inX0w (by decide) rfl rfl rfl wd_210 d rfl) <|
  am_kd (fun d => ak_iconst d (by decide +kernel) rfl) <|
  am_kd (fun d => ak_aload_n d rfl rfl) <|
  am_kd (fun d => ak_getR (C := RX0) (T := TX0) (N := 13) rfl inX0w (by decide) rfl rfl rfl wd_210 d rfl) <|
  am_kd (fun d => ak_iconst d (by decide +kernel) rfl) <|
  am_kd (fun d => ak_sipush d (by decide +kernel) rfl) <|
  am_kd (fun d => ak_copyI (am_w4 wd_845 wd_501 wd_500 wd_69) (by decide) d rfl) <|
  am_kd (fun d => ak_iconst d (by decide +kernel) rfl) <|
  am_kd (fun d => ak_istore_n d rfl rfl) <|
  am_kd (fun d => ak_iload_n d rfl rfl) <|
  am_kd (fun d => ak_iconst d (by decide +kernel) rfl) <|
  am_kd (fun d => ak_icmp_ge d (by decide +kernel) rfl) <|
  am_kd (fun d => ak_aload_n d rfl rfl) <|
  am_kd (fun d => ak_getR (C := RX0) (T := TX0) (N := 13) rfl inX0w (by decide) rfl rfl rfl wd_213 d rfl) <|
  am_kd (fun d => ak_iload_n d rfl rfl) <|
  am_kd (fun d => ak_aald (t := 3) (fun _ => rfl) rfl d rfl) <|
  am_kd (fun d => ak_aload_n d rfl rfl) <|
  am_kd (fun d => ak_getR (C := RX0) (T := TX0) (N := 13) rfl inX0w (by decide) rfl rfl rfl wd_213 d rfl) <|
  am_kd (fun d => ak_iload_n d rfl rfl) <|
  am_kd (fun d => ak_aald (t := 3) (fun _ => rfl) rfl d rfl) <|
  am_kd (fun d => ak_callV (C := RX5) (F := TX5) (N := 7) metX5_takeOverG rfl ⟨rfl, hy_X5_takeOver⟩ (am_w5 wd_854 wd_855 wd_856 wd_65 wd_857) (by decide) d rfl) <|
  am_kd (fun d => ak_iinc d (by decide +kernel) rfl) <|
  am_kd (fun d => ak_goto d (by decide +kernel)) <|
  am_kd (fun d => ak_aload_n d rfl rfl) <|
  am_kd (fun d => ak_getR (C := RX0) (T := TX0) (N := 13) rfl inX0w (by decide) rfl rfl rfl wd_216 d rfl) <|
  am_kd (fun d => ak_aload_n d rfl rfl) <|
  am_kd (fun d => ak_getR (C := RX0) (T := TX0) (N := 13) rfl inX0w (by decide) rfl rfl rfl wd_216 d rfl) <|
  am_kd (fun d => ak_callV (C := RX3) (F := TX3) (N := 3) metX3_takeOverG rfl ⟨rfl, hy_X3_takeOver⟩ (am_w5 wd_846 wd_847 wd_848 wd_64 wd_849) (by decide) d rfl) <|
  am_kd (fun d => ak_aload_n d rfl rfl) <|
  am_kd (fun d => ak_getR (C := RX0) (T := TX0) (N := 13) rfl inX0w (by decide) rfl rfl rfl wd_218 d rfl) <|
  am_kd (fun d => ak_iconst d (by decide +kernel) rfl) <|
  am_kd (fun d => ak_aload_n d rfl rfl) <|
  am_kd (fun d => ak_getR (C := RX0) (T := TX0) (N := 13) rfl inX0w (by decide) rfl rfl rfl wd_218 d rfl) <|
  am_kd (fun d => ak_iconst d (by decide +kernel) rfl) <|
  am_kd (fun d => ak_sipush d (by decide +kernel) rfl) <|
  am_kd (fun d => ak_copyI (am_w4 wd_845 wd_501 wd_500 wd_69) (by decide) d rfl) <|
  am_kd (fun d => ak_aload_n d rfl rfl) <|
  am_kd (fun d => ak_getR (C := RX0) (T := TX0) (N := 13) rfl inX0w (by decide) rfl rfl rfl wd_221 d rfl) <|
  am_kd (fun d => ak_iconst d (by decide +kernel) rfl) <|
  am_kd (fun d => ak_aload_n d rfl rfl) <|
  am_kd (fun d => ak_getR (C := RX0) (T := TX0) (N := 13) rfl inX0w (by decide) rfl rfl rfl wd_221 d rfl) <|
  am_kd (fun d => ak_iconst d (by decide +kernel) rfl) <|
  am_kd (fun d => ak_bipush d (by decide +kernel) rfl) <|
  am_kd (fun d => ak_copyI (am_w4 wd_845 wd_501 wd_500 wd_69) (by decide) d rfl) <|
  am_kd (fun d => ak_aload_n d rfl rfl) <|
  am_kd (fun d => ak_getR (C := RX0) (T := TX0) (N := 13) rfl inX0w (by decide) rfl rfl rfl wd_224 d rfl) <|
  am_kd (fun d => ak_iconst d (by decide +kernel) rfl) <|
  am_kd (fun d => ak_aload_n d rfl rfl) <|
  am_kd (fun d => ak_getR (C := RX0) (T := TX0) (N := 13) rfl inX0w (by decide) rfl rfl rfl wd_224 d rfl) <|
  am_kd (fun d => ak_iconst d (by decide +kernel) rfl) <|
  am_kd (fun d => ak_bipush d (by decide +kernel) rfl) <|
  am_kd (fun d => ak_copyI (am_w4 wd_845 wd_501 wd_500 wd_69) (by decide) d rfl) <|
  am_kd (fun d => ak_aload_n d rfl rfl) <|
  am_kd (fun d => ak_aload_n d rfl rfl) <|
  am_kd (fun d => ak_getI (C := RX0) (T := TX0) (N := 13) rfl inX0w (by decide) rfl rfl rfl wd_226 d rfl) <|
  am_kd (fun d => ak_putI (C := RX0) (T := TX0) (N := 13) rfl inX0w tyX0_ok nmX0 (by decide) rfl rfl rfl rfl (by decide +kernel) wd_226 d rfl) <|
  am_kd (fun d => ak_retV d) <| am_kdn
def TX0_takeOver : am_T := fun live as M R => match as with
  | [.ref n, .ref m] => am_mn live ∧ live.1 n = true ∧ live.1 m = true ∧ g_pair n m ∧ ∀ M', g_cs n m g_sh0 M M' → R none M'
  | _ => False
set_option maxRecDepth 100000 in
set_option maxHeartbeats 4000000 in
theorem metX0_takeOver : am_Met yX0_takeOver cX0_takeOver 3 none (2) (52) TX0_takeOver := by
  refine am_met (own := RX0) (by decide +kernel) rfl kX0_takeOver koX0_takeOver 400 (fun _ _ _ _ _ => none) (fun live as M Ret h => ?_) (fun _ _ _ _ _ _ _ _ hI => by cases hI)
  unfold TX0_takeOver at h
  split at h
  · next n m =>
    refine ⟨Nat.le_of_ble_eq_true rfl, ?_⟩
    change am_wp _ _ _ _ [(0, Value.ref n), (1, Value.ref m)] _ _
    obtain ⟨⟨i1, i2, rfl⟩, hl, hm, hn, h⟩ := h
    unfold g_pair at hn
    rcases hn with ⟨rfl, rfl⟩ | ⟨rfl, rfl⟩ | ⟨rfl, rfl⟩ | ⟨rfl, rfl⟩
    · have e1 : i1 = true := by
        cases i1 with
        | true => rfl
        | false => cases hl
      subst e1
      have hbm : 60 + 40 ≤ 20 ∨ 20 + 40 ≤ 60 := by decide
      have hmn : am_mn _ := ⟨true, i2, rfl⟩
      have hpr : g_pair (60+1-1) (20+1-1) := by unfold g_pair; decide
      repeat' (first | (with_reducible exact hmn) | (with_reducible exact hpr) | apply And.intro | exact rfl | (intro hx; exact absurd hx (by decide)) | (intro hx; exact absurd (by decide) hx) | decide | intro hx | (refine Exists.intro _ (And.intro rfl ?_)) | (refine Exists.intro _ (Exists.intro _ (And.intro rfl (And.intro rfl ?_)))) | (change Exists _; refine ⟨60, 20, 11, 366, rfl, rfl, by decide, by decide, rfl, rfl, rfl, rfl, rfl, rfl, fun M1 c11 => ?_⟩) | (change Exists _; refine ⟨60, 20, 13, 240, rfl, rfl, by decide, by decide, rfl, rfl, rfl, rfl, rfl, rfl, fun M1 c13 => ?_⟩) | (change Exists _; refine ⟨60, 20, 15, 180, rfl, rfl, by decide, by decide, rfl, rfl, rfl, rfl, rfl, rfl, fun M1 c15 => ?_⟩) | (change Exists _; refine ⟨60, 20, 34, 60, rfl, rfl, by decide, by decide, rfl, rfl, rfl, rfl, rfl, rfl, fun M1 c34 => ?_⟩) | (change Exists _; refine ⟨60, 20, 19, rfl, rfl, by decide, by decide, rfl, rfl, rfl, rfl, rfl, rfl, fun M1 c19 => ?_⟩) | (change Exists _; refine ⟨60, 20, 22, rfl, rfl, by decide, by decide, rfl, rfl, rfl, rfl, rfl, rfl, fun M1 c22 => ?_⟩) | (change Exists _; refine ⟨60, 20, 25, rfl, rfl, by decide, by decide, rfl, rfl, rfl, rfl, rfl, rfl, fun M1 c25 => ?_⟩) | (change Exists _; refine ⟨60, 20, 28, rfl, rfl, by decide, by decide, rfl, rfl, rfl, rfl, rfl, rfl, fun M1 c28 => ?_⟩) | (change Exists _; refine ⟨60, 20, 31, rfl, rfl, by decide, by decide, rfl, rfl, rfl, rfl, rfl, rfl, fun M1 c31 => ?_⟩))
      all_goals try first | (with_reducible change am_tI _ _) | (change Ret _ _) | (change Ret _ _ _) | (change Exists _)
      all_goals try dsimp only at *
      all_goals try (with_reducible exact absurd ‹(1000 : Int64) = 0› am_z1000)
      all_goals exact h _ (show g_cs 60 20 _ M _ from (g_cs.tr hbm rfl rfl (g_cs.tr hbm rfl rfl (g_cs.tr hbm rfl rfl (g_cs.tr hbm rfl rfl (g_cs.tr hbm rfl rfl (g_cs.tr hbm rfl rfl (g_cs.tr hbm rfl rfl (g_cs.tr hbm rfl rfl (g_cs.tr hbm rfl rfl (g_cs.tr hbm rfl rfl (g_cs.tr hbm rfl rfl (g_cs.tr hbm rfl rfl (g_cs.tr hbm rfl rfl (g_cs.tr hbm rfl rfl (g_cs.tr hbm rfl rfl (g_cs.tr hbm rfl rfl (show g_cs 60 20 g_sh2 M _ by with_reducible assumption) (g_cs_c 9 4)) (g_cs_c 10 40)) c11) c13) c15) (g_cs_c 17 1200)) c19) c22) c25) c28) c31) c34) (g_cs_c 36 160)) (g_cs_c 37 16)) (g_cs_c 38 9)) (g_cs_w 0 12)))
    · have e1 : i2 = true := by
        cases i2 with
        | true => rfl
        | false => cases hl
      subst e1
      have hbm : 100 + 40 ≤ 20 ∨ 20 + 40 ≤ 100 := by decide
      have hmn : am_mn _ := ⟨i1, true, rfl⟩
      have hpr : g_pair (100+1-1) (20+1-1) := by unfold g_pair; decide
      repeat' (first | (with_reducible exact hmn) | (with_reducible exact hpr) | apply And.intro | exact rfl | (intro hx; exact absurd hx (by decide)) | (intro hx; exact absurd (by decide) hx) | decide | intro hx | (refine Exists.intro _ (And.intro rfl ?_)) | (refine Exists.intro _ (Exists.intro _ (And.intro rfl (And.intro rfl ?_)))) | (change Exists _; refine ⟨100, 20, 11, 366, rfl, rfl, by decide, by decide, rfl, rfl, rfl, rfl, rfl, rfl, fun M1 c11 => ?_⟩) | (change Exists _; refine ⟨100, 20, 13, 240, rfl, rfl, by decide, by decide, rfl, rfl, rfl, rfl, rfl, rfl, fun M1 c13 => ?_⟩) | (change Exists _; refine ⟨100, 20, 15, 180, rfl, rfl, by decide, by decide, rfl, rfl, rfl, rfl, rfl, rfl, fun M1 c15 => ?_⟩) | (change Exists _; refine ⟨100, 20, 34, 60, rfl, rfl, by decide, by decide, rfl, rfl, rfl, rfl, rfl, rfl, fun M1 c34 => ?_⟩) | (change Exists _; refine ⟨100, 20, 19, rfl, rfl, by decide, by decide, rfl, rfl, rfl, rfl, rfl, rfl, fun M1 c19 => ?_⟩) | (change Exists _; refine ⟨100, 20, 22, rfl, rfl, by decide, by decide, rfl, rfl, rfl, rfl, rfl, rfl, fun M1 c22 => ?_⟩) | (change Exists _; refine ⟨100, 20, 25, rfl, rfl, by decide, by decide, rfl, rfl, rfl, rfl, rfl, rfl, fun M1 c25 => ?_⟩) | (change Exists _; refine ⟨100, 20, 28, rfl, rfl, by decide, by decide, rfl, rfl, rfl, rfl, rfl, rfl, fun M1 c28 => ?_⟩) | (change Exists _; refine ⟨100, 20, 31, rfl, rfl, by decide, by decide, rfl, rfl, rfl, rfl, rfl, rfl, fun M1 c31 => ?_⟩))
      all_goals try first | (with_reducible change am_tI _ _) | (change Ret _ _) | (change Ret _ _ _) | (change Exists _)
      all_goals try dsimp only at *
      all_goals try (with_reducible exact absurd ‹(1000 : Int64) = 0› am_z1000)
      all_goals exact h _ (show g_cs 100 20 _ M _ from (g_cs.tr hbm rfl rfl (g_cs.tr hbm rfl rfl (g_cs.tr hbm rfl rfl (g_cs.tr hbm rfl rfl (g_cs.tr hbm rfl rfl (g_cs.tr hbm rfl rfl (g_cs.tr hbm rfl rfl (g_cs.tr hbm rfl rfl (g_cs.tr hbm rfl rfl (g_cs.tr hbm rfl rfl (g_cs.tr hbm rfl rfl (g_cs.tr hbm rfl rfl (g_cs.tr hbm rfl rfl (g_cs.tr hbm rfl rfl (g_cs.tr hbm rfl rfl (g_cs.tr hbm rfl rfl (show g_cs 100 20 g_sh2 M _ by with_reducible assumption) (g_cs_c 9 4)) (g_cs_c 10 40)) c11) c13) c15) (g_cs_c 17 1200)) c19) c22) c25) c28) c31) c34) (g_cs_c 36 160)) (g_cs_c 37 16)) (g_cs_c 38 9)) (g_cs_w 0 12)))
    · have e1 : i1 = true := by
        cases i1 with
        | true => rfl
        | false => cases hm
      subst e1
      have hbm : 20 + 40 ≤ 60 ∨ 60 + 40 ≤ 20 := by decide
      have hmn : am_mn _ := ⟨true, i2, rfl⟩
      have hpr : g_pair (20+1-1) (60+1-1) := by unfold g_pair; decide
      repeat' (first | (with_reducible exact hmn) | (with_reducible exact hpr) | apply And.intro | exact rfl | (intro hx; exact absurd hx (by decide)) | (intro hx; exact absurd (by decide) hx) | decide | intro hx | (refine Exists.intro _ (And.intro rfl ?_)) | (refine Exists.intro _ (Exists.intro _ (And.intro rfl (And.intro rfl ?_)))) | (change Exists _; refine ⟨20, 60, 11, 366, rfl, rfl, by decide, by decide, rfl, rfl, rfl, rfl, rfl, rfl, fun M1 c11 => ?_⟩) | (change Exists _; refine ⟨20, 60, 13, 240, rfl, rfl, by decide, by decide, rfl, rfl, rfl, rfl, rfl, rfl, fun M1 c13 => ?_⟩) | (change Exists _; refine ⟨20, 60, 15, 180, rfl, rfl, by decide, by decide, rfl, rfl, rfl, rfl, rfl, rfl, fun M1 c15 => ?_⟩) | (change Exists _; refine ⟨20, 60, 34, 60, rfl, rfl, by decide, by decide, rfl, rfl, rfl, rfl, rfl, rfl, fun M1 c34 => ?_⟩) | (change Exists _; refine ⟨20, 60, 19, rfl, rfl, by decide, by decide, rfl, rfl, rfl, rfl, rfl, rfl, fun M1 c19 => ?_⟩) | (change Exists _; refine ⟨20, 60, 22, rfl, rfl, by decide, by decide, rfl, rfl, rfl, rfl, rfl, rfl, fun M1 c22 => ?_⟩) | (change Exists _; refine ⟨20, 60, 25, rfl, rfl, by decide, by decide, rfl, rfl, rfl, rfl, rfl, rfl, fun M1 c25 => ?_⟩) | (change Exists _; refine ⟨20, 60, 28, rfl, rfl, by decide, by decide, rfl, rfl, rfl, rfl, rfl, rfl, fun M1 c28 => ?_⟩) | (change Exists _; refine ⟨20, 60, 31, rfl, rfl, by decide, by decide, rfl, rfl, rfl, rfl, rfl, rfl, fun M1 c31 => ?_⟩))
      all_goals try first | (with_reducible change am_tI _ _) | (change Ret _ _) | (change Ret _ _ _) | (change Exists _)
      all_goals try dsimp only at *
      all_goals try (with_reducible exact absurd ‹(1000 : Int64) = 0› am_z1000)
      all_goals exact h _ (show g_cs 20 60 _ M _ from (g_cs.tr hbm rfl rfl (g_cs.tr hbm rfl rfl (g_cs.tr hbm rfl rfl (g_cs.tr hbm rfl rfl (g_cs.tr hbm rfl rfl (g_cs.tr hbm rfl rfl (g_cs.tr hbm rfl rfl (g_cs.tr hbm rfl rfl (g_cs.tr hbm rfl rfl (g_cs.tr hbm rfl rfl (g_cs.tr hbm rfl rfl (g_cs.tr hbm rfl rfl (g_cs.tr hbm rfl rfl (g_cs.tr hbm rfl rfl (g_cs.tr hbm rfl rfl (g_cs.tr hbm rfl rfl (show g_cs 20 60 g_sh2 M _ by with_reducible assumption) (g_cs_c 9 4)) (g_cs_c 10 40)) c11) c13) c15) (g_cs_c 17 1200)) c19) c22) c25) c28) c31) c34) (g_cs_c 36 160)) (g_cs_c 37 16)) (g_cs_c 38 9)) (g_cs_w 0 12)))
    · have e1 : i2 = true := by
        cases i2 with
        | true => rfl
        | false => cases hm
      subst e1
      have hbm : 20 + 40 ≤ 100 ∨ 100 + 40 ≤ 20 := by decide
      have hmn : am_mn _ := ⟨i1, true, rfl⟩
      have hpr : g_pair (20+1-1) (100+1-1) := by unfold g_pair; decide
      repeat' (first | (with_reducible exact hmn) | (with_reducible exact hpr) | apply And.intro | exact rfl | (intro hx; exact absurd hx (by decide)) | (intro hx; exact absurd (by decide) hx) | decide | intro hx | (refine Exists.intro _ (And.intro rfl ?_)) | (refine Exists.intro _ (Exists.intro _ (And.intro rfl (And.intro rfl ?_)))) | (change Exists _; refine ⟨20, 100, 11, 366, rfl, rfl, by decide, by decide, rfl, rfl, rfl, rfl, rfl, rfl, fun M1 c11 => ?_⟩) | (change Exists _; refine ⟨20, 100, 13, 240, rfl, rfl, by decide, by decide, rfl, rfl, rfl, rfl, rfl, rfl, fun M1 c13 => ?_⟩) | (change Exists _; refine ⟨20, 100, 15, 180, rfl, rfl, by decide, by decide, rfl, rfl, rfl, rfl, rfl, rfl, fun M1 c15 => ?_⟩) | (change Exists _; refine ⟨20, 100, 34, 60, rfl, rfl, by decide, by decide, rfl, rfl, rfl, rfl, rfl, rfl, fun M1 c34 => ?_⟩) | (change Exists _; refine ⟨20, 100, 19, rfl, rfl, by decide, by decide, rfl, rfl, rfl, rfl, rfl, rfl, fun M1 c19 => ?_⟩) | (change Exists _; refine ⟨20, 100, 22, rfl, rfl, by decide, by decide, rfl, rfl, rfl, rfl, rfl, rfl, fun M1 c22 => ?_⟩) | (change Exists _; refine ⟨20, 100, 25, rfl, rfl, by decide, by decide, rfl, rfl, rfl, rfl, rfl, rfl, fun M1 c25 => ?_⟩) | (change Exists _; refine ⟨20, 100, 28, rfl, rfl, by decide, by decide, rfl, rfl, rfl, rfl, rfl, rfl, fun M1 c28 => ?_⟩) | (change Exists _; refine ⟨20, 100, 31, rfl, rfl, by decide, by decide, rfl, rfl, rfl, rfl, rfl, rfl, fun M1 c31 => ?_⟩))
      all_goals try first | (with_reducible change am_tI _ _) | (change Ret _ _) | (change Ret _ _ _) | (change Exists _)
      all_goals try dsimp only at *
      all_goals try (with_reducible exact absurd ‹(1000 : Int64) = 0› am_z1000)
      all_goals exact h _ (show g_cs 20 100 _ M _ from (g_cs.tr hbm rfl rfl (g_cs.tr hbm rfl rfl (g_cs.tr hbm rfl rfl (g_cs.tr hbm rfl rfl (g_cs.tr hbm rfl rfl (g_cs.tr hbm rfl rfl (g_cs.tr hbm rfl rfl (g_cs.tr hbm rfl rfl (g_cs.tr hbm rfl rfl (g_cs.tr hbm rfl rfl (g_cs.tr hbm rfl rfl (g_cs.tr hbm rfl rfl (g_cs.tr hbm rfl rfl (g_cs.tr hbm rfl rfl (g_cs.tr hbm rfl rfl (g_cs.tr hbm rfl rfl (show g_cs 20 100 g_sh2 M _ by with_reducible assumption) (g_cs_c 9 4)) (g_cs_c 10 40)) c11) c13) c15) (g_cs_c 17 1200)) c19) c22) c25) c28) c31) c34) (g_cs_c 36 160)) (g_cs_c 37 16)) (g_cs_c 38 9)) (g_cs_w 0 12)))
  · exact h.elim
end
