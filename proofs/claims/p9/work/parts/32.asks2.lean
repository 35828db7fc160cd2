/-! general: loan, book, early, best, digest -/
set_option maxRecDepth 100000 in
theorem wd_878 : Cond.constantLong "LearnLoans$People" 49 31 ∈ am_ws := am_wt4 (List.mem_of_getElem? (i := 101) (by rfl)) (by decide +kernel)
def rwX2_mixed : List dz_r := [(0, .iconst 0, 1), (1, .istore_n 3, 1), (2, .iload_n 3, 1), (3, .aload_n 0, 1), (4, .getfield 45, 3), (7, .if_icmp .ge 79, 3), (10, .iload_n 3, 1), (11, .bipush 12, 2), (13, .if_icmp .ge 73, 3), (16, .ldc2_w 49, 3), (19, .lload_n 1, 1), (20, .lmul, 1), (21, .aload_n 0, 1), (22, .getfield 9, 3), (25, .iload_n 3, 1), (26, .iaload, 1), (27, .i2l, 1), (28, .ladd, 1), (29, .lstore_n 1, 1), (30, .ldc2_w 49, 3), (33, .lload_n 1, 1), (34, .lmul, 1), (35, .aload_n 0, 1), (36, .getfield 15, 3), (39, .iload_n 3, 1), (40, .iaload, 1), (41, .i2l, 1), (42, .ladd, 1), (43, .lstore_n 1, 1), (44, .iconst 0, 1), (45, .istore 4, 2), (47, .iload 4, 2), (49, .bipush 40, 2), (51, .if_icmp .ge 29, 3), (54, .ldc2_w 49, 3), (57, .lload_n 1, 1), (58, .lmul, 1), (59, .aload_n 0, 1), (60, .getfield 18, 3), (63, .iload_n 3, 1), (64, .bipush 40, 2), (66, .imul, 1), (67, .iload 4, 2), (69, .iadd, 1), (70, .iaload, 1), (71, .i2l, 1), (72, .ladd, 1), (73, .lstore_n 1, 1), (74, .iinc 4 1, 3), (77, .goto (-30), 3), (80, .iinc 3 1, 3), (83, .goto (-81), 3), (86, .lload_n 1, 1), (87, .lreturn, 1)]
theorem dzX2_mixed : dz cX2_mixed rwX2_mixed := dz_all 0 (by decide +kernel)
def kX2_mixed (live : am_E) (Ret : am_R) : am_code := [(0, am_const (.int 0) 1), (1, am_istore 3 5 2), (2, am_iload 3 3), (3, am_aload 0 4), (4, am_getI live 2 7 7), (7, am_if2 (fun x y => y ≤ x) 86 10), (10, am_iload 3 11), (11, am_const (.int 12) 13), (13, am_if2 (fun x y => y ≤ x) 86 16), (16, am_const (.long 31) 19), (19, am_lload 1 20), (20, am_l2 (fun x y => x * y) 21), (21, am_aload 0 22), (22, am_getR live 2 0 25), (25, am_iload 3 26), (26, am_ald live 0 27), (27, am_i2l 28), (28, am_l2 (fun x y => x + y) 29), (29, am_lstore 1 5 30), (30, am_const (.long 31) 33), (33, am_lload 1 34), (34, am_l2 (fun x y => x * y) 35), (35, am_aload 0 36), (36, am_getR live 2 1 39), (39, am_iload 3 40), (40, am_ald live 0 41), (41, am_i2l 42), (42, am_l2 (fun x y => x + y) 43), (43, am_lstore 1 5 44), (44, am_const (.int 0) 45), (45, am_istore 4 5 47), (47, am_iload 4 49), (49, am_const (.int 40) 51), (51, am_if2 (fun x y => y ≤ x) 80 54), (54, am_const (.long 31) 57), (57, am_lload 1 58), (58, am_l2 (fun x y => x * y) 59), (59, am_aload 0 60), (60, am_getR live 2 2 63), (63, am_iload 3 64), (64, am_const (.int 40) 66), (66, am_i2 (fun x y => x * y) 67), (67, am_iload 4 69), (69, am_i2 (fun x y => x + y) 70), (70, am_ald live 0 71), (71, am_i2l 72), (72, am_l2 (fun x y => x + y) 73), (73, am_lstore 1 5 74), (74, am_iinc 4 5 1 77), (77, am_goto 47), (80, am_iinc 3 5 1 83), (83, am_goto 2), (86, am_lload 1 87), (87, am_retL Ret)]
theorem koX2_mixed (live : am_E) (Ret : am_R) : ∀ q ∈ kX2_mixed live Ret, am_ok RX2 cX2_mixed 5 (some .long) 0 0 live Ret q.1 q.2 :=
  am_kz dzX2_mixed <|
  am_kd (fun d => ak_iconst d (by decide +kernel) rfl) <|
  am_kd (fun d => ak_istore_n d rfl rfl) <|
  am_kd (fun d => ak_iload_n d rfl rfl) <|
  am_kd (fun d => ak_aload_n d rfl rfl) <|
  am_kd (fun d => ak_getI (C := RX2) (T := TX2) (N := 8) rfl inX2w (by decide) rfl rfl rfl wd_122 d rfl) <|
  am_kd (fun d => ak_icmp_ge d (by decide +kernel) rfl) <|
  am_kd (fun d => ak_iload_n d rfl rfl) <|
  am_kd (fun d => ak_bipush d (by decide +kernel) rfl) <|
  am_kd (fun d => ak_icmp_ge d (by decide +kernel) rfl) <|
  am_kd (fun d => ak_ldc2 wd_878 d rfl) <|
  am_kd (fun d => ak_lload_n d rfl rfl) <|
  am_kd (fun d => ak_lmul d rfl) <|
  am_kd (fun d => ak_aload_n d rfl rfl) <|
  am_kd (fun d => ak_getR (C := RX2) (T := TX2) (N := 8) rfl inX2w (by decide) rfl rfl rfl wd_105 d rfl) <|
  am_kd (fun d => ak_iload_n d rfl rfl) <|
  am_kd (fun d => ak_iald (t := 0) (fun _ => rfl) rfl d rfl) <|
  am_kd (fun d => ak_i2l d rfl) <|
  am_kd (fun d => ak_ladd d rfl) <|
  am_kd (fun d => ak_lstore_n d rfl rfl) <|
  am_kd (fun d => ak_ldc2 wd_878 d rfl) <|
  am_kd (fun d => ak_lload_n d rfl rfl) <|
  am_kd (fun d => ak_lmul d rfl) <|
  am_kd (fun d => ak_aload_n d rfl rfl) <|
  am_kd (fun d => ak_getR (C := RX2) (T := TX2) (N := 8) rfl inX2w (by decide) rfl rfl rfl wd_108 d rfl) <|
  am_kd (fun d => ak_iload_n d rfl rfl) <|
  am_kd (fun d => ak_iald (t := 0) (fun _ => rfl) rfl d rfl) <|
  am_kd (fun d => ak_i2l d rfl) <|
  am_kd (fun d => ak_ladd d rfl) <|
  am_kd (fun d => ak_lstore_n d rfl rfl) <|
  am_kd (fun d => ak_iconst d (by decide +kernel) rfl) <|
  am_kd (fun d => ak_istore d rfl) <|
  am_kd (fun d => ak_iload d rfl) <|
  am_kd (fun d => ak_bipush d (by decide +kernel) rfl) <|
  am_kd (fun d => ak_icmp_ge d (by decide +kernel) rfl) <|
  am_kd (fun d => ak_ldc2 wd_878 d rfl) <|
  am_kd (fun d => ak_lload_n d rfl rfl) <|
  am_kd (fun d => ak_lmul d rfl) <|
  am_kd (fun d => ak_aload_n d rfl rfl) <|
  am_kd (fun d => ak_getR (C := RX2) (T := TX2) (N := 8) rfl inX2w (by decide) rfl rfl rfl wd_110 d rfl) <|
  am_kd (fun d => ak_iload_n d rfl rfl) <|
  am_kd (fun d => ak_bipush d (by decide +kernel) rfl) <|
  am_kd (fun d => ak_imul d rfl) <|
  am_kd (fun d => ak_iload d rfl) <|
  am_kd (fun d => ak_iadd d rfl) <|
  am_kd (fun d => ak_iald (t := 0) (fun _ => rfl) rfl d rfl) <|
  am_kd (fun d => ak_i2l d rfl) <|
  am_kd (fun d => ak_ladd d rfl) <|
  am_kd (fun d => ak_lstore_n d rfl rfl) <|
  am_kd (fun d => ak_iinc d (by decide +kernel) rfl) <|
  am_kd (fun d => ak_goto d (by decide +kernel)) <|
  am_kd (fun d => ak_iinc d (by decide +kernel) rfl) <|
  am_kd (fun d => ak_goto d (by decide +kernel)) <|
  am_kd (fun d => ak_lload_n d rfl rfl) <|
  am_kd (fun d => ak_retL d) <| am_kdn
def TX2_mixed : am_T := fun live as M R => match as with
  | [.ref n, .long x] => am_mn live ∧ n = 21 ∧ ∀ v, R (some (.long v)) M
  | _ => False
def JX2_mixed : am_E → List Value → am_M → am_R → am_inv := fun live as M0 _ pc => match as with
  | [.ref n, .long x] => (match pc with
    | 2 => some ([0, 1, 3], fun k L st M => ∃ (v : Int64) (i : Int32), L = [(0, .ref 21), (1, .long v), (3, .int i)] ∧ st = [] ∧ k = ((14 - i.toInt).toNat, 100) ∧ 0 ≤ i.toInt ∧ M = M0)
    | 47 => some ([0, 1, 3, 4], fun k L st M => ∃ (v : Int64) (i y : Int32), L = [(0, .ref 21), (1, .long v), (3, .int i), (4, .int y)] ∧ st = [] ∧ k = ((14 - i.toInt).toNat, (41 - y.toInt).toNat) ∧ (0 ≤ i.toInt ∧ i.toInt < 12) ∧ 0 ≤ y.toInt ∧ M = M0)
    | _ => none)
  | _ => none
set_option maxRecDepth 100000 in
set_option maxHeartbeats 4000000 in
theorem metX2_mixed : am_Met yX2_mixed cX2_mixed 5 (some .long) (0) (0) TX2_mixed := by
  refine am_met (own := RX2) (by decide +kernel) rfl kX2_mixed koX2_mixed 100 JX2_mixed ?_ ?_
  · intro live as M Ret h
    unfold TX2_mixed at h
    split at h
    · next n x =>
      refine ⟨Nat.le_of_ble_eq_true rfl, ?_⟩
      change am_wp _ _ _ _ [(0, Value.ref n), (1, Value.long x)] _ _
      obtain ⟨hmn, rfl, h⟩ := h
      repeat' (first | apply And.intro | exact rfl | intro hx | (refine Exists.intro _ (And.intro rfl ?_)))
      all_goals try first | (with_reducible change am_tI _ _) | (change Ret _ _) | (change Ret _ _ _) | (change Exists _)
      all_goals try dsimp only at *
      all_goals try (with_reducible exact absurd ‹(1000 : Int64) = 0› am_z1000)
      exact ⟨_, _, _, rfl, rfl, rfl, by decide, rfl⟩
    · exact h.elim
  · intro live as M0 Ret h k pc I hI L st M hi
    unfold TX2_mixed at h
    split at h
    · next n x =>
      obtain ⟨hmn, rfl, h⟩ := h
      obtain ⟨i1, i2, rfl⟩ := hmn
      have l22 : am_len 22 = 12 := rfl
      have l23 : am_len 23 = 12 := rfl
      have l24 : am_len 24 = 480 := rfl
      change (match pc with | 2 => _ | 47 => _ | _ => none) = _ at hI
      split at hI
      · cases hI
        obtain ⟨v, i, rfl, rfl, rfl, e1, rfl⟩ := hi
        by_cases hz : (12 : Int32) ≤ i
        · skip
          repeat' (first | apply And.intro | exact rfl | (intro hx; with_reducible exact absurd hz hx) | intro hx | (refine Exists.intro _ (And.intro rfl ?_)))
          all_goals try first | (with_reducible change am_tI _ _) | (change Ret _ _) | (change Ret _ _ _) | (change Exists _)
          all_goals try dsimp only at *
          all_goals try (with_reducible exact absurd ‹(1000 : Int64) = 0› am_z1000)
          all_goals exact h _
        · have hz2 := hz
          simp only [i_le, Int32.reduceToInt] at hz2
          repeat' (first | apply And.intro | exact rfl | (intro hx; with_reducible exact absurd hx hz) | intro hx | (refine Exists.intro _ (And.intro rfl ?_)))
          all_goals try first | (with_reducible change am_tI _ _) | (change Ret _ _) | (change Ret _ _ _) | (change Exists _)
          all_goals try dsimp only at *
          all_goals try (with_reducible exact absurd ‹(1000 : Int64) = 0› am_z1000)
          all_goals first
            | (with_reducible exact h _)
            | omega
            | (rw [l22]; omega)
            | (rw [l23]; omega)
            | exact h _
            | exact ⟨_, am_lt_r (by simp only [Int32.reduceToInt]; omega), _, _, _, rfl, rfl, rfl, ⟨e1, by omega⟩, by decide, rfl⟩
            | skip
      · cases hI
        obtain ⟨v, i, y, rfl, rfl, rfl, ⟨e1, e2⟩, e3, rfl⟩ := hi
        have hi := i_inc (x := i) (by omega) (by omega)
        by_cases hz : (40 : Int32) ≤ y
        · skip
          repeat' (first | apply And.intro | exact rfl | (intro hx; with_reducible exact absurd hz hx) | intro hx | (refine Exists.intro _ (And.intro rfl ?_)))
          all_goals try first | (with_reducible change am_tI _ _) | (change Ret _ _) | (change Ret _ _ _) | (change Exists _)
          all_goals try dsimp only at *
          all_goals try (with_reducible exact absurd ‹(1000 : Int64) = 0› am_z1000)
          exact ⟨_, am_lt_l (by omega), _, _, rfl, rfl, rfl, by omega, rfl⟩
        · have hz2 := hz
          simp only [i_le, Int32.reduceToInt] at hz2
          have hy := i_inc (x := y) (by omega) (by omega)
          have ei := g_40 (n := 12) (by decide) (a := i) (y := y) ⟨e1, by omega⟩ ⟨e3, by omega⟩
          repeat' (first | apply And.intro | exact rfl | (intro hx; with_reducible exact absurd hx hz) | intro hx | (refine Exists.intro _ (And.intro rfl ?_)))
          all_goals try first | (with_reducible change am_tI _ _) | (change Ret _ _) | (change Ret _ _ _) | (change Exists _)
          all_goals try dsimp only at *
          all_goals try (with_reducible exact absurd ‹(1000 : Int64) = 0› am_z1000)
          all_goals first
            | omega
            | (rw [l24]; omega)
            | exact ⟨_, am_lt_r (by omega), _, _, _, rfl, rfl, rfl, ⟨e1, e2⟩, by omega, rfl⟩
            | skip
      · cases hI
    · exact h.elim
def rwX7_loan : List dz_r := [(0, .aload_n 0, 1), (1, .iload_n 1, 1), (2, .invokevirtual 52, 3), (5, .ifCond .eq 30, 3), (8, .iload_n 2, 1), (9, .invokestatic 98, 3), (12, .ifCond .eq 23, 3), (15, .iload_n 3, 1), (16, .invokestatic 34, 3), (19, .ifCond .eq 16, 3), (22, .iload 4, 2), (24, .invokestatic 79, 3), (27, .ifCond .eq 8, 3), (30, .iload 4, 2), (32, .ifCond .ne 6, 3), (35, .bipush (-2), 2), (37, .ireturn, 1), (38, .aload_n 0, 1), (39, .getfield 27, 3), (42, .getfield 122, 3), (45, .astore 6, 2), (47, .aload 6, 2), (49, .getfield 108, 3), (52, .bipush 30, 2), (54, .if_icmp .lt 6, 3), (57, .bipush (-4), 2), (59, .ireturn, 1), (60, .aload 6, 2), (62, .iload_n 1, 1), (63, .iload_n 2, 1), (64, .iload_n 3, 1), (65, .invokevirtual 125, 3), (68, .istore 7, 2), (70, .aload 6, 2), (72, .iload 7, 2), (74, .iconst 3, 1), (75, .iload 4, 2), (77, .invokevirtual 128, 3), (80, .aload 6, 2), (82, .iload 7, 2), (84, .iconst 4, 1), (85, .iload 5, 2), (87, .ifCond .eq 7, 3), (90, .iconst 1, 1), (91, .goto 4, 3), (94, .iconst 0, 1), (95, .invokevirtual 128, 3), (98, .aload 6, 2), (100, .iload 7, 2), (102, .iconst 5, 1), (103, .iconst (-1), 1), (104, .invokevirtual 128, 3), (107, .aload 6, 2), (109, .iload 7, 2), (111, .bipush 6, 2), (113, .iconst (-1), 1), (114, .invokevirtual 128, 3), (117, .aload 6, 2), (119, .iload 7, 2), (121, .bipush 7, 2), (123, .iconst (-1), 1), (124, .invokevirtual 128, 3), (127, .aload_n 0, 1), (128, .getfield 27, 3), (131, .getfield 132, 3), (134, .iload 7, 2), (136, .bipush 40, 2), (138, .imul, 1), (139, .iload 7, 2), (141, .bipush 40, 2), (143, .imul, 1), (144, .bipush 39, 2), (146, .iadd, 1), (147, .iload_n 2, 1), (148, .invokestatic 66, 3), (151, .iload 7, 2), (153, .ireturn, 1)]
theorem dzX7_loan : dz cX7_loan rwX7_loan := dz_all 0 (by decide +kernel)
def kX7_loan (live : am_E) (Ret : am_R) : am_code := [(0, am_aload 0 1), (1, am_iload 1 2), (2, am_callV live 7 1 TX7_isPerson 5), (5, am_if1 (fun x => x = 0) 35 8), (8, am_iload 2 9), (9, am_callS live 1 TX7_isPlan 12), (12, am_if1 (fun x => x = 0) 35 15), (15, am_iload 3 16), (16, am_callS live 1 TX7_isYear 19), (19, am_if1 (fun x => x = 0) 35 22), (22, am_iload 4 24), (24, am_callS live 1 TX7_isPence 27), (27, am_if1 (fun x => x = 0) 35 30), (30, am_iload 4 32), (32, am_if1 (fun x => x = 0) 35 38), (35, am_const (.int (-2)) 37), (37, am_retI Ret), (38, am_aload 0 39), (39, am_getR live 7 0 42), (42, am_getR live 0 4 45), (45, am_astore 6 8 47), (47, am_aload 6 49), (49, am_getI live 3 2 52), (52, am_const (.int 30) 54), (54, am_if2 (fun x y => x < y) 60 57), (57, am_const (.int (-4)) 59), (59, am_retI Ret), (60, am_aload 6 62), (62, am_iload 1 63), (63, am_iload 2 64), (64, am_iload 3 65), (65, am_callV live 3 3 TX3_add 68), (68, am_istore 7 8 70), (70, am_aload 6 72), (72, am_iload 7 74), (74, am_const (.int 3) 75), (75, am_iload 4 77), (77, am_callV live 3 3 TX3_put 80), (80, am_aload 6 82), (82, am_iload 7 84), (84, am_const (.int 4) 85), (85, am_iload 5 87), (87, am_if1 (fun x => x = 0) 94 90), (90, am_const (.int 1) 91), (91, am_goto 95), (94, am_const (.int 0) 95), (95, am_callV live 3 3 TX3_put 98), (98, am_aload 6 100), (100, am_iload 7 102), (102, am_const (.int 5) 103), (103, am_const (.int (-1)) 104), (104, am_callV live 3 3 TX3_put 107), (107, am_aload 6 109), (109, am_iload 7 111), (111, am_const (.int 6) 113), (113, am_const (.int (-1)) 114), (114, am_callV live 3 3 TX3_put 117), (117, am_aload 6 119), (119, am_iload 7 121), (121, am_const (.int 7) 123), (123, am_const (.int (-1)) 124), (124, am_callV live 3 3 TX3_put 127), (127, am_aload 0 128), (128, am_getR live 7 0 131), (131, am_getR live 0 6 134), (134, am_iload 7 136), (136, am_const (.int 40) 138), (138, am_i2 (fun x y => x * y) 139), (139, am_iload 7 141), (141, am_const (.int 40) 143), (143, am_i2 (fun x y => x * y) 144), (144, am_const (.int 39) 146), (146, am_i2 (fun x y => x + y) 147), (147, am_iload 2 148), (148, am_callS live 4 TX7_lay 151), (151, am_iload 7 153), (153, am_retI Ret)]
theorem koX7_loan (live : am_E) (Ret : am_R) : ∀ q ∈ kX7_loan live Ret, am_ok RX7 cX7_loan 8 (some .int) 2 47 live Ret q.1 q.2 :=
  am_kz dzX7_loan <|
  am_kd (fun d => ak_aload_n d rfl rfl) <|
  am_kd (fun d => ak_iload_n d rfl rfl) <|
  am_kd (fun d => ak_callV (C := RX7) (F := TX7) (N := 4) metX7_isPerson rfl ⟨rfl, hy_X7_isPerson⟩ (am_w5 wd_414 wd_416 wd_0 wd_58 wd_417) (by decide) d rfl) <|
  am_kd (fun d => ak_if_eq d (by decide +kernel) rfl) <|
  am_kd (fun d => ak_iload_n d rfl rfl) <|
  am_kd (fun d => ak_callS metX7_isPlan ⟨rfl, hy_X7_isPlan⟩ (am_w4 wd_466 wd_467 wd_58 wd_468) (by decide) d rfl) <|
  am_kd (fun d => ak_if_eq d (by decide +kernel) rfl) <|
  am_kd (fun d => ak_iload_n d rfl rfl) <|
  am_kd (fun d => ak_callS metX7_isYear ⟨rfl, hy_X7_isYear⟩ (am_w4 wd_407 wd_408 wd_58 wd_409) (by decide) d rfl) <|
  am_kd (fun d => ak_if_eq d (by decide +kernel) rfl) <|
  am_kd (fun d => ak_iload d rfl) <|
  am_kd (fun d => ak_callS metX7_isPence ⟨rfl, hy_X7_isPence⟩ (am_w4 wd_446 wd_447 wd_58 wd_448) (by decide) d rfl) <|
  am_kd (fun d => ak_if_eq d (by decide +kernel) rfl) <|
  am_kd (fun d => ak_iload d rfl) <|
  am_kd (fun d => ak_if_ne d (by decide +kernel) rfl) <|
  am_kd (fun d => ak_bipush d (by decide +kernel) rfl) <|
  am_kd (fun d => ak_retI d) <|
  am_kd (fun d => ak_aload_n d rfl rfl) <|
  am_kd (fun d => ak_getR (C := RX7) (T := TX7) (N := 4) rfl inX7w (by decide) rfl rfl rfl wd_390 d rfl) <|
  am_kd (fun d => ak_getR (C := RX0) (T := TX0) (N := 13) rfl inX0w (by decide) rfl rfl rfl wd_207 d rfl) <|
  am_kd (fun d => ak_astore d rfl) <|
  am_kd (fun d => ak_aload d rfl) <|
  am_kd (fun d => ak_getI (C := RX3) (T := TX3) (N := 3) rfl inX3w (by decide) rfl rfl rfl wd_152 d rfl) <|
  am_kd (fun d => ak_bipush d (by decide +kernel) rfl) <|
  am_kd (fun d => ak_icmp_lt d (by decide +kernel) rfl) <|
  am_kd (fun d => ak_bipush d (by decide +kernel) rfl) <|
  am_kd (fun d => ak_retI d) <|
  am_kd (fun d => ak_aload d rfl) <|
  am_kd (fun d => ak_iload_n d rfl rfl) <|
  am_kd (fun d => ak_iload_n d rfl rfl) <|
  am_kd (fun d => ak_iload_n d rfl rfl) <|
  am_kd (fun d => ak_callV (C := RX3) (F := TX3) (N := 3) metX3_add rfl ⟨rfl, hy_X3_add⟩ (am_w5 wd_514 wd_481 wd_482 wd_64 wd_483) (by decide) d rfl) <|
  am_kd (fun d => ak_istore d rfl) <|
  am_kd (fun d => ak_aload d rfl) <|
  am_kd (fun d => ak_iload d rfl) <|
  am_kd (fun d => ak_iconst d (by decide +kernel) rfl) <|
  am_kd (fun d => ak_iload d rfl) <|
  am_kd (fun d => ak_callV (C := RX3) (F := TX3) (N := 3) metX3_put rfl ⟨rfl, hy_X3_put⟩ (am_w5 wd_515 wd_485 wd_486 wd_64 wd_487) (by decide) d rfl) <|
  am_kd (fun d => ak_aload d rfl) <|
  am_kd (fun d => ak_iload d rfl) <|
  am_kd (fun d => ak_iconst d (by decide +kernel) rfl) <|
  am_kd (fun d => ak_iload d rfl) <|
  am_kd (fun d => ak_if_eq d (by decide +kernel) rfl) <|
  am_kd (fun d => ak_iconst d (by decide +kernel) rfl) <|
  am_kd (fun d => ak_goto d (by decide +kernel)) <|
  am_kd (fun d => ak_iconst d (by decide +kernel) rfl) <|
  am_kd (fun d => ak_callV (C := RX3) (F := TX3) (N := 3) metX3_put rfl ⟨rfl, hy_X3_put⟩ (am_w5 wd_515 wd_485 wd_486 wd_64 wd_487) (by decide) d rfl) <|
  am_kd (fun d => ak_aload d rfl) <|
  am_kd (fun d => ak_iload d rfl) <|
  am_kd (fun d => ak_iconst d (by decide +kernel) rfl) <|
  am_kd (fun d => ak_iconst d (by decide +kernel) rfl) <|
  am_kd (fun d => ak_callV (C := RX3) (F := TX3) (N := 3) metX3_put rfl ⟨rfl, hy_X3_put⟩ (am_w5 wd_515 wd_485 wd_486 wd_64 wd_487) (by decide) d rfl) <|
  am_kd (fun d => ak_aload d rfl) <|
  am_kd (fun d => ak_iload d rfl) <|
  am_kd (fun d => ak_bipush d (by decide +kernel) rfl) <|
  am_kd (fun d => ak_iconst d (by decide +kernel) rfl) <|
  am_kd (fun d => ak_callV (C := RX3) (F := TX3) (N := 3) metX3_put rfl ⟨rfl, hy_X3_put⟩ (am_w5 wd_515 wd_485 wd_486 wd_64 wd_487) (by decide) d rfl) <|
  am_kd (fun d => ak_aload d rfl) <|
  am_kd (fun d => ak_iload d rfl) <|
  am_kd (fun d => ak_bipush d (by decide +kernel) rfl) <|
  am_kd (fun d => ak_iconst d (by decide +kernel) rfl) <|
  am_kd (fun d => ak_callV (C := RX3) (F := TX3) (N := 3) metX3_put rfl ⟨rfl, hy_X3_put⟩ (am_w5 wd_515 wd_485 wd_486 wd_64 wd_487) (by decide) d rfl) <|
  am_kd (fun d => ak_aload_n d rfl rfl) <|
  am_kd (fun d => ak_getR (C := RX7) (T := TX7) (N := 4) rfl inX7w (by decide) rfl rfl rfl wd_390 d rfl) <|
  am_kd (fun d => ak_getR (C := RX0) (T := TX0) (N := 13) rfl inX0w (by decide) rfl rfl rfl wd_211 d rfl) <|
  am_kd (fun d => ak_iload d rfl) <|
  am_kd (fun d => ak_bipush d (by decide +kernel) rfl) <|
  am_kd (fun d => ak_imul d rfl) <|
  am_kd (fun d => ak_iload d rfl) <|
  am_kd (fun d => ak_bipush d (by decide +kernel) rfl) <|
  am_kd (fun d => ak_imul d rfl) <|
  am_kd (fun d => ak_bipush d (by decide +kernel) rfl) <|
  am_kd (fun d => ak_iadd d rfl) <|
  am_kd (fun d => ak_iload_n d rfl rfl) <|
  am_kd (fun d => ak_callS metX7_lay ⟨rfl, hy_X7_lay⟩ (am_w4 wd_424 wd_425 wd_58 wd_426) (by decide) d rfl) <|
  am_kd (fun d => ak_iload d rfl) <|
  am_kd (fun d => ak_retI d) <| am_kdn
def c_loan (M : am_M) (p pl y s fe : Int32) : Int32 × am_M := if 0 ≤ p ∧ p < M.1 21 7 then (if 0 ≤ pl ∧ pl < 5 then (if 0 ≤ y ∧ y < 40 then (if 0 ≤ s ∧ s ≤ 10000000 then (if s = 0 then ((-2 : Int32), M) else (if M.1 33 2 < 30 then (M.1 33 2 + 1 - 1, am_lay (am_rput (am_rput (am_rput (am_rput (am_rput (am_radd M 33 34 p pl y) 33 34 (M.1 33 2 + 1 - 1) 3 s) 33 34 (M.1 33 2 + 1 - 1) 4 fe) 33 34 (M.1 33 2 + 1 - 1) 5 (-1)) 33 34 (M.1 33 2 + 1 - 1) 6 (-1)) 33 34 (M.1 33 2 + 1 - 1) 7 (-1)) 37 (max ((M.1 33 2 + 1 - 1) * 40).toInt 0) (min ((M.1 33 2 + 1 - 1) * 40 + 39).toInt ((am_len 37 : Int) - 1)) pl) else ((-4 : Int32), M))) else ((-2 : Int32), M)) else ((-2 : Int32), M)) else ((-2 : Int32), M)) else ((-2 : Int32), M)
def TX7_loan : am_T := fun live as M R => match as with
  | [.ref n, .int p, .int pl, .int y, .int s, .int fe] => am_mn live ∧ n = 0 ∧ (g_hI M ∧ g_rI M) ∧ (fe = 0 ∨ fe = 1) ∧ R (some (.int (c_loan M p pl y s fe).1)) (c_loan M p pl y s fe).2
  | _ => False
set_option maxRecDepth 100000 in
set_option maxHeartbeats 4000000 in
theorem metX7_loan : am_Met yX7_loan cX7_loan 8 (some .int) (2) (47) TX7_loan := by
  refine am_met (own := RX7) (by decide +kernel) rfl kX7_loan koX7_loan 150 (fun _ _ _ _ _ => none) (fun live as M Ret h => ?_) (fun _ _ _ _ _ _ _ _ hI => by cases hI)
  unfold TX7_loan at h
  split at h
  · next n p pl y s fe =>
    refine ⟨Nat.le_of_ble_eq_true rfl, ?_⟩
    change am_wp _ _ _ _ [(0, Value.ref n), (1, Value.int p), (2, Value.int pl), (3, Value.int y), (4, Value.int s), (5, Value.int fe)] _ _
    obtain ⟨hmn, rfl, ⟨hH, hR⟩, hfe, h⟩ := h
    have hmn2 := hmn
    obtain ⟨i1, i2, rfl⟩ := hmn2
    by_cases z0 : 0 ≤ p ∧ p < M.1 21 7
    rotate_left
    · skip
      have q0 : (if 0 ≤ p ∧ p < M.1 21 7 then (1 : Int32) else 0) = 0 := if_neg z0
      have e : c_loan M p pl y s fe = ((-2 : Int32), M) := by unfold c_loan; rw [if_neg z0]
      rw [e] at h
      repeat' (first | (with_reducible exact hmn) | (with_reducible exact h) | apply And.intro | exact rfl | (intro hx; with_reducible exact absurd q0 hx) | (intro hx; exact absurd hx (by decide)) | (intro hx; exact absurd (by decide) hx) | decide | intro hx | (refine Exists.intro _ (And.intro rfl ?_)))
      all_goals try first | (with_reducible change am_tI _ _) | (change Ret _ _) | (change Ret _ _ _) | (change Exists _)
      all_goals try dsimp only at *
      all_goals try (with_reducible exact absurd ‹(1000 : Int64) = 0› am_z1000)
      all_goals first | exact h | skip
    · skip
      have q0 : ¬ ((if 0 ≤ p ∧ p < M.1 21 7 then (1 : Int32) else 0) = 0) := by rw [if_pos z0]; decide
      by_cases z1 : 0 ≤ pl ∧ pl < 5
      rotate_left
      · skip
        have q1 : (if 0 ≤ pl ∧ pl < 5 then (1 : Int32) else 0) = 0 := if_neg z1
        have e : c_loan M p pl y s fe = ((-2 : Int32), M) := by unfold c_loan; rw [if_pos z0, if_neg z1]
        rw [e] at h
        repeat' (first | (with_reducible exact hmn) | (with_reducible exact h) | apply And.intro | exact rfl | (intro hx; with_reducible exact absurd hx q0) | (intro hx; with_reducible exact absurd q1 hx) | (intro hx; exact absurd hx (by decide)) | (intro hx; exact absurd (by decide) hx) | decide | intro hx | (refine Exists.intro _ (And.intro rfl ?_)))
        all_goals try first | (with_reducible change am_tI _ _) | (change Ret _ _) | (change Ret _ _ _) | (change Exists _)
        all_goals try dsimp only at *
        all_goals try (with_reducible exact absurd ‹(1000 : Int64) = 0› am_z1000)
        all_goals first | exact h | skip
      · skip
        have q1 : ¬ ((if 0 ≤ pl ∧ pl < 5 then (1 : Int32) else 0) = 0) := by rw [if_pos z1]; decide
        by_cases z2 : 0 ≤ y ∧ y < 40
        rotate_left
        · skip
          have q2 : (if 0 ≤ y ∧ y < 40 then (1 : Int32) else 0) = 0 := if_neg z2
          have e : c_loan M p pl y s fe = ((-2 : Int32), M) := by unfold c_loan; rw [if_pos z0, if_pos z1, if_neg z2]
          rw [e] at h
          repeat' (first | (with_reducible exact hmn) | (with_reducible exact h) | apply And.intro | exact rfl | (intro hx; with_reducible exact absurd hx q0) | (intro hx; with_reducible exact absurd hx q1) | (intro hx; with_reducible exact absurd q2 hx) | (intro hx; exact absurd hx (by decide)) | (intro hx; exact absurd (by decide) hx) | decide | intro hx | (refine Exists.intro _ (And.intro rfl ?_)))
          all_goals try first | (with_reducible change am_tI _ _) | (change Ret _ _) | (change Ret _ _ _) | (change Exists _)
          all_goals try dsimp only at *
          all_goals try (with_reducible exact absurd ‹(1000 : Int64) = 0› am_z1000)
          all_goals first | exact h | skip
        · skip
          have q2 : ¬ ((if 0 ≤ y ∧ y < 40 then (1 : Int32) else 0) = 0) := by rw [if_pos z2]; decide
          by_cases z3 : 0 ≤ s ∧ s ≤ 10000000
          rotate_left
          · skip
            have q3 : (if 0 ≤ s ∧ s ≤ 10000000 then (1 : Int32) else 0) = 0 := if_neg z3
            have e : c_loan M p pl y s fe = ((-2 : Int32), M) := by unfold c_loan; rw [if_pos z0, if_pos z1, if_pos z2, if_neg z3]
            rw [e] at h
            repeat' (first | (with_reducible exact hmn) | (with_reducible exact h) | apply And.intro | exact rfl | (intro hx; with_reducible exact absurd hx q0) | (intro hx; with_reducible exact absurd hx q1) | (intro hx; with_reducible exact absurd hx q2) | (intro hx; with_reducible exact absurd q3 hx) | (intro hx; exact absurd hx (by decide)) | (intro hx; exact absurd (by decide) hx) | decide | intro hx | (refine Exists.intro _ (And.intro rfl ?_)))
            all_goals try first | (with_reducible change am_tI _ _) | (change Ret _ _) | (change Ret _ _ _) | (change Exists _)
            all_goals try dsimp only at *
            all_goals try (with_reducible exact absurd ‹(1000 : Int64) = 0› am_z1000)
            all_goals first | exact h | skip
          · skip
            have q3 : ¬ ((if 0 ≤ s ∧ s ≤ 10000000 then (1 : Int32) else 0) = 0) := by rw [if_pos z3]; decide
            by_cases z4 : s = 0
            · skip
              have e : c_loan M p pl y s fe = ((-2 : Int32), M) := by unfold c_loan; rw [if_pos z0, if_pos z1, if_pos z2, if_pos z3, if_pos z4]
              rw [e] at h
              repeat' (first | (with_reducible exact hmn) | (with_reducible exact h) | apply And.intro | exact rfl | (intro hx; with_reducible exact absurd hx q0) | (intro hx; with_reducible exact absurd hx q1) | (intro hx; with_reducible exact absurd hx q2) | (intro hx; with_reducible exact absurd hx q3) | (intro hx; with_reducible exact absurd z4 hx) | (intro hx; exact absurd hx (by decide)) | (intro hx; exact absurd (by decide) hx) | decide | intro hx | (refine Exists.intro _ (And.intro rfl ?_)))
              all_goals try first | (with_reducible change am_tI _ _) | (change Ret _ _) | (change Ret _ _ _) | (change Exists _)
              all_goals try dsimp only at *
              all_goals try (with_reducible exact absurd ‹(1000 : Int64) = 0› am_z1000)
              all_goals first | exact h | skip
            · skip
              by_cases z5 : M.1 33 2 < 30
              rotate_left
              · skip
                have y5 : (30 : Int32) ≤ M.1 33 2 := Int32.not_lt.mp z5
                have e : c_loan M p pl y s fe = ((-4 : Int32), M) := by unfold c_loan; rw [if_pos z0, if_pos z1, if_pos z2, if_pos z3, if_neg z4, if_neg z5]
                rw [e] at h
                repeat' (first | (with_reducible exact hmn) | (with_reducible exact h) | apply And.intro | exact rfl | (intro hx; with_reducible exact absurd hx q0) | (intro hx; with_reducible exact absurd hx q1) | (intro hx; with_reducible exact absurd hx q2) | (intro hx; with_reducible exact absurd hx q3) | (intro hx; with_reducible exact absurd hx z4) | (intro hx; with_reducible exact absurd hx z5) | (intro hx; with_reducible exact absurd y5 hx) | (intro hx; exact absurd hx (by decide)) | (intro hx; exact absurd (by decide) hx) | decide | intro hx | (refine Exists.intro _ (And.intro rfl ?_)))
                all_goals try first | (with_reducible change am_tI _ _) | (change Ret _ _) | (change Ret _ _ _) | (change Exists _)
                all_goals try dsimp only at *
                all_goals try (with_reducible exact absurd ‹(1000 : Int64) = 0› am_z1000)
                all_goals first | exact h | skip
              · skip
                have y5 : ¬ (30 : Int32) ≤ M.1 33 2 := Int32.not_le.mpr z5
                have e : c_loan M p pl y s fe = (M.1 33 2 + 1 - 1, am_lay (am_rput (am_rput (am_rput (am_rput (am_rput (am_radd M 33 34 p pl y) 33 34 (M.1 33 2 + 1 - 1) 3 s) 33 34 (M.1 33 2 + 1 - 1) 4 fe) 33 34 (M.1 33 2 + 1 - 1) 5 (-1)) 33 34 (M.1 33 2 + 1 - 1) 6 (-1)) 33 34 (M.1 33 2 + 1 - 1) 7 (-1)) 37 (max ((M.1 33 2 + 1 - 1) * 40).toInt 0) (min ((M.1 33 2 + 1 - 1) * 40 + 39).toInt ((am_len 37 : Int) - 1)) pl) := by unfold c_loan; rw [if_pos z0, if_pos z1, if_pos z2, if_pos z3, if_neg z4, if_pos z5]
                rw [e] at h
                rcases hfe with rfl | rfl
                · skip
                  repeat' (first | (with_reducible exact hmn) | apply And.intro | exact rfl | (intro hx; with_reducible exact absurd hx q0) | (intro hx; with_reducible exact absurd hx q1) | (intro hx; with_reducible exact absurd hx q2) | (intro hx; with_reducible exact absurd hx q3) | (intro hx; with_reducible exact absurd hx z4) | (intro hx; with_reducible exact absurd hx y5) | (intro hx; with_reducible exact absurd z5 hx) | (intro hx; exact absurd hx (by decide)) | (intro hx; exact absurd (by decide) hx) | decide | intro hx | (refine Exists.intro _ (And.intro rfl ?_)))
                  all_goals try first | (with_reducible change am_tI _ _) | (change Ret _ _) | (change Ret _ _ _) | (change Exists _)
                  all_goals try dsimp only at *
                  all_goals try (with_reducible exact absurd ‹(1000 : Int64) = 0› am_z1000)
                  all_goals first | exact h | skip
                · skip
                  repeat' (first | (with_reducible exact hmn) | apply And.intro | exact rfl | (intro hx; with_reducible exact absurd hx q0) | (intro hx; with_reducible exact absurd hx q1) | (intro hx; with_reducible exact absurd hx q2) | (intro hx; with_reducible exact absurd hx q3) | (intro hx; with_reducible exact absurd hx z4) | (intro hx; with_reducible exact absurd hx y5) | (intro hx; with_reducible exact absurd z5 hx) | (intro hx; exact absurd hx (by decide)) | (intro hx; exact absurd (by decide) hx) | decide | intro hx | (refine Exists.intro _ (And.intro rfl ?_)))
                  all_goals try first | (with_reducible change am_tI _ _) | (change Ret _ _) | (change Ret _ _ _) | (change Exists _)
                  all_goals try dsimp only at *
                  all_goals try (with_reducible exact absurd ‹(1000 : Int64) = 0› am_z1000)
                  all_goals first | exact h | skip
  · exact h.elim
theorem hy_X7_runEverybody : yX7_runEverybody.cls ≠ "java/lang/invoke/MethodHandle" ∧ yX7_runEverybody.cls ≠ "java/lang/invoke/VarHandle" ∧ (parseMethodDescriptor yX7_runEverybody.desc).map (fun d => d.parameters.length) = some 2 := ⟨by decide +kernel, by decide +kernel, by decide +kernel⟩
set_option maxRecDepth 100000 in
theorem wd_743 : Cond.methodLink "LearnLoans" 193 yX7_runEverybody ∈ am_ws := am_wt3 (List.mem_of_getElem? (i := 206) (by rfl)) (by decide +kernel)
set_option maxRecDepth 100000 in
theorem wd_745 : Cond.instanceMethod yX7_runEverybody ∈ am_ws := am_wt3 (List.mem_of_getElem? (i := 208) (by rfl)) (by decide +kernel)
set_option maxRecDepth 100000 in
theorem wd_23 : Cond.selects "LearnLoans" yX7_runEverybody yX7_runEverybody ∈ am_ws := am_wsi (List.mem_of_getElem? (i := 23) (by rfl)) (by decide +kernel)
set_option maxRecDepth 100000 in
theorem wd_746 : Cond.code yX7_runEverybody cX7_runEverybody 4 none ∈ am_ws := am_wt3 (List.mem_of_getElem? (i := 209) (by rfl)) (by decide +kernel)
theorem hy_X0_promised : yX0_promised.cls ≠ "java/lang/invoke/MethodHandle" ∧ yX0_promised.cls ≠ "java/lang/invoke/VarHandle" ∧ (parseMethodDescriptor yX0_promised.desc).map (fun d => d.parameters.length) = some 2 := ⟨by decide +kernel, by decide +kernel, by decide +kernel⟩
set_option maxRecDepth 100000 in
theorem wd_747 : Cond.methodLink "LearnLoans" 196 yX0_promised ∈ am_ws := am_wt3 (List.mem_of_getElem? (i := 210) (by rfl)) (by decide +kernel)
set_option maxRecDepth 100000 in
theorem wd_748 : Cond.instanceMethod yX0_promised ∈ am_ws := am_wt3 (List.mem_of_getElem? (i := 211) (by rfl)) (by decide +kernel)
set_option maxRecDepth 100000 in
theorem wd_749 : Cond.selects "LearnLoans$House" yX0_promised yX0_promised ∈ am_ws := am_wt3 (List.mem_of_getElem? (i := 212) (by rfl)) (by decide +kernel)
set_option maxRecDepth 100000 in
theorem wd_750 : Cond.code yX0_promised cX0_promised 6 (some .long) ∈ am_ws := am_wt3 (List.mem_of_getElem? (i := 213) (by rfl)) (by decide +kernel)
set_option maxRecDepth 100000 in
theorem wd_751 : Cond.methodLink "LearnLoans" 200 Lib.MathLoose.max_long.x ∈ am_ws := am_wt3 (List.mem_of_getElem? (i := 214) (by rfl)) (by decide +kernel)
def rwX7_book : List dz_r := [(0, .iload_n 1, 1), (1, .iconst 0, 1), (2, .iconst 3, 1), (3, .invokestatic 55, 3), (6, .ifCond .eq 27, 3), (9, .iload_n 2, 1), (10, .invokestatic 34, 3), (13, .ifCond .eq 20, 3), (16, .iload_n 3, 1), (17, .invokestatic 34, 3), (20, .ifCond .eq 13, 3), (23, .iload 4, 2), (25, .iconst 0, 1), (26, .iconst 1, 1), (27, .invokestatic 55, 3), (30, .ifCond .ne 7, 3), (33, .ldc2_w 149, 3), (36, .lreturn, 1), (37, .aload_n 0, 1), (38, .iload_n 2, 1), (39, .iload_n 3, 1), (40, .invokevirtual 193, 3), (43, .lconst 0, 1), (44, .lstore 5, 2), (46, .iconst 0, 1), (47, .istore 7, 2), (49, .iload 7, 2), (51, .aload_n 0, 1), (52, .getfield 27, 3), (55, .getfield 122, 3), (58, .getfield 108, 3), (61, .if_icmp .ge 46, 3), (64, .aload_n 0, 1), (65, .getfield 27, 3), (68, .getfield 122, 3), (71, .iload 7, 2), (73, .bipush 6, 2), (75, .invokevirtual 138, 3), (78, .iload_n 1, 1), (79, .if_icmp .ne 22, 3), (82, .lload 5, 2), (84, .aload_n 0, 1), (85, .getfield 20, 3), (88, .getfield 158, 3), (91, .sipush 150, 3), (94, .iload 7, 2), (96, .iadd, 1), (97, .laload, 1), (98, .ladd, 1), (99, .lstore 5, 2), (101, .iinc 7 1, 3), (104, .goto (-55), 3), (107, .iload 4, 2), (109, .ifCond .ne 8, 3), (112, .lload 5, 2), (114, .goto 19, 3), (117, .lconst 0, 1), (118, .aload_n 0, 1), (119, .getfield 27, 3), (122, .iload_n 1, 1), (123, .iload_n 2, 1), (124, .invokevirtual 196, 3), (127, .lload 5, 2), (129, .lsub, 1), (130, .invokestatic 200, 3), (133, .lreturn, 1)]
theorem dzX7_book : dz cX7_book rwX7_book := dz_all 0 (by decide +kernel)
def kX7_book (live : am_E) (Ret : am_R) : am_code := [(0, am_iload 1 1), (1, am_const (.int 0) 2), (2, am_const (.int 3) 3), (3, am_callS live 3 TX7_within 6), (6, am_if1 (fun x => x = 0) 33 9), (9, am_iload 2 10), (10, am_callS live 1 TX7_isYear 13), (13, am_if1 (fun x => x = 0) 33 16), (16, am_iload 3 17), (17, am_callS live 1 TX7_isYear 20), (20, am_if1 (fun x => x = 0) 33 23), (23, am_iload 4 25), (25, am_const (.int 0) 26), (26, am_const (.int 1) 27), (27, am_callS live 3 TX7_within 30), (30, am_if1 (fun x => x = 0) 33 37), (33, am_const (.long (-2)) 36), (36, am_retL Ret), (37, am_aload 0 38), (38, am_iload 2 39), (39, am_iload 3 40), (40, am_callV live 7 2 TX7_runEverybody 43), (43, am_const (.long 0) 44), (44, am_lstore 5 8 46), (46, am_const (.int 0) 47), (47, am_istore 7 8 49), (49, am_iload 7 51), (51, am_aload 0 52), (52, am_getR live 7 0 55), (55, am_getR live 0 4 58), (58, am_getI live 3 2 61), (61, am_if2 (fun x y => y ≤ x) 107 64), (64, am_aload 0 65), (65, am_getR live 7 0 68), (68, am_getR live 0 4 71), (71, am_iload 7 73), (73, am_const (.int 6) 75), (75, am_callV live 3 2 TX3_at 78), (78, am_iload 1 79), (79, am_if2 (fun x y => x = y) 82 101), (82, am_lload 5 84), (84, am_aload 0 85), (85, am_getR live 7 2 88), (88, am_getR live 4 2 91), (91, am_const (.int 150) 94), (94, am_iload 7 96), (96, am_i2 (fun x y => x + y) 97), (97, am_lald live 1 98), (98, am_l2 (fun x y => x + y) 99), (99, am_lstore 5 8 101), (101, am_iinc 7 8 1 104), (104, am_goto 49), (107, am_iload 4 109), (109, am_if1 (fun x => x = 0) 112 117), (112, am_lload 5 114), (114, am_goto 133), (117, am_const (.long 0) 118), (118, am_aload 0 119), (119, am_getR live 7 0 122), (122, am_iload 1 123), (123, am_iload 2 124), (124, am_callV live 0 2 TX0_promised 127), (127, am_lload 5 129), (129, am_l2 (fun x y => x - y) 130), (130, am_mathl (fun x y => if y < x then x else y) 147 133), (133, am_retL Ret)]
theorem koX7_book (live : am_E) (Ret : am_R) : ∀ q ∈ kX7_book live Ret, am_ok RX7 cX7_book 8 (some .long) 6 147 live Ret q.1 q.2 :=
  am_kz dzX7_book <|
  am_kd (fun d => ak_iload_n d rfl rfl) <|
  am_kd (fun d => ak_iconst d (by decide +kernel) rfl) <|
  am_kd (fun d => ak_iconst d (by decide +kernel) rfl) <|
  am_kd (fun d => ak_callS metX7_within ⟨rfl, hy_X7_within⟩ (am_w4 wd_418 wd_419 wd_58 wd_420) (by decide) d rfl) <|
  am_kd (fun d => ak_if_eq d (by decide +kernel) rfl) <|
  am_kd (fun d => ak_iload_n d rfl rfl) <|
  am_kd (fun d => ak_callS metX7_isYear ⟨rfl, hy_X7_isYear⟩ (am_w4 wd_407 wd_408 wd_58 wd_409) (by decide) d rfl) <|
  am_kd (fun d => ak_if_eq d (by decide +kernel) rfl) <|
  am_kd (fun d => ak_iload_n d rfl rfl) <|
  am_kd (fun d => ak_callS metX7_isYear ⟨rfl, hy_X7_isYear⟩ (am_w4 wd_407 wd_408 wd_58 wd_409) (by decide) d rfl) <|
  am_kd (fun d => ak_if_eq d (by decide +kernel) rfl) <|
  am_kd (fun d => ak_iload d rfl) <|
  am_kd (fun d => ak_iconst d (by decide +kernel) rfl) <|
  am_kd (fun d => ak_iconst d (by decide +kernel) rfl) <|
  am_kd (fun d => ak_callS metX7_within ⟨rfl, hy_X7_within⟩ (am_w4 wd_418 wd_419 wd_58 wd_420) (by decide) d rfl) <|
  am_kd (fun d => ak_if_ne d (by decide +kernel) rfl) <|
  am_kd (fun d => ak_ldc2 wd_545 d rfl) <|
  am_kd (fun d => ak_retL d) <|
  am_kd (fun d => ak_aload_n d rfl rfl) <|
  am_kd (fun d => ak_iload_n d rfl rfl) <|
  am_kd (fun d => ak_iload_n d rfl rfl) <|
  am_kd (fun d => ak_callV (C := RX7) (F := TX7) (N := 4) metX7_runEverybody rfl ⟨rfl, hy_X7_runEverybody⟩ (am_w5 wd_743 wd_745 wd_23 wd_58 wd_746) (by decide) d rfl) <|
  am_kd (fun d => ak_lconst d (by decide +kernel) rfl) <|
  am_kd (fun d => ak_lstore d rfl) <|
  am_kd (fun d => ak_iconst d (by decide +kernel) rfl) <|
  am_kd (fun d => ak_istore d rfl) <|
  am_kd (fun d => ak_iload d rfl) <|
  am_kd (fun d => ak_aload_n d rfl rfl) <|
  am_kd (fun d => ak_getR (C := RX7) (T := TX7) (N := 4) rfl inX7w (by decide) rfl rfl rfl wd_390 d rfl) <|
  am_kd (fun d => ak_getR (C := RX0) (T := TX0) (N := 13) rfl inX0w (by decide) rfl rfl rfl wd_207 d rfl) <|
  am_kd (fun d => ak_getI (C := RX3) (T := TX3) (N := 3) rfl inX3w (by decide) rfl rfl rfl wd_152 d rfl) <|
  am_kd (fun d => ak_icmp_ge d (by decide +kernel) rfl) <|
  am_kd (fun d => ak_aload_n d rfl rfl) <|
  am_kd (fun d => ak_getR (C := RX7) (T := TX7) (N := 4) rfl inX7w (by decide) rfl rfl rfl wd_390 d rfl) <|
  am_kd (fun d => ak_getR (C := RX0) (T := TX0) (N := 13) rfl inX0w (by decide) rfl rfl rfl wd_207 d rfl) <|
  am_kd (fun d => ak_iload d rfl) <|
  am_kd (fun d => ak_bipush d (by decide +kernel) rfl) <|
  am_kd (fun d => ak_callV (C := RX3) (F := TX3) (N := 3) metX3_at rfl ⟨rfl, hy_X3_at⟩ (am_w5 wd_524 wd_503 wd_504 wd_64 wd_505) (by decide) d rfl) <|
  am_kd (fun d => ak_iload_n d rfl rfl) <|
  am_kd (fun d => ak_icmp_ne d (by decide +kernel) rfl) <|
  am_kd (fun d => ak_lload d rfl) <|
  am_kd (fun d => ak_aload_n d rfl rfl) <|
  am_kd (fun d => ak_getR (C := RX7) (T := TX7) (N := 4) rfl inX7w (by decide) rfl rfl rfl wd_392 d rfl) <|
  am_kd (fun d => ak_getR (C := RX4) (T := TX4) (N := 19) rfl inX4w (by decide) rfl rfl rfl wd_298 d rfl) <|
  am_kd (fun d => ak_sipush d (by decide +kernel) rfl) <|
  am_kd (fun d => ak_iload d rfl) <|
  am_kd (fun d => ak_iadd d rfl) <|
  am_kd (fun d => ak_lald (t := 1) (fun _ => rfl) rfl d rfl) <|
  am_kd (fun d => ak_ladd d rfl) <|
  am_kd (fun d => ak_lstore d rfl) <|
  am_kd (fun d => ak_iinc d (by decide +kernel) rfl) <|
  am_kd (fun d => ak_goto d (by decide +kernel)) <|
  am_kd (fun d => ak_iload d rfl) <|
  am_kd (fun d => ak_if_ne d (by decide +kernel) rfl) <|
  am_kd (fun d => ak_lload d rfl) <|
  am_kd (fun d => ak_goto d (by decide +kernel)) <|
  am_kd (fun d => ak_lconst d (by decide +kernel) rfl) <|
  am_kd (fun d => ak_aload_n d rfl rfl) <|
  am_kd (fun d => ak_getR (C := RX7) (T := TX7) (N := 4) rfl inX7w (by decide) rfl rfl rfl wd_390 d rfl) <|
  am_kd (fun d => ak_iload_n d rfl rfl) <|
  am_kd (fun d => ak_iload_n d rfl rfl) <|
  am_kd (fun d => ak_callV (C := RX0) (F := TX0) (N := 13) metX0_promised rfl ⟨rfl, hy_X0_promised⟩ (am_w5 wd_747 wd_748 wd_749 wd_61 wd_750) (by decide) d rfl) <|
  am_kd (fun d => ak_lload d rfl) <|
  am_kd (fun d => ak_lsub d rfl) <|
  am_kd (fun d => ak_lmax (am_w4 wd_751 wd_611 wd_68 wd_612) (by decide) d rfl) <|
  am_kd (fun d => ak_retL d) <| am_kdn
def TX7_book : am_T := fun live as M R => match as with
  | [.ref n, .int b, .int y, .int k, .int w] => am_mn live ∧ n = 0 ∧ (g_hI M ∧ g_rI M) ∧ ∀ v M', g_sc M M' → g_rI M' → R (some (.long v)) M'
  | _ => False
def JX7_book : am_E → List Value → am_M → am_R → am_inv := fun live as M0 _ pc => match as with
  | [.ref n, .int b, .int y, .int k, .int w] => (match pc with
    | 49 => some ([0, 1, 2, 4, 5, 7], fun u L st M => ∃ (v : Int64) (i : Int32), L = [(0, .ref 0), (1, .int b), (2, .int y), (4, .int w), (5, .long v), (7, .int i)] ∧ st = [] ∧ u = ((31 - i.toInt).toNat, 0) ∧ 0 ≤ i.toInt ∧ g_sc M0 M ∧ g_rI M)
    | _ => none)
  | _ => none
set_option maxRecDepth 100000 in
set_option maxHeartbeats 4000000 in
theorem metX7_book : am_Met yX7_book cX7_book 8 (some .long) (6) (147) TX7_book := by
  refine am_met (own := RX7) (by decide +kernel) rfl kX7_book koX7_book 150 JX7_book ?_ ?_
  · intro live as M Ret h
    unfold TX7_book at h
    split at h
    · next n b y k w =>
      refine ⟨Nat.le_of_ble_eq_true rfl, ?_⟩
      change am_wp _ _ _ _ [(0, Value.ref n), (1, Value.int b), (2, Value.int y), (3, Value.int k), (4, Value.int w)] _ _
      obtain ⟨hmn, rfl, ⟨hH, hR⟩, h⟩ := h
      have hmn2 := hmn
      obtain ⟨i1, i2, rfl⟩ := hmn2
      by_cases z0 : 0 ≤ b ∧ b ≤ 3
      rotate_left
      · skip
        have q0 : (if 0 ≤ b ∧ b ≤ 3 then (1 : Int32) else 0) = 0 := if_neg z0
        repeat' (first | (with_reducible exact hmn) | apply And.intro | exact rfl | (intro hx; with_reducible exact absurd q0 hx) | (intro hx; exact absurd hx (by decide)) | (intro hx; exact absurd (by decide) hx) | decide | intro hx | (refine Exists.intro _ (And.intro rfl ?_)))
        all_goals try first | (with_reducible change am_tI _ _) | (change Ret _ _) | (change Ret _ _ _) | (change Exists _)
        all_goals try dsimp only at *
        all_goals try (with_reducible exact absurd ‹(1000 : Int64) = 0› am_z1000)
        all_goals exact h _ _ g_sc.rf hR
      · skip
        have q0 : ¬ ((if 0 ≤ b ∧ b ≤ 3 then (1 : Int32) else 0) = 0) := by rw [if_pos z0]; decide
        by_cases z1 : 0 ≤ y ∧ y < 40
        rotate_left
        · skip
          have q1 : (if 0 ≤ y ∧ y < 40 then (1 : Int32) else 0) = 0 := if_neg z1
          repeat' (first | (with_reducible exact hmn) | apply And.intro | exact rfl | (intro hx; with_reducible exact absurd hx q0) | (intro hx; with_reducible exact absurd q1 hx) | (intro hx; exact absurd hx (by decide)) | (intro hx; exact absurd (by decide) hx) | decide | intro hx | (refine Exists.intro _ (And.intro rfl ?_)))
          all_goals try first | (with_reducible change am_tI _ _) | (change Ret _ _) | (change Ret _ _ _) | (change Exists _)
          all_goals try dsimp only at *
          all_goals try (with_reducible exact absurd ‹(1000 : Int64) = 0› am_z1000)
          all_goals exact h _ _ g_sc.rf hR
        · skip
          have q1 : ¬ ((if 0 ≤ y ∧ y < 40 then (1 : Int32) else 0) = 0) := by rw [if_pos z1]; decide
          by_cases z2 : 0 ≤ k ∧ k < 40
          rotate_left
          · skip
            have q2 : (if 0 ≤ k ∧ k < 40 then (1 : Int32) else 0) = 0 := if_neg z2
            repeat' (first | (with_reducible exact hmn) | apply And.intro | exact rfl | (intro hx; with_reducible exact absurd hx q0) | (intro hx; with_reducible exact absurd hx q1) | (intro hx; with_reducible exact absurd q2 hx) | (intro hx; exact absurd hx (by decide)) | (intro hx; exact absurd (by decide) hx) | decide | intro hx | (refine Exists.intro _ (And.intro rfl ?_)))
            all_goals try first | (with_reducible change am_tI _ _) | (change Ret _ _) | (change Ret _ _ _) | (change Exists _)
            all_goals try dsimp only at *
            all_goals try (with_reducible exact absurd ‹(1000 : Int64) = 0› am_z1000)
            all_goals exact h _ _ g_sc.rf hR
          · skip
            have q2 : ¬ ((if 0 ≤ k ∧ k < 40 then (1 : Int32) else 0) = 0) := by rw [if_pos z2]; decide
            by_cases z3 : 0 ≤ w ∧ w ≤ 1
            rotate_left
            · skip
              have q3 : (if 0 ≤ w ∧ w ≤ 1 then (1 : Int32) else 0) = 0 := if_neg z3
              repeat' (first | (with_reducible exact hmn) | apply And.intro | exact rfl | (intro hx; with_reducible exact absurd hx q0) | (intro hx; with_reducible exact absurd hx q1) | (intro hx; with_reducible exact absurd hx q2) | (intro hx; with_reducible exact absurd q3 hx) | (intro hx; exact absurd hx (by decide)) | (intro hx; exact absurd (by decide) hx) | decide | intro hx | (refine Exists.intro _ (And.intro rfl ?_)))
              all_goals try first | (with_reducible change am_tI _ _) | (change Ret _ _) | (change Ret _ _ _) | (change Exists _)
              all_goals try dsimp only at *
              all_goals try (with_reducible exact absurd ‹(1000 : Int64) = 0› am_z1000)
              all_goals exact h _ _ g_sc.rf hR
            · skip
              have q3 : ¬ ((if 0 ≤ w ∧ w ≤ 1 then (1 : Int32) else 0) = 0) := by rw [if_pos z3]; decide
              repeat' (first | (with_reducible exact hmn) | (with_reducible exact hR) | (with_reducible exact hH) | apply And.intro | exact rfl | (intro hx; with_reducible exact absurd hx q0) | (intro hx; with_reducible exact absurd hx q1) | (intro hx; with_reducible exact absurd hx q2) | (intro hx; with_reducible exact absurd hx q3) | ((with_reducible change g_rI _); (with_reducible assumption)) | (intro hx; exact absurd hx (by decide)) | (intro hx; exact absurd (by decide) hx) | decide | intro hx | (refine Exists.intro _ (And.intro rfl ?_)))
              all_goals try first | (with_reducible change am_tI _ _) | (change Ret _ _) | (change Ret _ _ _) | (change Exists _)
              all_goals try dsimp only at *
              all_goals try (with_reducible exact absurd ‹(1000 : Int64) = 0› am_z1000)
              all_goals first | exact ⟨_, _, _, rfl, rfl, rfl, by decide, by (repeat' (first | (with_reducible exact g_sc.rf) | (with_reducible assumption) | ((with_reducible change g_sc _ (am_wI _ _ _ _)); refine g_sc.wI ?_ rfl) | ((with_reducible change g_sc _ (am_wJ _ _ _ _)); refine g_sc.wJ ?_ rfl) | ((with_reducible change g_sc _ (am_cI _ _ _)); refine g_sc.cI ?_ rfl) | ((with_reducible change g_sc _ (am_cJ _ _ _)); refine g_sc.cJ ?_ rfl) | (refine g_sc.tr ?_ (by with_reducible assumption)) | (refine g_sc.st ?_ (by with_reducible assumption)))), by (repeat' (first | (with_reducible assumption) | ((with_reducible change g_rI (am_wJ _ _ _ _)); refine g_rI.wJ ?_) | ((with_reducible change g_rI (am_cJ _ _ _)); refine g_rI.cJ ?_) | ((with_reducible change g_rI (am_wI _ 5 _ _)); refine g_rI.w5 ?_) | ((with_reducible change g_rI (am_wI _ _ _ _)); refine g_rI.wF ?_ rfl) | (refine g_rI.st ?_ (by with_reducible assumption)) | (refine g_rI.we ?_ (by with_reducible assumption))))⟩ | ((with_reducible change Ret _ _); exact h _ _ (by (repeat' (first | (with_reducible exact g_sc.rf) | (with_reducible assumption) | ((with_reducible change g_sc _ (am_wI _ _ _ _)); refine g_sc.wI ?_ rfl) | ((with_reducible change g_sc _ (am_wJ _ _ _ _)); refine g_sc.wJ ?_ rfl) | ((with_reducible change g_sc _ (am_cI _ _ _)); refine g_sc.cI ?_ rfl) | ((with_reducible change g_sc _ (am_cJ _ _ _)); refine g_sc.cJ ?_ rfl) | (refine g_sc.tr ?_ (by with_reducible assumption)) | (refine g_sc.st ?_ (by with_reducible assumption))))) (by (repeat' (first | (with_reducible assumption) | ((with_reducible change g_rI (am_wJ _ _ _ _)); refine g_rI.wJ ?_) | ((with_reducible change g_rI (am_cJ _ _ _)); refine g_rI.cJ ?_) | ((with_reducible change g_rI (am_wI _ 5 _ _)); refine g_rI.w5 ?_) | ((with_reducible change g_rI (am_wI _ _ _ _)); refine g_rI.wF ?_ rfl) | (refine g_rI.st ?_ (by with_reducible assumption)) | (refine g_rI.we ?_ (by with_reducible assumption)))))) | skip
    · exact h.elim
  · intro live as M0 Ret h k pc I hI L st M hi
    unfold TX7_book at h
    split at h
    · next n b y k w =>
      obtain ⟨hmn, rfl, ⟨hH, hR⟩, h⟩ := h
      have hmn2 := hmn
      obtain ⟨i1, i2, rfl⟩ := hmn2
      change (match pc with | 49 => _ | _ => none) = _ at hI
      split at hI
      · cases hI
        obtain ⟨v, i, rfl, rfl, rfl, e1, e2, e3⟩ := hi
        have hs := hH.lo.2
        have hpr : (M.1 54 2).toInt ≤ 100000 := by rw [e2.i 2 (by decide)]; have := hH.pr.2; omega
        by_cases hz : M.1 33 2 ≤ i
        · skip
          repeat' (first | (with_reducible exact hmn) | (with_reducible exact hpr) | apply And.intro | exact rfl | (intro hx; with_reducible exact absurd hz hx) | intro hx | (refine Exists.intro _ (And.intro rfl ?_)))
          all_goals try first | (with_reducible change am_tI _ _) | (change Ret _ _) | (change Ret _ _ _) | (change Exists _)
          all_goals try dsimp only at *
          all_goals try (with_reducible exact absurd ‹(1000 : Int64) = 0› am_z1000)
          all_goals exact h _ _ e2 e3
        · have hz2 := hz
          rw [e2.i 2 (by decide)] at hz2
          simp only [i_le] at hz2
          have hi := i_inc (x := i) (by omega) (by omega)
          have hl : am_in i 30 := ⟨e1, by omega⟩
          have f150 := g_ix hl 150 150 rfl (by decide)
          have l6 : am_len 6 = 180 := rfl
          repeat' (first | (with_reducible exact hmn) | apply And.intro | exact rfl | (intro hx; with_reducible exact absurd hx hz) | intro hx | (refine Exists.intro _ (And.intro rfl ?_)))
          all_goals try first | (with_reducible change am_tI _ _) | (change Ret _ _) | (change Ret _ _ _) | (change Exists _)
          all_goals try dsimp only at *
          all_goals try (with_reducible exact absurd ‹(1000 : Int64) = 0› am_z1000)
          all_goals first
            | (with_reducible exact f150.1)
            | (rw [l6]; exact f150.2.1)
            | exact f150.1
            | exact ⟨_, am_lt_l (by omega), _, _, rfl, rfl, rfl, by omega, e2, e3⟩
            | skip
      · cases hI
    · exact h.elim
set_option maxRecDepth 100000 in
theorem wd_312 : Cond.fieldLink "LearnLoans" 213 "LearnLoans$Run" "paid" "J" ∈ am_ws := am_wt2 (List.mem_of_getElem? (i := 15) (by rfl)) (by decide +kernel)
def rwX7_early : List dz_r := [(0, .aload_n 0, 1), (1, .iload_n 1, 1), (2, .invokevirtual 52, 3), (5, .ifCond .eq 28, 3), (8, .iload_n 2, 1), (9, .iconst 1, 1), (10, .ldc 189, 2), (12, .invokestatic 55, 3), (15, .ifCond .eq 18, 3), (18, .iload_n 3, 1), (19, .invokestatic 34, 3), (22, .ifCond .eq 11, 3), (25, .iload 4, 2), (27, .invokestatic 34, 3), (30, .ifCond .ne 6, 3), (33, .bipush (-2), 2), (35, .ireturn, 1), (36, .iconst 0, 1), (37, .istore 5, 2), (39, .iconst 0, 1), (40, .istore 6, 2), (42, .iload 6, 2), (44, .iconst 4, 1), (45, .if_icmp .ge 62, 3), (48, .aload_n 0, 1), (49, .iload_n 1, 1), (50, .iconst (-1), 1), (51, .iload 6, 2), (53, .iload_n 3, 1), (54, .iload 4, 2), (56, .iconst 0, 1), (57, .invokevirtual 209, 3), (60, .lstore 7, 2), (62, .aload_n 0, 1), (63, .iload_n 1, 1), (64, .iconst (-1), 1), (65, .iload 6, 2), (67, .iload_n 3, 1), (68, .iload 4, 2), (70, .iload_n 2, 1), (71, .invokevirtual 209, 3), (74, .aload_n 0, 1), (75, .getfield 20, 3), (78, .getfield 213, 3), (81, .ladd, 1), (82, .lstore 9, 2), (84, .lload 9, 2), (86, .lload 7, 2), (88, .lcmp, 1), (89, .ifCond .ge 12, 3), (92, .iload 5, 2), (94, .iconst 1, 1), (95, .iload 6, 2), (97, .ishl, 1), (98, .ior, 1), (99, .istore 5, 2), (101, .iinc 6 1, 3), (104, .goto (-62), 3), (107, .iload 5, 2), (109, .ireturn, 1)]
theorem dzX7_early : dz cX7_early rwX7_early := dz_all 0 (by decide +kernel)
def kX7_early (live : am_E) (Ret : am_R) : am_code := [(0, am_aload 0 1), (1, am_iload 1 2), (2, am_callV live 7 1 TX7_isPerson 5), (5, am_if1 (fun x => x = 0) 33 8), (8, am_iload 2 9), (9, am_const (.int 1) 10), (10, am_const (.int 1000000000) 12), (12, am_callS live 3 TX7_within 15), (15, am_if1 (fun x => x = 0) 33 18), (18, am_iload 3 19), (19, am_callS live 1 TX7_isYear 22), (22, am_if1 (fun x => x = 0) 33 25), (25, am_iload 4 27), (27, am_callS live 1 TX7_isYear 30), (30, am_if1 (fun x => x = 0) 33 36), (33, am_const (.int (-2)) 35), (35, am_retI Ret), (36, am_const (.int 0) 37), (37, am_istore 5 11 39), (39, am_const (.int 0) 40), (40, am_istore 6 11 42), (42, am_iload 6 44), (44, am_const (.int 4) 45), (45, am_if2 (fun x y => y ≤ x) 107 48), (48, am_aload 0 49), (49, am_iload 1 50), (50, am_const (.int (-1)) 51), (51, am_iload 6 53), (53, am_iload 3 54), (54, am_iload 4 56), (56, am_const (.int 0) 57), (57, am_callV live 7 6 TX7_takenByLife 60), (60, am_lstore 7 11 62), (62, am_aload 0 63), (63, am_iload 1 64), (64, am_const (.int (-1)) 65), (65, am_iload 6 67), (67, am_iload 3 68), (68, am_iload 4 70), (70, am_iload 2 71), (71, am_callV live 7 6 TX7_takenByLife 74), (74, am_aload 0 75), (75, am_getR live 7 2 78), (78, am_getJ live 4 15 81), (81, am_l2 (fun x y => x + y) 82), (82, am_lstore 9 11 84), (84, am_lload 9 86), (86, am_lload 7 88), (88, am_lcmp 89), (89, am_if1 (fun x => 0 ≤ x) 101 92), (92, am_iload 5 94), (94, am_const (.int 1) 95), (95, am_iload 6 97), (97, am_i2 (fun x y => x <<< (y &&& 31)) 98), (98, am_i2 (fun x y => x ||| y) 99), (99, am_istore 5 11 101), (101, am_iinc 6 11 1 104), (104, am_goto 42), (107, am_iload 5 109), (109, am_retI Ret)]
theorem koX7_early (live : am_E) (Ret : am_R) : ∀ q ∈ kX7_early live Ret, am_ok RX7 cX7_early 11 (some .int) 6 152 live Ret q.1 q.2 :=
  am_kz dzX7_early <|
  am_kd (fun d => ak_aload_n d rfl rfl) <|
  am_kd (fun d => ak_iload_n d rfl rfl) <|
  am_kd (fun d => ak_callV (C := RX7) (F := TX7) (N := 4) metX7_isPerson rfl ⟨rfl, hy_X7_isPerson⟩ (am_w5 wd_414 wd_416 wd_0 wd_58 wd_417) (by decide) d rfl) <|
  am_kd (fun d => ak_if_eq d (by decide +kernel) rfl) <|
  am_kd (fun d => ak_iload_n d rfl rfl) <|
  am_kd (fun d => ak_iconst d (by decide +kernel) rfl) <|
  am_kd (fun d => ak_ldc wd_738 d rfl) <|
  am_kd (fun d => ak_callS metX7_within ⟨rfl, hy_X7_within⟩ (am_w4 wd_418 wd_419 wd_58 wd_420) (by decide) d rfl) <|
  am_kd (fun d => ak_if_eq d (by decide +kernel) rfl) <|
  am_kd (fun d => ak_iload_n d rfl rfl) <|
  am_kd (fun d => ak_callS metX7_isYear ⟨rfl, hy_X7_isYear⟩ (am_w4 wd_407 wd_408 wd_58 wd_409) (by decide) d rfl) <|
  am_kd (fun d => ak_if_eq d (by decide +kernel) rfl) <|
  am_kd (fun d => ak_iload d rfl) <|
  am_kd (fun d => ak_callS metX7_isYear ⟨rfl, hy_X7_isYear⟩ (am_w4 wd_407 wd_408 wd_58 wd_409) (by decide) d rfl) <|
  am_kd (fun d => ak_if_ne d (by decide +kernel) rfl) <|
  am_kd (fun d => ak_bipush d (by decide +kernel) rfl) <|
  am_kd (fun d => ak_retI d) <|
  am_kd (fun d => ak_iconst d (by decide +kernel) rfl) <|
  am_kd (fun d => ak_istore d rfl) <|
  am_kd (fun d => ak_iconst d (by decide +kernel) rfl) <|
  am_kd (fun d => ak_istore d rfl) <|
  am_kd (fun d => ak_iload d rfl) <|
  am_kd (fun d => ak_iconst d (by decide +kernel) rfl) <|
  am_kd (fun d => ak_icmp_ge d (by decide +kernel) rfl) <|
  am_kd (fun d => ak_aload_n d rfl rfl) <|
  am_kd (fun d => ak_iload_n d rfl rfl) <|
  am_kd (fun d => ak_iconst d (by decide +kernel) rfl) <|
  am_kd (fun d => ak_iload d rfl) <|
  am_kd (fun d => ak_iload_n d rfl rfl) <|
  am_kd (fun d => ak_iload d rfl) <|
  am_kd (fun d => ak_iconst d (by decide +kernel) rfl) <|
  am_kd (fun d => ak_callV (C := RX7) (F := TX7) (N := 4) metX7_takenByLife rfl ⟨rfl, hy_X7_takenByLife⟩ (am_w5 wd_760 wd_762 wd_24 wd_58 wd_763) (by decide) d rfl) <|
  am_kd (fun d => ak_lstore d rfl) <|
  am_kd (fun d => ak_aload_n d rfl rfl) <|
  am_kd (fun d => ak_iload_n d rfl rfl) <|
  am_kd (fun d => ak_iconst d (by decide +kernel) rfl) <|
  am_kd (fun d => ak_iload d rfl) <|
  am_kd (fun d => ak_iload_n d rfl rfl) <|
  am_kd (fun d => ak_iload d rfl) <|
  am_kd (fun d => ak_iload_n d rfl rfl) <|
  am_kd (fun d => ak_callV (C := RX7) (F := TX7) (N := 4) metX7_takenByLife rfl ⟨rfl, hy_X7_takenByLife⟩ (am_w5 wd_760 wd_762 wd_24 wd_58 wd_763) (by decide) d rfl) <|
  am_kd (fun d => ak_aload_n d rfl rfl) <|
  am_kd (fun d => ak_getR (C := RX7) (T := TX7) (N := 4) rfl inX7w (by decide) rfl rfl rfl wd_392 d rfl) <|
  am_kd (fun d => ak_getJ (C := RX4) (T := TX4) (N := 19) rfl inX4w (by decide) rfl rfl rfl wd_312 d rfl) <|
  am_kd (fun d => ak_ladd d rfl) <|
  am_kd (fun d => ak_lstore d rfl) <|
  am_kd (fun d => ak_lload d rfl) <|
  am_kd (fun d => ak_lload d rfl) <|
  am_kd (fun d => ak_lcmp d rfl) <|
  am_kd (fun d => ak_if_ge d (by decide +kernel) rfl) <|
  am_kd (fun d => ak_iload d rfl) <|
  am_kd (fun d => ak_iconst d (by decide +kernel) rfl) <|
  am_kd (fun d => ak_iload d rfl) <|
  am_kd (fun d => ak_ishl d rfl) <|
  am_kd (fun d => ak_ior d rfl) <|
  am_kd (fun d => ak_istore d rfl) <|
  am_kd (fun d => ak_iinc d (by decide +kernel) rfl) <|
  am_kd (fun d => ak_goto d (by decide +kernel)) <|
  am_kd (fun d => ak_iload d rfl) <|
  am_kd (fun d => ak_retI d) <| am_kdn
def TX7_early : am_T := fun live as M R => match as with
  | [.ref n, .int p, .int s, .int y, .int k] => am_mn live ∧ n = 0 ∧ (g_hI M ∧ g_rI M) ∧ ∀ v M', g_sc M M' → g_rI M' → R (some (.int v)) M'
  | _ => False
def JX7_early : am_E → List Value → am_M → am_R → am_inv := fun live as M0 _ pc => match as with
  | [.ref n, .int p, .int s, .int y, .int k] => (match pc with
    | 42 => some ([0, 1, 2, 3, 4, 5, 6], fun u L st M => ∃ o l : Int32, L = [(0, .ref 0), (1, .int p), (2, .int s), (3, .int y), (4, .int k), (5, .int o), (6, .int l)] ∧ st = [] ∧ u = ((5 - l.toInt).toNat, 0) ∧ 0 ≤ l.toInt ∧ am_in p 12 ∧ g_sc M0 M ∧ g_rI M)
    | _ => none)
  | _ => none
set_option maxRecDepth 100000 in
set_option maxHeartbeats 4000000 in
theorem metX7_early : am_Met yX7_early cX7_early 11 (some .int) (6) (152) TX7_early := by
  refine am_met (own := RX7) (by decide +kernel) rfl kX7_early koX7_early 150 JX7_early ?_ ?_
  · intro live as M Ret h
    unfold TX7_early at h
    split at h
    · next n p s y k =>
      refine ⟨Nat.le_of_ble_eq_true rfl, ?_⟩
      change am_wp _ _ _ _ [(0, Value.ref n), (1, Value.int p), (2, Value.int s), (3, Value.int y), (4, Value.int k)] _ _
      obtain ⟨hmn, rfl, ⟨hH, hR⟩, h⟩ := h
      have hmn2 := hmn
      obtain ⟨i1, i2, rfl⟩ := hmn2
      by_cases z0 : 0 ≤ p ∧ p < M.1 21 7
      rotate_left
      · skip
        have q0 : (if 0 ≤ p ∧ p < M.1 21 7 then (1 : Int32) else 0) = 0 := if_neg z0
        repeat' (first | (with_reducible exact hmn) | apply And.intro | exact rfl | (intro hx; with_reducible exact absurd q0 hx) | (intro hx; exact absurd hx (by decide)) | (intro hx; exact absurd (by decide) hx) | decide | intro hx | (refine Exists.intro _ (And.intro rfl ?_)))
        all_goals try first | (with_reducible change am_tI _ _) | (change Ret _ _) | (change Ret _ _ _) | (change Exists _)
        all_goals try dsimp only at *
        all_goals try (with_reducible exact absurd ‹(1000 : Int64) = 0› am_z1000)
        all_goals exact h _ _ g_sc.rf hR
      · skip
        have q0 : ¬ ((if 0 ≤ p ∧ p < M.1 21 7 then (1 : Int32) else 0) = 0) := by rw [if_pos z0]; decide
        by_cases z1 : 1 ≤ s ∧ s ≤ 1000000000
        rotate_left
        · skip
          have q1 : (if 1 ≤ s ∧ s ≤ 1000000000 then (1 : Int32) else 0) = 0 := if_neg z1
          repeat' (first | (with_reducible exact hmn) | apply And.intro | exact rfl | (intro hx; with_reducible exact absurd hx q0) | (intro hx; with_reducible exact absurd q1 hx) | (intro hx; exact absurd hx (by decide)) | (intro hx; exact absurd (by decide) hx) | decide | intro hx | (refine Exists.intro _ (And.intro rfl ?_)))
          all_goals try first | (with_reducible change am_tI _ _) | (change Ret _ _) | (change Ret _ _ _) | (change Exists _)
          all_goals try dsimp only at *
          all_goals try (with_reducible exact absurd ‹(1000 : Int64) = 0› am_z1000)
          all_goals exact h _ _ g_sc.rf hR
        · skip
          have q1 : ¬ ((if 1 ≤ s ∧ s ≤ 1000000000 then (1 : Int32) else 0) = 0) := by rw [if_pos z1]; decide
          by_cases z2 : 0 ≤ y ∧ y < 40
          rotate_left
          · skip
            have q2 : (if 0 ≤ y ∧ y < 40 then (1 : Int32) else 0) = 0 := if_neg z2
            repeat' (first | (with_reducible exact hmn) | apply And.intro | exact rfl | (intro hx; with_reducible exact absurd hx q0) | (intro hx; with_reducible exact absurd hx q1) | (intro hx; with_reducible exact absurd q2 hx) | (intro hx; exact absurd hx (by decide)) | (intro hx; exact absurd (by decide) hx) | decide | intro hx | (refine Exists.intro _ (And.intro rfl ?_)))
            all_goals try first | (with_reducible change am_tI _ _) | (change Ret _ _) | (change Ret _ _ _) | (change Exists _)
            all_goals try dsimp only at *
            all_goals try (with_reducible exact absurd ‹(1000 : Int64) = 0› am_z1000)
            all_goals exact h _ _ g_sc.rf hR
          · skip
            have q2 : ¬ ((if 0 ≤ y ∧ y < 40 then (1 : Int32) else 0) = 0) := by rw [if_pos z2]; decide
            by_cases z3 : 0 ≤ k ∧ k < 40
            rotate_left
            · skip
              have q3 : (if 0 ≤ k ∧ k < 40 then (1 : Int32) else 0) = 0 := if_neg z3
              repeat' (first | (with_reducible exact hmn) | apply And.intro | exact rfl | (intro hx; with_reducible exact absurd hx q0) | (intro hx; with_reducible exact absurd hx q1) | (intro hx; with_reducible exact absurd hx q2) | (intro hx; with_reducible exact absurd q3 hx) | (intro hx; exact absurd hx (by decide)) | (intro hx; exact absurd (by decide) hx) | decide | intro hx | (refine Exists.intro _ (And.intro rfl ?_)))
              all_goals try first | (with_reducible change am_tI _ _) | (change Ret _ _) | (change Ret _ _ _) | (change Exists _)
              all_goals try dsimp only at *
              all_goals try (with_reducible exact absurd ‹(1000 : Int64) = 0› am_z1000)
              all_goals exact h _ _ g_sc.rf hR
            · skip
              have q3 : ¬ ((if 0 ≤ k ∧ k < 40 then (1 : Int32) else 0) = 0) := by rw [if_pos z3]; decide
              repeat' (first | (with_reducible exact hmn) | (with_reducible exact hR) | apply And.intro | exact rfl | (intro hx; with_reducible exact absurd hx q0) | (intro hx; with_reducible exact absurd hx q1) | (intro hx; with_reducible exact absurd hx q2) | (intro hx; with_reducible exact absurd hx q3) | ((with_reducible change g_rI _); (with_reducible assumption)) | (intro hx; exact absurd hx (by decide)) | (intro hx; exact absurd (by decide) hx) | decide | intro hx | (refine Exists.intro _ (And.intro rfl ?_)))
              all_goals try first | (with_reducible change am_tI _ _) | (change Ret _ _) | (change Ret _ _ _) | (change Exists _)
              all_goals try dsimp only at *
              all_goals try (with_reducible exact absurd ‹(1000 : Int64) = 0› am_z1000)
              all_goals first | (have hp : am_in p 12 := ⟨by have q := z0.1; simp only [i_le, Int32.reduceToInt] at q; omega, by have q := z0.2; have q2 := hH.pe; simp only [i_lt] at q; omega⟩; exact ⟨_, _, _, rfl, rfl, rfl, by decide, hp, g_sc.rf, hR⟩) | ((with_reducible change Ret _ _); exact h _ _ (by (repeat' (first | (with_reducible exact g_sc.rf) | (with_reducible assumption) | ((with_reducible change g_sc _ (am_wI _ _ _ _)); refine g_sc.wI ?_ rfl) | ((with_reducible change g_sc _ (am_wJ _ _ _ _)); refine g_sc.wJ ?_ rfl) | ((with_reducible change g_sc _ (am_cI _ _ _)); refine g_sc.cI ?_ rfl) | ((with_reducible change g_sc _ (am_cJ _ _ _)); refine g_sc.cJ ?_ rfl) | (refine g_sc.tr ?_ (by with_reducible assumption)) | (refine g_sc.st ?_ (by with_reducible assumption))))) (by (repeat' (first | (with_reducible assumption) | ((with_reducible change g_rI (am_wJ _ _ _ _)); refine g_rI.wJ ?_) | ((with_reducible change g_rI (am_cJ _ _ _)); refine g_rI.cJ ?_) | ((with_reducible change g_rI (am_wI _ 5 _ _)); refine g_rI.w5 ?_) | ((with_reducible change g_rI (am_wI _ _ _ _)); refine g_rI.wF ?_ rfl) | (refine g_rI.st ?_ (by with_reducible assumption)) | (refine g_rI.we ?_ (by with_reducible assumption)))))) | skip
    · exact h.elim
  · intro live as M0 Ret h k pc I hI L st M hi
    unfold TX7_early at h
    split at h
    · next n p s y k =>
      obtain ⟨hmn, rfl, ⟨hH, hR⟩, h⟩ := h
      have hmn2 := hmn
      obtain ⟨i1, i2, rfl⟩ := hmn2
      change (match pc with | 42 => _ | _ => none) = _ at hI
      split at hI
      · cases hI
        obtain ⟨o, l, rfl, rfl, rfl, e1, hp, e2, e3⟩ := hi
        by_cases hz : (4 : Int32) ≤ l
        · skip
          repeat' (first | (with_reducible exact hmn) | apply And.intro | exact rfl | (intro hx; with_reducible exact absurd hz hx) | intro hx | (refine Exists.intro _ (And.intro rfl ?_)))
          all_goals try first | (with_reducible change am_tI _ _) | (change Ret _ _) | (change Ret _ _ _) | (change Exists _)
          all_goals try dsimp only at *
          all_goals try (with_reducible exact absurd ‹(1000 : Int64) = 0› am_z1000)
          all_goals exact h _ _ e2 e3
        · have hz2 := hz
          simp only [i_le, Int32.reduceToInt] at hz2
          have hi := i_inc (x := l) (by omega) (by omega)
          have hl : am_in l 4 := ⟨e1, by omega⟩
          have hq : (-1 : Int32) = -1 ∨ am_in (-1 : Int32) 5 := Or.inl rfl
          repeat' (first | (with_reducible exact hmn) | (with_reducible exact hp) | (with_reducible exact hq) | (with_reducible exact hl) | (with_reducible exact e3) | apply And.intro | exact rfl | (intro hx; with_reducible exact absurd hx hz) | ((with_reducible change g_rI _); (with_reducible assumption)) | intro hx | (refine Exists.intro _ (And.intro rfl ?_)))
          all_goals try first | (with_reducible change am_tI _ _) | (change Ret _ _) | (change Ret _ _ _) | (change Exists _)
          all_goals try dsimp only at *
          all_goals try (with_reducible exact absurd ‹(1000 : Int64) = 0› am_z1000)
          all_goals exact ⟨_, am_lt_l (by omega), _, _, rfl, rfl, rfl, by omega, hp, by (repeat' (first | (with_reducible exact g_sc.rf) | (with_reducible assumption) | ((with_reducible change g_sc _ (am_wI _ _ _ _)); refine g_sc.wI ?_ rfl) | ((with_reducible change g_sc _ (am_wJ _ _ _ _)); refine g_sc.wJ ?_ rfl) | ((with_reducible change g_sc _ (am_cI _ _ _)); refine g_sc.cI ?_ rfl) | ((with_reducible change g_sc _ (am_cJ _ _ _)); refine g_sc.cJ ?_ rfl) | (refine g_sc.tr ?_ (by with_reducible assumption)) | (refine g_sc.st ?_ (by with_reducible assumption)))), by (repeat' (first | (with_reducible assumption) | ((with_reducible change g_rI (am_wJ _ _ _ _)); refine g_rI.wJ ?_) | ((with_reducible change g_rI (am_cJ _ _ _)); refine g_rI.cJ ?_) | ((with_reducible change g_rI (am_wI _ 5 _ _)); refine g_rI.w5 ?_) | ((with_reducible change g_rI (am_wI _ _ _ _)); refine g_rI.wF ?_ rfl) | (refine g_rI.st ?_ (by with_reducible assumption)) | (refine g_rI.we ?_ (by with_reducible assumption))))⟩
      · cases hI
    · exact h.elim
theorem hy_X7_force : yX7_force.cls ≠ "java/lang/invoke/MethodHandle" ∧ yX7_force.cls ≠ "java/lang/invoke/VarHandle" ∧ (parseMethodDescriptor yX7_force.desc).map (fun d => d.parameters.length) = some 4 := ⟨by decide +kernel, by decide +kernel, by decide +kernel⟩
set_option maxRecDepth 100000 in
theorem wd_824 : Cond.methodLink "LearnLoans" 249 yX7_force ∈ am_ws := am_wt4 (List.mem_of_getElem? (i := 47) (by rfl)) (by decide +kernel)
set_option maxRecDepth 100000 in
theorem wd_490 : Cond.instanceMethod yX7_force ∈ am_ws := am_wt2 (List.mem_of_getElem? (i := 193) (by rfl)) (by decide +kernel)
set_option maxRecDepth 100000 in
theorem wd_491 : Cond.selects "LearnLoans" yX7_force yX7_force ∈ am_ws := am_wt2 (List.mem_of_getElem? (i := 194) (by rfl)) (by decide +kernel)
set_option maxRecDepth 100000 in
theorem wd_492 : Cond.code yX7_force cX7_force 5 (some .int) ∈ am_ws := am_wt2 (List.mem_of_getElem? (i := 195) (by rfl)) (by decide +kernel)
theorem hy_X7_isNearer : yX7_isNearer.cls ≠ "java/lang/invoke/MethodHandle" ∧ yX7_isNearer.cls ≠ "java/lang/invoke/VarHandle" ∧ (parseMethodDescriptor yX7_isNearer.desc).map (fun d => d.parameters.length) = some 3 := ⟨by decide +kernel, by decide +kernel, by decide +kernel⟩
set_option maxRecDepth 100000 in
theorem wd_825 : Cond.methodLink "LearnLoans" 253 yX7_isNearer ∈ am_ws := am_wt4 (List.mem_of_getElem? (i := 48) (by rfl)) (by decide +kernel)
set_option maxRecDepth 100000 in
theorem wd_826 : Cond.static yX7_isNearer ∈ am_ws := am_wt4 (List.mem_of_getElem? (i := 49) (by rfl)) (by decide +kernel)
set_option maxRecDepth 100000 in
theorem wd_827 : Cond.code yX7_isNearer cX7_isNearer 5 (some .boolean) ∈ am_ws := am_wt4 (List.mem_of_getElem? (i := 50) (by rfl)) (by decide +kernel)
def rwX7_best : List dz_r := [(0, .iload_n 1, 1), (1, .invokestatic 98, 3), (4, .ifCond .eq 27, 3), (7, .iload_n 2, 1), (8, .iconst 0, 1), (9, .iconst 5, 1), (10, .invokestatic 55, 3), (13, .ifCond .eq 18, 3), (16, .iload_n 3, 1), (17, .invokestatic 34, 3), (20, .ifCond .eq 11, 3), (23, .iload 4, 2), (25, .invokestatic 34, 3), (28, .ifCond .ne 6, 3), (31, .bipush (-2), 2), (33, .ireturn, 1), (34, .aload_n 0, 1), (35, .iload 5, 2), (37, .invokevirtual 52, 3), (40, .ifCond .ne 6, 3), (43, .bipush (-2), 2), (45, .ireturn, 1), (46, .aload_n 0, 1), (47, .iload_n 1, 1), (48, .iload_n 2, 1), (49, .iload 5, 2), (51, .iload 4, 2), (53, .invokevirtual 249, 3), (56, .istore 8, 2), (58, .iconst (-1), 1), (59, .istore 9, 2), (61, .iconst 0, 1), (62, .istore 10, 2), (64, .iload 10, 2), (66, .aload_n 0, 1), (67, .getfield 27, 3), (70, .getfield 243, 3), (73, .if_icmp .ge 70, 3), (76, .iload 10, 2), (78, .bipush 9, 2), (80, .if_icmp .ge 63, 3), (83, .aload_n 0, 1), (84, .getfield 27, 3), (87, .getfield 246, 3), (90, .iload 10, 2), (92, .iaload, 1), (93, .istore 11, 2), (95, .iload_n 2, 1), (96, .iload 11, 2), (98, .invokestatic 101, 3), (101, .ifCond .eq 36, 3), (104, .iload 11, 2), (106, .iload 9, 2), (108, .iload 8, 2), (110, .invokestatic 253, 3), (113, .ifCond .eq 24, 3), (116, .aload_n 0, 1), (117, .iload_n 1, 1), (118, .iload_n 2, 1), (119, .iload 11, 2), (121, .iload_n 3, 1), (122, .iload 4, 2), (124, .invokevirtual 239, 3), (127, .lload 6, 2), (129, .lcmp, 1), (130, .ifCond .lt 7, 3), (133, .iload 11, 2), (135, .istore 9, 2), (137, .iinc 10 1, 3), (140, .goto (-76), 3), (143, .iload 9, 2), (145, .ireturn, 1)]
theorem dzX7_best : dz cX7_best rwX7_best := dz_all 0 (by decide +kernel)
def kX7_best (live : am_E) (Ret : am_R) : am_code := [(0, am_iload 1 1), (1, am_callS live 1 TX7_isPlan 4), (4, am_if1 (fun x => x = 0) 31 7), (7, am_iload 2 8), (8, am_const (.int 0) 9), (9, am_const (.int 5) 10), (10, am_callS live 3 TX7_within 13), (13, am_if1 (fun x => x = 0) 31 16), (16, am_iload 3 17), (17, am_callS live 1 TX7_isYear 20), (20, am_if1 (fun x => x = 0) 31 23), (23, am_iload 4 25), (25, am_callS live 1 TX7_isYear 28), (28, am_if1 (fun x => x = 0) 31 34), (31, am_const (.int (-2)) 33), (33, am_retI Ret), (34, am_aload 0 35), (35, am_iload 5 37), (37, am_callV live 7 1 TX7_isPerson 40), (40, am_if1 (fun x => x = 0) 43 46), (43, am_const (.int (-2)) 45), (45, am_retI Ret), (46, am_aload 0 47), (47, am_iload 1 48), (48, am_iload 2 49), (49, am_iload 5 51), (51, am_iload 4 53), (53, am_callV live 7 4 TX7_force 56), (56, am_istore 8 12 58), (58, am_const (.int (-1)) 59), (59, am_istore 9 12 61), (61, am_const (.int 0) 62), (62, am_istore 10 12 64), (64, am_iload 10 66), (66, am_aload 0 67), (67, am_getR live 7 0 70), (70, am_getI live 0 12 73), (73, am_if2 (fun x y => y ≤ x) 143 76), (76, am_iload 10 78), (78, am_const (.int 9) 80), (80, am_if2 (fun x y => y ≤ x) 143 83), (83, am_aload 0 84), (84, am_getR live 7 0 87), (87, am_getR live 0 11 90), (90, am_iload 10 92), (92, am_ald live 0 93), (93, am_istore 11 12 95), (95, am_iload 2 96), (96, am_iload 11 98), (98, am_callS live 2 TX7_isNumber 101), (101, am_if1 (fun x => x = 0) 137 104), (104, am_iload 11 106), (106, am_iload 9 108), (108, am_iload 8 110), (110, am_callS live 3 TX7_isNearer 113), (113, am_if1 (fun x => x = 0) 137 116), (116, am_aload 0 117), (117, am_iload 1 118), (118, am_iload 2 119), (119, am_iload 11 121), (121, am_iload 3 122), (122, am_iload 4 124), (124, am_callV live 7 5 TX7_takenIf 127), (127, am_lload 6 129), (129, am_lcmp 130), (130, am_if1 (fun x => x < 0) 137 133), (133, am_iload 11 135), (135, am_istore 9 12 137), (137, am_iinc 10 12 1 140), (140, am_goto 64), (143, am_iload 9 145), (145, am_retI Ret)]
theorem koX7_best (live : am_E) (Ret : am_R) : ∀ q ∈ kX7_best live Ret, am_ok RX7 cX7_best 12 (some .int) 6 152 live Ret q.1 q.2 :=
  am_kz dzX7_best <|
  am_kd (fun d => ak_iload_n d rfl rfl) <|
  am_kd (fun d => ak_callS metX7_isPlan ⟨rfl, hy_X7_isPlan⟩ (am_w4 wd_466 wd_467 wd_58 wd_468) (by decide) d rfl) <|
  am_kd (fun d => ak_if_eq d (by decide +kernel) rfl) <|
  am_kd (fun d => ak_iload_n d rfl rfl) <|
  am_kd (fun d => ak_iconst d (by decide +kernel) rfl) <|
  am_kd (fun d => ak_iconst d (by decide +kernel) rfl) <|
  am_kd (fun d => ak_callS metX7_within ⟨rfl, hy_X7_within⟩ (am_w4 wd_418 wd_419 wd_58 wd_420) (by decide) d rfl) <|
  am_kd (fun d => ak_if_eq d (by decide +kernel) rfl) <|
  am_kd (fun d => ak_iload_n d rfl rfl) <|
  am_kd (fun d => ak_callS metX7_isYear ⟨rfl, hy_X7_isYear⟩ (am_w4 wd_407 wd_408 wd_58 wd_409) (by decide) d rfl) <|
  am_kd (fun d => ak_if_eq d (by decide +kernel) rfl) <|
  am_kd (fun d => ak_iload d rfl) <|
  am_kd (fun d => ak_callS metX7_isYear ⟨rfl, hy_X7_isYear⟩ (am_w4 wd_407 wd_408 wd_58 wd_409) (by decide) d rfl) <|
  am_kd (fun d => ak_if_ne d (by decide +kernel) rfl) <|
  am_kd (fun d => ak_bipush d (by decide +kernel) rfl) <|
  am_kd (fun d => ak_retI d) <|
  am_kd (fun d => ak_aload_n d rfl rfl) <|
  am_kd (fun d => ak_iload d rfl) <|
  am_kd (fun d => ak_callV (C := RX7) (F := TX7) (N := 4) metX7_isPerson rfl ⟨rfl, hy_X7_isPerson⟩ (am_w5 wd_414 wd_416 wd_0 wd_58 wd_417) (by decide) d rfl) <|
  am_kd (fun d => ak_if_ne d (by decide +kernel) rfl) <|
  am_kd (fun d => ak_bipush d (by decide +kernel) rfl) <|
  am_kd (fun d => ak_retI d) <|
  am_kd (fun d => ak_aload_n d rfl rfl) <|
  am_kd (fun d => ak_iload_n d rfl rfl) <|
  am_kd (fun d => ak_iload_n d rfl rfl) <|
  am_kd (fun d => ak_iload d rfl) <|
  am_kd (fun d => ak_iload d rfl) <|
  am_kd (fun d => ak_callV (C := RX7) (F := TX7) (N := 4) metX7_force rfl ⟨rfl, hy_X7_force⟩ (am_w5 wd_824 wd_490 wd_491 wd_58 wd_492) (by decide) d rfl) <|
  am_kd (fun d => ak_istore d rfl) <|
  am_kd (fun d => ak_iconst d (by decide +kernel) rfl) <|
  am_kd (fun d => ak_istore d rfl) <|
  am_kd (fun d => ak_iconst d (by decide +kernel) rfl) <|
  am_kd (fun d => ak_istore d rfl) <|
  am_kd (fun d => ak_iload d rfl) <|
  am_kd (fun d => ak_aload_n d rfl rfl) <|
  am_kd (fun d => ak_getR (C := RX7) (T := TX7) (N := 4) rfl inX7w (by decide) rfl rfl rfl wd_390 d rfl) <|
  am_kd (fun d => ak_getI (C := RX0) (T := TX0) (N := 13) rfl inX0w (by decide) rfl rfl rfl wd_227 d rfl) <|
  am_kd (fun d => ak_icmp_ge d (by decide +kernel) rfl) <|
  am_kd (fun d => ak_iload d rfl) <|
  am_kd (fun d => ak_bipush d (by decide +kernel) rfl) <|
  am_kd (fun d => ak_icmp_ge d (by decide +kernel) rfl) <|
  am_kd (fun d => ak_aload_n d rfl rfl) <|
  am_kd (fun d => ak_getR (C := RX7) (T := TX7) (N := 4) rfl inX7w (by decide) rfl rfl rfl wd_390 d rfl) <|
  am_kd (fun d => ak_getR (C := RX0) (T := TX0) (N := 13) rfl inX0w (by decide) rfl rfl rfl wd_225 d rfl) <|
  am_kd (fun d => ak_iload d rfl) <|
  am_kd (fun d => ak_iald (t := 0) (fun _ => rfl) rfl d rfl) <|
  am_kd (fun d => ak_istore d rfl) <|
  am_kd (fun d => ak_iload_n d rfl rfl) <|
  am_kd (fun d => ak_iload d rfl) <|
  am_kd (fun d => ak_callS metX7_isNumber ⟨rfl, hy_X7_isNumber⟩ (am_w4 wd_469 wd_470 wd_58 wd_471) (by decide) d rfl) <|
  am_kd (fun d => ak_if_eq d (by decide +kernel) rfl) <|
  am_kd (fun d => ak_iload d rfl) <|
  am_kd (fun d => ak_iload d rfl) <|
  am_kd (fun d => ak_iload d rfl) <|
  am_kd (fun d => ak_callS metX7_isNearer ⟨rfl, hy_X7_isNearer⟩ (am_w4 wd_825 wd_826 wd_58 wd_827) (by decide) d rfl) <|
  am_kd (fun d => ak_if_eq d (by decide +kernel) rfl) <|
  am_kd (fun d => ak_aload_n d rfl rfl) <|
  am_kd (fun d => ak_iload_n d rfl rfl) <|
  am_kd (fun d => ak_iload_n d rfl rfl) <|
  am_kd (fun d => ak_iload d rfl) <|
  am_kd (fun d => ak_iload_n d rfl rfl) <|
  am_kd (fun d => ak_iload d rfl) <|
  am_kd (fun d => ak_callV (C := RX7) (F := TX7) (N := 4) metX7_takenIf rfl ⟨rfl, hy_X7_takenIf⟩ (am_w5 wd_804 wd_806 wd_26 wd_58 wd_807) (by decide) d rfl) <|
  am_kd (fun d => ak_lload d rfl) <|
  am_kd (fun d => ak_lcmp d rfl) <|
  am_kd (fun d => ak_if_lt d (by decide +kernel) rfl) <|
  am_kd (fun d => ak_iload d rfl) <|
  am_kd (fun d => ak_istore d rfl) <|
  am_kd (fun d => ak_iinc d (by decide +kernel) rfl) <|
  am_kd (fun d => ak_goto d (by decide +kernel)) <|
  am_kd (fun d => ak_iload d rfl) <|
  am_kd (fun d => ak_retI d) <| am_kdn
def TX7_best : am_T := fun live as M R => match as with
  | [.ref n, .int pl, .int w, .int f, .int y, .int p, .long a] => am_mn live ∧ n = 0 ∧ (g_hI M ∧ g_rI M) ∧ ∀ v M', g_sa M M' → g_rI M' → R (some (.int v)) M'
  | _ => False
def JX7_best : am_E → List Value → am_M → am_R → am_inv := fun live as M0 _ pc => match as with
  | [.ref n, .int pl, .int w, .int f, .int y, .int p, .long a] => (match pc with
    | 64 => some ([0, 1, 2, 3, 4, 6, 8, 9, 10], fun u L st M => ∃ o b i : Int32, L = [(0, .ref 0), (1, .int pl), (2, .int w), (3, .int f), (4, .int y), (6, .long a), (8, .int o), (9, .int b), (10, .int i)] ∧ st = [] ∧ u = ((10 - i.toInt).toNat, 0) ∧ 0 ≤ i.toInt ∧ g_sa M0 M ∧ g_rI M)
    | _ => none)
  | _ => none
theorem g_hI.sa {M M' : am_M} (h : g_hI M) (c : g_sa M M') : g_hI M' := by
  obtain ⟨-, h1, ⟨h2, h3⟩, ⟨h4, h5⟩, ⟨h6, h7⟩, ⟨h8, h9⟩, h10, h11⟩ := h
  obtain ⟨-, c⟩ := c
  have e : ∀ a b, 11 ≤ a → a ≠ 32 → M'.1 a b = M.1 a b := fun a b z y => (c a b z (fun q => absurd q y)).1
  refine ⟨(), ?_, ⟨?_, ?_⟩, ⟨?_, ?_⟩, ⟨?_, ?_⟩, ⟨?_, ?_⟩, ?_, fun l hl => ?_⟩
  all_goals rw [e _ _ (by decide) (by decide)]
  all_goals first | assumption | (with_reducible exact h11 l hl) | exact h11 l hl
set_option maxRecDepth 100000 in
set_option maxHeartbeats 4000000 in
theorem metX7_best : am_Met yX7_best cX7_best 12 (some .int) (6) (152) TX7_best := by
  refine am_met (own := RX7) (by decide +kernel) rfl kX7_best koX7_best 150 JX7_best ?_ ?_
  · intro live as M Ret h
    unfold TX7_best at h
    split at h
    · next n pl w f y p a =>
      refine ⟨Nat.le_of_ble_eq_true rfl, ?_⟩
      change am_wp _ _ _ _ [(0, Value.ref n), (1, Value.int pl), (2, Value.int w), (3, Value.int f), (4, Value.int y), (5, Value.int p), (6, Value.long a)] _ _
      obtain ⟨hmn, rfl, ⟨hH, hR⟩, h⟩ := h
      have hmn2 := hmn
      obtain ⟨i1, i2, rfl⟩ := hmn2
      by_cases z0 : 0 ≤ pl ∧ pl < 5
      rotate_left
      · skip
        have q0 : (if 0 ≤ pl ∧ pl < 5 then (1 : Int32) else 0) = 0 := if_neg z0
        repeat' (first | (with_reducible exact hmn) | apply And.intro | exact rfl | (intro hx; with_reducible exact absurd q0 hx) | (intro hx; exact absurd hx (by decide)) | (intro hx; exact absurd (by decide) hx) | decide | intro hx | (refine Exists.intro _ (And.intro rfl ?_)))
        all_goals try first | (with_reducible change am_tI _ _) | (change Ret _ _) | (change Ret _ _ _) | (change Exists _)
        all_goals try dsimp only at *
        all_goals try (with_reducible exact absurd ‹(1000 : Int64) = 0› am_z1000)
        all_goals exact h _ _ g_sv.rf.a hR
      · skip
        have q0 : ¬ ((if 0 ≤ pl ∧ pl < 5 then (1 : Int32) else 0) = 0) := by rw [if_pos z0]; decide
        by_cases z1 : 0 ≤ w ∧ w ≤ 5
        rotate_left
        · skip
          have q1 : (if 0 ≤ w ∧ w ≤ 5 then (1 : Int32) else 0) = 0 := if_neg z1
          repeat' (first | (with_reducible exact hmn) | apply And.intro | exact rfl | (intro hx; with_reducible exact absurd hx q0) | (intro hx; with_reducible exact absurd q1 hx) | (intro hx; exact absurd hx (by decide)) | (intro hx; exact absurd (by decide) hx) | decide | intro hx | (refine Exists.intro _ (And.intro rfl ?_)))
          all_goals try first | (with_reducible change am_tI _ _) | (change Ret _ _) | (change Ret _ _ _) | (change Exists _)
          all_goals try dsimp only at *
          all_goals try (with_reducible exact absurd ‹(1000 : Int64) = 0› am_z1000)
          all_goals exact h _ _ g_sv.rf.a hR
        · skip
          have q1 : ¬ ((if 0 ≤ w ∧ w ≤ 5 then (1 : Int32) else 0) = 0) := by rw [if_pos z1]; decide
          by_cases z2 : 0 ≤ f ∧ f < 40
          rotate_left
          · skip
            have q2 : (if 0 ≤ f ∧ f < 40 then (1 : Int32) else 0) = 0 := if_neg z2
            repeat' (first | (with_reducible exact hmn) | apply And.intro | exact rfl | (intro hx; with_reducible exact absurd hx q0) | (intro hx; with_reducible exact absurd hx q1) | (intro hx; with_reducible exact absurd q2 hx) | (intro hx; exact absurd hx (by decide)) | (intro hx; exact absurd (by decide) hx) | decide | intro hx | (refine Exists.intro _ (And.intro rfl ?_)))
            all_goals try first | (with_reducible change am_tI _ _) | (change Ret _ _) | (change Ret _ _ _) | (change Exists _)
            all_goals try dsimp only at *
            all_goals try (with_reducible exact absurd ‹(1000 : Int64) = 0› am_z1000)
            all_goals exact h _ _ g_sv.rf.a hR
          · skip
            have q2 : ¬ ((if 0 ≤ f ∧ f < 40 then (1 : Int32) else 0) = 0) := by rw [if_pos z2]; decide
            by_cases z3 : 0 ≤ y ∧ y < 40
            rotate_left
            · skip
              have q3 : (if 0 ≤ y ∧ y < 40 then (1 : Int32) else 0) = 0 := if_neg z3
              repeat' (first | (with_reducible exact hmn) | apply And.intro | exact rfl | (intro hx; with_reducible exact absurd hx q0) | (intro hx; with_reducible exact absurd hx q1) | (intro hx; with_reducible exact absurd hx q2) | (intro hx; with_reducible exact absurd q3 hx) | (intro hx; exact absurd hx (by decide)) | (intro hx; exact absurd (by decide) hx) | decide | intro hx | (refine Exists.intro _ (And.intro rfl ?_)))
              all_goals try first | (with_reducible change am_tI _ _) | (change Ret _ _) | (change Ret _ _ _) | (change Exists _)
              all_goals try dsimp only at *
              all_goals try (with_reducible exact absurd ‹(1000 : Int64) = 0› am_z1000)
              all_goals exact h _ _ g_sv.rf.a hR
            · skip
              have q3 : ¬ ((if 0 ≤ y ∧ y < 40 then (1 : Int32) else 0) = 0) := by rw [if_pos z3]; decide
              by_cases z4 : 0 ≤ p ∧ p < M.1 21 7
              rotate_left
              · skip
                have q4 : (if 0 ≤ p ∧ p < M.1 21 7 then (1 : Int32) else 0) = 0 := if_neg z4
                repeat' (first | (with_reducible exact hmn) | apply And.intro | exact rfl | (intro hx; with_reducible exact absurd hx q0) | (intro hx; with_reducible exact absurd hx q1) | (intro hx; with_reducible exact absurd hx q2) | (intro hx; with_reducible exact absurd hx q3) | (intro hx; with_reducible exact absurd q4 hx) | (intro hx; exact absurd hx (by decide)) | (intro hx; exact absurd (by decide) hx) | decide | intro hx | (refine Exists.intro _ (And.intro rfl ?_)))
                all_goals try first | (with_reducible change am_tI _ _) | (change Ret _ _) | (change Ret _ _ _) | (change Exists _)
                all_goals try dsimp only at *
                all_goals try (with_reducible exact absurd ‹(1000 : Int64) = 0› am_z1000)
                all_goals exact h _ _ g_sv.rf.a hR
              · skip
                have q4 : ¬ ((if 0 ≤ p ∧ p < M.1 21 7 then (1 : Int32) else 0) = 0) := by rw [if_pos z4]; decide
                repeat' (first | (with_reducible exact hmn) | (with_reducible exact hR) | (with_reducible exact hH) | apply And.intro | exact rfl | (intro hx; with_reducible exact absurd hx q0) | (intro hx; with_reducible exact absurd hx q1) | (intro hx; with_reducible exact absurd hx q2) | (intro hx; with_reducible exact absurd hx q3) | (intro hx; with_reducible exact absurd hx q4) | ((with_reducible change g_rI _); (with_reducible assumption)) | (intro hx; exact absurd hx (by decide)) | (intro hx; exact absurd (by decide) hx) | decide | intro hx | (refine Exists.intro _ (And.intro rfl ?_)))
                all_goals try first | (with_reducible change am_tI _ _) | (change Ret _ _) | (change Ret _ _ _) | (change Exists _)
                all_goals try dsimp only at *
                all_goals try (with_reducible exact absurd ‹(1000 : Int64) = 0› am_z1000)
                all_goals first | exact ⟨_, _, _, _, rfl, rfl, rfl, by decide, (g_sc.v (by (repeat' (first | (with_reducible exact g_sc.rf) | (with_reducible assumption) | ((with_reducible change g_sc _ (am_wI _ _ _ _)); refine g_sc.wI ?_ rfl) | ((with_reducible change g_sc _ (am_wJ _ _ _ _)); refine g_sc.wJ ?_ rfl) | ((with_reducible change g_sc _ (am_cI _ _ _)); refine g_sc.cI ?_ rfl) | ((with_reducible change g_sc _ (am_cJ _ _ _)); refine g_sc.cJ ?_ rfl) | (refine g_sc.tr ?_ (by with_reducible assumption)) | (refine g_sc.st ?_ (by with_reducible assumption)))))).a, by (repeat' (first | (with_reducible assumption) | ((with_reducible change g_rI (am_wJ _ _ _ _)); refine g_rI.wJ ?_) | ((with_reducible change g_rI (am_cJ _ _ _)); refine g_rI.cJ ?_) | ((with_reducible change g_rI (am_wI _ 5 _ _)); refine g_rI.w5 ?_) | ((with_reducible change g_rI (am_wI _ _ _ _)); refine g_rI.wF ?_ rfl) | (refine g_rI.st ?_ (by with_reducible assumption)) | (refine g_rI.we ?_ (by with_reducible assumption))))⟩ | ((with_reducible change Ret _ _); exact h _ _ (g_sc.v (by (repeat' (first | (with_reducible exact g_sc.rf) | (with_reducible assumption) | ((with_reducible change g_sc _ (am_wI _ _ _ _)); refine g_sc.wI ?_ rfl) | ((with_reducible change g_sc _ (am_wJ _ _ _ _)); refine g_sc.wJ ?_ rfl) | ((with_reducible change g_sc _ (am_cI _ _ _)); refine g_sc.cI ?_ rfl) | ((with_reducible change g_sc _ (am_cJ _ _ _)); refine g_sc.cJ ?_ rfl) | (refine g_sc.tr ?_ (by with_reducible assumption)) | (refine g_sc.st ?_ (by with_reducible assumption)))))).a (by (repeat' (first | (with_reducible assumption) | ((with_reducible change g_rI (am_wJ _ _ _ _)); refine g_rI.wJ ?_) | ((with_reducible change g_rI (am_cJ _ _ _)); refine g_rI.cJ ?_) | ((with_reducible change g_rI (am_wI _ 5 _ _)); refine g_rI.w5 ?_) | ((with_reducible change g_rI (am_wI _ _ _ _)); refine g_rI.wF ?_ rfl) | (refine g_rI.st ?_ (by with_reducible assumption)) | (refine g_rI.we ?_ (by with_reducible assumption)))))) | skip
    · exact h.elim
  · intro live as M0 Ret h k pc I hI L st M hi
    unfold TX7_best at h
    split at h
    · next n pl w f y p a =>
      obtain ⟨hmn, rfl, ⟨hH, hR⟩, h⟩ := h
      have hmn2 := hmn
      obtain ⟨i1, i2, rfl⟩ := hmn2
      change (match pc with | 64 => _ | _ => none) = _ at hI
      split at hI
      · cases hI
        obtain ⟨o, b, i, rfl, rfl, rfl, e1, e2, e3⟩ := hi
        have hH2 := hH.sa e2
        by_cases hz : (9 : Int32) ≤ i
        · skip
          repeat' (first | (with_reducible exact hmn) | apply And.intro | exact rfl | (intro hx; with_reducible exact absurd hz hx) | intro hx | (refine Exists.intro _ (And.intro rfl ?_)))
          all_goals try first | (with_reducible change am_tI _ _) | (change Ret _ _) | (change Ret _ _ _) | (change Exists _)
          all_goals try dsimp only at *
          all_goals try (with_reducible exact absurd ‹(1000 : Int64) = 0› am_z1000)
          all_goals exact h _ _ e2 e3
        · have hz2 := hz
          simp only [i_le, Int32.reduceToInt] at hz2
          have hi := i_inc (x := i) (by omega) (by omega)
          have l58 : am_len 58 = 9 := rfl
          repeat' (first | (with_reducible exact hmn) | (with_reducible exact hH2) | (with_reducible exact e3) | apply And.intro | exact rfl | (intro hx; with_reducible exact absurd hx hz) | (intro hx; exact absurd hx (by decide)) | (intro hx; exact absurd (by decide) hx) | decide | intro hx | (refine Exists.intro _ (And.intro rfl ?_)))
          all_goals try first | (with_reducible change am_tI _ _) | (change Ret _ _) | (change Ret _ _ _) | (change Exists _)
          all_goals try dsimp only at *
          all_goals try (with_reducible exact absurd ‹(1000 : Int64) = 0› am_z1000)
          all_goals first
            | (with_reducible exact h _ _ e2 e3)
            | omega
            | (rw [l58]; omega)
            | exact h _ _ e2 e3
            | exact ⟨_, am_lt_l (by omega), _, _, _, rfl, rfl, rfl, by omega, e2, e3⟩
            | exact ⟨_, am_lt_l (by omega), _, _, _, rfl, rfl, rfl, by omega, e2.tr ‹g_sa M _›, by with_reducible assumption⟩
            | skip
      · cases hI
    · exact h.elim
set_option maxRecDepth 100000 in
theorem wd_871 : Cond.constantLong "LearnLoans" 261 347 ∈ am_ws := am_wt4 (List.mem_of_getElem? (i := 94) (by rfl)) (by decide +kernel)
set_option maxRecDepth 100000 in
theorem wd_872 : Cond.constantLong "LearnLoans" 263 31 ∈ am_ws := am_wt4 (List.mem_of_getElem? (i := 95) (by rfl)) (by decide +kernel)
theorem hy_X7_count : yX7_count.cls ≠ "java/lang/invoke/MethodHandle" ∧ yX7_count.cls ≠ "java/lang/invoke/VarHandle" ∧ (parseMethodDescriptor yX7_count.desc).map (fun d => d.parameters.length) = some 1 := ⟨by decide +kernel, by decide +kernel, by decide +kernel⟩
set_option maxRecDepth 100000 in
theorem wd_873 : Cond.methodLink "LearnLoans" 265 yX7_count ∈ am_ws := am_wt4 (List.mem_of_getElem? (i := 96) (by rfl)) (by decide +kernel)
set_option maxRecDepth 100000 in
theorem wd_864 : Cond.instanceMethod yX7_count ∈ am_ws := am_wt4 (List.mem_of_getElem? (i := 87) (by rfl)) (by decide +kernel)
set_option maxRecDepth 100000 in
theorem wd_865 : Cond.selects "LearnLoans" yX7_count yX7_count ∈ am_ws := am_wt4 (List.mem_of_getElem? (i := 88) (by rfl)) (by decide +kernel)
set_option maxRecDepth 100000 in
theorem wd_866 : Cond.code yX7_count cX7_count 2 (some .int) ∈ am_ws := am_wt4 (List.mem_of_getElem? (i := 89) (by rfl)) (by decide +kernel)
theorem hy_X2_mixed : yX2_mixed.cls ≠ "java/lang/invoke/MethodHandle" ∧ yX2_mixed.cls ≠ "java/lang/invoke/VarHandle" ∧ (parseMethodDescriptor yX2_mixed.desc).map (fun d => d.parameters.length) = some 1 := ⟨by decide +kernel, by decide +kernel, by decide +kernel⟩
set_option maxRecDepth 100000 in
theorem wd_874 : Cond.methodLink "LearnLoans" 269 yX2_mixed ∈ am_ws := am_wt4 (List.mem_of_getElem? (i := 97) (by rfl)) (by decide +kernel)
set_option maxRecDepth 100000 in
theorem wd_875 : Cond.instanceMethod yX2_mixed ∈ am_ws := am_wt4 (List.mem_of_getElem? (i := 98) (by rfl)) (by decide +kernel)
set_option maxRecDepth 100000 in
theorem wd_876 : Cond.selects "LearnLoans$People" yX2_mixed yX2_mixed ∈ am_ws := am_wt4 (List.mem_of_getElem? (i := 99) (by rfl)) (by decide +kernel)
set_option maxRecDepth 100000 in
theorem wd_877 : Cond.code yX2_mixed cX2_mixed 5 (some .long) ∈ am_ws := am_wt4 (List.mem_of_getElem? (i := 100) (by rfl)) (by decide +kernel)
theorem hy_X3_mixed : yX3_mixed.cls ≠ "java/lang/invoke/MethodHandle" ∧ yX3_mixed.cls ≠ "java/lang/invoke/VarHandle" ∧ (parseMethodDescriptor yX3_mixed.desc).map (fun d => d.parameters.length) = some 1 := ⟨by decide +kernel, by decide +kernel, by decide +kernel⟩
set_option maxRecDepth 100000 in
theorem wd_879 : Cond.methodLink "LearnLoans" 273 yX3_mixed ∈ am_ws := am_wt4 (List.mem_of_getElem? (i := 102) (by rfl)) (by decide +kernel)
set_option maxRecDepth 100000 in
theorem wd_880 : Cond.instanceMethod yX3_mixed ∈ am_ws := am_wt4 (List.mem_of_getElem? (i := 103) (by rfl)) (by decide +kernel)
set_option maxRecDepth 100000 in
theorem wd_881 : Cond.selects "LearnLoans$Rows" yX3_mixed yX3_mixed ∈ am_ws := am_wt4 (List.mem_of_getElem? (i := 104) (by rfl)) (by decide +kernel)
set_option maxRecDepth 100000 in
theorem wd_882 : Cond.code yX3_mixed cX3_mixed 5 (some .long) ∈ am_ws := am_wt4 (List.mem_of_getElem? (i := 105) (by rfl)) (by decide +kernel)
theorem hy_X5_mixed : yX5_mixed.cls ≠ "java/lang/invoke/MethodHandle" ∧ yX5_mixed.cls ≠ "java/lang/invoke/VarHandle" ∧ (parseMethodDescriptor yX5_mixed.desc).map (fun d => d.parameters.length) = some 1 := ⟨by decide +kernel, by decide +kernel, by decide +kernel⟩
set_option maxRecDepth 100000 in
theorem wd_884 : Cond.methodLink "LearnLoans" 274 yX5_mixed ∈ am_ws := am_wt4 (List.mem_of_getElem? (i := 107) (by rfl)) (by decide +kernel)
set_option maxRecDepth 100000 in
theorem wd_885 : Cond.instanceMethod yX5_mixed ∈ am_ws := am_wt4 (List.mem_of_getElem? (i := 108) (by rfl)) (by decide +kernel)
set_option maxRecDepth 100000 in
theorem wd_886 : Cond.selects "LearnLoans$Text" yX5_mixed yX5_mixed ∈ am_ws := am_wt4 (List.mem_of_getElem? (i := 109) (by rfl)) (by decide +kernel)
set_option maxRecDepth 100000 in
theorem wd_887 : Cond.code yX5_mixed cX5_mixed 4 (some .long) ∈ am_ws := am_wt4 (List.mem_of_getElem? (i := 110) (by rfl)) (by decide +kernel)
def rwX7_digest : List dz_r := [(0, .ldc2_w 261, 3), (3, .lstore_n 1, 1), (4, .iconst 0, 1), (5, .istore_n 3, 1), (6, .iload_n 3, 1), (7, .iconst 5, 1), (8, .if_icmp .gt 22, 3), (11, .ldc2_w 263, 3), (14, .lload_n 1, 1), (15, .lmul, 1), (16, .aload_n 0, 1), (17, .iload_n 3, 1), (18, .invokevirtual 265, 3), (21, .i2l, 1), (22, .ladd, 1), (23, .lstore_n 1, 1), (24, .iinc 3 1, 3), (27, .goto (-21), 3), (30, .aload_n 0, 1), (31, .getfield 27, 3), (34, .getfield 38, 3), (37, .lload_n 1, 1), (38, .invokevirtual 269, 3), (41, .lstore_n 1, 1), (42, .aload_n 0, 1), (43, .getfield 27, 3), (46, .getfield 122, 3), (49, .lload_n 1, 1), (50, .invokevirtual 273, 3), (53, .lstore_n 1, 1), (54, .aload_n 0, 1), (55, .getfield 27, 3), (58, .getfield 104, 3), (61, .lload_n 1, 1), (62, .invokevirtual 273, 3), (65, .lstore_n 1, 1), (66, .aload_n 0, 1), (67, .getfield 27, 3), (70, .getfield 146, 3), (73, .lload_n 1, 1), (74, .invokevirtual 273, 3), (77, .lstore_n 1, 1), (78, .iconst 0, 1), (79, .istore_n 3, 1), (80, .iload_n 3, 1), (81, .iconst 5, 1), (82, .if_icmp .ge 23, 3), (85, .aload_n 0, 1), (86, .getfield 27, 3), (89, .getfield 174, 3), (92, .iload_n 3, 1), (93, .aaload, 1), (94, .lload_n 1, 1), (95, .invokevirtual 274, 3), (98, .lstore_n 1, 1), (99, .iinc 3 1, 3), (102, .goto (-22), 3), (105, .aload_n 0, 1), (106, .bipush 39, 2), (108, .bipush 39, 2), (110, .invokevirtual 193, 3), (113, .iconst 0, 1), (114, .istore_n 3, 1), (115, .iload_n 3, 1), (116, .aload_n 0, 1), (117, .getfield 27, 3), (120, .getfield 122, 3), (123, .getfield 108, 3), (126, .if_icmp .ge 46, 3), (129, .ldc2_w 263, 3), (132, .lload_n 1, 1), (133, .lmul, 1), (134, .aload_n 0, 1), (135, .getfield 20, 3), (138, .getfield 158, 3), (141, .iconst 0, 1), (142, .iload_n 3, 1), (143, .iadd, 1), (144, .laload, 1), (145, .ladd, 1), (146, .lstore_n 1, 1), (147, .ldc2_w 263, 3), (150, .lload_n 1, 1), (151, .lmul, 1), (152, .aload_n 0, 1), (153, .getfield 20, 3), (156, .getfield 158, 3), (159, .bipush 90, 2), (161, .iload_n 3, 1), (162, .iadd, 1), (163, .laload, 1), (164, .ladd, 1), (165, .lstore_n 1, 1), (166, .iinc 3 1, 3), (169, .goto (-54), 3), (172, .lload_n 1, 1), (173, .lreturn, 1)]
theorem dzX7_digest : dz cX7_digest rwX7_digest := dz_all 0 (by decide +kernel)
def kX7_digest (live : am_E) (Ret : am_R) : am_code := [(0, am_const (.long 347) 3), (3, am_lstore 1 4 4), (4, am_const (.int 0) 5), (5, am_istore 3 4 6), (6, am_iload 3 7), (7, am_const (.int 5) 8), (8, am_if2 (fun x y => y < x) 30 11), (11, am_const (.long 31) 14), (14, am_lload 1 15), (15, am_l2 (fun x y => x * y) 16), (16, am_aload 0 17), (17, am_iload 3 18), (18, am_callV live 7 1 TX7_count 21), (21, am_i2l 22), (22, am_l2 (fun x y => x + y) 23), (23, am_lstore 1 4 24), (24, am_iinc 3 4 1 27), (27, am_goto 6), (30, am_aload 0 31), (31, am_getR live 7 0 34), (34, am_getR live 0 0 37), (37, am_lload 1 38), (38, am_callV live 2 1 TX2_mixed 41), (41, am_lstore 1 4 42), (42, am_aload 0 43), (43, am_getR live 7 0 46), (46, am_getR live 0 4 49), (49, am_lload 1 50), (50, am_callV live 3 1 TX3_mixed 53), (53, am_lstore 1 4 54), (54, am_aload 0 55), (55, am_getR live 7 0 58), (58, am_getR live 0 3 61), (61, am_lload 1 62), (62, am_callV live 3 1 TX3_mixed 65), (65, am_lstore 1 4 66), (66, am_aload 0 67), (67, am_getR live 7 0 70), (70, am_getR live 0 5 73), (73, am_lload 1 74), (74, am_callV live 3 1 TX3_mixed 77), (77, am_lstore 1 4 78), (78, am_const (.int 0) 79), (79, am_istore 3 4 80), (80, am_iload 3 81), (81, am_const (.int 5) 82), (82, am_if2 (fun x y => y ≤ x) 105 85), (85, am_aload 0 86), (86, am_getR live 7 0 89), (89, am_getR live 0 7 92), (92, am_iload 3 93), (93, am_aald live 3 94), (94, am_lload 1 95), (95, am_callV live 5 1 TX5_mixed 98), (98, am_lstore 1 4 99), (99, am_iinc 3 4 1 102), (102, am_goto 80), (105, am_aload 0 106), (106, am_const (.int 39) 108), (108, am_const (.int 39) 110), (110, am_callV live 7 2 TX7_runEverybody 113), (113, am_const (.int 0) 114), (114, am_istore 3 4 115), (115, am_iload 3 116), (116, am_aload 0 117), (117, am_getR live 7 0 120), (120, am_getR live 0 4 123), (123, am_getI live 3 2 126), (126, am_if2 (fun x y => y ≤ x) 172 129), (129, am_const (.long 31) 132), (132, am_lload 1 133), (133, am_l2 (fun x y => x * y) 134), (134, am_aload 0 135), (135, am_getR live 7 2 138), (138, am_getR live 4 2 141), (141, am_const (.int 0) 142), (142, am_iload 3 143), (143, am_i2 (fun x y => x + y) 144), (144, am_lald live 1 145), (145, am_l2 (fun x y => x + y) 146), (146, am_lstore 1 4 147), (147, am_const (.long 31) 150), (150, am_lload 1 151), (151, am_l2 (fun x y => x * y) 152), (152, am_aload 0 153), (153, am_getR live 7 2 156), (156, am_getR live 4 2 159), (159, am_const (.int 90) 161), (161, am_iload 3 162), (162, am_i2 (fun x y => x + y) 163), (163, am_lald live 1 164), (164, am_l2 (fun x y => x + y) 165), (165, am_lstore 1 4 166), (166, am_iinc 3 4 1 169), (169, am_goto 115), (172, am_lload 1 173), (173, am_retL Ret)]
theorem koX7_digest (live : am_E) (Ret : am_R) : ∀ q ∈ kX7_digest live Ret, am_ok RX7 cX7_digest 4 (some .long) 6 147 live Ret q.1 q.2 :=
  am_kz dzX7_digest <|
  am_kd (fun d => ak_ldc2 wd_871 d rfl) <|
  am_kd (fun d => ak_lstore_n d rfl rfl) <|
  am_kd (fun d => ak_iconst d (by decide +kernel) rfl) <|
  am_kd (fun d => ak_istore_n d rfl rfl) <|
  am_kd (fun d => ak_iload_n d rfl rfl) <|
  am_kd (fun d => ak_iconst d (by decide +kernel) rfl) <|
  am_kd (fun d => ak_icmp_gt d (by decide +kernel) rfl) <|
  am_kd (fun d => ak_ldc2 wd_872 d rfl) <|
  am_kd (fun d => ak_lload_n d rfl rfl) <|
  am_kd (fun d => ak_lmul d rfl) <|
  am_kd (fun d => ak_aload_n d rfl rfl) <|
  am_kd (fun d => ak_iload_n d rfl rfl) <|
  am_kd (fun d => ak_callV (C := RX7) (F := TX7) (N := 4) metX7_count rfl ⟨rfl, hy_X7_count⟩ (am_w5 wd_873 wd_864 wd_865 wd_58 wd_866) (by decide) d rfl) <|
  am_kd (fun d => ak_i2l d rfl) <|
  am_kd (fun d => ak_ladd d rfl) <|
  am_kd (fun d => ak_lstore_n d rfl rfl) <|
  am_kd (fun d => ak_iinc d (by decide +kernel) rfl) <|
  am_kd (fun d => ak_goto d (by decide +kernel)) <|
  am_kd (fun d => ak_aload_n d rfl rfl) <|
  am_kd (fun d => ak_getR (C := RX7) (T := TX7) (N := 4) rfl inX7w (by decide) rfl rfl rfl wd_390 d rfl) <|
  am_kd (fun d => ak_getR (C := RX0) (T := TX0) (N := 13) rfl inX0w (by decide) rfl rfl rfl wd_194 d rfl) <|
  am_kd (fun d => ak_lload_n d rfl rfl) <|
  am_kd (fun d => ak_callV (C := RX2) (F := TX2) (N := 8) metX2_mixed rfl ⟨rfl, hy_X2_mixed⟩ (am_w5 wd_874 wd_875 wd_876 wd_62 wd_877) (by decide) d rfl) <|
  am_kd (fun d => ak_lstore_n d rfl rfl) <|
  am_kd (fun d => ak_aload_n d rfl rfl) <|
  am_kd (fun d => ak_getR (C := RX7) (T := TX7) (N := 4) rfl inX7w (by decide) rfl rfl rfl wd_390 d rfl) <|
  am_kd (fun d => ak_getR (C := RX0) (T := TX0) (N := 13) rfl inX0w (by decide) rfl rfl rfl wd_207 d rfl) <|
  am_kd (fun d => ak_lload_n d rfl rfl) <|
  am_kd (fun d => ak_callV (C := RX3) (F := TX3) (N := 3) metX3_mixed rfl ⟨rfl, hy_X3_mixed⟩ (am_w5 wd_879 wd_880 wd_881 wd_64 wd_882) (by decide) d rfl) <|
  am_kd (fun d => ak_lstore_n d rfl rfl) <|
  am_kd (fun d => ak_aload_n d rfl rfl) <|
  am_kd (fun d => ak_getR (C := RX7) (T := TX7) (N := 4) rfl inX7w (by decide) rfl rfl rfl wd_390 d rfl) <|
  am_kd (fun d => ak_getR (C := RX0) (T := TX0) (N := 13) rfl inX0w (by decide) rfl rfl rfl wd_204 d rfl) <|
  am_kd (fun d => ak_lload_n d rfl rfl) <|
  am_kd (fun d => ak_callV (C := RX3) (F := TX3) (N := 3) metX3_mixed rfl ⟨rfl, hy_X3_mixed⟩ (am_w5 wd_879 wd_880 wd_881 wd_64 wd_882) (by decide) d rfl) <|
  am_kd (fun d => ak_lstore_n d rfl rfl) <|
  am_kd (fun d => ak_aload_n d rfl rfl) <|
  am_kd (fun d => ak_getR (C := RX7) (T := TX7) (N := 4) rfl inX7w (by decide) rfl rfl rfl wd_390 d rfl) <|
  am_kd (fun d => ak_getR (C := RX0) (T := TX0) (N := 13) rfl inX0w (by decide) rfl rfl rfl wd_209 d rfl) <|
  am_kd (fun d => ak_lload_n d rfl rfl) <|
  am_kd (fun d => ak_callV (C := RX3) (F := TX3) (N := 3) metX3_mixed rfl ⟨rfl, hy_X3_mixed⟩ (am_w5 wd_879 wd_880 wd_881 wd_64 wd_882) (by decide) d rfl) <|
  am_kd (fun d => ak_lstore_n d rfl rfl) <|
  am_kd (fun d => ak_iconst d (by decide +kernel) rfl) <|
  am_kd (fun d => ak_istore_n d rfl rfl) <|
  am_kd (fun d => ak_iload_n d rfl rfl) <|
  am_kd (fun d => ak_iconst d (by decide +kernel) rfl) <|
  am_kd (fun d => ak_icmp_ge d (by decide +kernel) rfl) <|
  am_kd (fun d => ak_aload_n d rfl rfl) <|
  am_kd (fun d => ak_getR (C := RX7) (T := TX7) (N := 4) rfl inX7w (by decide) rfl rfl rfl wd_390 d rfl) <|
  am_kd (fun d => ak_getR (C := RX0) (T := TX0) (N := 13) rfl inX0w (by decide) rfl rfl rfl wd_215 d rfl) <|
  am_kd (fun d => ak_iload_n d rfl rfl) <|
  am_kd (fun d => ak_aald (t := 3) (fun _ => rfl) rfl d rfl) <|
  am_kd (fun d => ak_lload_n d rfl rfl) <|
  am_kd (fun d => ak_callV (C := RX5) (F := TX5) (N := 7) metX5_mixed rfl ⟨rfl, hy_X5_mixed⟩ (am_w5 wd_884 wd_885 wd_886 wd_65 wd_887) (by decide) d rfl) <|
  am_kd (fun d => ak_lstore_n d rfl rfl) <|
  am_kd (fun d => ak_iinc d (by decide +kernel) rfl) <|
  am_kd (fun d => ak_goto d (by decide +kernel)) <|
  am_kd (fun d => ak_aload_n d rfl rfl) <|
  am_kd (fun d => ak_bipush d (by decide +kernel) rfl) <|
  am_kd (fun d => ak_bipush d (by decide +kernel) rfl) <|
  am_kd (fun d => ak_callV (C := RX7) (F := TX7) (N := 4) metX7_runEverybody rfl ⟨rfl, hy_X7_runEverybody⟩ (am_w5 wd_743 wd_745 wd_23 wd_58 wd_746) (by decide) d rfl) <|
  am_kd (fun d => ak_iconst d (by decide +kernel) rfl) <|
  am_kd (fun d => ak_istore_n d rfl rfl) <|
  am_kd (fun d => ak_iload_n d rfl rfl) <|
  am_kd (fun d => ak_aload_n d rfl rfl) <|
  am_kd (fun d => ak_getR (C := RX7) (T := TX7) (N := 4) rfl inX7w (by decide) rfl rfl rfl wd_390 d rfl) <|
  am_kd (fun d => ak_getR (C := RX0) (T := TX0) (N := 13) rfl inX0w (by decide) rfl rfl rfl wd_207 d rfl) <|
  am_kd (fun d => ak_getI (C := RX3) (T := TX3) (N := 3) rfl inX3w (by decide) rfl rfl rfl wd_152 d rfl) <|
  am_kd (fun d => ak_icmp_ge d (by decide +kernel) rfl) <|
  am_kd (fun d => ak_ldc2 wd_872 d rfl) <|
  am_kd (fun d => ak_lload_n d rfl rfl) <|
  am_kd (fun d => ak_lmul d rfl) <|
  am_kd (fun d => ak_aload_n d rfl rfl) <|
  am_kd (fun d => ak_getR (C := RX7) (T := TX7) (N := 4) rfl inX7w (by decide) rfl rfl rfl wd_392 d rfl) <|
  am_kd (fun d => ak_getR (C := RX4) (T := TX4) (N := 19) rfl inX4w (by decide) rfl rfl rfl wd_298 d rfl) <|
  am_kd (fun d => ak_iconst d (by decide +kernel) rfl) <|
  am_kd (fun d => ak_iload_n d rfl rfl) <|
  am_kd (fun d => ak_iadd d rfl) <|
  am_kd (fun d => ak_lald (t := 1) (fun _ => rfl) rfl d rfl) <|
  am_kd (fun d => ak_ladd d rfl) <|
  am_kd (fun d => ak_lstore_n d rfl rfl) <|
  am_kd (fun d => ak_ldc2 wd_872 d rfl) <|
  am_kd (fun d => ak_lload_n d rfl rfl) <|
  am_kd (fun d => ak_lmul d rfl) <|
  am_kd (fun d => ak_aload_n d rfl rfl) <|
  am_kd (fun d => ak_getR (C := RX7) (T := TX7) (N := 4) rfl inX7w (by decide) rfl rfl rfl wd_392 d rfl) <|
  am_kd (fun d => ak_getR (C := RX4) (T := TX4) (N := 19) rfl inX4w (by decide) rfl rfl rfl wd_298 d rfl) <|
  am_kd (fun d => ak_bipush d (by decide +kernel) rfl) <|
  am_kd (fun d => ak_iload_n d rfl rfl) <|
  am_kd (fun d => ak_iadd d rfl) <|
  am_kd (fun d => ak_lald (t := 1) (fun _ => rfl) rfl d rfl) <|
  am_kd (fun d => ak_ladd d rfl) <|
  am_kd (fun d => ak_lstore_n d rfl rfl) <|
  am_kd (fun d => ak_iinc d (by decide +kernel) rfl) <|
  am_kd (fun d => ak_goto d (by decide +kernel)) <|
  am_kd (fun d => ak_lload_n d rfl rfl) <|
  am_kd (fun d => ak_retL d) <| am_kdn
def TX7_digest : am_T := fun live as M R => match as with
  | [.ref n] => am_mn live ∧ n = 0 ∧ (g_hI M ∧ g_rI M) ∧ ∀ v M', g_sc M M' → g_rI M' → R (some (.long v)) M'
  | _ => False
def JX7_digest : am_E → List Value → am_M → am_R → am_inv := fun live as M0 _ pc => match as with
  | [.ref n] => (match pc with
    | 6 => some ([0, 1, 3], fun u L st M => ∃ (v : Int64) (i : Int32), L = [(0, .ref 0), (1, .long v), (3, .int i)] ∧ st = [] ∧ u = (2000 + (8 - i.toInt).toNat, 0) ∧ 0 ≤ i.toInt ∧ M = M0)
    | 80 => some ([0, 1, 3], fun u L st M => ∃ (v : Int64) (i : Int32), L = [(0, .ref 0), (1, .long v), (3, .int i)] ∧ st = [] ∧ u = (1000 + (8 - i.toInt).toNat, 0) ∧ 0 ≤ i.toInt ∧ M = M0)
    | 115 => some ([0, 1, 3], fun u L st M => ∃ (v : Int64) (i : Int32), L = [(0, .ref 0), (1, .long v), (3, .int i)] ∧ st = [] ∧ u = ((31 - i.toInt).toNat, 0) ∧ 0 ≤ i.toInt ∧ g_sc M0 M ∧ g_rI M)
    | _ => none)
  | _ => none
set_option maxRecDepth 100000 in
set_option maxHeartbeats 4000000 in
theorem metX7_digest : am_Met yX7_digest cX7_digest 4 (some .long) (6) (147) TX7_digest := by
  refine am_met (own := RX7) (by decide +kernel) rfl kX7_digest koX7_digest 150 JX7_digest ?_ ?_
  · intro live as M Ret h
    unfold TX7_digest at h
    split at h
    · next n =>
      refine ⟨Nat.le_of_ble_eq_true rfl, ?_⟩
      change am_wp _ _ _ _ [(0, Value.ref n)] _ _
      obtain ⟨hmn, rfl, ⟨hH, hR⟩, h⟩ := h
      have hmn2 := hmn
      obtain ⟨i1, i2, rfl⟩ := hmn2
      repeat' (first | (with_reducible exact hmn) | (with_reducible exact hR) | (with_reducible exact hH) | apply And.intro | exact rfl | ((with_reducible change g_rI _); (with_reducible assumption)) | (intro hx; exact absurd hx (by decide)) | (intro hx; exact absurd (by decide) hx) | decide | intro hx | (refine Exists.intro _ (And.intro rfl ?_)))
      all_goals try first | (with_reducible change am_tI _ _) | (change Ret _ _) | (change Ret _ _ _) | (change Exists _)
      all_goals try dsimp only at *
      all_goals try (with_reducible exact absurd ‹(1000 : Int64) = 0› am_z1000)
      all_goals first | exact ⟨_, _, _, rfl, rfl, rfl, by decide, rfl⟩ | ((with_reducible change Ret _ _); exact h _ _ (by (repeat' (first | (with_reducible exact g_sc.rf) | (with_reducible assumption) | ((with_reducible change g_sc _ (am_wI _ _ _ _)); refine g_sc.wI ?_ rfl) | ((with_reducible change g_sc _ (am_wJ _ _ _ _)); refine g_sc.wJ ?_ rfl) | ((with_reducible change g_sc _ (am_cI _ _ _)); refine g_sc.cI ?_ rfl) | ((with_reducible change g_sc _ (am_cJ _ _ _)); refine g_sc.cJ ?_ rfl) | (refine g_sc.tr ?_ (by with_reducible assumption)) | (refine g_sc.st ?_ (by with_reducible assumption))))) (by (repeat' (first | (with_reducible assumption) | ((with_reducible change g_rI (am_wJ _ _ _ _)); refine g_rI.wJ ?_) | ((with_reducible change g_rI (am_cJ _ _ _)); refine g_rI.cJ ?_) | ((with_reducible change g_rI (am_wI _ 5 _ _)); refine g_rI.w5 ?_) | ((with_reducible change g_rI (am_wI _ _ _ _)); refine g_rI.wF ?_ rfl) | (refine g_rI.st ?_ (by with_reducible assumption)) | (refine g_rI.we ?_ (by with_reducible assumption)))))) | skip
    · exact h.elim
  · intro live as M0 Ret h k pc I hI L st M hi
    unfold TX7_digest at h
    split at h
    · next n =>
      obtain ⟨hmn, rfl, ⟨hH, hR⟩, h⟩ := h
      have hmn2 := hmn
      obtain ⟨i1, i2, rfl⟩ := hmn2
      change (match pc with | 6 => _ | 80 => _ | 115 => _ | _ => none) = _ at hI
      split at hI
      · cases hI
        obtain ⟨v, i, rfl, rfl, rfl, e1, rfl⟩ := hi
        by_cases hz : (5 : Int32) < i
        · skip
          repeat' (first | (with_reducible exact hmn) | apply And.intro | exact rfl | (intro hx; with_reducible exact absurd hz hx) | intro hx | (refine Exists.intro _ (And.intro rfl ?_)))
          all_goals try first | (with_reducible change am_tI _ _) | (change Ret _ _) | (change Ret _ _ _) | (change Exists _)
          all_goals try dsimp only at *
          all_goals try (with_reducible exact absurd ‹(1000 : Int64) = 0› am_z1000)
          all_goals first
            | exact ⟨_, am_lt_l (by simp only [Int32.reduceToInt]; omega), _, _, rfl, rfl, rfl, by decide, rfl⟩
            | skip
        · have hz2 := hz
          simp only [i_lt, Int32.reduceToInt] at hz2
          have hi := i_inc (x := i) (by omega) (by omega)
          repeat' (first | (with_reducible exact hmn) | apply And.intro | exact rfl | (intro hx; with_reducible exact absurd hx hz) | intro hx | (refine Exists.intro _ (And.intro rfl ?_)))
          all_goals try first | (with_reducible change am_tI _ _) | (change Ret _ _) | (change Ret _ _ _) | (change Exists _)
          all_goals try dsimp only at *
          all_goals try (with_reducible exact absurd ‹(1000 : Int64) = 0› am_z1000)
          all_goals exact ⟨_, am_lt_l (by omega), _, _, rfl, rfl, rfl, by omega, rfl⟩
      · cases hI
        obtain ⟨v, i, rfl, rfl, rfl, e1, rfl⟩ := hi
        by_cases hz : (5 : Int32) ≤ i
        · skip
          repeat' (first | (with_reducible exact hmn) | (with_reducible exact hH) | (with_reducible exact hR) | apply And.intro | exact rfl | (intro hx; with_reducible exact absurd hz hx) | intro hx | (refine Exists.intro _ (And.intro rfl ?_)))
          all_goals try first | (with_reducible change am_tI _ _) | (change Ret _ _) | (change Ret _ _ _) | (change Exists _)
          all_goals try dsimp only at *
          all_goals try (with_reducible exact absurd ‹(1000 : Int64) = 0› am_z1000)
          all_goals exact ⟨_, am_lt_l (by simp only [Int32.reduceToInt]; omega), _, _, rfl, rfl, rfl, by decide, by (repeat' (first | (with_reducible exact g_sc.rf) | (with_reducible assumption) | ((with_reducible change g_sc _ (am_wI _ _ _ _)); refine g_sc.wI ?_ rfl) | ((with_reducible change g_sc _ (am_wJ _ _ _ _)); refine g_sc.wJ ?_ rfl) | ((with_reducible change g_sc _ (am_cI _ _ _)); refine g_sc.cI ?_ rfl) | ((with_reducible change g_sc _ (am_cJ _ _ _)); refine g_sc.cJ ?_ rfl) | (refine g_sc.tr ?_ (by with_reducible assumption)) | (refine g_sc.st ?_ (by with_reducible assumption)))), by (repeat' (first | (with_reducible assumption) | ((with_reducible change g_rI (am_wJ _ _ _ _)); refine g_rI.wJ ?_) | ((with_reducible change g_rI (am_cJ _ _ _)); refine g_rI.cJ ?_) | ((with_reducible change g_rI (am_wI _ 5 _ _)); refine g_rI.w5 ?_) | ((with_reducible change g_rI (am_wI _ _ _ _)); refine g_rI.wF ?_ rfl) | (refine g_rI.st ?_ (by with_reducible assumption)) | (refine g_rI.we ?_ (by with_reducible assumption))))⟩
        · have hz2 := hz
          simp only [i_le, Int32.reduceToInt] at hz2
          have hi := i_inc (x := i) (by omega) (by omega)
          have hp : am_in i 5 := ⟨e1, by omega⟩
          obtain ⟨t, s, c, h2, k1, k2, k3, h1, ht, et, es, ec, k4⟩ := g_txt hmn hp
          have l38 : am_len 38 = 5 := rfl
          repeat' (first | (with_reducible exact hmn) | (with_reducible exact h1) | (with_reducible exact h2) | (refine Exists.intro _ (And.intro h2 ?_)) | apply And.intro | exact rfl | (intro hx; with_reducible exact absurd hx hz) | intro hx | (refine Exists.intro _ (And.intro rfl ?_)) | (refine am_tP_in k1 k2 k3 ?_) | ((with_reducible change _ = true); simp only [h1, h2, Bool.true_and]; rfl))
          all_goals try first | (with_reducible change am_tI _ _) | (change Ret _ _) | (change Ret _ _ _) | (change Exists _)
          all_goals try dsimp only at *
          all_goals try (with_reducible exact absurd ‹(1000 : Int64) = 0› am_z1000)
          all_goals first
            | (with_reducible exact hp.1)
            | (rw [l38]; exact hp.2)
            | exact hp.1
            | exact ⟨_, am_lt_l (by omega), _, _, rfl, rfl, rfl, by omega, rfl⟩
      · cases hI
        obtain ⟨v, i, rfl, rfl, rfl, e1, e2, e3⟩ := hi
        have hs := hH.lo.2
        by_cases hz : M.1 33 2 ≤ i
        · skip
          repeat' (first | (with_reducible exact hmn) | apply And.intro | exact rfl | (intro hx; with_reducible exact absurd hz hx) | intro hx | (refine Exists.intro _ (And.intro rfl ?_)))
          all_goals try first | (with_reducible change am_tI _ _) | (change Ret _ _) | (change Ret _ _ _) | (change Exists _)
          all_goals try dsimp only at *
          all_goals try (with_reducible exact absurd ‹(1000 : Int64) = 0› am_z1000)
          all_goals exact h _ _ e2 e3
        · have hz2 := hz
          rw [e2.i 2 (by decide)] at hz2
          simp only [i_le] at hz2
          have hi := i_inc (x := i) (by omega) (by omega)
          have hl : am_in i 30 := ⟨e1, by omega⟩
          have f0 := g_ix hl 0 0 rfl (by decide)
          have f90 := g_ix hl 90 90 rfl (by decide)
          have l6 : am_len 6 = 180 := rfl
          repeat' (first | (with_reducible exact hmn) | apply And.intro | exact rfl | (intro hx; with_reducible exact absurd hx hz) | intro hx | (refine Exists.intro _ (And.intro rfl ?_)))
          all_goals try first | (with_reducible change am_tI _ _) | (change Ret _ _) | (change Ret _ _ _) | (change Exists _)
          all_goals try dsimp only at *
          all_goals try (with_reducible exact absurd ‹(1000 : Int64) = 0› am_z1000)
          all_goals first
            | (with_reducible exact f0.1)
            | (rw [l6]; exact f0.2.1)
            | (with_reducible exact f90.1)
            | (rw [l6]; exact f90.2.1)
            | exact f0.1
            | exact f90.1
            | exact ⟨_, am_lt_l (by omega), _, _, rfl, rfl, rfl, by omega, e2, e3⟩
            | skip
      · cases hI
    · exact h.elim
