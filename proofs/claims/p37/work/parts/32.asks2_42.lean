-- part 32.asks2.lean.txt
section
/-! general: loan, book, early, best, digest -/
set_option maxRecDepth 100000 in
theorem wd_878 : Cond.constantLong "LearnLoans$People" 49 31 ∈ am_ws := am_wt4 (List.mem_of_getElem? (i := 101) (by rfl)) (by decide +kernel)
def rwX2_mixed : List dz_r := [(0, .iconst 0, 1), (1, .istore_n 3, 1), (2, .iload_n 3, 1), (3, .aload_n 0, 1), (4, .getfield 45, 3), (7, .if_icmp .ge 79, 3), (10, .iload_n 3, 1), (11, .bipush 12, 2), (13, .if_icmp .ge 73, 3), (16, .ldc2_w 49, 3), (19, .lload_n 1, 1), (20, .lmul, 1), (21, .aload_n 0, 1), (22, .getfield 9, 3), (25, .iload_n 3, 1), (26, .iaload, 1), (27, .i2l, 1), (28, .ladd, 1), (29, .lstore_n 1, 1), (30, .ldc2_w 49, 3), (33, .lload_n 1, 1), (34, .lmul, 1), (35, .aload_n 0, 1), (36, .getfield 15, 3), (39, .iload_n 3, 1), (40, .iaload, 1), (41, .i2l, 1), (42, .ladd, 1), (43, .lstore_n 1, 1), (44, .iconst 0, 1), (45, .istore 4, 2), (47, .iload 4, 2), (49, .bipush 40, 2), (51, .if_icmp .ge 29, 3), (54, .ldc2_w 49, 3), (57, .lload_n 1, 1), (58, .lmul, 1), (59, .aload_n 0, 1), (60, .getfield 18, 3), (63, .iload_n 3, 1), (64, .bipush 40, 2), (66, .imul, 1), (67, .iload 4, 2), (69, .iadd, 1), (70, .iaload, 1), (71, .i2l, 1), (72, .ladd, 1), (73, .lstore_n 1, 1), (74, .iinc 4 1, 3), (77, .goto (-30), 3), (80, .iinc 3 1, 3), (83, .goto (-81), 3), (86, .lload_n 1, 1), (87, .lreturn, 1)]
theorem dzX2_mixed : dz cX2_mixed rwX2_mixed := dz_all 0 (by decide +kernel)
def kX2_mixed (live : am_E) (Ret : am_R) : am_code := [(0, am_const (.int 0) 1), (1, am_istore 3 5 2), (2, am_iload 3 3), (3, am_aload 0 4), (4, am_getI live 2 7 7), (7, am_if2 (fun x y => y ≤ x) 86 10), (10, am_iload 3 11), (11, am_const (.int 12) 13), (13, am_if2 (fun x y => y ≤ x) 86 16), (16, am_const (.long 31) 19), (19, am_lload 1 20), (20, am_l2 (fun x y => x * y) 21), (21, am_aload 0 22), (22, am_getR live 2 0 25), (25, am_iload 3 26), (26, am_ald live 0 27), (27, am_i2l 28), (28, am_l2 (fun x y => x + y) 29), (29, am_lstore 1 5 30), (30, am_const (.long 31) 33), (33, am_lload 1 34), (34, am_l2 (fun x y => x * y) 35), (35, am_aload 0 36), (36, am_getR live 2 1 39), (39, am_iload 3 40), (40, am_ald live 0 41), (41, am_i2l 42), (42, am_l2 (fun x y => x + y) 43), (43, am_lstore 1 5 44), (44, am_const (.int 0) 45), (45, am_istore 4 5 47), (47, am_iload 4 49), (49, am_const (.int 40) 51), (51, am_if2 (fun x y => y ≤ x) 80 54), (54, am_const (.long 31) 57), (57, am_lload 1 58), (58, am_l2 (fun x y => x * y) 59), (59, am_aload 0 60), (60, am_getR live 2 2 63), (63, am_iload 3 64), (64, am_const (.int 40) 66), (66, am_i2 (fun x y => x * y) 67), (67, am_iload 4 69), (69, am_i2 (fun x y => x + y) 70), (70, am_ald live 0 71), (71, am_i2l 72), (72, am_l2 (fun x y => x + y) 73), (73, am_lstore 1 5 74), (74, am_iinc 4 5 1 77), (77, am_goto 47), (80, am_iinc 3 5 1 83), (83, am_goto 2), (86, am_lload 1 87), (87, am_retL Ret)]
theorem koX2_mixed (live : am_E) (Ret : am_R) : ∀ q ∈ kX2_mixed live Ret, am_ok RX2 cX2_mixed 5 (some .long) 0 0 live Ret q.1 q.2 :=
  am_kz dzX2_mixed <|
  am_kd (fun d => ak_iconst d (by decide +kernel) rfl) <|
  am_kd (fun d => ak_istore_n d rfl rfl) <|
  am_kd (fun d => ak_iload_n d rfl rfl) <|
  am_kd (fun d => ak_aload_n d rfl rfl) <|
  am_kd (fun d => ak_getI (C := RX2) (T := TX2) (N := 8) rfl inX2w (by decide) rfl rfl rfl wd_122 d rfl) <|
  am_kd (fun d => ak_icmp_ge d (by decide +kernel) rfl) <|
  am_kd (fun d => ak_iload_n d rfl rfl) <|
  am_kd (fun d => ak_bipush d (by decide +kernel) rfl) <|
  am_kd (fun d => ak_icmp_ge d (by decide +kernel) rfl) <|
  am_kd (fun d => ak_ldc2 wd_878 d rfl) <|
  am_kd (fun d => ak_lload_n d rfl rfl) <|
  am_kd (fun d => ak_lmul d rfl) <|
  am_kd (fun d => ak_aload_n d rfl rfl) <|
  am_kd (fun d => ak_getR (C := RX2) (T := TX2) (N := 8) rfl inX2w (by decide) rfl rfl rfl wd_105 d rfl) <|
  am_kd (fun d => ak_iload_n d rfl rfl) <|
  am_kd (fun d => ak_iald (t := 0) (fun _ => rfl) rfl d rfl) <|
  am_kd (fun d => ak_i2l d rfl) <|
  am_kd (fun d => ak_ladd d rfl) <|
  am_kd (fun d => ak_lstore_n d rfl rfl) <|
  am_kd (fun d => ak_ldc2 wd_878 d rfl) <|
  am_kd (fun d => ak_lload_n d rfl rfl) <|
  am_kd (fun d => ak_lmul d rfl) <|
  am_kd (fun d => ak_aload_n d rfl rfl) <|
  am_kd (fun d => ak_getR (C := RX2) (T := TX2) (N := 8) rfl inX2w (by decide) rfl rfl rfl wd_108 d rfl) <|
  am_kd (fun d => ak_iload_n d rfl rfl) <|
  am_kd (fun d => ak_iald (t := 0) (fun _ => rfl) rfl d rfl) <|
  am_kd (fun d => ak_i2l d rfl) <|
  am_kd (fun d => ak_ladd d rfl) <|
  am_kd (fun d => ak_lstore_n d rfl rfl) <|
  am_kd (fun d => ak_iconst d (by decide +kernel) rfl) <|
  am_kd (fun d => ak_istore d rfl) <|
  am_kd (fun d => ak_iload d rfl) <|
  am_kd (fun d => ak_bipush d (by decide +kernel) rfl) <|
  am_kd (fun d => ak_icmp_ge d (by decide +kernel) rfl) <|
  am_kd (fun d => ak_ldc2 wd_878 d rfl) <|
  am_kd (fun d => ak_lload_n d rfl rfl) <|
  am_kd (fun d => ak_lmul d rfl) <|
  am_kd (fun d => ak_aload_n d rfl rfl) <|
  am_kd (fun d => ak_getR (C := RX2) (T := TX2) (N := 8) rfl inX2w (by decide) rfl rfl rfl wd_110 d rfl) <|
  am_kd (fun d => ak_iload_n d rfl rfl) <|
  am_kd (fun d => ak_bipush d (by decide +kernel) rfl) <|
  am_kd (fun d => ak_imul d rfl) <|
  am_kd (fun d => ak_iload d rfl) <|
  am_kd (fun d => ak_iadd d rfl) <|
  am_kd (fun d => ak_iald (t := 0) (fun _ => rfl) rfl d rfl) <|
  am_kd (fun d => ak_i2l d rfl) <|
  am_kd (fun d => ak_ladd d rfl) <|
  am_kd (fun d => ak_lstore_n d rfl rfl) <|
  am_kd (fun d => ak_iinc d (by decide +kernel) rfl) <|
  am_kd (fun d => ak_goto d (by decide +kernel)) <|
  am_kd (fun d => ak_iinc d (by decide +kernel) rfl) <|
  am_kd (fun d => ak_goto d (by decide +kernel)) <|
  am_kd (fun d => ak_lload_n d rfl rfl) <|
  am_kd (fun d => ak_retL d) <| am_kdn
def TX2_mixed : am_T := fun live as M R => match as with
  | [.ref n, .long x] => am_mn live ∧ n = 21 ∧ ∀ v, R (some (.long v)) M
  | _ => False
def JX2_mixed : am_E → List Value → am_M → am_R → am_inv := fun live as M0 _ pc => match as with
  | [.ref n, .long x] => (match pc with
    | 2 => some ([0, 1, 3], fun k L st M => ∃ (v : Int64) (i : Int32), L = [(0, .ref 21), (1, .long v), (3, .int i)] ∧ st = [] ∧ k = ((14 - i.toInt).toNat, 100) ∧ 0 ≤ i.toInt ∧ M = M0)
    | 47 => some ([0, 1, 3, 4], fun k L st M => ∃ (v : Int64) (i y : Int32), L = [(0, .ref 21), (1, .long v), (3, .int i), (4, .int y)] ∧ st = [] ∧ k = ((14 - i.toInt).toNat, (41 - y.toInt).toNat) ∧ (0 ≤ i.toInt ∧ i.toInt < 12) ∧ 0 ≤ y.toInt ∧ M = M0)
    | _ => none)
  | _ => none
set_option maxRecDepth 100000 in
set_option maxHeartbeats 4000000 in
theorem metX2_mixed : am_Met yX2_mixed cX2_mixed 5 (some .long) (0) (0) TX2_mixed := by
  refine am_met (own := RX2) (by decide +kernel) rfl kX2_mixed koX2_mixed 100 JX2_mixed ?_ ?_
  · intro live as M Ret h
    unfold TX2_mixed at h
    split at h
    · next n x =>
      refine ⟨Nat.le_of_ble_eq_true rfl, ?_⟩
      change am_wp _ _ _ _ [(0, Value.ref n), (1, Value.long x)] _ _
      obtain ⟨hmn, rfl, h⟩ := h
      repeat' (first | apply And.intro | exact rfl | intro hx | (refine Exists.intro _ (And.intro rfl ?_)))
      all_goals try first | (with_reducible change am_tI _ _) | (change Ret _ _) | (change Ret _ _ _) | (change Exists _)
      all_goals try dsimp only at *
      all_goals try (with_reducible exact absurd ‹(1000 : Int64) = 0› am_z1000)
      exact ⟨_, _, _, rfl, rfl, rfl, by decide, rfl⟩
    · exact h.elim
  · intro live as M0 Ret h k pc I hI L st M hi
    unfold TX2_mixed at h
    split at h
    · next n x =>
      obtain ⟨hmn, rfl, h⟩ := h
      obtain ⟨i1, i2, rfl⟩ := hmn
      have l22 : am_len 22 = 12 := rfl
      have l23 : am_len 23 = 12 := rfl
      have l24 : am_len 24 = 480 := rfl
      change (match pc with | 2 => _ | 47 => _ | _ => none) = _ at hI
      split at hI
      · cases hI
        obtain ⟨v, i, rfl, rfl, rfl, e1, rfl⟩ := hi
        by_cases hz : (12 : Int32) ≤ i
        · skip
          repeat' (first | apply And.intro | exact rfl | (intro hx; with_reducible exact absurd hz hx) | intro hx | (refine Exists.intro _ (And.intro rfl ?_)))
          all_goals try first | (with_reducible change am_tI _ _) | (change Ret _ _) | (change Ret _ _ _) | (change Exists _)
          all_goals try dsimp only at *
          all_goals try (with_reducible exact absurd ‹(1000 : Int64) = 0› am_z1000)
          all_goals exact h _
        · have hz2 := hz
          simp only [i_le, Int32.reduceToInt] at hz2
          repeat' (first | apply And.intro | exact rfl | (intro hx; with_reducible exact absurd hx hz) | intro hx | (refine Exists.intro _ (And.intro rfl ?_)))
          all_goals try first | (with_reducible change am_tI _ _) | (change Ret _ _) | (change Ret _ _ _) | (change Exists _)
          all_goals try dsimp only at *
          all_goals try (with_reducible exact absurd ‹(1000 : Int64) = 0› am_z1000)
          all_goals first
            | (with_reducible exact h _)
            | omega
            | (rw [l22]; omega)
            | (rw [l23]; omega)
            | exact h _
            | exact ⟨_, am_lt_r (by simp only [Int32.reduceToInt]; omega), _, _, _, rfl, rfl, rfl, ⟨e1, by omega⟩, by decide, rfl⟩
            | skip
      · cases hI
        obtain ⟨v, i, y, rfl, rfl, rfl, ⟨e1, e2⟩, e3, rfl⟩ := hi
        have hi := i_inc (x := i) (by omega) (by omega)
        by_cases hz : (40 : Int32) ≤ y
        · skip
          repeat' (first | apply And.intro | exact rfl | (intro hx; with_reducible exact absurd hz hx) | intro hx | (refine Exists.intro _ (And.intro rfl ?_)))
          all_goals try first | (with_reducible change am_tI _ _) | (change Ret _ _) | (change Ret _ _ _) | (change Exists _)
          all_goals try dsimp only at *
          all_goals try (with_reducible exact absurd ‹(1000 : Int64) = 0› am_z1000)
          exact ⟨_, am_lt_l (by omega), _, _, rfl, rfl, rfl, by omega, rfl⟩
        · have hz2 := hz
          simp only [i_le, Int32.reduceToInt] at hz2
          have hy := i_inc (x := y) (by omega) (by omega)
          have ei := g_40 (n := 12) (by decide) (a := i) (y := y) ⟨e1, by omega⟩ ⟨e3, by omega⟩
          repeat' (first | apply And.intro | exact rfl | (intro hx; with_reducible exact absurd hx hz) | intro hx | (refine Exists.intro _ (And.intro rfl ?_)))
          all_goals try first | (with_reducible change am_tI _ _) | (change Ret _ _) | (change Ret _ _ _) | (change Exists _)
          all_goals try dsimp only at *
          all_goals try (with_reducible exact absurd ‹(1000 : Int64) = 0› am_z1000)
          all_goals first
            | omega
            | (rw [l24]; omega)
            | exact ⟨_, am_lt_r (by omega), _, _, _, rfl, rfl, rfl, ⟨e1, e2⟩, by omega, rfl⟩
            | skip
      · cases hI
    · exact h.elim
def rwX7_loan : List dz_r := [(0, .aload_n 0, 1), (1, .iload_n 1, 1), (2, .invokevirtual 52, 3), (5, .ifCond .eq 30, 3), (8, .iload_n 2, 1), (9, .invokestatic 98, 3), (12, .ifCond .eq 23, 3), (15, .iload_n 3, 1), (16, .invokestatic 34, 3), (19, .ifCond .eq 16, 3), (22, .iload 4, 2), (24, .invokestatic 79, 3), (27, .ifCond .eq 8, 3), (30, .iload 4, 2), (32, .ifCond .ne 6, 3), (35, .bipush (-2), 2), (37, .ireturn, 1), (38, .aload_n 0, 1), (39, .getfield 27, 3), (42, .getfield 122, 3), (45, .astore 6, 2), (47, .aload 6, 2), (49, .getfield 108, 3), (52, .bipush 30, 2), (54, .if_icmp .lt 6, 3), (57, .bipush (-4), 2), (59, .ireturn, 1), (60, .aload 6, 2), (62, .iload_n 1, 1), (63, .iload_n 2, 1), (64, .iload_n 3, 1), (65, .invokevirtual 125, 3), (68, .istore 7, 2), (70, .aload 6, 2), (72, .iload 7, 2), (74, .iconst 3, 1), (75, .iload 4, 2), (77, .invokevirtual 128, 3), (80, .aload 6, 2), (82, .iload 7, 2), (84, .iconst 4, 1), (85, .iload 5, 2), (87, .ifCond .eq 7, 3), (90, .iconst 1, 1), (91, .goto 4, 3), (94, .iconst 0, 1), (95, .invokevirtual 128, 3), (98, .aload 6, 2), (100, .iload 7, 2), (102, .iconst 5, 1), (103, .iconst (-1), 1), (104, .invokevirtual 128, 3), (107, .aload 6, 2), (109, .iload 7, 2), (111, .bipush 6, 2), (113, .iconst (-1), 1), (114, .invokevirtual 128, 3), (117, .aload 6, 2), (119, .iload 7, 2), (121, .bipush 7, 2), (123, .iconst (-1), 1), (124, .invokevirtual 128, 3), (127, .aload_n 0, 1), (128, .getfield 27, 3), (131, .getfield 132, 3), (134, .iload 7, 2), (136, .bipush 40, 2), (138, .imul, 1), (139, .iload 7, 2), (141, .bipush 40, 2), (143, .imul, 1), (144, .bipush 39, 2), (146, .iadd, 1), (147, .iload_n 2, 1), (148, .invokestatic 66, 3), (151, .iload 7, 2), (153, .ireturn, 1)]
theorem dzX7_loan : dz cX7_loan rwX7_loan := dz_all 0 (by decide +kernel)
def kX7_loan (live : am_E) (Ret : am_R) : am_code := [(0, am_aload 0 1), (1, am_iload 1 2), (2, am_callV live 7 1 TX7_isPerson 5), (5, am_if1 (fun x => x = 0) 35 8), (8, am_iload 2 9), (9, am_callS live 1 TX7_isPlan 12), (12, am_if1 (fun x => x = 0) 35 15), (15, am_iload 3 16), (16, am_callS live 1 TX7_isYear 19), (19, am_if1 (fun x => x = 0) 35 22), (22, am_iload 4 24), (24, am_callS live 1 TX7_isPence 27), (27, am_if1 (fun x => x = 0) 35 30), (30, am_iload 4 32), (32, am_if1 (fun x => x = 0) 35 38), (35, am_const (.int (-2)) 37), (37, am_retI Ret), (38, am_aload 0 39), (39, am_getR live 7 0 42), (42, am_getR live 0 4 45), (45, am_astore 6 8 47), (47, am_aload 6 49), (49, am_getI live 3 2 52), (52, am_const (.int 30) 54), (54, am_if2 (fun x y => x < y) 60 57), (57, am_const (.int (-4)) 59), (59, am_retI Ret), (60, am_aload 6 62), (62, am_iload 1 63), (63, am_iload 2 64), (64, am_iload 3 65), (65, am_callV live 3 3 TX3_add 68), (68, am_istore 7 8 70), (70, am_aload 6 72), (72, am_iload 7 74), (74, am_const (.int 3) 75), (75, am_iload 4 77), (77, am_callV live 3 3 TX3_put 80), (80, am_aload 6 82), (82, am_iload 7 84), (84, am_const (.int 4) 85), (85, am_iload 5 87), (87, am_if1 (fun x => x = 0) 94 90), (90, am_const (.int 1) 91), (91, am_goto 95), (94, am_const (.int 0) 95), (95, am_callV live 3 3 TX3_put 98), (98, am_aload 6 100), (100, am_iload 7 102), (102, am_const (.int 5) 103), (103, am_const (.int (-1)) 104), (104, am_callV live 3 3 TX3_put 107), (107, am_aload 6 109), (109, am_iload 7 111), (111, am_const (.int 6) 113), (113, am_const (.int (-1)) 114), (114, am_callV live 3 3 TX3_put 117), (117, am_aload 6 119), (119, am_iload 7 121), (121, am_const (.int 7) 123), (123, am_const (.int (-1)) 124), (124, am_callV live 3 3 TX3_put 127), (127, am_aload 0 128), (128, am_getR live 7 0 131), (131, am_getR live 0 6 134), (134, am_iload 7 136), (136, am_const (.int 40) 138), (138, am_i2 (fun x y => x * y) 139), (139, am_iload 7 141), (141, am_const (.int 40) 143), (143, am_i2 (fun x y => x * y) 144), (144, am_const (.int 39) 146), (146, am_i2 (fun x y => x + y) 147), (147, am_iload 2 148), (148, am_callS live 4 TX7_lay 151), (151, am_iload 7 153), (153, am_retI Ret)]
theorem koX7_loan (live : am_E) (Ret : am_R) : ∀ q ∈ kX7_loan live Ret, am_ok RX7 cX7_loan 8 (some .int) 2 47 live Ret q.1 q.2 :=
  am_kz dzX7_loan <|
  am_kd (fun d => ak_aload_n d rfl rfl) <|
  am_kd (fun d => ak_iload_n d rfl rfl) <|
  am_kd (fun d => ak_callV (C := RX7) (F := TX7) (N := 4) metX7_isPerson rfl ⟨rfl, hy_X7_isPerson⟩ (am_w5 wd_414 wd_416 wd_0 wd_58 wd_417) (by decide) d rfl) <|
  am_kd (fun d => ak_if_eq d (by decide +kernel) rfl) <|
  am_kd (fun d => ak_iload_n d rfl rfl) <|
  am_kd (fun d => ak_callS metX7_isPlan ⟨rfl, hy_X7_isPlan⟩ (am_w4 wd_466 wd_467 wd_58 wd_468) (by decide) d rfl) <|
  am_kd (fun d => ak_if_eq d (by decide +kernel) rfl) <|
  am_kd (fun d => ak_iload_n d rfl rfl) <|
  am_kd (fun d => ak_callS metX7_isYear ⟨rfl, hy_X7_isYear⟩ (am_w4 wd_407 wd_408 wd_58 wd_409) (by decide) d rfl) <|
  am_kd (fun d => ak_if_eq d (by decide +kernel) rfl) <|
  am_kd (fun d => ak_iload d rfl) <|
  am_kd (fun d => ak_callS metX7_isPence ⟨rfl, hy_X7_isPence⟩ (am_w4 wd_446 wd_447 wd_58 wd_448) (by decide) d rfl) <|
  am_kd (fun d => ak_if_eq d (by decide +kernel) rfl) <|
  am_kd (fun d => ak_iload d rfl) <|
  am_kd (fun d => ak_if_ne d (by decide +kernel) rfl) <|
  am_kd (fun d => ak_bipush d (by decide +kernel) rfl) <|
  am_kd (fun d => ak_retI d) <|
  am_kd (fun d => ak_aload_n d rfl rfl) <|
  am_kd (fun d => ak_getR (C := RX7) (T := TX7) (N := 4) rfl inX7w (by decide) rfl rfl rfl wd_390 d rfl) <|
  am_kd (fun d => ak_getR (C := RX0) (T := TX0) (N := 13) rfl inX0w (by decide) rfl rfl rfl wd_207 d rfl) <|
  am_kd (fun d => ak_astore d rfl) <|
  am_kd (fun d => ak_aload d rfl) <|
  am_kd (fun d => ak_getI (C := RX3) (T := TX3) (N := 3) rfl inX3w (by decide) rfl rfl rfl wd_152 d rfl) <|
  am_kd (fun d => ak_bipush d (by decide +kernel) rfl) <|
  am_kd (fun d => ak_icmp_lt d (by decide +kernel) rfl) <|
  am_kd (fun d => ak_bipush d (by decide +kernel) rfl) <|
  am_kd (fun d => ak_retI d) <|
  am_kd (fun d => ak_aload d rfl) <|
  am_kd (fun d => ak_iload_n d rfl rfl) <|
  am_kd (fun d => ak_iload_n d rfl rfl) <|
  am_kd (fun d => ak_iload_n d rfl rfl) <|
  am_kd (fun d => ak_callV (C := RX3) (F := TX3) (N := 3) metX3_add rfl ⟨rfl, hy_X3_add⟩ (am_w5 wd_514 wd_481 wd_482 wd_64 wd_483) (by decide) d rfl) <|
  am_kd (fun d => ak_istore d rfl) <|
  am_kd (fun d => ak_aload d rfl) <|
  am_kd (fun d => ak_iload d rfl) <|
  am_kd (fun d => ak_iconst d (by decide +kernel) rfl) <|
  am_kd (fun d => ak_iload d rfl) <|
  am_kd (fun d => ak_callV (C := RX3) (F := TX3) (N := 3) metX3_put rfl ⟨rfl, hy_X3_put⟩ (am_w5 wd_515 wd_485 wd_486 wd_64 wd_487) (by decide) d rfl) <|
  am_kd (fun d => ak_aload d rfl) <|
  am_kd (fun d => ak_iload d rfl) <|
  am_kd (fun d => ak_iconst d (by decide +kernel) rfl) <|
  am_kd (fun d => ak_iload d rfl) <|
  am_kd (fun d => ak_if_eq d (by decide +kernel) rfl) <|
  am_kd (fun d => ak_iconst d (by decide +kernel) rfl) <|
  am_kd (fun d => ak_goto d (by decide +kernel)) <|
  am_kd (fun d => ak_iconst d (by decide +kernel) rfl) <|
  am_kd (fun d => ak_callV (C := RX3) (F := TX3) (N := 3) metX3_put rfl ⟨rfl, hy_X3_put⟩ (am_w5 wd_515 wd_485 wd_486 wd_64 wd_487) (by decide) d rfl) <|
  am_kd (fun d => ak_aload d rfl) <|
  am_kd (fun d => ak_iload d rfl) <|
  am_kd (fun d => ak_iconst d (by decide +kernel) rfl) <|
  am_kd (fun d => ak_iconst d (by decide +kernel) rfl) <|
  am_kd (fun d => ak_callV (C := RX3) (F := TX3) (N := 3) metX3_put rfl ⟨rfl, hy_X3_put⟩ (am_w5 wd_515 wd_485 wd_486 wd_64 wd_487) (by decide) d rfl) <|
  am_kd (fun d => ak_aload d rfl) <|
  am_kd (fun d => ak_iload d rfl) <|
  am_kd (fun d => ak_bipush d (by decide +kernel) rfl) <|
  am_kd (fun d => ak_iconst d (by decide +kernel) rfl) <|
  am_kd (fun d => ak_callV (C := RX3) (F := TX3) (N := 3) metX3_put rfl ⟨rfl, hy_X3_put⟩ (am_w5 wd_515 wd_485 wd_486 wd_64 wd_487) (by decide) d rfl) <|
  am_kd (fun d => ak_aload d rfl) <|
  am_kd (fun d => ak_iload d rfl) <|
  am_kd (fun d => ak_bipush d (by decide +kernel) rfl) <|
  am_kd (fun d => ak_iconst d (by decide +kernel) rfl) <|
  am_kd (fun d => ak_callV (C := RX3) (F := TX3) (N := 3) metX3_put rfl ⟨rfl, hy_X3_put⟩ (am_w5 wd_515 wd_485 wd_486 wd_64 wd_487) (by decide) d rfl) <|
  am_kd (fun d => ak_aload_n d rfl rfl) <|
  am_kd (fun d => ak_getR (C := RX7) (T := TX7) (N := 4) rfl inX7w (by decide) rfl rfl rfl wd_390 d rfl) <|
  am_kd (fun d => ak_getR (C := RX0) (T := TX0) (N := 13) rfl inX0w (by decide) rfl rfl rfl wd_211 d rfl) <|
  am_kd (fun d => ak_iload d rfl) <|
  am_kd (fun d => ak_bipush d (by decide +kernel) rfl) <|
  am_kd (fun d => ak_imul d rfl) <|
  am_kd (fun d => ak_iload d rfl) <|
  am_kd (fun d => ak_bipush d (by decide +kernel) rfl) <|
  am_kd (fun d => ak_imul d rfl) <|
  am_kd (fun d => ak_bipush d (by decide +kernel) rfl) <|
  am_kd (fun d => ak_iadd d rfl) <|
  am_kd (fun d => ak_iload_n d rfl rfl) <|
  am_kd (fun d => ak_callS metX7_lay ⟨rfl, hy_X7_lay⟩ (am_w4 wd_424 wd_425 wd_58 wd_426) (by decide) d rfl) <|
  am_kd (fun d => ak_iload d rfl) <|
  am_kd (fun d => ak_retI d) <| am_kdn
def c_loan (M : am_M) (p pl y s fe : Int32) : Int32 × am_M := if 0 ≤ p ∧ p < M.1 21 7 then (if 0 ≤ pl ∧ pl < 5 then (if 0 ≤ y ∧ y < 40 then (if 0 ≤ s ∧ s ≤ 10000000 then (if s = 0 then ((-2 : Int32), M) else (if M.1 33 2 < 30 then (M.1 33 2 + 1 - 1, am_lay (am_rput (am_rput (am_rput (am_rput (am_rput (am_radd M 33 34 p pl y) 33 34 (M.1 33 2 + 1 - 1) 3 s) 33 34 (M.1 33 2 + 1 - 1) 4 fe) 33 34 (M.1 33 2 + 1 - 1) 5 (-1)) 33 34 (M.1 33 2 + 1 - 1) 6 (-1)) 33 34 (M.1 33 2 + 1 - 1) 7 (-1)) 37 (max ((M.1 33 2 + 1 - 1) * 40).toInt 0) (min ((M.1 33 2 + 1 - 1) * 40 + 39).toInt ((am_len 37 : Int) - 1)) pl) else ((-4 : Int32), M))) else ((-2 : Int32), M)) else ((-2 : Int32), M)) else ((-2 : Int32), M)) else ((-2 : Int32), M)
def TX7_loan : am_T := fun live as M R => match as with
  | [.ref n, .int p, .int pl, .int y, .int s, .int fe] => am_mn live ∧ n = 0 ∧ (g_hI M ∧ g_rI M) ∧ (fe = 0 ∨ fe = 1) ∧ R (some (.int (c_loan M p pl y s fe).1)) (c_loan M p pl y s fe).2
  | _ => False
set_option maxRecDepth 100000 in
set_option maxHeartbeats 4000000 in
theorem metX7_loan : am_Met yX7_loan cX7_loan 8 (some .int) (2) (47) TX7_loan := by
  refine am_met (own := RX7) (by decide +kernel) rfl kX7_loan koX7_loan 150 (fun _ _ _ _ _ => none) (fun live as M Ret h => ?_) (fun _ _ _ _ _ _ _ _ hI => by cases hI)
  unfold TX7_loan at h
  split at h
  · next n p pl y s fe =>
    refine ⟨Nat.le_of_ble_eq_true rfl, ?_⟩
    change am_wp _ _ _ _ [(0, Value.ref n), (1, Value.int p), (2, Value.int pl), (3, Value.int y), (4, Value.int s), (5, Value.int fe)] _ _
    obtain ⟨hmn, rfl, ⟨hH, hR⟩, hfe, h⟩ := h
    have hmn2 := hmn
    obtain ⟨i1, i2, rfl⟩ := hmn2
    by_cases z0 : 0 ≤ p ∧ p < M.1 21 7
    rotate_left
    · skip
      have q0 : (if 0 ≤ p ∧ p < M.1 21 7 then (1 : Int32) else 0) = 0 := if_neg z0
      have e : c_loan M p pl y s fe = ((-2 : Int32), M) := by unfold c_loan; rw [if_neg z0]
      rw [e] at h
      repeat' (first | (with_reducible exact hmn) | (with_reducible exact h) | apply And.intro | exact rfl | (intro hx; with_reducible exact absurd q0 hx) | (intro hx; exact absurd hx (by decide)) | (intro hx; exact absurd (by decide) hx) | decide | intro hx | (refine Exists.intro _ (And.intro rfl ?_)))
      all_goals try first | (with_reducible change am_tI _ _) | (change Ret _ _) | (change Ret _ _ _) | (change Exists _)
      all_goals try dsimp only at *
      all_goals try (with_reducible exact absurd ‹(1000 : Int64) = 0› am_z1000)
      all_goals first | exact h | skip
    · skip
      have q0 : ¬ ((if 0 ≤ p ∧ p < M.1 21 7 then (1 : Int32) else 0) = 0) := by rw [if_pos z0]; decide
      by_cases z1 : 0 ≤ pl ∧ pl < 5
      rotate_left
      · skip
        have q1 : (if 0 ≤ pl ∧ pl < 5 then (1 : Int32) else 0) = 0 := if_neg z1
        have e : c_loan M p pl y s fe = ((-2 : Int32), M) := by unfold c_loan; rw [if_pos z0, if_neg z1]
        rw [e] at h
        repeat' (first | (with_reducible exact hmn) | (with_reducible exact h) | apply And.intro | exact rfl | (intro hx; with_reducible exact absurd hx q0) | (intro hx; with_reducible exact absurd q1 hx) | (intro hx; exact absurd hx (by decide)) | (intro hx; exact absurd (by decide) hx) | decide | intro hx | (refine Exists.intro _ (And.intro rfl ?_)))
        all_goals try first | (with_reducible change am_tI _ _) | (change Ret _ _) | (change Ret _ _ _) | (change Exists _)
        all_goals try dsimp only at *
        all_goals try (with_reducible exact absurd ‹(1000 : Int64) = 0› am_z1000)
        all_goals first | exact h | skip
      · skip
        have q1 : ¬ ((if 0 ≤ pl ∧ pl < 5 then (1 : Int32) else 0) = 0) := by rw [if_pos z1]; decide
        by_cases z2 : 0 ≤ y ∧ y < 40
        rotate_left
        · skip
          have q2 : (if 0 ≤ y ∧ y < 40 then (1 : Int32) else 0) = 0 := if_neg z2
          have e : c_loan M p pl y s fe = ((-2 : Int32), M) := by unfold c_loan; rw [if_pos z0, if_pos z1, if_neg z2]
          rw [e] at h
          repeat' (first | (with_reducible exact hmn) | (with_reducible exact h) | apply And.intro | exact rfl | (intro hx; with_reducible exact absurd hx q0) | (intro hx; with_reducible exact absurd hx q1) | (intro hx; with_reducible exact absurd q2 hx) | (intro hx; exact absurd hx (by decide)) | (intro hx; exact absurd (by decide) hx) | decide | intro hx | (refine Exists.intro _ (And.intro rfl ?_)))
          all_goals try first | (with_reducible change am_tI _ _) | (change Ret _ _) | (change Ret _ _ _) | (change Exists _)
          all_goals try dsimp only at *
          all_goals try (with_reducible exact absurd ‹(1000 : Int64) = 0› am_z1000)
          all_goals first | exact h | skip
        · skip
          have q2 : ¬ ((if 0 ≤ y ∧ y < 40 then (1 : Int32) else 0) = 0) := by rw [if_pos z2]; decide
          by_cases z3 : 0 ≤ s ∧ s ≤ 10000000
          rotate_left
          · skip
            have q3 : (if 0 ≤ s ∧ s ≤ 10000000 then (1 : Int32) else 0) = 0 := if_neg z3
            have e : c_loan M p pl y s fe = ((-2 : Int32), M) := by unfold c_loan; rw [if_pos z0, if_pos z1, if_pos z2, if_neg z3]
            rw [e] at h
            repeat' (first | (with_reducible exact hmn) | (with_reducible exact h) | apply And.intro | exact rfl | (intro hx; with_reducible exact absurd hx q0) | (intro hx; with_reducible exact absurd hx q1) | (intro hx; with_reducible exact absurd hx q2) | (intro hx; with_reducible exact absurd q3 hx) | (intro hx; exact absurd hx (by decide)) | (intro hx; exact absurd (by decide) hx) | decide | intro hx | (refine Exists.intro _ (And.intro rfl ?_)))
            all_goals try first | (with_reducible change am_tI _ _) | (change Ret _ _) | (change Ret _ _ _) | (change Exists _)
            all_goals try dsimp only at *
            all_goals try (with_reducible exact absurd ‹(1000 : Int64) = 0› am_z1000)
            all_goals first | exact h | skip
          · skip
            have q3 : ¬ ((if 0 ≤ s ∧ s ≤ 10000000 then (1 : Int32) else 0) = 0) := by rw [if_pos z3]; decide
            by_cases z4 : s = 0
            · skip
              have e : c_loan M p pl y s fe = ((-2 : Int32), M) := by unfold c_loan; rw [if_pos z0, if_pos z1, if_pos z2, if_pos z3, if_pos z4]
              rw [e] at h
              repeat' (first | (with_reducible exact hmn) | (with_reducible exact h) | apply And.intro | exact rfl | (intro hx; with_reducible exact absurd hx q0) | (intro hx; with_reducible exact absurd hx q1) | (intro hx; with_reducible exact absurd hx q2) | (intro hx; with_reducible exact absurd hx q3) | (intro hx; with_reducible exact absurd z4 hx) | (intro hx; exact absurd hx (by decide)) | (intro hx; exact absurd (by decide) hx) | decide | intro hx | (refine Exists.intro _ (And.intro rfl ?_)))
              all_goals try first | (with_reducible change am_tI _ _) | (change Ret _ _) | (change Ret _ _ _) | (change Exists _)
              all_goals try dsimp only at *
              all_goals try (with_reducible exact absurd ‹(1000 : Int64) = 0› am_z1000)
              all_goals first | exact h | skip
            · skip
              by_cases z5 : M.1 33 2 < 30
              rotate_left
              · skip
                have y5 : (30 : Int32) ≤ M.1 33 2 := Int32.not_lt.mp z5
                have e : c_loan M p pl y s fe = ((-4 : Int32), M) := by unfold c_loan; rw [if_pos z0, if_pos z1, if_pos z2, if_pos z3, if_neg z4, if_neg z5]
                rw [e] at h
                repeat' (first | (with_reducible exact hmn) | (with_reducible exact h) | apply And.intro | exact rfl | (intro hx; with_reducible exact absurd hx q0) | (intro hx; with_reducible exact absurd hx q1) | (intro hx; with_reducible exact absurd hx q2) | (intro hx; with_reducible exact absurd hx q3) | (intro hx; with_reducible exact absurd hx z4) | (intro hx; with_reducible exact absurd hx z5) | (intro hx; with_reducible exact absurd y5 hx) | (intro hx; exact absurd hx (by decide)) | (intro hx; exact absurd (by decide) hx) | decide | intro hx | (refine Exists.intro _ (And.intro rfl ?_)))
                all_goals try first | (with_reducible change am_tI _ _) | (change Ret _ _) | (change Ret _ _ _) | (change Exists _)
                all_goals try dsimp only at *
                all_goals try (with_reducible exact absurd ‹(1000 : Int64) = 0› am_z1000)
                all_goals first | exact h | skip
              · skip
                have y5 : ¬ (30 : Int32) ≤ M.1 33 2 := Int32.not_le.mpr z5
                have e : c_loan M p pl y s fe = (M.1 33 2 + 1 - 1, am_lay (am_rput (am_rput (am_rput (am_rput (am_rput (am_radd M 33 34 p pl y) 33 34 (M.1 33 2 + 1 - 1) 3 s) 33 34 (M.1 33 2 + 1 - 1) 4 fe) 33 34 (M.1 33 2 + 1 - 1) 5 (-1)) 33 34 (M.1 33 2 + 1 - 1) 6 (-1)) 33 34 (M.1 33 2 + 1 - 1) 7 (-1)) 37 (max ((M.1 33 2 + 1 - 1) * 40).toInt 0) (min ((M.1 33 2 + 1 - 1) * 40 + 39).toInt ((am_len 37 : Int) - 1)) pl) := by unfold c_loan; rw [if_pos z0, if_pos z1, if_pos z2, if_pos z3, if_neg z4, if_pos z5]
                rw [e] at h
                rcases hfe with rfl | rfl
                · skip
                  repeat' (first | (with_reducible exact hmn) | apply And.intro | exact rfl | (intro hx; with_reducible exact absurd hx q0) | (intro hx; with_reducible exact absurd hx q1) | (intro hx; with_reducible exact absurd hx q2) | (intro hx; with_reducible exact absurd hx q3) | (intro hx; with_reducible exact absurd hx z4) | (intro hx; with_reducible exact absurd hx y5) | (intro hx; with_reducible exact absurd z5 hx) | (intro hx; exact absurd hx (by decide)) | (intro hx; exact absurd (by decide) hx) | decide | intro hx | (refine Exists.intro _ (And.intro rfl ?_)))
                  all_goals try first | (with_reducible change am_tI _ _) | (change Ret _ _) | (change Ret _ _ _) | (change Exists _)
                  all_goals try dsimp only at *
                  all_goals try (with_reducible exact absurd ‹(1000 : Int64) = 0› am_z1000)
                  all_goals first | exact h | skip
                · skip
                  repeat' (first | (with_reducible exact hmn) | apply And.intro | exact rfl | (intro hx; with_reducible exact absurd hx q0) | (intro hx; with_reducible exact absurd hx q1) | (intro hx; with_reducible exact absurd hx q2) | (intro hx; with_reducible exact absurd hx q3) | (intro hx; with_reducible exact absurd hx z4) | (intro hx; with_reducible exact absurd hx y5) | (intro hx; with_reducible exact absurd z5 hx) | (intro hx; exact absurd hx (by decide)) | (intro hx; exact absurd (by decide) hx) | decide | intro hx | (refine Exists.intro _ (And.intro rfl ?_)))
                  all_goals try first | (with_reducible change am_tI _ _) | (change Ret _ _) | (change Ret _ _ _) | (change Exists _)
                  all_goals try dsimp only at *
                  all_goals try (with_reducible exact absurd ‹(1000 : Int64) = 0› am_z1000)
                  all_goals first | exact h | skip
  · exact h.elim
theorem hy_X7_runEverybody : yX7_runEverybody.cls ≠ "java/lang/invoke/MethodHandle" ∧ yX7_runEverybody.cls ≠ "java/lang/invoke/VarHandle" ∧ (parseMethodDescriptor yX7_runEverybody.desc).map (fun d => d.parameters.length) = some 2 := ⟨by decide +kernel, by decide +kernel, by decide +kernel⟩
set_option maxRecDepth 100000 in
theorem wd_743 : Cond.methodLink "LearnLoans" 193 yX7_runEverybody ∈ am_ws := am_wt3 (List.mem_of_getElem? (i := 206) (by rfl)) (by decide +kernel)
set_option maxRecDepth 100000 in
theorem wd_745 : Cond.instanceMethod yX7_runEverybody ∈ am_ws := am_wt3 (List.mem_of_getElem? (i := 208) (by rfl)) (by decide +kernel)
set_option maxRecDepth 100000 in
theorem wd_23 : Cond.selects "LearnLoans" yX7_runEverybody yX7_runEverybody ∈ am_ws := am_wsi (List.mem_of_getElem? (i := 23) (by rfl)) (by decide +kernel)
set_option maxRecDepth 100000 in
theorem wd_746 : Cond.code yX7_runEverybody cX7_runEverybody 4 none ∈ am_ws := am_wt3 (List.mem_of_getElem? (i := 209) (by rfl)) (by decide +kernel)
theorem hy_X0_promised : yX0_promised.cls ≠ "java/lang/invoke/MethodHandle" ∧ yX0_promised.cls ≠ "java/lang/invoke/VarHandle" ∧ (parseMethodDescriptor yX0_promised.desc).map (fun d => d.parameters.length) = some 2 := ⟨by decide +kernel, by decide +kernel, by decide +kernel⟩
set_option maxRecDepth 100000 in
theorem wd_747 : Cond.methodLink "LearnLoans" 196 yX0_promised ∈ am_ws := am_wt3 (List.mem_of_getElem? (i := 210) (by rfl)) (by decide +kernel)
set_option maxRecDepth 100000 in
theorem wd_748 : Cond.instanceMethod yX0_promised ∈ am_ws := am_wt3 (List.mem_of_getElem? (i := 211) (by rfl)) (by decide +kernel)
set_option maxRecDepth 100000 in
theorem wd_749 : Cond.selects "LearnLoans$House" yX0_promised yX0_promised ∈ am_ws := am_wt3 (List.mem_of_getElem? (i := 212) (by rfl)) (by decide +kernel)
set_option maxRecDepth 100000 in
theorem wd_750 : Cond.code yX0_promised cX0_promised 6 (some .long) ∈ am_ws := am_wt3 (List.mem_of_getElem? (i := 213) (by rfl)) (by decide +kernel)
set_option maxRecDepth 100000 in
theorem wd_751 : Cond.methodLink "LearnLoans" 200 Lib.MathLoose.max_long.x ∈ am_ws := am_wt3 (List.mem_of_getElem? (i := 214) (by rfl)) (by decide +kernel)
def rwX7_book : List dz_r := [(0, .iload_n 1, 1), (1, .iconst 0, 1), (2, .iconst 3, 1), (3, .invokestatic 55, 3), (6, .ifCond .eq 27, 3), (9, .iload_n 2, 1), (10, .invokestatic 34, 3), (13, .ifCond .eq 20, 3), (16, .iload_n 3, 1), (17, .invokestatic 34, 3), (20, .ifCond .eq 13, 3), (23, .iload 4, 2), (25, .iconst 0, 1), (26, .iconst 1, 1), (27, .invokestatic 55, 3), (30, .ifCond .ne 7, 3), (33, .ldc2_w 149, 3), (36, .lreturn, 1), (37, .aload_n 0, 1), (38, .iload_n 2, 1), (39, .iload_n 3, 1), (40, .invokevirtual 193, 3), (43, .lconst 0, 1), (44, .lstore 5, 2), (46, .iconst 0, 1), (47, .istore 7, 2), (49, .iload 7, 2), (51, .aload_n 0, 1), (52, .getfield 27, 3), (55, .getfield 122, 3), (58, .getfield 108, 3), (61, .if_icmp .ge 46, 3), (64, .aload_n 0, 1), (65, .getfield 27, 3), (68, .getfield 122, 3), (71, .iload 7, 2), (73, .bipush 6, 2), (75, .invokevirtual 138, 3), (78, .iload_n 1, 1), (79, .if_icmp .ne 22, 3), (82, .lload 5, 2), (84, .aload_n 0, 1), (85, .getfield 20, 3), (88, .getfield 158, 3), (91, .sipush 150, 3), (94, .iload 7, 2), (96, .iadd, 1), (97, .laload, 1), (98, .ladd, 1), (99, .lstore 5, 2), (101, .iinc 7 1, 3), (104, .goto (-55), 3), (107, .iload 4, 2), (109, .ifCond .ne 8, 3), (112, .lload 5, 2), (114, .goto 19, 3), (117, .lconst 0, 1), (118, .aload_n 0, 1), (119, .getfield 27, 3), (122, .iload_n 1, 1), (123, .iload_n 2, 1), (124, .invokevirtual 196, 3), (127, .lload 5, 2), (129, .lsub, 1), (130, .invokestatic 200, 3), (133, .lreturn, 1)]
theorem dzX7_book : dz cX7_book rwX7_book := dz_all 0 (by decide +kernel)
def kX7_book (live : am_E) (Ret : am_R) : am_code := [(0, am_iload 1 1), (1, am_const (.int 0) 2), (2, am_const (.int 3) 3), (3, am_callS live 3 TX7_within 6), (6, am_if1 (fun x => x = 0) 33 9), (9, am_iload 2 10), (10, am_callS live 1 TX7_isYear 13), (13, am_if1 (fun x => x = 0) 33 16), (16, am_iload 3 17), (17, am_callS live 1 TX7_isYear 20), (20, am_if1 (fun x => x = 0) 33 23), (23, am_iload 4 25), (25, am_const (.int 0) 26), (26, am_const (.int 1) 27), (27, am_callS live 3 TX7_within 30), (30, am_if1 (fun x => x = 0) 33 37), (33, am_const (.long (-2)) 36), (36, am_retL Ret), (37, am_aload 0 38), (38, am_iload 2 39), (39, am_iload 3 40), (40, am_callV live 7 2 TX7_runEverybody 43), (43, am_const (.long 0) 44), (44, am_lstore 5 8 46), (46, am_const (.int 0) 47), (47, am_istore 7 8 49), (49, am_iload 7 51), (51, am_aload 0 52), (52, am_getR live 7 0 55), (55, am_getR live 0 4 58), (58, am_getI live 3 2 61), (61, am_if2 (fun x y => y ≤ x) 107 64), (64, am_aload 0 65), (65, am_getR live 7 0 68), (68, am_getR live 0 4 71), (71, am_iload 7 73), (73, am_const (.int 6) 75), (75, am_callV live 3 2 TX3_at 78), (78, am_iload 1 79), (79, am_if2 (fun x y => x = y) 82 101), (82, am_lload 5 84), (84, am_aload 0 85), (85, am_getR live 7 2 88), (88, am_getR live 4 2 91), (91, am_const (.int 150) 94), (94, am_iload 7 96), (96, am_i2 (fun x y => x + y) 97), (97, am_lald live 1 98), (98, am_l2 (fun x y => x + y) 99), (99, am_lstore 5 8 101), (101, am_iinc 7 8 1 104), (104, am_goto 49), (107, am_iload 4 109), (109, am_if1 (fun x => x = 0) 112 117), (112, am_lload 5 114), (114, am_goto 133), (117, am_const (.long 0) 118), (118, am_aload 0 119), (119, am_getR live 7 0 122), (122, am_iload 1 123), (123, am_iload 2 124), (124, am_callV live 0 2 TX0_promised 127), (127, am_lload 5 129), (129, am_l2 (fun x y => x - y) 130), (130, am_mathl (fun x y => if y < x then x else y) 147 133), (133, am_retL Ret)]
theorem koX7_book (live : am_E) (Ret : am_R) : ∀ q ∈ kX7_book live Ret, am_ok RX7 cX7_book 8 (some .long) 6 147 live Ret q.1 q.2 :=
  am_kz dzX7_book <|
  am_kd (fun d => ak_iload_n d rfl rfl) <|
  am_kd (fun d => ak_iconst d (by decide +kernel) rfl) <|
  am_kd (fun d => ak_iconst d (by decide +kernel) rfl) <|
  am_kd (fun d => ak_callS metX7_within ⟨rfl, hy_X7_within⟩ (am_w4 wd_418 wd_419 wd_58 wd_420) (by decide) d rfl) <|
  am_kd (fun d => ak_if_eq d (by decide +kernel) rfl) <|
  am_kd (fun d => ak_iload_n d rfl rfl) <|
  am_kd (fun d => ak_callS metX7_isYear ⟨rfl, hy_X7_isYear⟩ (am_w4 wd_407 wd_408 wd_58 wd_409) (by decide) d rfl) <|
  am_kd (fun d => ak_if_eq d (by decide +kernel) rfl) <|
  am_kd (fun d => ak_iload_n d rfl rfl) <|
  am_kd (fun d => ak_callS metX7_isYear ⟨rfl, hy_X7_isYear⟩ (am_w4 wd_407 wd_408 wd_58 wd_409) (by decide) d rfl) <|
  am_kd (fun d => ak_if_eq d (by decide +kernel) rfl) <|
  am_kd (fun d => ak_iload d rfl) <|
  am_kd (fun d => ak_iconst d (by decide +kernel) rfl) <|
  am_kd (fun d => ak_iconst d (by decide +kernel) rfl) <|
  am_kd (fun d => ak_callS metX7_within ⟨rfl, hy_X7_within⟩ (am_w4 wd_418 wd_419 wd_58 wd_420) (by decide) d rfl) <|
  am_kd (fun d => ak_if_ne d (by decide +kernel) rfl) <|
  am_kd (fun d => ak_ldc2 wd_545 d rfl) <|
  am_kd (fun d => ak_retL d) <|
  am_kd (fun d => ak_aload_n d rfl rfl) <|
  am_kd (fun d => ak_iload_n d rfl rfl) <|
  am_kd (fun d => ak_iload_n d rfl rfl) <|
  am_kd (fun d => ak_callV (C := RX7) (F := TX7) (N := 4) metX7_runEverybody rfl ⟨rfl, hy_X7_runEverybody⟩ (am_w5 wd_743 wd_745 wd_23 wd_58 wd_746) (by decide) d rfl) <|
  am_kd (fun d => ak_lconst d (by decide +kernel) rfl) <|
  am_kd (fun d => ak_lstore d rfl) <|
  am_kd (fun d => ak_iconst d (by decide +kernel) rfl) <|
  am_kd (fun d => ak_istore d rfl) <|
  am_kd (fun d => ak_iload d rfl) <|
  am_kd (fun d => ak_aload_n d rfl rfl) <|
  am_kd (fun d => ak_getR (C := RX7) (T := TX7) (N := 4) rfl inX7w (by decide) rfl rfl rfl wd_390 d rfl) <|
  am_kd (fun d => ak_getR (C := RX0) (T := TX0) (N := 13) rfl inX0w (by decide) rfl rfl rfl wd_207 d rfl) <|
  am_kd (fun d => ak_getI (C := RX3) (T := TX3) (N := 3) rfl inX3w (by decide) rfl rfl rfl wd_152 d rfl) <|
  am_kd (fun d => ak_icmp_ge d (by decide +kernel) rfl) <|
  am_kd (fun d => ak_aload_n d rfl rfl) <|
  am_kd (fun d => ak_getR (C := RX7) (T := TX7) (N := 4) rfl inX7w (by decide) rfl rfl rfl wd_390 d rfl) <|
  am_kd (fun d => ak_getR (C := RX0) (T := TX0) (N := 13) rfl inX0w (by decide) rfl rfl rfl wd_207 d rfl) <|
  am_kd (fun d => ak_iload d rfl) <|
  am_kd (fun d => ak_bipush d (by decide +kernel) rfl) <|
  am_kd (fun d => ak_callV (C := RX3) (F := TX3) (N := 3) metX3_at rfl ⟨rfl, hy_X3_at⟩ (am_w5 wd_524 wd_503 wd_504 wd_64 wd_505) (by decide) d rfl) <|
  am_kd (fun d => ak_iload_n d rfl rfl) <|
  am_kd (fun d => ak_icmp_ne d (by decide +kernel) rfl) <|
  am_kd (fun d => ak_lload d rfl) <|
  am_kd (fun d => ak_aload_n d rfl rfl) <|
  am_kd (fun d => ak_getR (C := RX7) (T := TX7) (N := 4) rfl inX7w (by decide) rfl rfl rfl wd_392 d rfl) <|
  am_kd (fun d => ak_getR (C := RX4) (T := TX4) (N := 19) rfl inX4w (by decide) rfl rfl rfl wd_298 d rfl) <|
  am_kd (fun d => ak_sipush d (by decide +kernel) rfl) <|
  am_kd (fun d => ak_iload d rfl) <|
  am_kd (fun d => ak_iadd d rfl) <|
  am_kd (fun d => ak_lald (t := 1) (fun _ => rfl) rfl d rfl) <|
  am_kd (fun d => ak_ladd d rfl) <|
  am_kd (fun d => ak_lstore d rfl) <|
  am_kd (fun d => ak_iinc d (by decide +kernel) rfl) <|
  am_kd (fun d => ak_goto d (by decide +kernel)) <|
  am_kd (fun d => ak_iload d rfl) <|
  am_kd (fun d => ak_if_ne d (by decide +kernel) rfl) <|
  am_kd (fun d => ak_lload d rfl) <|
  am_kd (fun d => ak_goto d (by decide +kernel)) <|
  am_kd (fun d => ak_lconst d (by decide +kernel) rfl) <|
  am_kd (fun d => ak_aload_n d rfl rfl) <|
  am_kd (fun d => ak_getR (C := RX7) (T := TX7) (N := 4) rfl inX7w (by decide) rfl rfl rfl wd_390 d rfl) <|
  am_kd (fun d => ak_iload_n d rfl rfl) <|
  am_kd (fun d => ak_iload_n d rfl rfl) <|
  am_kd (fun d => ak_callV (C := RX0) (F := TX0) (N := 13) metX0_promised rfl ⟨rfl, hy_X0_promised⟩ (am_w5 wd_747 wd_748 wd_749 wd_61 wd_750) (by decide) d rfl) <|
  am_kd (fun d => ak_lload d rfl) <|
  am_kd (fun d => ak_lsub d rfl) <|
  am_kd (fun d => ak_lmax (am_w4 wd_751 wd_611 wd_68 wd_612) (by decide) d rfl) <|
  am_kd (fun d => ak_retL d) <| am_kdn
def TX7_book : am_T := fun live as M R => match as with
  | [.ref n, .int b, .int y, .int k, .int w] => am_mn live ∧ n = 0 ∧ (g_hI M ∧ g_rI M) ∧ ∀ v M', g_sc M M' → g_rI M' → R (some (.long v)) M'
  | _ => False
def JX7_book : am_E → List Value → am_M → am_R → am_inv := fun live as M0 _ pc => match as with
  | [.ref n, .int b, .int y, .int k, .int w] => (match pc with
    | 49 => some ([0, 1, 2, 4, 5, 7], fun u L st M => ∃ (v : Int64) (i : Int32), L = [(0, .ref 0), (1, .int b), (2, .int y), (4, .int w), (5, .long v), (7, .int i)] ∧ st = [] ∧ u = ((31 - i.toInt).toNat, 0) ∧ 0 ≤ i.toInt ∧ g_sc M0 M ∧ g_rI M)
    | _ => none)
  | _ => none
set_option maxRecDepth 100000 in
set_option maxHeartbeats 4000000 in
theorem metX7_book : am_Met yX7_book cX7_book 8 (some .long) (6) (147) TX7_book := by
  refine am_met (own := RX7) (by decide +kernel) rfl kX7_book koX7_book 150 JX7_book ?_ ?_
  · intro live as M Ret h
    unfold TX7_book at h
    split at h
    · next n b y k w =>
      refine ⟨Nat.le_of_ble_eq_true rfl, ?_⟩
      change am_wp _ _ _ _ [(0, Value.ref n), (1, Value.int b), (2, Value.int y), (3, Value.int k), (4, Value.int w)] _ _
      obtain ⟨hmn, rfl, ⟨hH, hR⟩, h⟩ := h
      have hmn2 := hmn
      obtain ⟨i1, i2, rfl⟩ := hmn2
      by_cases z0 : 0 ≤ b ∧ b ≤ 3
      rotate_left
      · skip
        have q0 : (if 0 ≤ b ∧ b ≤ 3 then (1 : Int32) else 0) = 0 := if_neg z0
        repeat' (first | (with_reducible exact hmn) | apply And.intro | exact rfl | (intro hx; with_reducible exact absurd q0 hx) | (intro hx; exact absurd hx (by decide)) | (intro hx; exact absurd (by decide) hx) | decide | intro hx | (refine Exists.intro _ (And.intro rfl ?_)))
        all_goals try first | (with_reducible change am_tI _ _) | (change Ret _ _) | (change Ret _ _ _) | (change Exists _)
        all_goals try dsimp only at *
        all_goals try (with_reducible exact absurd ‹(1000 : Int64) = 0› am_z1000)
        all_goals exact h _ _ g_sc.rf hR
      · skip
        have q0 : ¬ ((if 0 ≤ b ∧ b ≤ 3 then (1 : Int32) else 0) = 0) := by rw [if_pos z0]; decide
        by_cases z1 : 0 ≤ y ∧ y < 40
        rotate_left
        · skip
          have q1 : (if 0 ≤ y ∧ y < 40 then (1 : Int32) else 0) = 0 := if_neg z1
          repeat' (first | (with_reducible exact hmn) | apply And.intro | exact rfl | (intro hx; with_reducible exact absurd hx q0) | (intro hx; with_reducible exact absurd q1 hx) | (intro hx; exact absurd hx (by decide)) | (intro hx; exact absurd (by decide) hx) | decide | intro hx | (refine Exists.intro _ (And.intro rfl ?_)))
          all_goals try first | (with_reducible change am_tI _ _) | (change Ret _ _) | (change Ret _ _ _) | (change Exists _)
          all_goals try dsimp only at *
          all_goals try (with_reducible exact absurd ‹(1000 : Int64) = 0› am_z1000)
          all_goals exact h _ _ g_sc.rf hR
        · skip
          have q1 : ¬ ((if 0 ≤ y ∧ y < 40 then (1 : Int32) else 0) = 0) := by rw [if_pos z1]; decide
          by_cases z2 : 0 ≤ k ∧ k < 40
          rotate_left
          · skip
            have q2 : (if 0 ≤ k ∧ k < 40 then (1 : Int32) else 0) = 0 := if_neg z2
            repeat' (first | (with_reducible exact hmn) | apply And.intro | exact rfl | (intro hx; with_reducible exact absurd hx q0) | (intro hx; with_reducible exact absurd hx q1) | (intro hx; with_reducible exact absurd q2 hx) | (intro hx; exact absurd hx (by decide)) | (intro hx; exact absurd (by decide) hx) | decide | intro hx | (refine Exists.intro _ (And.intro rfl ?_)))
            all_goals try first | (with_reducible change am_tI _ _) | (change Ret _ _) | (change Ret _ _ _) | (change Exists _)
            all_goals try dsimp only at *
            all_goals try (with_reducible exact absurd ‹(1000 : Int64) = 0› am_z1000)
            all_goals exact h _ _ g_sc.rf hR
          · skip
            have q2 : ¬ ((if 0 ≤ k ∧ k < 40 then (1 : Int32) else 0) = 0) := by rw [if_pos z2]; decide
            by_cases z3 : 0 ≤ w ∧ w ≤ 1
            rotate_left
            · skip
              have q3 : (if 0 ≤ w ∧ w ≤ 1 then (1 : Int32) else 0) = 0 := if_neg z3
              repeat' (first | (with_reducible exact hmn) | apply And.intro | exact rfl | (intro hx; with_reducible exact absurd hx q0) | (intro hx; with_reducible exact absurd hx q1) | (intro hx; with_reducible exact absurd hx q2) | (intro hx; with_reducible exact absurd q3 hx) | (intro hx; exact absurd hx (by decide)) | (intro hx; exact absurd (by decide) hx) | decide | intro hx | (refine Exists.intro _ (And.intro rfl ?_)))
              all_goals try first | (with_reducible change am_tI _ _) | (change Ret _ _) | (change Ret _ _ _) | (change Exists _)
              all_goals try dsimp only at *
              all_goals try (with_reducible exact absurd ‹(1000 : Int64) = 0› am_z1000)
              all_goals exact h _ _ g_sc.rf hR
            · skip
              have q3 : ¬ ((if 0 ≤ w ∧ w ≤ 1 then (1 : Int32) else 0) = 0) := by rw [if_pos z3]; decide
              repeat' (first | (with_reducible exact hmn) | (with_reducible exact hR) | (with_reducible exact hH) | apply And.intro | exact rfl | (intro hx; with_reducible exact absurd hx q0) | (intro hx; with_reducible exact absurd hx q1) | (intro hx; with_reducible exact absurd hx q2) | (intro hx; with_reducible exact absurd hx q3) | ((with_reducible change g_rI _); (with_reducible assumption)) | (intro hx; exact absurd hx (by decide)) | (intro hx; exact absurd (by decide) hx) | decide | intro hx | (refine Exists.intro _ (And.intro rfl ?_)))
              all_goals try first | (with_reducible change am_tI _ _) | (change Ret _ _) | (change Ret _ _ _) | (change Exists _)
              all_goals try dsimp only at *
              all_goals try (with_reducible exact absurd ‹(1000 : Int64) = 0› am_z1000)
              all_goals first | exact ⟨_, _, _, rfl, rfl, rfl, by decide, by (repeat' (first | (with_reducible exact g_sc.rf) | (with_reducible assumption) | ((with_reducible change g_sc _ (am_wI _ _ _ _)); refine g_sc.wI ?_ rfl) | ((with_reducible change g_sc _ (am_wJ _ _ _ _)); refine g_sc.wJ ?_ rfl) | ((with_reducible change g_sc _ (am_cI _ _ _)); refine g_sc.cI ?_ rfl) | ((with_reducible change g_sc _ (am_cJ _ _ _)); refine g_sc.cJ ?_ rfl) | (refine g_sc.tr ?_ (by with_reducible assumption)) | (refine g_sc.st ?_ (by with_reducible assumption)))), by (repeat' (first | (with_reducible assumption) | ((with_reducible change g_rI (am_wJ _ _ _ _)); refine g_rI.wJ ?_) | ((with_reducible change g_rI (am_cJ _ _ _)); refine g_rI.cJ ?_) | ((with_reducible change g_rI (am_wI _ 5 _ _)); refine g_rI.w5 ?_) | ((with_reducible change g_rI (am_wI _ _ _ _)); refine g_rI.wF ?_ rfl) | (refine g_rI.st ?_ (by with_reducible assumption)) | (refine g_rI.we ?_ (by with_reducible assumption))))⟩ | ((with_reducible change Ret _ _); exact h _ _ (by (repeat' (first | (with_reducible exact g_sc.rf) | (with_reducible assumption) | ((with_reducible change g_sc _ (am_wI _ _ _ _)); refine g_sc.wI ?_ rfl) | ((with_reducible change g_sc _ (am_wJ _ _ _ _)); refine g_sc.wJ ?_ rfl) | ((with_reducible change g_sc _ (am_cI _ _ _)); refine g_sc.cI ?_ rfl) | ((with_reducible change g_sc _ (am_cJ _ _ _)); refine g_sc.cJ ?_ rfl) | (refine g_sc.tr ?_ (by with_reducible assumption)) | (refine g_sc.st ?_ (by with_reducible assumption))))) (by (repeat' (first | (with_reducible assumption) | ((with_reducible change g_rI (am_wJ _ _ _ _)); refine g_rI.wJ ?_) | ((with_reducible change g_rI (am_cJ _ _ _)); refine g_rI.cJ ?_) | ((with_reducible change g_rI (am_wI _ 5 _ _)); refine g_rI.w5 ?_) | ((with_reducible change g_rI (am_wI _ _ _ _)); refine g_rI.wF ?_ rfl) | (refine g_rI.st ?_ (by with_reducible assumption)) | (refine g_rI.we ?_ (by with_reducible assumption)))))) | skip
    · exact h.elim
  · intro live as M0 Ret h k pc I hI L st M hi
    unfold TX7_book at h
    split at h
    · next n b y k w =>
      obtain ⟨hmn, rfl, ⟨hH, hR⟩, h⟩ := h
      have hmn2 := hmn
      obtain ⟨i1, i2, rfl⟩ := hmn2
      change (match pc with | 49 => _ | _ => none) = _ at hI
      split at hI
      · cases hI
        obtain ⟨v, i, rfl, rfl, rfl, e1, e2, e3⟩ := hi
        have hs := hH.lo.2
        have hpr : (M.1 54 2).toInt ≤ 100000 := by rw [e2.i 2 (by decide)]; have := hH.pr.2; omega
        by_cases hz : M.1 33 2 ≤ i
        · skip
          repeat' (first | (with_reducible exact hmn) | (with_reducible exact hpr) | apply And.intro | exact rfl | (intro hx; with_reducible exact absurd hz hx) | intro hx | (refine Exists.intro _ (And.intro rfl ?_)))
          all_goals try first | (with_reducible change am_tI _ _) | (change Ret _ _) | (change Ret _ _ _) | (change Exists _)
          all_goals try dsimp only at *
          all_goals try (with_reducible exact absurd ‹(1000 : Int64) = 0› am_z1000)
          all_goals exact h _ _ e2 e3
        · have hz2 := hz
          rw [e2.i 2 (by decide)] at hz2
          simp only [i_le] at hz2
          have hi := i_inc (x := i) (by omega) (by omega)
          have hl : am_in i 30 := ⟨e1, by omega⟩
          have f150 := g_ix hl 150 150 rfl (by decide)
          have l6 : am_len 6 = 180 := rfl
          repeat' (first | (with_reducible exact hmn) | apply And.intro | exact rfl | (intro hx; with_reducible exact absurd hx hz) | intro hx | (refine Exists.intro _ (And.intro rfl ?_)))
          all_goals try first | (with_reducible change am_tI _ _) | (change Ret _ _) | (change Ret _ _ _) | (change Exists _)
          all_goals try dsimp only at *
          all_goals try (with_reducible exact absurd ‹(1000 : Int64) = 0› am_z1000)
          all_goals first
            | (with_reducible exact f150.1)
            | (rw [l6]; exact f150.2.1)
            | exact f150.1
            | exact ⟨_, am_lt_l (by omega), _, _, rfl, rfl, rfl, by omega, e2, e3⟩
            | skip
      · cases hI
    · exact h.elim
set_option maxRecDepth 100000 in
theorem wd_312 : Cond.fieldLink "LearnLoans" 213 "LearnLoans$Run" "paid" "J" ∈ am_ws := am_wt2 (List.mem_of_getElem? (i := 15) (by rfl)) (by decide +kernel)
def rwX7_early : List dz_r := [(0, .aload_n 0, 1), (1, .iload_n 1, 1), (2, .invokevirtual 52, 3), (5, .ifCond .eq 28, 3), (8, .iload_n 2, 1), (9, .iconst 1, 1), (10, .ldc 189, 2), (12, .invokestatic 55, 3), (15, .ifCond .eq 18, 3), (18, .iload_n 3, 1), (19, .invokestatic 34, 3), (22, .ifCond .eq 11, 3), (25, .iload 4, 2), (27, .invokestatic 34, 3), (30, .ifCond .ne 6, 3), (33, .bipush (-2), 2), (35, .ireturn, 1), (36, .iconst 0, 1), (37, .istore 5, 2), (39, .iconst 0, 1), (40, .istore 6, 2), (42, .iload 6, 2), (44, .iconst 4, 1), (45, .if_icmp .ge 62, 3), (48, .aload_n 0, 1), (49, .iload_n 1, 1), (50, .iconst (-1), 1), (51, .iload 6, 2), (53, .iload_n 3, 1), (54, .iload 4, 2), (56, .iconst 0, 1), (57, .invokevirtual 209, 3), (60, .lstore 7, 2), (62, .aload_n 0, 1), (63, .iload_n 1, 1), (64, .iconst (-1), 1), (65, .iload 6, 2), (67, .iload_n 3, 1), (68, .iload 4, 2), (70, .iload_n 2, 1), (71, .invokevirtual 209, 3), (74, .aload_n 0, 1), (75, .getfield 20, 3), (78, .getfield 213, 3), (81, .ladd, 1), (82, .lstore 9, 2), (84, .lload 9, 2), (86, .lload 7, 2), (88, .lcmp, 1), (89, .ifCond .ge 12, 3), (92, .iload 5, 2), (94, .iconst 1, 1), (95, .iload 6, 2), (97, .ishl, 1), (98, .ior, 1), (99, .istore 5, 2), (101, .iinc 6 1, 3), (104, .goto (-62), 3), (107, .iload 5, 2), (109, .ireturn, 1)]
theorem dzX7_early : dz cX7_early rwX7_early := dz_all 0 (by decide +kernel)
def kX7_early (live : am_E) (Ret : am_R) : am_code := [(0, am_aload 0 1), (1, am_iload 1 2), (2, am_callV live 7 1 TX7_isPerson 5), (5, am_if1 (fun x => x = 0) 33 8), (8, am_iload 2 9), (9, am_const (.int 1) 10), (10, am_const (.int 1000000000) 12), (12, am_callS live 3 TX7_within 15), (15, am_if1 (fun x => x = 0) 33 18), (18, am_iload 3 19), (19, am_callS live 1 TX7_isYear 22), (22, am_if1 (fun x => x = 0) 33 25), (25, am_iload 4 27), (27, am_callS live 1 TX7_isYear 30), (30, am_if1 (fun x => x = 0) 33 36), (33, am_const (.int (-2)) 35), (35, am_retI Ret), (36, am_const (.int 0) 37), (37, am_istore 5 11 39), (39, am_const (.int 0) 40), (40, am_istore 6 11 42), (42, am_iload 6 44), (44, am_const (.int 4) 45), (45, am_if2 (fun x y => y ≤ x) 107 48), (48, am_aload 0 49), (49, am_iload 1 50), (50, am_const (.int (-1)) 51), (51, am_iload 6 53), (53, am_iload 3 54), (54, am_iload 4 56), (56, am_const (.int 0) 57), (57, am_callV live 7 6 TX7_takenByLife 60), (60, am_lstore 7 11 62), (62, am_aload 0 63), (63, am_iload 1 64), (64, am_const (.int (-1)) 65), (65, am_iload 6 67), (67, am_iload 3 68), (68, am_iload 4 70), (70, am_iload 2 71), (71, am_callV live 7 6 TX7_takenByLife 74), (74, am_aload 0 75), (75, am_getR live 7 2 78), (78, am_getJ live 4 15 81), (81, am_l2 (fun x y => x + y) 82), (82, am_lstore 9 11 84), (84, am_lload 9 86), (86, am_lload 7 88), (88, am_lcmp 89), (89, am_if1 (fun x => 0 ≤ x) 101 92), (92, am_iload 5 94), (94, am_const (.int 1) 95), (95, am_iload 6 97), (97, am_i2 (fun x y => x <<< (y &&& 31)) 98), (98, am_i2 (fun x y => x ||| y) 99), (99, am_istore 5 11 101), (101, am_iinc 6 11 1 104), (104, am_goto 42), (107, am_iload 5 109), (109, am_retI Ret)]
theorem koX7_early (live : am_E) (Ret : am_R) : ∀ q ∈ kX7_early live Ret, am_ok RX7 cX7_early 11 (some .int) 6 152 live Ret q.1 q.2 :=
  am_kz dzX7_early <|
  am_kd (fun d => ak_aload_n d rfl rfl) <|
  am_kd (fun d => ak_iload_n d rfl rfl) <|
  am_kd (fun d => ak_callV (C := RX7) (F := TX7) (N := 4) metX7_isPerson rfl ⟨rfl, hy_X7_isPerson⟩ (am_w5 wd_414 wd_416 wd_0 wd_58 wd_417) (by decide) d rfl) <|
  am_kd (fun d => ak_if_eq d (by decide +kernel) rfl) <|
  am_kd (fun d => ak_iload_n d rfl rfl) <|
  am_kd (fun d => ak_iconst d (by decide +kernel) rfl) <|
  am_kd (fun d => ak_ldc wd_738 d rfl) <|
  am_kd (fun d => ak_callS metX7_within ⟨rfl, hy_X7_within⟩ (am_w4 wd_418 wd_419 wd_58 wd_420) (by decide) d rfl) <|
  am_kd (fun d => ak_if_eq d (by decide +kernel) rfl) <|
  am_kd (fun d => ak_iload_n d rfl rfl) <|
  am_kd (fun d => ak_callS metX7_isYear ⟨rfl, hy_X7_isYear⟩ (am_w4 wd_407 wd_408 wd_58 wd_409) (by decide) d rfl) <|
  am_kd (fun d => ak_if_eq d (by decide +kernel) rfl) <|
  am_kd (fun d => ak_iload d rfl) <|
  am_kd (fun d => ak_callS metX7_isYear ⟨rfl, hy_X7_isYear⟩ (am_w4 wd_407 wd_408 wd_58 wd_409) (by decide) d rfl) <|
  am_kd (fun d => ak_if_ne d (by decide +kernel) rfl) <|
  am_kd (fun d => ak_bipush d (by decide +kernel) rfl) <|
  am_kd (fun d => ak_retI d) <|
  am_kd (fun d => ak_iconst d (by decide +kernel) rfl) <|
  am_kd (fun d => ak_istore d rfl) <|
  am_kd (fun d => ak_iconst d (by decide +kernel) rfl) <|
  am_kd (fun d => ak_istore d rfl) <|
  am_kd (fun d => ak_iload d rfl) <|
  am_kd (fun d => ak_iconst d (by decide +kernel) rfl) <|
  am_kd (fun d => ak_icmp_ge d (by decide +kernel) rfl) <|
  am_kd (fun d => ak_aload_n d rfl rfl) <|
  am_kd (fun d => ak_iload_n d rfl rfl) <|
  am_kd (fun d => ak_iconst d (by decide +kernel) rfl) <|
  am_kd (fun d => ak_iload d rfl) <|
  am_kd (fun d => ak_iload_n d rfl rfl) <|
  am_kd (fun d => ak_iload d rfl) <|
  am_kd (fun d => ak_iconst d (by decide +kernel) rfl) <|
  am_kd (fun d => ak_callV (C := RX7) (F := TX7) (N := 4) metX7_takenByLife rfl ⟨rfl, hy_X7_takenByLife⟩ (am_w5 wd_760 wd_762 wd_24 wd_58 wd_763) (by decide) d rfl) <|
  am_kd (fun d => ak_lstore d rfl) <|
  am_kd (fun d => ak_aload_n d rfl rfl) <|
  am_kd (fun d => ak_iload_n d rfl rfl) <|
  am_kd (fun d => ak_iconst d (by decide +kernel) rfl) <|
  am_kd (fun d => ak_iload d rfl) <|
  am_kd (fun d => ak_iload_n d rfl rfl) <|
  am_kd (fun d => ak_iload d rfl) <|
  am_kd (fun d => ak_iload_n d rfl rfl) <|
  am_kd (fun d => ak_callV (C := RX7) (F := TX7) (N := 4) metX7_takenByLife rfl ⟨rfl, hy_X7_takenByLife⟩ (am_w5 wd_760 wd_762 wd_24 wd_58 wd_763) (by decide) d rfl) <|
  am_kd (fun d => ak_aload_n d rfl rfl) <|
  am_kd (fun d => ak_getR (C := RX7) (T := TX7) (N := 4) rfl inX7w (by decide) rfl rfl rfl wd_392 d rfl) <|
  am_kd (fun d => ak_getJ (C := RX4) (T := TX4) (N := 19) rfl inX4w (by decide) rfl rfl rfl wd_312 d rfl) <|
  am_kd (fun d => ak_ladd d rfl) <|
  am_kd (fun d => ak_lstore d rfl) <|
  am_kd (fun d => ak_lload d rfl) <|
  am_kd (fun d => ak_lload d rfl) <|
  am_kd (fun d => ak_lcmp d rfl) <|
  am_kd (fun d => ak_if_ge d (by decide +kernel) rfl) <|
  am_kd (fun d => ak_iload d rfl) <|
  am_kd (fun d => ak_iconst d (by decide +kernel) rfl) <|
  am_kd (fun d => ak_iload d rfl) <|
  am_kd (fun d => ak_ishl d rfl) <|
  am_kd (fun d => ak_ior d rfl) <|
  am_kd (fun d => ak_istore d rfl) <|
  am_kd (fun d => ak_iinc d (by decide +kernel) rfl) <|
  am_kd (fun d => ak_goto d (by decide +kernel)) <|
  am_kd (fun d => ak_iload d rfl) <|
  am_kd (fun d => ak_retI d) <| am_kdn
def TX7_early : am_T := fun live as M R => match as with
  | [.ref n, .int p, .int s, .int y, .int k] => am_mn live ∧ n = 0 ∧ (g_hI M ∧ g_rI M) ∧ ∀ v M', g_sc M M' → g_rI M' → R (some (.int v)) M'
  | _ => False
def JX7_early : am_E → List Value → am_M → am_R → am_inv := fun live as M0 _ pc => match as with
  | [.ref n, .int p, .int s, .int y, .int k] => (match pc with
    | 42 => some ([0, 1, 2, 3, 4, 5, 6], fun u L st M => ∃ o l : Int32, L = [(0, .ref 0), (1, .int p), (2, .int s), (3, .int y), (4, .int k), (5, .int o), (6, .int l)] ∧ st = [] ∧ u = ((5 - l.toInt).toNat, 0) ∧ 0 ≤ l.toInt ∧ am_in p 12 ∧ g_sc M0 M ∧ g_rI M)
    | _ => none)
  | _ => none
set_option maxRecDepth 100000 in
set_option maxHeartbeats 4000000 in
theorem metX7_early : am_Met yX7_early cX7_early 11 (some .int) (6) (152) TX7_early := by
  refine am_met (own := RX7) (by decide +kernel) rfl kX7_early koX7_early 150 JX7_early ?_ ?_
  · intro live as M Ret h
    unfold TX7_early at h
    split at h
    · next n p s y k =>
      refine ⟨Nat.le_of_ble_eq_true rfl, ?_⟩
      change am_wp _ _ _ _ [(0, Value.ref n), (1, Value.int p), (2, Value.int s), (3, Value.int y), (4, Value.int k)] _ _
      obtain ⟨hmn, rfl, ⟨hH, hR⟩, h⟩ := h
      have hmn2 := hmn
      obtain ⟨i1, i2, rfl⟩ := hmn2
      by_cases z0 : 0 ≤ p ∧ p < M.1 21 7
      rotate_left
      · skip
        have q0 : (if 0 ≤ p ∧ p < M.1 21 7 then (1 : Int32) else 0) = 0 := if_neg z0
        repeat' (first | (with_reducible exact hmn) | apply And.intro | exact rfl | (intro hx; with_reducible exact absurd q0 hx) | (intro hx; exact absurd hx (by decide)) | (intro hx; exact absurd (by decide) hx) | decide | intro hx | (refine Exists.intro _ (And.intro rfl ?_)))
        all_goals try first | (with_reducible change am_tI _ _) | (change Ret _ _) | (change Ret _ _ _) | (change Exists _)
        all_goals try dsimp only at *
        all_goals try (with_reducible exact absurd ‹(1000 : Int64) = 0› am_z1000)
        all_goals exact h _ _ g_sc.rf hR
      · skip
        have q0 : ¬ ((if 0 ≤ p ∧ p < M.1 21 7 then (1 : Int32) else 0) = 0) := by rw [if_pos z0]; decide
        by_cases z1 : 1 ≤ s ∧ s ≤ 1000000000
        rotate_left
        · skip
          have q1 : (if 1 ≤ s ∧ s ≤ 1000000000 then (1 : Int32) else 0) = 0 := if_neg z1
          repeat' (first | (with_reducible exact hmn) | apply And.intro | exact rfl | (intro hx; with_reducible exact absurd hx q0) | (intro hx; with_reducible exact absurd q1 hx) | (intro hx; exact absurd hx (by decide)) | (intro hx; exact absurd (by decide) hx) | decide | intro hx | (refine Exists.intro _ (And.intro rfl ?_)))
          all_goals try first | (with_reducible change am_tI _ _) | (change Ret _ _) | (change Ret _ _ _) | (change Exists _)
          all_goals try dsimp only at *
          all_goals try (with_reducible exact absurd ‹(1000 : Int64) = 0› am_z1000)
          all_goals exact h _ _ g_sc.rf hR
        · skip
          have q1 : ¬ ((if 1 ≤ s ∧ s ≤ 1000000000 then (1 : Int32) else 0) = 0) := by rw [if_pos z1]; decide
          by_cases z2 : 0 ≤ y ∧ y < 40
          rotate_left
          · skip
            have q2 : (if 0 ≤ y ∧ y < 40 then (1 : Int32) else 0) = 0 := if_neg z2
            repeat' (first | (with_reducible exact hmn) | apply And.intro | exact rfl | (intro hx; with_reducible exact absurd hx q0) | (intro hx; with_reducible exact absurd hx q1) | (intro hx; with_reducible exact absurd q2 hx) | (intro hx; exact absurd hx (by decide)) | (intro hx; exact absurd (by decide) hx) | decide | intro hx | (refine Exists.intro _ (And.intro rfl ?_)))
            all_goals try first | (with_reducible change am_tI _ _) | (change Ret _ _) | (change Ret _ _ _) | (change Exists _)
            all_goals try dsimp only at *
            all_goals try (with_reducible exact absurd ‹(1000 : Int64) = 0› am_z1000)
            all_goals exact h _ _ g_sc.rf hR
          · skip
            have q2 : ¬ ((if 0 ≤ y ∧ y < 40 then (1 : Int32) else 0) = 0) := by rw [if_pos z2]; decide
            by_cases z3 : 0 ≤ k ∧ k < 40
            rotate_left
            · skip
              have q3 : (if 0 ≤ k ∧ k < 40 then (1 : Int32) else 0) = 0 := if_neg z3
              repeat' (first | (with_reducible exact hmn) | apply And.intro | exact rfl | (intro hx; with_reducible exact absurd hx q0) | (intro hx; with_reducible exact absurd hx q1) | (intro hx; with_reducible exact absurd hx q2) | (intro hx; with_reducible exact absurd q3 hx) | (intro hx; exact absurd hx (by decide)) | (intro hx; exact absurd (by decide) hx) | decide | intro hx | (refine Exists.intro _ (And.intro rfl ?_)))
              all_goals try first | (with_reducible change am_tI _ _) | (change Ret _ _) | (change Ret _ _ _) | (change Exists _)
              all_goals try dsimp only at *
              all_goals try (with_reducible exact absurd ‹(1000 : Int64) = 0› am_z1000)
              all_goals exact h _ _ g_sc.rf hR
            · skip
              have q3 : ¬ ((if 0 ≤ k ∧ k < 40 then (1 : Int32) else 0) = 0) := by rw [if_pos z3]; decide
              repeat' (first | (with_reducible exact hmn) | (with_reducible exact hR) | apply And.intro | exact rfl | (intro hx; with_reducible exact absurd hx q0) | (intro hx; with_reducible exact absurd hx q1) | (intro hx; with_reducible exact absurd hx q2) | (intro hx; with_reducible exact absurd hx q3) | ((with_reducible change g_rI _); (with_reducible assumption)) | (intro hx; exact absurd hx (by decide)) | (intro hx; exact absurd (by decide) hx) | decide | intro hx | (refine Exists.intro _ (And.intro rfl ?_)))
              all_goals try first | (with_reducible change am_tI _ _) | (change Ret _ _) | (change Ret _ _ _) | (change Exists _)
              all_goals try dsimp only at *
              all_goals try (with_reducible exact absurd ‹(1000 : Int64) = 0› am_z1000)
              all_goals first | (have hp : am_in p 12 := ⟨by have q := z0.1; simp only [i_le, Int32.reduceToInt] at q; omega, by have q := z0.2; have q2 := hH.pe; simp only [i_lt] at q; omega⟩; exact ⟨_, _, _, rfl, rfl, rfl, by decide, hp, g_sc.rf, hR⟩) | ((with_reducible change Ret _ _); exact h _ _ (by (repeat' (first | (with_reducible exact g_sc.rf) | (with_reducible assumption) | ((with_reducible change g_sc _ (am_wI _ _ _ _)); refine g_sc.wI ?_ rfl) | ((with_reducible change g_sc _ (am_wJ _ _ _ _)); refine g_sc.wJ ?_ rfl) | ((with_reducible change g_sc _ (am_cI _ _ _)); refine g_sc.cI ?_ rfl) | ((with_reducible change g_sc _ (am_cJ _ _ _)); refine g_sc.cJ ?_ rfl) | (refine g_sc.tr ?_ (by with_reducible assumption)) | (refine g_sc.st ?_ (by with_reducible assumption))))) (by (repeat' (first | (with_reducible assumption) | ((with_reducible change g_rI (am_wJ _ _ _ _)); refine g_rI.wJ ?_) | ((with_reducible change g_rI (am_cJ _ _ _)); refine g_rI.cJ ?_) | ((with_reducible change g_rI (am_wI _ 5 _ _)); refine g_rI.w5 ?_) | ((with_reducible change g_rI (am_wI _ _ _ _)); refine g_rI.wF ?_ rfl) | (refine g_rI.st ?_ (by with_reducible assumption)) | (refine g_rI.we ?_ (by with_reducible assumption)))))) | skip
    · exact h.elim
  · intro live as M0 Ret h k pc I hI L st M hi
    unfold TX7_early at h
    split at h
    · next n p s y k =>
      obtain ⟨hmn, rfl, ⟨hH, hR⟩, h⟩ := h
      have hmn2 := hmn
      obtain ⟨i1, i2, rfl⟩ := hmn2
      change (match pc with | 42 => _ | _ => none) = _ at hI
      split at hI
      · cases hI
        obtain ⟨o, l, rfl, rfl, rfl, e1, hp, e2, e3⟩ := hi
        by_cases hz : (4 : Int32) ≤ l
        · skip
          repeat' (first | (with_reducible exact hmn) | apply And.intro | exact rfl | (intro hx; with_reducible exact absurd hz hx) | intro hx | (refine Exists.intro _ (And.intro rfl ?_)))
          all_goals try first | (with_reducible change am_tI _ _) | (change Ret _ _) | (change Ret _ _ _) | (change Exists _)
          all_goals try dsimp only at *
          all_goals try (with_reducible exact absurd ‹(1000 : Int64) = 0› am_z1000)
          all_goals exact h _ _ e2 e3
        · have hz2 := hz
          simp only [i_le, Int32.reduceToInt] at hz2
          have hi := i_inc (x := l) (by omega) (by omega)
          have hl : am_in l 4 := ⟨e1, by omega⟩
          have hq : (-1 : Int32) = -1 ∨ am_in (-1 : Int32) 5 := Or.inl rfl
          repeat' (first | (with_reducible exact hmn) | (with_reducible exact hp) | (with_reducible exact hq) | (with_reducible exact hl) | (with_reducible exact e3) | apply And.intro | exact rfl | (intro hx; with_reducible exact absurd hx hz) | ((with_reducible change g_rI _); (with_reducible assumption)) | intro hx | (refine Exists.intro _ (And.intro rfl ?_)))
          all_goals try first | (with_reducible change am_tI _ _) | (change Ret _ _) | (change Ret _ _ _) | (change Exists _)
          all_goals try dsimp only at *
          all_goals try (with_reducible exact absurd ‹(1000 : Int64) = 0› am_z1000)
          all_goals exact ⟨_, am_lt_l (by omega), _, _, rfl, rfl, rfl, by omega, hp, by (repeat' (first | (with_reducible exact g_sc.rf) | (with_reducible assumption) | ((with_reducible change g_sc _ (am_wI _ _ _ _)); refine g_sc.wI ?_ rfl) | ((with_reducible change g_sc _ (am_wJ _ _ _ _)); refine g_sc.wJ ?_ rfl) | ((with_reducible change g_sc _ (am_cI _ _ _)); refine g_sc.cI ?_ rfl) | ((with_reducible change g_sc _ (am_cJ _ _ _)); refine g_sc.cJ ?_ rfl) | (refine g_sc.tr ?_ (by with_reducible assumption)) | (refine g_sc.st ?_ (by with_reducible assumption)))), by (repeat' (first | (with_reducible assumption) | ((with_reducible change g_rI (am_wJ _ _ _ _)); refine g_rI.wJ ?_) | ((with_reducible change g_rI (am_cJ _ _ _)); refine g_rI.cJ ?_) | ((with_reducible change g_rI (am_wI _ 5 _ _)); refine g_rI.w5 ?_) | ((with_reducible change g_rI (am_wI _ _ _ _)); refine g_rI.wF ?_ rfl) | (refine g_rI.st ?_ (by with_reducible assumption)) | (refine g_rI.we ?_ (by with_reducible assumption))))⟩
      · cases hI
    · exact h.elim
theorem hy_X7_force : yX7_force.cls ≠ "java/lang/invoke/MethodHandle" ∧ yX7_force.cls ≠ "java/lang/invoke/VarHandle" ∧ (parseMethodDescriptor yX7_force.desc).map (fun d => d.parameters.length) = some 4 := ⟨by decide +kernel, by decide +kernel, by decide +kernel⟩
set_option maxRecDepth 100000 in
theorem wd_824 : Cond.methodLink "LearnLoans" 249 yX7_force ∈ am_ws := am_wt4 (List.mem_of_getElem? (i := 47) (by rfl)) (by decide +kernel)
set_option maxRecDepth 100000 in
theorem wd_490 : Cond.instanceMethod yX7_force ∈ am_ws := am_wt2 (List.mem_of_getElem? (i := 193) (by rfl)) (by decide +kernel)
set_option maxRecDepth 100000 in
theorem wd_491 : Cond.selects "LearnLoans" yX7_force yX7_force ∈ am_ws := am_wt2 (List.mem_of_getElem? (i := 194) (by rfl)) (by decide +kernel)
set_option maxRecDepth 100000 in
theorem wd_492 : Cond.code yX7_force cX7_force 5 (some .int) ∈ am_ws := am_wt2 (List.mem_of_getElem? (i := 195) (by rfl)) (by decide +kernel)
theorem hy_X7_isNearer : yX7_isNearer.cls ≠ "java/lang/invoke/MethodHandle" ∧ yX7_isNearer.cls ≠ "java/lang/invoke/VarHandle" ∧ (parseMethodDescriptor yX7_isNearer.desc).map (fun d => d.parameters.length) = some 3 := ⟨by decide +kernel, by decide +kernel, by decide +kernel⟩
set_option maxRecDepth 100000 in
theorem wd_825 : Cond.methodLink "LearnLoans" 253 yX7_isNearer ∈ am_ws := am_wt4 (List.mem_of_getElem? (i := 48) (by rfl)) (by decide +kernel)
set_option maxRecDepth 100000 in
theorem wd_826 : Cond.static yX7_isNearer ∈ am_ws := am_wt4 (List.mem_of_getElem? (i := 49) (by rfl)) (by decide +kernel)
set_option maxRecDepth 100000 in
theorem wd_827 : Cond.code yX7_isNearer cX7_isNearer 5 (some .boolean) ∈ am_ws := am_wt4 (List.mem_of_getElem? (i := 50) (by rfl)) (by decide +kernel)
def rwX7_best : List dz_r := [(0, .iload_n 1, 1), (1, .invokestatic 98, 3), (4, .ifCond .eq 27, 3), (7, .iload_n 2, 1), (8, .iconst 0, 1), (9, .iconst 5, 1), (10, .invokestatic 55, 3), (13, .ifCond .eq 18, 3), (16, .iload_n 3, 1), (17, .invokestatic 34, 3), (20, .ifCond .eq 11, 3), (23, .iload 4, 2), (25, .invokestatic 34, 3), (28, .ifCond .ne 6, 3), (31, .bipush (-2), 2), (33, .ireturn, 1), (34, .aload_n 0, 1), (35, .iload 5, 2), (37, .invokevirtual 52, 3), (40, .ifCond .ne 6, 3), (43, .bipush (-2), 2), (45, .ireturn, 1), (46, .aload_n 0, 1), (47, .iload_n 1, 1), (48, .iload_n 2, 1), (49, .iload 5, 2), (51, .iload 4, 2), (53, .invokevirtual 249, 3), (56, .istore 8, 2), (58, .iconst (-1), 1), (59, .istore 9, 2), (61, .iconst 0, 1), (62, .istore 10, 2), (64, .iload 10, 2), (66, .aload_n 0, 1), (67, .getfield 27, 3), (70, .getfield 243, 3), (73, .if_icmp .ge 70, 3), (76, .iload 10, 2), (78, .bipush 9, 2), (80, .if_icmp .ge 63, 3), (83, .aload_n 0, 1), (84, .getfield 27, 3), (87, .getfield 246, 3), (90, .iload 10, 2), (92, .iaload, 1), (93, .istore 11, 2), (95, .iload_n 2, 1), (96, .iload 11, 2), (98, .invokestatic 101, 3), (101, .ifCond .eq 36, 3), (104, .iload 11, 2), (106, .iload 9, 2), (108, .iload 8, 2), (110, .invokestatic 253, 3), (113, .ifCond .eq 24, 3), (116, .aload_n 0, 1), (117, .iload_n 1, 1), (118, .iload_n 2, 1), (119, .iload 11, 2), (121, .iload_n 3, 1), (122, .iload 4, 2), (124, .invokevirtual 239, 3), (127, .lload 6, 2), (129, .lcmp, 1), (130, .ifCond .lt 7, 3), (133, .iload 11, 2), (135, .istore 9, 2), (137, .iinc 10 1, 3), (140, .goto (-76), 3), (143, .iload 9, 2), (145, .ireturn, 1)]
theorem dzX7_best : dz cX7_best rwX7_best := dz_all 0 (by decide +kernel)
def kX7_best (live : am_E) (Ret : am_R) : am_code := [(0, am_iload 1 1), (1, am_callS live 1 TX7_isPlan 4), (4, am_if1 (fun x => x = 0) 31 7), (7, am_iload 2 8), (8, am_const (.int 0) 9), (9, am_const (.int 5) 10), (10, am_callS live 3 TX7_within 13), (13, am_if1 (fun x => x = 0) 31 16), (16, am_iload 3 17), (17, am_callS live 1 TX7_isYear 20), (20, am_if1 (fun x => x = 0) 31 23), (23, am_iload 4 25), (25, am_callS live 1 TX7_isYear 28), (28, am_if1 (fun x => x = 0) 31 34), (31, am_const (.int (-2)) 33), (33, am_retI Ret), (34, am_aload 0 35), (35, am_iload 5 37), (37, am_callV live 7 1 TX7_isPerson 40), (40, am_if1 (fun x => x = 0) 43 46), (43, am_const (.int (-2)) 45), (45, am_retI Ret), (46, am_aload 0 47), (47, am_iload 1 48), (48, am_iload 2 49), (49, am_iload 5 51), (51, am_iload 4 53), (53, am_callV live 7 4 TX7_force 56), (56, am_istore 8 12 58), (58, am_const (.int (-1)) 59), (59, am_istore 9 12 61), (61, am_const (.int 0) 62), (62, am_istore 10 12 64), (64, am_iload 10 66), (66, am_aload 0 67), (67, am_getR live 7 0 70), (70, am_getI live 0 12 73), (73, am_if2 (fun x y => y ≤ x) 143 76), (76, am_iload 10 78), (78, am_const (.int 9) 80), (80, am_if2 (fun x y => y ≤ x) 143 83), (83, am_aload 0 84), (84, am_getR live 7 0 87), (87, am_getR live 0 11 90), (90, am_iload 10 92), (92, am_ald live 0 93), (93, am_istore 11 12 95), (95, am_iload 2 96), (96, am_iload 11 98), (98, am_callS live 2 TX7_isNumber 101), (101, am_if1 (fun x => x = 0) 137 104), (104, am_iload 11 106), (106, am_iload 9 108), (108, am_iload 8 110), (110, am_callS live 3 TX7_isNearer 113), (113, am_if1 (fun x => x = 0) 137 116), (116, am_aload 0 117), (117, am_iload 1 118), (118, am_iload 2 119), (119, am_iload 11 121), (121, am_iload 3 122), (122, am_iload 4 124), (124, am_callV live 7 5 TX7_takenIf 127), (127, am_lload 6 129), (129, am_lcmp 130), (130, am_if1 (fun x => x < 0) 137 133), (133, am_iload 11 135), (135, am_istore 9 12 137), (137, am_iinc 10 12 1 140), (140, am_goto 64), (143, am_iload 9 145), (145, am_retI Ret)]
theorem koX7_best (live : am_E) (Ret : am_R) : ∀ q ∈ kX7_best live Ret, am_ok RX7 cX7_best 12 (some .int) 6 152 live Ret q.1 q.2 :=
  am_kz dzX7_best <|
  am_kd (fun d => ak_iload_n d rfl rfl) <|
  am_kd (fun d => ak_callS metX7_isPlan ⟨rfl, hy_X7_isPlan⟩ (am_w4 wd_466 wd_467 wd_58 wd_468) (by decide) d rfl) <|
  am_kd (fun d => ak_if_eq d (by decide +kernel) rfl) <|
  am_kd (fun d => ak_iload_n d rfl rfl) <|
  am_kd (fun d => ak_iconst d (by decide +kernel) rfl) <|
  am_kd (fun d => ak_iconst d (by decide +kernel) rfl) <|
  am_kd (fun d => ak_callS metX7_within ⟨rfl, hy_X7_within⟩ (am_w4 wd_418 wd_419 wd_58 wd_420) (by decide) d rfl) <|
  am_kd (fun d => ak_if_eq d (by decide +kernel) rfl) <|
  am_kd (fun d => ak_iload_n d rfl rfl) <|
  am_kd (fun d => ak_callS metX7_isYear ⟨rfl, hy_X7_isYear⟩ (am_w4 wd_407 wd_408 wd_58 wd_409) (by decide) d rfl) <|
  am_kd (fun d => ak_if_eq d (by decide +kernel) rfl) <|
  am_kd (fun d => ak_iload d rfl) <|
  am_kd (fun d => ak_callS metX7_isYear ⟨rfl, hy_X7_isYear⟩ (am_w4 wd_407 wd_408 wd_58 wd_409) (by decide) d rfl) <|
  am_kd (fun d => ak_if_ne d (by decide +kernel) rfl) <|
  am_kd (fun d => ak_bipush d (by decide +kernel) rfl) <|
  am_kd (fun d => ak_retI d) <|
  am_kd (fun d => ak_aload_n d rfl rfl) <|
  am_kd (fun d => ak_iload d rfl) <|
  am_kd (fun d => ak_callV (C := RX7) (F := TX7) (N := 4) metX7_isPerson rfl ⟨rfl, hy_X7_isPerson⟩ (am_w5 wd_414 wd_416 wd_0 wd_58 wd_417) (by decide) d rfl) <|
  am_kd (fun d => ak_if_ne d (by decide +kernel) rfl) <|
  am_kd (fun d => ak_bipush d (by decide +kernel) rfl) <|
  am_kd (fun d => ak_retI d) <|
  am_kd (fun d => ak_aload_n d rfl rfl) <|
  am_kd (fun d => ak_iload_n d rfl rfl) <|
  am_kd (fun d => ak_iload_n d rfl rfl) <|
  am_kd (fun d => ak_iload d rfl) <|
  am_kd (fun d => ak_iload d rfl) <|
  am_kd (fun d => ak_callV (C := RX7) (F := TX7) (N := 4) metX7_force rfl ⟨rfl, hy_X7_force⟩ (am_w5 wd_824 wd_490 wd_491 wd_58 wd_492) (by decide) d rfl) <|
  am_kd (fun d => ak_istore d rfl) <|
  am_kd (fun d => ak_iconst d (by decide +kernel) rfl) <|
  am_kd (fun d => ak_istore d rfl) <|
  am_kd (fun d => ak_iconst d (by decide +kernel) rfl) <|
  am_kd (fun d => ak_istore d rfl) <|
  am_kd (fun d => ak_iload d rfl) <|
  am_kd (fun d => ak_aload_n d rfl rfl) <|
  am_kd (fun d => ak_getR (C := RX7) (T := TX7) (N := 4) rfl inX7w (by decide) rfl rfl rfl wd_390 d rfl) <|
  am_kd (fun d => ak_getI (C := RX0) (T := TX0) (N := 13) rfl inX0w (by decide) rfl rfl rfl wd_227 d rfl) <|
  am_kd (fun d => ak_icmp_ge d (by decide +kernel) rfl) <|
  am_kd (fun d => ak_iload d rfl) <|
  am_kd (fun d => ak_bipush d (by decide +kernel) rfl) <|
  am_kd (fun d => ak_icmp_ge d (by decide +kernel) rfl) <|
  am_kd (fun d => ak_aload_n d rfl rfl) <|
  am_kd (fun d => ak_getR (C := RX7) (T := TX7) (N := 4) rfl inX7w (by decide) rfl rfl rfl wd_390 d rfl) <|
  am_kd (fun d => ak_getR (C := RX0) (T := TX0) (N := 13) rfl inX0w (by decide) rfl rfl rfl wd_225 d rfl) <|
  am_kd (fun d => ak_iload d rfl) <|
  am_kd (fun d => ak_iald (t := 0) (fun _ => rfl) rfl d rfl) <|
  am_kd (fun d => ak_istore d rfl) <|
  am_kd (fun d => ak_iload_n d rfl rfl) <|
  am_kd (fun d => ak_iload d rfl) <|
  am_kd (fun d => ak_callS metX7_isNumber ⟨rfl, hy_X7_isNumber⟩ (am_w4 wd_469 wd_470 wd_58 wd_471) (by decide) d rfl) <|
  am_kd (fun d => ak_if_eq d (by decide +kernel) rfl) <|
  am_kd (fun d => ak_iload d rfl) <|
  am_kd (fun d => ak_iload d rfl) <|
  am_kd (fun d => ak_iload d rfl) <|
  am_kd (fun d => ak_callS metX7_isNearer ⟨rfl, hy_X7_isNearer⟩ (am_w4 wd_825 wd_826 wd_58 wd_827) (by decide) d rfl) <|
  am_kd (fun d => ak_if_eq d (by decide +kernel) rfl) <|
  am_kd (fun d => ak_aload_n d rfl rfl) <|
  am_kd (fun d => ak_iload_n d rfl rfl) <|
  am_kd (fun d => ak_iload_n d rfl rfl) <|
  am_kd (fun d => ak_iload d rfl) <|
  am_kd (fun d => ak_iload_n d rfl rfl) <|
  am_kd (fun d => ak_iload d rfl) <|
  am_kd (fun d => ak_callV (C := RX7) (F := TX7) (N := 4) metX7_takenIf rfl ⟨rfl, hy_X7_takenIf⟩ (am_w5 wd_804 wd_806 wd_26 wd_58 wd_807) (by decide) d rfl) <|
  am_kd (fun d => ak_lload d rfl) <|
  am_kd (fun d => ak_lcmp d rfl) <|
  am_kd (fun d => ak_if_lt d (by decide +kernel) rfl) <|
  am_kd (fun d => ak_iload d rfl) <|
  am_kd (fun d => ak_istore d rfl) <|
  am_kd (fun d => ak_iinc d (by decide +kernel) rfl) <|
  am_kd (fun d => ak_goto d (by decide +kernel)) <|
  am_kd (fun d => ak_iload d rfl) <|
  am_kd (fun d => ak_retI d) <| am_kdn
def TX7_best : am_T := fun live as M R => match as with
  | [.ref n, .int pl, .int w, .int f, .int y, .int p, .long a] => am_mn live ∧ n = 0 ∧ (g_hI M ∧ g_rI M) ∧ ∀ v M', g_sa M M' → g_rI M' → R (some (.int v)) M'
  | _ => False
def JX7_best : am_E → List Value → am_M → am_R → am_inv := fun live as M0 _ pc => match as with
  | [.ref n, .int pl, .int w, .int f, .int y, .int p, .long a] => (match pc with
    | 64 => some ([0, 1, 2, 3, 4, 6, 8, 9, 10], fun u L st M => ∃ o b i : Int32, L = [(0, .ref 0), (1, .int pl), (2, .int w), (3, .int f), (4, .int y), (6, .long a), (8, .int o), (9, .int b), (10, .int i)] ∧ st = [] ∧ u = ((10 - i.toInt).toNat, 0) ∧ 0 ≤ i.toInt ∧ g_sa M0 M ∧ g_rI M)
    | _ => none)
  | _ => none
theorem g_hI.sa {M M' : am_M} (h : g_hI M) (c : g_sa M M') : g_hI M' := by
  obtain ⟨-, h1, ⟨h2, h3⟩, ⟨h4, h5⟩, ⟨h6, h7⟩, ⟨h8, h9⟩, h10, h11⟩ := h
  obtain ⟨-, c⟩ := c
  have e : ∀ a b, 11 ≤ a → a ≠ 32 → M'.1 a b = M.1 a b := fun a b z y => (c a b z (fun q => absurd q y)).1
  refine ⟨(), ?_, ⟨?_, ?_⟩, ⟨?_, ?_⟩, ⟨?_, ?_⟩, ⟨?_, ?_⟩, ?_, fun l hl => ?_⟩
  all_goals rw [e _ _ (by decide) (by decide)]
  all_goals first | assumption | (with_reducible exact h11 l hl) | exact h11 l hl
set_option maxRecDepth 100000 in
set_option maxHeartbeats 4000000 in
theorem metX7_best : am_Met yX7_best cX7_best 12 (some .int) (6) (152) TX7_best := by
  refine am_met (own := RX7) (by decide +kernel) rfl kX7_best koX7_best 150 JX7_best ?_ ?_
  · intro live as M Ret h
    unfold TX7_best at h
    split at h
    · next n pl w f y p a =>
      refine ⟨Nat.le_of_ble_eq_true rfl, ?_⟩
      change am_wp _ _ _ _ [(0, Value.ref n), (1, Value.int pl), (2, Value.int w), (3, Value.int f), (4, Value.int y), (5, Value.int p), (6, Value.long a)] _ _
      obtain ⟨hmn, rfl, ⟨hH, hR⟩, h⟩ := h
      have hmn2 := hmn
      obtain ⟨i1, i2, rfl⟩ := hmn2
      by_cases z0 : 0 ≤ pl ∧ pl < 5
      rotate_left
      · skip
        have q0 : (if 0 ≤ pl ∧ pl < 5 then (1 : Int32) else 0) = 0 := if_neg z0
        repeat' (first | (with_reducible exact hmn) | apply And.intro | exact rfl | (intro hx; with_reducible exact absurd q0 hx) | (intro hx; exact absurd hx (by decide)) | (intro hx; exact absurd (by decide) hx) | decide | intro hx | (refine Exists.intro _ (And.intro rfl ?_)))
        all_goals try first | (with_reducible change am_tI _ _) | (change Ret _ _) | (change Ret _ _ _) | (change Exists _)
        all_goals try dsimp only at *
        all_goals try (with_reducible exact absurd ‹(1000 : Int64) = 0› am_z1000)
        all_goals exact h _ _ g_sv.rf.a hR
      · skip
        have q0 : ¬ ((if 0 ≤ pl ∧ pl < 5 then (1 : Int32) else 0) = 0) := by rw [if_pos z0]; decide
        by_cases z1 : 0 ≤ w ∧ w ≤ 5
        rotate_left
        · skip
          have q1 : (if 0 ≤ w ∧ w ≤ 5 then (1 : Int32) else 0) = 0 := if_neg z1
          repeat' (first | (with_reducible exact hmn) | apply And.intro | exact rfl | (intro hx; with_reducible exact absurd hx q0) | (intro hx; with_reducible exact absurd q1 hx) | (intro hx; exact absurd hx (by decide)) | (intro hx; exact absurd (by decide) hx) | decide | intro hx | (refine Exists.intro _ (And.intro rfl ?_)))
          all_goals try first | (with_reducible change am_tI _ _) | (change Ret _ _) | (change Ret _ _ _) | (change Exists _)
          all_goals try dsimp only at *
          all_goals try (with_reducible exact absurd ‹(1000 : Int64) = 0› am_z1000)
          all_goals exact h _ _ g_sv.rf.a hR
        · skip
          have q1 : ¬ ((if 0 ≤ w ∧ w ≤ 5 then (1 : Int32) else 0) = 0) := by rw [if_pos z1]; decide
          by_cases z2 : 0 ≤ f ∧ f < 40
          rotate_left
          · skip
            have q2 : (if 0 ≤ f ∧ f < 40 then (1 : Int32) else 0) = 0 := if_neg z2
            repeat' (first | (with_reducible exact hmn) | apply And.intro | exact rfl | (intro hx; with_reducible exact absurd hx q0) | (intro hx; with_reducible exact absurd hx q1) | (intro hx; with_reducible exact absurd q2 hx) | (intro hx; exact absurd hx (by decide)) | (intro hx; exact absurd (by decide) hx) | decide | intro hx | (refine Exists.intro _ (And.intro rfl ?_)))
            all_goals try first | (with_reducible change am_tI _ _) | (change Ret _ _) | (change Ret _ _ _) | (change Exists _)
            all_goals try dsimp only at *
            all_goals try (with_reducible exact absurd ‹(1000 : Int64) = 0› am_z1000)
            all_goals exact h _ _ g_sv.rf.a hR
          · skip
            have q2 : ¬ ((if 0 ≤ f ∧ f < 40 then (1 : Int32) else 0) = 0) := by rw [if_pos z2]; decide
            by_cases z3 : 0 ≤ y ∧ y < 40
            rotate_left
            · skip
              have q3 : (if 0 ≤ y ∧ y < 40 then (1 : Int32) else 0) = 0 := if_neg z3
              repeat' (first | (with_reducible exact hmn) | apply And.intro | exact rfl | (intro hx; with_reducible exact absurd hx q0) | (intro hx; with_reducible exact absurd hx q1) | (intro hx; with_reducible exact absurd hx q2) | (intro hx; with_reducible exact absurd q3 hx) | (intro hx; exact absurd hx (by decide)) | (intro hx; exact absurd (by decide) hx) | decide | intro hx | (refine Exists.intro _ (And.intro rfl ?_)))
              all_goals try first | (with_reducible change am_tI _ _) | (change Ret _ _) | (change Ret _ _ _) | (change Exists _)
              all_goals try dsimp only at *
              all_goals try (with_reducible exact absurd ‹(1000 : Int64) = 0› am_z1000)
              all_goals exact h _ _ g_sv.rf.a hR
            · skip
              have q3 : ¬ ((if 0 ≤ y ∧ y < 40 then (1 : Int32) else 0) = 0) := by rw [if_pos z3]; decide
              by_cases z4 : 0 ≤ p ∧ p < M.1 21 7
              rotate_left
              · skip
                have q4 : (if 0 ≤ p ∧ p < M.1 21 7 then (1 : Int32) else 0) = 0 := if_neg z4
                repeat' (first | (with_reducible exact hmn) | apply And.intro | exact rfl | (intro hx; with_reducible exact absurd hx q0) | (intro hx; with_reducible exact absurd hx q1) | (intro hx; with_reducible exact absurd hx q2) | (intro hx; with_reducible exact absurd hx q3) | (intro hx; with_reducible exact absurd q4 hx) | (intro hx; exact absurd hx (by decide)) | (intro hx; exact absurd (by decide) hx) | decide | intro hx | (refine Exists.intro _ (And.intro rfl ?_)))
                all_goals try first | (with_reducible change am_tI _ _) | (change Ret _ _) | (change Ret _ _ _) | (change Exists _)
                all_goals try dsimp only at *
                all_goals try (with_reducible exact absurd ‹(1000 : Int64) = 0› am_z1000)
                all_goals exact h _ _ g_sv.rf.a hR
              · skip
                have q4 : ¬ ((if 0 ≤ p ∧ p < M.1 21 7 then (1 : Int32) else 0) = 0) := by rw [if_pos z4]; decide
                repeat' (first | (with_reducible exact hmn) | (with_reducible exact hR) | (with_reducible exact hH) | apply And.intro | exact rfl | (intro hx; with_reducible exact absurd hx q0) | (intro hx; with_reducible exact absurd hx q1) | (intro hx; with_reducible exact absurd hx q2) | (intro hx; with_reducible exact absurd hx q3) | (intro hx; with_reducible exact absurd hx q4) | ((with_reducible change g_rI _); (with_reducible assumption)) | (intro hx; exact absurd hx (by decide)) | (intro hx; exact absurd (by decide) hx) | decide | intro hx | (refine Exists.intro _ (And.intro rfl ?_)))
                all_goals try first | (with_reducible change am_tI _ _) | (change Ret _ _) | (change Ret _ _ _) | (change Exists _)
                all_goals try dsimp only at *
                all_goals try (with_reducible exact absurd ‹(1000 : Int64) = 0› am_z1000)
                all_goals first | exact ⟨_, _, _, _, rfl, rfl, rfl, by decide, (g_sc.v (by (repeat' (first | (with_reducible exact g_sc.rf) | (with_reducible assumption) | ((with_reducible change g_sc _ (am_wI _ _ _ _)); refine g_sc.wI ?_ rfl) | ((with_reducible change g_sc _ (am_wJ _ _ _ _)); refine g_sc.wJ ?_ rfl) | ((with_reducible change g_sc _ (am_cI _ _ _)); refine g_sc.cI ?_ rfl) | ((with_reducible change g_sc _ (am_cJ _ _ _)); refine g_sc.cJ ?_ rfl) | (refine g_sc.tr ?_ (by with_reducible assumption)) | (refine g_sc.st ?_ (by with_reducible assumption)))))).a, by (repeat' (first | (with_reducible assumption) | ((with_reducible change g_rI (am_wJ _ _ _ _)); refine g_rI.wJ ?_) | ((with_reducible change g_rI (am_cJ _ _ _)); refine g_rI.cJ ?_) | ((with_reducible change g_rI (am_wI _ 5 _ _)); refine g_rI.w5 ?_) | ((with_reducible change g_rI (am_wI _ _ _ _)); refine g_rI.wF ?_ rfl) | (refine g_rI.st ?_ (by with_reducible assumption)) | (refine g_rI.we ?_ (by with_reducible assumption))))⟩ | ((with_reducible change Ret _ _); exact h _ _ (g_sc.v (by (repeat' (first | (with_reducible exact g_sc.rf) | (with_reducible assumption) | ((with_reducible change g_sc _ (am_wI _ _ _ _)); refine g_sc.wI ?_ rfl) | ((with_reducible change g_sc _ (am_wJ _ _ _ _)); refine g_sc.wJ ?_ rfl) | ((with_reducible change g_sc _ (am_cI _ _ _)); refine g_sc.cI ?_ rfl) | ((with_reducible change g_sc _ (am_cJ _ _ _)); refine g_sc.cJ ?_ rfl) | (refine g_sc.tr ?_ (by with_reducible assumption)) | (refine g_sc.st ?_ (by with_reducible assumption)))))).a (by (repeat' (first | (with_reducible assumption) | ((with_reducible change g_rI (am_wJ _ _ _ _)); refine g_rI.wJ ?_) | ((with_reducible change g_rI (am_cJ _ _ _)); refine g_rI.cJ ?_) | ((with_reducible change g_rI (am_wI _ 5 _ _)); refine g_rI.w5 ?_) | ((with_reducible change g_rI (am_wI _ _ _ _)); refine g_rI.wF ?_ rfl) | (refine g_rI.st ?_ (by with_reducible assumption)) | (refine g_rI.we ?_ (by with_reducible assumption)))))) | skip
    · exact h.elim
  · intro live as M0 Ret h k pc I hI L st M hi
    unfold TX7_best at h
    split at h
    · next n pl w f y p a =>
      obtain ⟨hmn, rfl, ⟨hH, hR⟩, h⟩ := h
      have hmn2 := hmn
      obtain ⟨i1, i2, rfl⟩ := hmn2
      change (match pc with | 64 => _ | _ => none) = _ at hI
      split at hI
      · cases hI
        obtain ⟨o, b, i, rfl, rfl, rfl, e1, e2, e3⟩ := hi
        have hH2 := hH.sa e2
        by_cases hz : (9 : Int32) ≤ i
        · skip
          repeat' (first | (with_reducible exact hmn) | apply And.intro | exact rfl | (intro hx; with_reducible exact absurd hz hx) | intro hx | (refine Exists.intro _ (And.intro rfl ?_)))
          all_goals try first | (with_reducible change am_tI _ _) | (change Ret _ _) | (change Ret _ _ _) | (change Exists _)
          all_goals try dsimp only at *
          all_goals try (with_reducible exact absurd ‹(1000 : Int64) = 0› am_z1000)
          all_goals exact h _ _ e2 e3
        · have hz2 := hz
          simp only [i_le, Int32.reduceToInt] at hz2
          have hi := i_inc (x := i) (by omega) (by omega)
          have l58 : am_len 58 = 9 := rfl
          repeat' (first | (with_reducible exact hmn) | (with_reducible exact hH2) | (with_reducible exact e3) | apply And.intro | exact rfl | (intro hx; with_reducible exact absurd hx hz) | (intro hx; exact absurd hx (by decide)) | (intro hx; exact absurd (by decide) hx) | decide | intro hx | (refine Exists.intro _ (And.intro rfl ?_)))
          all_goals try first | (with_reducible change am_tI _ _) | (change Ret _ _) | (change Ret _ _ _) | (change Exists _)
          all_goals try dsimp only at *
          all_goals try (with_reducible exact absurd ‹(1000 : Int64) = 0› am_z1000)
          all_goals first
            | (with_reducible exact h _ _ e2 e3)
            | omega
            | (rw [l58]; omega)
            | exact h _ _ e2 e3
            | exact ⟨_, am_lt_l (by omega), _, _, _, rfl, rfl, rfl, by omega, e2, e3⟩
            | exact ⟨_, am_lt_l (by omega), _, _, _, rfl, rfl, rfl, by omega, e2.tr ‹g_sa M _›, by with_reducible assumption⟩
            | skip
      · cases hI
    · exact h.elim
set_option maxRecDepth 100000 in
theorem wd_871 : Cond.constantLong "LearnLoans" 261 347 ∈ am_ws := am_wt4 (List.mem_of_getElem? (i := 94) (by rfl)) (by decide +kernel)
set_option maxRecDepth 100000 in
theorem wd_872 : Cond.constantLong "LearnLoans" 263 31 ∈ am_ws := am_wt4 (List.mem_of_getElem? (i := 95) (by rfl)) (by decide +kernel)
theorem hy_X7_count : yX7_count.cls ≠ "java/lang/invoke/MethodHandle" ∧ yX7_count.cls ≠ "java/lang/invoke/VarHandle" ∧ (parseMethodDescriptor yX7_count.desc).map (fun d => d.parameters.length) = some 1 := ⟨by decide +kernel, by decide +kernel, by decide +kernel⟩
set_option maxRecDepth 100000 in
theorem wd_873 : Cond.methodLink "LearnLoans" 265 yX7_count ∈ am_ws := am_wt4 (List.mem_of_getElem? (i := 96) (by rfl)) (by decide +kernel)
set_option maxRecDepth 100000 in
theorem wd_864 : Cond.instanceMethod yX7_count ∈ am_ws := am_wt4 (List.mem_of_getElem? (i := 87) (by rfl)) (by decide +kernel)
set_option maxRecDepth 100000 in
theorem wd_865 : Cond.selects "LearnLoans" yX7_count yX7_count ∈ am_ws := am_wt4 (List.mem_of_getElem? (i := 88) (by rfl)) (by decide +kernel)
set_option maxRecDepth 100000 in
theorem wd_866 : Cond.code yX7_count cX7_count 2 (some .int) ∈ am_ws := am_wt4 (List.mem_of_getElem? (i := 89) (by rfl)) (by decide +kernel)
theorem hy_X2_mixed : yX2_mixed.cls ≠ "java/lang/invoke/MethodHandle" ∧ yX2_mixed.cls ≠ "java/lang/invoke/VarHandle" ∧ (parseMethodDescriptor yX2_mixed.desc).map (fun d => d.parameters.length) = some 1 := ⟨by decide +kernel, by decide +kernel, by decide +kernel⟩
set_option maxRecDepth 100000 in
theorem wd_874 : Cond.methodLink "LearnLoans" 269 yX2_mixed ∈ am_ws := am_wt4 (List.mem_of_getElem? (i := 97) (by rfl)) (by decide +kernel)
set_option maxRecDepth 100000 in
theorem wd_875 : Cond.instanceMethod yX2_mixed ∈ am_ws := am_wt4 (List.mem_of_getElem? (i := 98) (by rfl)) (by decide +kernel)
set_option maxRecDepth 100000 in
theorem wd_876 : Cond.selects "LearnLoans$People" yX2_mixed yX2_mixed ∈ am_ws := am_wt4 (List.mem_of_getElem? (i := 99) (by rfl)) (by decide +kernel)
set_option maxRecDepth 100000 in
theorem wd_877 : Cond.code yX2_mixed cX2_mixed 5 (some .long) ∈ am_ws := am_wt4 (List.mem_of_getElem? (i := 100) (by rfl)) (by decide +kernel)
theorem hy_X3_mixed : yX3_mixed.cls ≠ "java/lang/invoke/MethodHandle" ∧ yX3_mixed.cls ≠ "java/lang/invoke/VarHandle" ∧ (parseMethodDescriptor yX3_mixed.desc).map (fun d => d.parameters.length) = some 1 := ⟨by decide +kernel, by decide +kernel, by decide +kernel⟩
set_option maxRecDepth 100000 in
theorem wd_879 : Cond.methodLink "LearnLoans" 273 yX3_mixed ∈ am_ws := am_wt4 (List.mem_of_getElem? (i := 102) (by rfl)) (by decide +kernel)
set_option maxRecDepth 100000 in
theorem wd_880 : Cond.instanceMethod yX3_mixed ∈ am_ws := am_wt4 (List.mem_of_getElem? (i := 103) (by rfl)) (by decide +kernel)
set_option maxRecDepth 100000 in
theorem wd_881 : Cond.selects "LearnLoans$Rows" yX3_mixed yX3_mixed ∈ am_ws := am_wt4 (List.mem_of_getElem? (i := 104) (by rfl)) (by decide +kernel)
set_option maxRecDepth 100000 in
theorem wd_882 : Cond.code yX3_mixed cX3_mixed 5 (some .long) ∈ am_ws := am_wt4 (List.mem_of_getElem? (i := 105) (by rfl)) (by decide +kernel)
theorem hy_X5_mixed : yX5_mixed.cls ≠ "java/lang/invoke/MethodHandle" ∧ yX5_mixed.cls ≠ "java/lang/invoke/VarHandle" ∧ (parseMethodDescriptor yX5_mixed.desc).map (fun d => d.parameters.length) = some 1 := ⟨by decide +kernel, by decide +kernel, by decide +kernel⟩
set_option maxRecDepth 100000 in
theorem wd_884 : Cond.methodLink "LearnLoans" 274 yX5_mixed ∈ am_ws := am_wt4 (List.mem_of_getElem? (i := 107) (by rfl)) (by decide +kernel)
set_option maxRecDepth 100000 in
theorem wd_885 : Cond.instanceMethod yX5_mixed ∈ am_ws := am_wt4 (List.mem_of_getElem? (i := 108) (by rfl)) (by decide +kernel)
set_option maxRecDepth 100000 in
theorem wd_886 : Cond.selects "LearnLoans$Text" yX5_mixed yX5_mixed ∈ am_ws := am_wt4 (List.mem_of_getElem? (i := 109) (by rfl)) (by decide +kernel)
set_option maxRecDepth 100000 in
theorem wd_887 : Cond.code yX5_mixed cX5_mixed 4 (some .long) ∈ am_ws := am_wt4 (List.mem_of_getElem? (i := 110) (by rfl)) (by decide +kernel)
def rwX7_digest : List dz_r := [(0, .ldc2_w 261, 3), (3, .lstore_n 1, 1), (4, .iconst 0, 1), (5, .istore_n 3, 1), (6, .iload_n 3, 1), (7, .iconst 5, 1), (8, .if_icmp .gt 22, 3), (11, .ldc2_w 263, 3), (14, .lload_n 1, 1), (15, .lmul, 1), (16, .aload_n 0, 1), (17, .iload_n 3, 1), (18, .invokevirtual 265, 3), (21, .i2l, 1), (22, .ladd, 1), (23, .lstore_n 1, 1), (24, .iinc 3 1, 3), (27, .goto (-21), 3), (30, .aload_n 0, 1), (31, .getfield 27, 3), (34, .getfield 38, 3), (37, .lload_n 1, 1), (38, .invokevirtual 269, 3), (41, .lstore_n 1, 1), (42, .aload_n 0, 1), (43, .getfield 27, 3), (46, .getfield 122, 3), (49, .lload_n 1, 1), (50, .invokevirtual 273, 3), (53, .lstore_n 1, 1), (54, .aload_n 0, 1), (55, .getfield 27, 3), (58, .getfield 104, 3), (61, .lload_n 1, 1), (62, .invokevirtual 273, 3), (65, .lstore_n 1, 1), (66, .aload_n 0, 1), (67, .getfield 27, 3), (70, .getfield 146, 3), (73, .lload_n 1, 1), (74, .invokevirtual 273, 3), (77, .lstore_n 1, 1), (78, .iconst 0, 1), (79, .istore_n 3, 1), (80, .iload_n 3, 1), (81, .iconst 5, 1), (82, .if_icmp .ge 23, 3), (85, .aload_n 0, 1), (86, .getfield 27, 3), (89, .getfield 174, 3), (92, .iload_n 3, 1), (93, .aaload, 1), (94, .lload_n 1, 1), (95, .invokevirtual 274, 3), (98, .lstore_n 1, 1), (99, .iinc 3 1, 3), (102, .goto (-22), 3), (105, .aload_n 0, 1), (106, .bipush 39, 2), (108, .bipush 39, 2), (110, .invokevirtual 193, 3), (113, .iconst 0, 1), (114, .istore_n 3, 1), (115, .iload_n 3, 1), (116, .aload_n 0, 1), (117, .getfield 27, 3), (120, .getfield 122, 3), (123, .getfield 108, 3), (126, .if_icmp .ge 46, 3), (129, .ldc2_w 263, 3), (132, .lload_n 1, 1), (133, .lmul, 1), (134, .aload_n 0, 1), (135, .getfield 20, 3), (138, .getfield 158, 3), (141, .iconst 0, 1), (142, .iload_n 3, 1), (143, .iadd, 1), (144, .laload, 1), (145, .ladd, 1), (146, .lstore_n 1, 1), (147, .ldc2_w 263, 3), (150, .lload_n 1, 1), (151, .lmul, 1), (152, .aload_n 0, 1), (153, .getfield 20, 3), (156, .getfield 158, 3), (159, .bipush 90, 2), (161, .iload_n 3, 1), (162, .iadd, 1), (163, .laload, 1), (164, .ladd, 1), (165, .lstore_n 1, 1), (166, .iinc 3 1, 3), (169, .goto (-54), 3), (172, .lload_n 1, 1), (173, .lreturn, 1)]
theorem dzX7_digest : dz cX7_digest rwX7_digest := dz_all 0 (by decide +kernel)
def kX7_digest (live : am_E) (Ret : am_R) : am_code := [(0, am_const (.long 347) 3), (3, am_lstore 1 4 4), (4, am_const (.int 0) 5), (5, am_istore 3 4 6), (6, am_iload 3 7), (7, am_const (.int 5) 8), (8, am_if2 (fun x y => y < x) 30 11), (11, am_const (.long 31) 14), (14, am_lload 1 15), (15, am_l2 (fun x y => x * y) 16), (16, am_aload 0 17), (17, am_iload 3 18), (18, am_callV live 7 1 TX7_count 21), (21, am_i2l 22), (22, am_l2 (fun x y => x + y) 23), (23, am_lstore 1 4 24), (24, am_iinc 3 4 1 27), (27, am_goto 6), (30, am_aload 0 31), (31, am_getR live 7 0 34), (34, am_getR live 0 0 37), (37, am_lload 1 38), (38, am_callV live 2 1 TX2_mixed 41), (41, am_lstore 1 4 42), (42, am_aload 0 43), (43, am_getR live 7 0 46), (46, am_getR live 0 4 49), (49, am_lload 1 50), (50, am_callV live 3 1 TX3_mixed 53), (53, am_lstore 1 4 54), (54, am_aload 0 55), (55, am_getR live 7 0 58), (58, am_getR live 0 3 61), (61, am_lload 1 62), (62, am_callV live 3 1 TX3_mixed 65), (65, am_lstore 1 4 66), (66, am_aload 0 67), (67, am_getR live 7 0 70), (70, am_getR live 0 5 73), (73, am_lload 1 74), (74, am_callV live 3 1 TX3_mixed 77), (77, am_lstore 1 4 78), (78, am_const (.int 0) 79), (79, am_istore 3 4 80), (80, am_iload 3 81), (81, am_const (.int 5) 82), (82, am_if2 (fun x y => y ≤ x) 105 85), (85, am_aload 0 86), (86, am_getR live 7 0 89), (89, am_getR live 0 7 92), (92, am_iload 3 93), (93, am_aald live 3 94), (94, am_lload 1 95), (95, am_callV live 5 1 TX5_mixed 98), (98, am_lstore 1 4 99), (99, am_iinc 3 4 1 102), (102, am_goto 80), (105, am_aload 0 106), (106, am_const (.int 39) 108), (108, am_const (.int 39) 110), (110, am_callV live 7 2 TX7_runEverybody 113), (113, am_const (.int 0) 114), (114, am_istore 3 4 115), (115, am_iload 3 116), (116, am_aload 0 117), (117, am_getR live 7 0 120), (120, am_getR live 0 4 123), (123, am_getI live 3 2 126), (126, am_if2 (fun x y => y ≤ x) 172 129), (129, am_const (.long 31) 132), (132, am_lload 1 133), (133, am_l2 (fun x y => x * y) 134), (134, am_aload 0 135), (135, am_getR live 7 2 138), (138, am_getR live 4 2 141), (141, am_const (.int 0) 142), (142, am_iload 3 143), (143, am_i2 (fun x y => x + y) 144), (144, am_lald live 1 145), (145, am_l2 (fun x y => x + y) 146), (146, am_lstore 1 4 147), (147, am_const (.long 31) 150), (150, am_lload 1 151), (151, am_l2 (fun x y => x * y) 152), (152, am_aload 0 153), (153, am_getR live 7 2 156), (156, am_getR live 4 2 159), (159, am_const (.int 90) 161), (161, am_iload 3 162), (162, am_i2 (fun x y => x + y) 163), (163, am_lald live 1 164), (164, am_l2 (fun x y => x + y) 165), (165, am_lstore 1 4 166), (166, am_iinc 3 4 1 169), (169, am_goto 115), (172, am_lload 1 173), (173, am_retL Ret)]
theorem koX7_digest (live : am_E) (Ret : am_R) : ∀ q ∈ kX7_digest live Ret, am_ok RX7 cX7_digest 4 (some .long) 6 147 live Ret q.1 q.2 :=
  am_kz dzX7_digest <|
  am_kd (fun d => ak_ldc2 wd_871 d rfl) <|
  am_kd (fun d => ak_lstore_n d rfl rfl) <|
  am_kd (fun d => ak_iconst d (by decide +kernel) rfl) <|
  am_kd (fun d => ak_istore_n d rfl rfl) <|
  am_kd (fun d => ak_iload_n d rfl rfl) <|
  am_kd (fun d => ak_iconst d (by decide +kernel) rfl) <|
  am_kd (fun d => ak_icmp_gt d (by decide +kernel) rfl) <|
  am_kd (fun d => ak_ldc2 wd_872 d rfl) <|
  am_kd (fun d => ak_lload_n d rfl rfl) <|
  am_kd (fun d => ak_lmul d rfl) <|
  am_kd (fun d => ak_aload_n d rfl rfl) <|
  am_kd (fun d => ak_iload_n d rfl rfl) <|
  am_kd (fun d => ak_callV (C := RX7) (F := TX7) (N := 4) metX7_count rfl ⟨rfl, hy_X7_count⟩ (am_w5 wd_873 wd_864 wd_865 wd_58 wd_866) (by decide) d rfl) <|
  am_kd (fun d => ak_i2l d rfl) <|
  am_kd (fun d => ak_ladd d rfl) <|
  am_kd (fun d => ak_lstore_n d rfl rfl) <|
  am_kd (fun d => ak_iinc d (by decide +kernel) rfl) <|
  am_kd (fun d => ak_goto d (by decide +kernel)) <|
  am_kd (fun d => ak_aload_n d rfl rfl) <|
  am_kd (fun d => ak_getR (C := RX7) (T := TX7) (N := 4) rfl inX7w (by decide) rfl rfl rfl wd_390 d rfl) <|
  am_kd (fun d => ak_getR (C := RX0) (T := TX0) (N := 13) rfl inX0w (by decide) rfl rfl rfl wd_194 d rfl) <|
  am_kd (fun d => ak_lload_n d rfl rfl) <|
  am_kd (fun d => ak_callV (C := RX2) (F := TX2) (N := 8) metX2_mixed rfl ⟨rfl, hy_X2_mixed⟩ (am_w5 wd_874 wd_875 wd_876 wd_62 wd_877) (by decide) d rfl) <|
  am_kd (fun d => ak_lstore_n d rfl rfl) <|
  am_kd (fun d => ak_aload_n d rfl rfl) <|
  am_kd (fun d => ak_getR (C := RX7) (T := TX7) (N := 4) rfl inX7w (by decide) rfl rfl rfl wd_390 d rfl) <|
  am_kd (fun d => ak_getR (C := RX0) (T := TX0) (N := 13) rfl inX0w (by decide) rfl rfl rfl wd_207 d rfl) <|
  am_kd (fun d => ak_lload_n d rfl rfl) <|
  am_kd (fun d => ak_callV (C := RX3) (F := TX3) (N := 3) metX3_mixed rfl ⟨rfl, hy_X3_mixed⟩ (am_w5 wd_879 wd_880 wd_881 wd_64 wd_882) (by decide) d rfl) <|
  am_kd (fun d => ak_lstore_n d rfl rfl) <|
  am_kd (fun d => ak_aload_n d rfl rfl) <|
  am_kd (fun d => ak_getR (C := RX7) (T := TX7) (N := 4) rfl inX7w (by decide) rfl rfl rfl wd_390 d rfl) <|
  am_kd (fun d => ak_getR (C := RX0) (T := TX0) (N := 13) rfl inX0w (by decide) rfl rfl rfl wd_204 d rfl) <|
  am_kd (fun d => ak_lload_n d rfl rfl) <|
  am_kd (fun d => ak_callV (C := RX3) (F := TX3) (N := 3) metX3_mixed rfl ⟨rfl, hy_X3_mixed⟩ (am_w5 wd_879 wd_880 wd_881 wd_64 wd_882) (by decide) d rfl) <|
  am_kd (fun d => ak_lstore_n d rfl rfl) <|
  am_kd (fun d => ak_aload_n d rfl rfl) <|
  am_kd (fun d => ak_getR (C := RX7) (T := TX7) (N := 4) rfl inX7w (by decide) rfl rfl rfl wd_390 d rfl) <|
  am_kd (fun d => ak_getR (C := RX0) (T := TX0) (N := 13) rfl inX0w (by decide) rfl rfl rfl wd_209 d rfl) <|
  am_kd (fun d => ak_lload_n d rfl rfl) <|
  am_kd (fun d => ak_callV (C := RX3) (F := TX3) (N := 3) metX3_mixed rfl ⟨rfl, hy_X3_mixed⟩ (am_w5 wd_879 wd_880 wd_881 wd_64 wd_882) (by decide) d rfl) <|
  am_kd (fun d => ak_lstore_n d rfl rfl) <|
  am_kd (fun d => ak_iconst d (by decide +kernel) rfl) <|
  am_kd (fun d => ak_istore_n d rfl rfl) <|
  am_kd (fun d => ak_iload_n d rfl rfl) <|
  am_kd (fun d => ak_iconst d (by decide +kernel) rfl) <|
  am_kd (fun d => ak_icmp_ge d (by decide +kernel) rfl) <|
  am_kd (fun d => ak_aload_n d rfl rfl) <|
  am_kd (fun d => ak_getR (C := RX7) (T := TX7) (N := 4) rfl inX7w (by decide) rfl rfl rfl wd_390 d rfl) <|
  am_kd (fun d => ak_getR (C := RX0) (T := TX0) (N := 13) rfl inX0w (by decide) rfl rfl rfl wd_215 d rfl) <|
  am_kd (fun d => ak_iload_n d rfl rfl) <|
  am_kd (fun d => ak_aald (t := 3) (fun _ => rfl) rfl d rfl) <|
  am_kd (fun d => ak_lload_n d rfl rfl) <|
  am_kd (fun d => ak_callV (C := RX5) (F := TX5) (N := 7) metX5_mixed rfl ⟨rfl, hy_X5_mixed⟩ (am_w5 wd_884 wd_885 wd_886 wd_65 wd_887) (by decide) d rfl) <|
  am_kd (fun d => ak_lstore_n d rfl rfl) <|
  am_kd (fun d => ak_iinc d (by decide +kernel) rfl) <|
  am_kd (fun d => ak_goto d (by decide +kernel)) <|
  am_kd (fun d => ak_aload_n d rfl rfl) <|
  am_kd (fun d => ak_bipush d (by decide +kernel) rfl) <|
  am_kd (fun d => ak_bipush d (by decide +kernel) rfl) <|
  am_kd (fun d => ak_callV (C := RX7) (F := TX7) (N := 4) metX7_runEverybody rfl ⟨rfl, hy_X7_runEverybody⟩ (am_w5 wd_743 wd_745 wd_23 wd_58 wd_746) (by decide) d rfl) <|
  am_kd (fun d => ak_iconst d (by decide +kernel) rfl) <|
  am_kd (fun d => ak_istore_n d rfl rfl) <|
  am_kd (fun d => ak_iload_n d rfl rfl) <|
  am_kd (fun d => ak_aload_n d rfl rfl) <|
  am_kd (fun d => ak_getR (C := RX7) (T := TX7) (N := 4) rfl inX7w (by decide) rfl rfl rfl wd_390 d rfl) <|
  am_kd (fun d => ak_getR (C := RX0) (T := TX0) (N := 13) rfl inX0w (by decide) rfl rfl rfl wd_207 d rfl) <|
  am_kd (fun d => ak_getI (C := RX3) (T := TX3) (N := 3) rfl inX3w (by decide) rfl rfl rfl wd_152 d rfl) <|
  am_kd (fun d => ak_icmp_ge d (by decide +kernel) rfl) <|
  am_kd (fun d => ak_ldc2 wd_872 d rfl) <|
  am_kd (fun d => ak_lload_n d rfl rfl) <|
  am_kd (fun d => ak_lmul d rfl) <|
  am_kd (fun d => ak_aload_n d rfl rfl) <|
  am_kd (fun d => ak_getR (C := RX7) (T := TX7) (N := 4) rfl inX7w (by decide) rfl rfl rfl wd_392 d rfl) <|
  am_kd (fun d => ak_getR (C := RX4) (T := TX4) (N := 19) rfl inX4w (by decide) rfl rfl rfl wd_298 d rfl) <|
  am_kd (fun d => ak_iconst d (by decide +kernel) rfl) <|
  am_kd (fun d => ak_iload_n d rfl rfl) <|
  am_kd (fun d => ak_iadd d rfl) <|
  am_kd (fun d => ak_lald (t := 1) (fun _ => rfl) rfl d rfl) <|
  am_kd (fun d => ak_ladd d rfl) <|
  am_kd (fun d => ak_lstore_n d rfl rfl) <|
  am_kd (fun d => ak_ldc2 wd_872 d rfl) <|
  am_kd (fun d => ak_lload_n d rfl rfl) <|
  am_kd (fun d => ak_lmul d rfl) <|
  am_kd (fun d => ak_aload_n d rfl rfl) <|
  am_kd (fun d => ak_getR (C := RX7) (T := TX7) (N := 4) rfl inX7w (by decide) rfl rfl rfl wd_392 d rfl) <|
  am_kd (fun d => ak_getR (C := RX4) (T := TX4) (N := 19) rfl inX4w (by decide) rfl rfl rfl wd_298 d rfl) <|
  am_kd (fun d => ak_bipush d (by decide +kernel) rfl) <|
  am_kd (fun d => ak_iload_n d rfl rfl) <|
  am_kd (fun d => ak_iadd d rfl) <|
  am_kd (fun d => ak_lald (t := 1) (fun _ => rfl) rfl d rfl) <|
  am_kd (fun d => ak_ladd d rfl) <|
  am_kd (fun d => ak_lstore_n d rfl rfl) <|
  am_kd (fun d => ak_iinc d (by decide +kernel) rfl) <|
  am_kd (fun d => ak_goto d (by decide +kernel)) <|
  am_kd (fun d => ak_lload_n d rfl rfl) <|
  am_kd (fun d => ak_retL d) <| am_kdn
def TX7_digest : am_T := fun live as M R => match as with
  | [.ref n] => am_mn live ∧ n = 0 ∧ (g_hI M ∧ g_rI M) ∧ ∀ v M', g_sc M M' → g_rI M' → R (some (.long v)) M'
  | _ => False
def JX7_digest : am_E → List Value → am_M → am_R → am_inv := fun live as M0 _ pc => match as with
  | [.ref n] => (match pc with
    | 6 => some ([0, 1, 3], fun u L st M => ∃ (v : Int64) (i : Int32), L = [(0, .ref 0), (1, .long v), (3, .int i)] ∧ st = [] ∧ u = (2000 + (8 - i.toInt).toNat, 0) ∧ 0 ≤ i.toInt ∧ M = M0)
    | 80 => some ([0, 1, 3], fun u L st M => ∃ (v : Int64) (i : Int32), L = [(0, .ref 0), (1, .long v), (3, .int i)] ∧ st = [] ∧ u = (1000 + (8 - i.toInt).toNat, 0) ∧ 0 ≤ i.toInt ∧ M = M0)
    | 115 => some ([0, 1, 3], fun u L st M => ∃ (v : Int64) (i : Int32), L = [(0, .ref 0), (1, .long v), (3, .int i)] ∧ st = [] ∧ u = ((31 - i.toInt).toNat, 0) ∧ 0 ≤ i.toInt ∧ g_sc M0 M ∧ g_rI M)
    | _ => none)
  | _ => none
set_option maxRecDepth 100000 in
set_option maxHeartbeats 4000000 in
theorem metX7_digest : am_Met yX7_digest cX7_digest 4 (some .long) (6) (147) TX7_digest := by
  refine am_met (own := RX7) (by decide +kernel) rfl kX7_digest koX7_digest 150 JX7_digest ?_ ?_
  · intro live as M Ret h
    unfold TX7_digest at h
    split at h
    · next n =>
      refine ⟨Nat.le_of_ble_eq_true rfl, ?_⟩
      change am_wp _ _ _ _ [(0, Value.ref n)] _ _
      obtain ⟨hmn, rfl, ⟨hH, hR⟩, h⟩ := h
      have hmn2 := hmn
      obtain ⟨i1, i2, rfl⟩ := hmn2
      repeat' (first | (with_reducible exact hmn) | (with_reducible exact hR) | (with_reducible exact hH) | apply And.intro | exact rfl | ((with_reducible change g_rI _); (with_reducible assumption)) | (intro hx; exact absurd hx (by decide)) | (intro hx; exact absurd (by decide) hx) | decide | intro hx | (refine Exists.intro _ (And.intro rfl ?_)))
      all_goals try first | (with_reducible change am_tI _ _) | (change Ret _ _) | (change Ret _ _ _) | (change Exists _)
      all_goals try dsimp only at *
      all_goals try (with_reducible exact absurd ‹(1000 : Int64) = 0› am_z1000)
      all_goals first | exact ⟨_, _, _, rfl, rfl, rfl, by decide, rfl⟩ | ((with_reducible change Ret _ _); exact h _ _ (by (repeat' (first | (with_reducible exact g_sc.rf) | (with_reducible assumption) | ((with_reducible change g_sc _ (am_wI _ _ _ _)); refine g_sc.wI ?_ rfl) | ((with_reducible change g_sc _ (am_wJ _ _ _ _)); refine g_sc.wJ ?_ rfl) | ((with_reducible change g_sc _ (am_cI _ _ _)); refine g_sc.cI ?_ rfl) | ((with_reducible change g_sc _ (am_cJ _ _ _)); refine g_sc.cJ ?_ rfl) | (refine g_sc.tr ?_ (by with_reducible assumption)) | (refine g_sc.st ?_ (by with_reducible assumption))))) (by (repeat' (first | (with_reducible assumption) | ((with_reducible change g_rI (am_wJ _ _ _ _)); refine g_rI.wJ ?_) | ((with_reducible change g_rI (am_cJ _ _ _)); refine g_rI.cJ ?_) | ((with_reducible change g_rI (am_wI _ 5 _ _)); refine g_rI.w5 ?_) | ((with_reducible change g_rI (am_wI _ _ _ _)); refine g_rI.wF ?_ rfl) | (refine g_rI.st ?_ (by with_reducible assumption)) | (refine g_rI.we ?_ (by with_reducible assumption)))))) | skip
    · exact h.elim
  · intro live as M0 Ret h k pc I hI L st M hi
    unfold TX7_digest at h
    split at h
    · next n =>
      obtain ⟨hmn, rfl, ⟨hH, hR⟩, h⟩ := h
      have hmn2 := hmn
      obtain ⟨i1, i2, rfl⟩ := hmn2
      change (match pc with | 6 => _ | 80 => _ | 115 => _ | _ => none) = _ at hI
      split at hI
      · cases hI
        obtain ⟨v, i, rfl, rfl, rfl, e1, rfl⟩ := hi
        by_cases hz : (5 : Int32) < i
        · skip
          repeat' (first | (with_reducible exact hmn) | apply And.intro | exact rfl | (intro hx; with_reducible exact absurd hz hx) | intro hx | (refine Exists.intro _ (And.intro rfl ?_)))
          all_goals try first | (with_reducible change am_tI _ _) | (change Ret _ _) | (change Ret _ _ _) | (change Exists _)
          all_goals try dsimp only at *
          all_goals try (with_reducible exact absurd ‹(1000 : Int64) = 0› am_z1000)
          all_goals first
            | exact ⟨_, am_lt_l (by simp only [Int32.reduceToInt]; omega), _, _, rfl, rfl, rfl, by decide, rfl⟩
            | skip
        · have hz2 := hz
          simp only [i_lt, Int32.reduceToInt] at hz2
          have hi := i_inc (x := i) (by omega) (by omega)
          repeat' (first | (with_reducible exact hmn) | apply And.intro | exact rfl | (intro hx; with_reducible exact absurd hx hz) | intro hx | (refine Exists.intro _ (And.intro rfl ?_)))
          all_goals try first | (with_reducible change am_tI _ _) | (change Ret _ _) | (change Ret _ _ _) | (change Exists _)
          all_goals try dsimp only at *
          all_goals try (with_reducible exact absurd ‹(1000 : Int64) = 0› am_z1000)
          all_goals exact ⟨_, am_lt_l (by omega), _, _, rfl, rfl, rfl, by omega, rfl⟩
      · cases hI
        obtain ⟨v, i, rfl, rfl, rfl, e1, rfl⟩ := hi
        by_cases hz : (5 : Int32) ≤ i
        · skip
          repeat' (first | (with_reducible exact hmn) | (with_reducible exact hH) | (with_reducible exact hR) | apply And.intro | exact rfl | (intro hx; with_reducible exact absurd hz hx) | intro hx | (refine Exists.intro _ (And.intro rfl ?_)))
          all_goals try first | (with_reducible change am_tI _ _) | (change Ret _ _) | (change Ret _ _ _) | (change Exists _)
          all_goals try dsimp only at *
          all_goals try (with_reducible exact absurd ‹(1000 : Int64) = 0› am_z1000)
          all_goals exact ⟨_, am_lt_l (by simp only [Int32.reduceToInt]; omega), _, _, rfl, rfl, rfl, by decide, by (repeat' (first | (with_reducible exact g_sc.rf) | (with_reducible assumption) | ((with_reducible change g_sc _ (am_wI _ _ _ _)); refine g_sc.wI ?_ rfl) | ((with_reducible change g_sc _ (am_wJ _ _ _ _)); refine g_sc.wJ ?_ rfl) | ((with_reducible change g_sc _ (am_cI _ _ _)); refine g_sc.cI ?_ rfl) | ((with_reducible change g_sc _ (am_cJ _ _ _)); refine g_sc.cJ ?_ rfl) | (refine g_sc.tr ?_ (by with_reducible assumption)) | (refine g_sc.st ?_ (by with_reducible assumption)))), by (repeat' (first | (with_reducible assumption) | ((with_reducible change g_rI (am_wJ _ _ _ _)); refine g_rI.wJ ?_) | ((with_reducible change g_rI (am_cJ _ _ _)); refine g_rI.cJ ?_) | ((with_reducible change g_rI (am_wI _ 5 _ _)); refine g_rI.w5 ?_) | ((with_reducible change g_rI (am_wI _ _ _ _)); refine g_rI.wF ?_ rfl) | (refine g_rI.st ?_ (by with_reducible assumption)) | (refine g_rI.we ?_ (by with_reducible assumption))))⟩
        · have hz2 := hz
          simp only [i_le, Int32.reduceToInt] at hz2
          have hi := i_inc (x := i) (by omega) (by omega)
          have hp : am_in i 5 := ⟨e1, by omega⟩
          obtain ⟨t, s, c, h2, k1, k2, k3, h1, ht, et, es, ec, k4⟩ := g_txt hmn hp
          have l38 : am_len 38 = 5 := rfl
          repeat' (first | (with_reducible exact hmn) | (with_reducible exact h1) | (with_reducible exact h2) | (refine Exists.intro _ (And.intro h2 ?_)) | apply And.intro | exact rfl | (intro hx; with_reducible exact absurd hx hz) | intro hx | (refine Exists.intro _ (And.intro rfl ?_)) | (refine am_tP_in k1 k2 k3 ?_) | ((with_reducible change _ = true); simp only [h1, h2, Bool.true_and]; rfl))
          all_goals try first | (with_reducible change am_tI _ _) | (change Ret _ _) | (change Ret _ _ _) | (change Exists _)
          all_goals try dsimp only at *
          all_goals try (with_reducible exact absurd ‹(1000 : Int64) = 0› am_z1000)
          all_goals first
            | (with_reducible exact hp.1)
            | (rw [l38]; exact hp.2)
            | exact hp.1
            | exact ⟨_, am_lt_l (by omega), _, _, rfl, rfl, rfl, by omega, rfl⟩
      · cases hI
        obtain ⟨v, i, rfl, rfl, rfl, e1, e2, e3⟩ := hi
        have hs := hH.lo.2
        by_cases hz : M.1 33 2 ≤ i
        · skip
          repeat' (first | (with_reducible exact hmn) | apply And.intro | exact rfl | (intro hx; with_reducible exact absurd hz hx) | intro hx | (refine Exists.intro _ (And.intro rfl ?_)))
          all_goals try first | (with_reducible change am_tI _ _) | (change Ret _ _) | (change Ret _ _ _) | (change Exists _)
          all_goals try dsimp only at *
          all_goals try (with_reducible exact absurd ‹(1000 : Int64) = 0› am_z1000)
          all_goals exact h _ _ e2 e3
        · have hz2 := hz
          rw [e2.i 2 (by decide)] at hz2
          simp only [i_le] at hz2
          have hi := i_inc (x := i) (by omega) (by omega)
          have hl : am_in i 30 := ⟨e1, by omega⟩
          have f0 := g_ix hl 0 0 rfl (by decide)
          have f90 := g_ix hl 90 90 rfl (by decide)
          have l6 : am_len 6 = 180 := rfl
          repeat' (first | (with_reducible exact hmn) | apply And.intro | exact rfl | (intro hx; with_reducible exact absurd hx hz) | intro hx | (refine Exists.intro _ (And.intro rfl ?_)))
          all_goals try first | (with_reducible change am_tI _ _) | (change Ret _ _) | (change Ret _ _ _) | (change Exists _)
          all_goals try dsimp only at *
          all_goals try (with_reducible exact absurd ‹(1000 : Int64) = 0› am_z1000)
          all_goals first
            | (with_reducible exact f0.1)
            | (rw [l6]; exact f0.2.1)
            | (with_reducible exact f90.1)
            | (rw [l6]; exact f90.2.1)
            | exact f0.1
            | exact f90.1
            | exact ⟨_, am_lt_l (by omega), _, _, rfl, rfl, rfl, by omega, e2, e3⟩
            | skip
      · cases hI
    · exact h.elim
end
-- part 40.births.lean.txt
section
/-! births: the constructors -/
theorem am_w3 {a b c : Cond} (h1 : a ∈ am_ws) (h2 : b ∈ am_ws) (h3 : c ∈ am_ws) : ∀ w ∈ ([a, b, c] : List Cond), w ∈ am_ws := by
  intro w hw
  simp only [List.mem_cons, List.not_mem_nil, or_false] at hw
  rcases hw with rfl | rfl | rfl <;> assumption
theorem zX0 : ∀ j, j < 13 → defaultValue (tyX0 j) = an_z 0 j := fun j hj => match j, hj with
  | 0, _ => rfl
  | 1, _ => rfl
  | 2, _ => rfl
  | 3, _ => rfl
  | 4, _ => rfl
  | 5, _ => rfl
  | 6, _ => rfl
  | 7, _ => rfl
  | 8, _ => rfl
  | 9, _ => rfl
  | 10, _ => rfl
  | 11, _ => rfl
  | 12, _ => rfl
  | j + 13, h => absurd h (by omega)
theorem zX1 : ∀ j, j < 7 → defaultValue (tyX1 j) = an_z 1 j := fun j hj => match j, hj with
  | 0, _ => rfl
  | 1, _ => rfl
  | 2, _ => rfl
  | 3, _ => rfl
  | 4, _ => rfl
  | 5, _ => rfl
  | 6, _ => rfl
  | j + 7, h => absurd h (by omega)
theorem zX2 : ∀ j, j < 8 → defaultValue (tyX2 j) = an_z 2 j := fun j hj => match j, hj with
  | 0, _ => rfl
  | 1, _ => rfl
  | 2, _ => rfl
  | 3, _ => rfl
  | 4, _ => rfl
  | 5, _ => rfl
  | 6, _ => rfl
  | 7, _ => rfl
  | j + 8, h => absurd h (by omega)
theorem zX3 : ∀ j, j < 3 → defaultValue (tyX3 j) = an_z 3 j := fun j hj => match j, hj with
  | 0, _ => rfl
  | 1, _ => rfl
  | 2, _ => rfl
  | j + 3, h => absurd h (by omega)
theorem zX4 : ∀ j, j < 19 → defaultValue (tyX4 j) = an_z 4 j := fun j hj => match j, hj with
  | 0, _ => rfl
  | 1, _ => rfl
  | 2, _ => rfl
  | 3, _ => rfl
  | 4, _ => rfl
  | 5, _ => rfl
  | 6, _ => rfl
  | 7, _ => rfl
  | 8, _ => rfl
  | 9, _ => rfl
  | 10, _ => rfl
  | 11, _ => rfl
  | 12, _ => rfl
  | 13, _ => rfl
  | 14, _ => rfl
  | 15, _ => rfl
  | 16, _ => rfl
  | 17, _ => rfl
  | 18, _ => rfl
  | j + 19, h => absurd h (by omega)
theorem zX5 : ∀ j, j < 7 → defaultValue (tyX5 j) = an_z 5 j := fun j hj => match j, hj with
  | 0, _ => rfl
  | 1, _ => rfl
  | 2, _ => rfl
  | 3, _ => rfl
  | 4, _ => rfl
  | 5, _ => rfl
  | 6, _ => rfl
  | j + 7, h => absurd h (by omega)
theorem zX6 : ∀ j, j < 9 → defaultValue (tyX6 j) = an_z 6 j := fun j hj => match j, hj with
  | 0, _ => rfl
  | 1, _ => rfl
  | 2, _ => rfl
  | 3, _ => rfl
  | 4, _ => rfl
  | 5, _ => rfl
  | 6, _ => rfl
  | 7, _ => rfl
  | 8, _ => rfl
  | j + 9, h => absurd h (by omega)
theorem zX7 : ∀ j, j < 4 → defaultValue (tyX7 j) = an_z 7 j := fun j hj => match j, hj with
  | 0, _ => rfl
  | 1, _ => rfl
  | 2, _ => rfl
  | 3, _ => rfl
  | j + 4, h => absurd h (by omega)
theorem zX8 : ∀ j, j < 27 → defaultValue (tyX8 j) = an_z 8 j := fun j hj => match j, hj with
  | 0, _ => rfl
  | 1, _ => rfl
  | 2, _ => rfl
  | 3, _ => rfl
  | 4, _ => rfl
  | 5, _ => rfl
  | 6, _ => rfl
  | 7, _ => rfl
  | 8, _ => rfl
  | 9, _ => rfl
  | 10, _ => rfl
  | 11, _ => rfl
  | 12, _ => rfl
  | 13, _ => rfl
  | 14, _ => rfl
  | 15, _ => rfl
  | 16, _ => rfl
  | 17, _ => rfl
  | 18, _ => rfl
  | 19, _ => rfl
  | 20, _ => rfl
  | 21, _ => rfl
  | 22, _ => rfl
  | 23, _ => rfl
  | 24, _ => rfl
  | 25, _ => rfl
  | 26, _ => rfl
  | j + 27, h => absurd h (by omega)
def an_int (L : am_L) (i : Nat) : Nat := match am_g L i with
  | some (.int x) => x.toNatClampNeg
  | _ => 0
theorem an_bE_1 (E : am_E) (n q : Nat) : (an_bE E n).1 q = (Nat.beq q n || E.1 q) := rfl
theorem an_rE_1 (E : am_E) (n k v : Nat) : (an_rE E n k v).1 = E.1 := rfl
theorem an_nb (a b : Nat) : Nat.beq a b = decide (a = b) := by
  cases h : Nat.beq a b with
  | true => rw [Nat.eq_of_beq_eq_true h]; simp
  | false => exact (decide_eq_false (Nat.ne_of_beq_eq_false h)).symm
def rwJ7_fill_53178 : List dz_r := [(0, .iconst 0, 1), (1, .istore_n 2, 1), (2, .aload_n 0, 1), (3, .arraylength, 1), (4, .istore_n 3, 1), (5, .iload_n 2, 1), (6, .iload_n 3, 1), (7, .if_icmp .ge 13, 3), (10, .aload_n 0, 1), (11, .iload_n 2, 1), (12, .iload_n 1, 1), (13, .iastore, 1), (14, .iinc 2 1, 3), (17, .goto (-12), 3), (20, .return_, 1)]
theorem dzJ7_fill_53178 : dz cJ7_fill_53178 rwJ7_fill_53178 := dz_all 0 (by decide +kernel)
def kJ7_fill_53178 (live : am_E) (Ret : am_R) : am_code := [(0, am_const (.int 0) 1), (1, am_istore 2 4 2), (2, am_aload 0 3), (3, am_alen live 0 4), (4, am_istore 3 4 5), (5, am_iload 2 6), (6, am_iload 3 7), (7, am_if2 (fun x y => y ≤ x) 20 10), (10, am_aload 0 11), (11, am_iload 2 12), (12, am_iload 1 13), (13, am_ast live 0 14), (14, am_iinc 2 4 1 17), (17, am_goto 5), (20, am_retV Ret)]
theorem koJ7_fill_53178 (live : am_E) (Ret : am_R) : ∀ q ∈ kJ7_fill_53178 live Ret, am_ok RJ7 cJ7_fill_53178 4 none 0 0 live Ret q.1 q.2 :=
  am_kz dzJ7_fill_53178 <|
  am_kd (fun d => ak_iconst d (by decide +kernel) rfl) <|
  am_kd (fun d => ak_istore_n d rfl rfl) <|
  am_kd (fun d => ak_aload_n d rfl rfl) <|
  am_kd (fun d => ak_alen (t := 0) (fun _ => rfl) d rfl) <|
  am_kd (fun d => ak_istore_n d rfl rfl) <|
  am_kd (fun d => ak_iload_n d rfl rfl) <|
  am_kd (fun d => ak_iload_n d rfl rfl) <|
  am_kd (fun d => ak_icmp_ge d (by decide +kernel) rfl) <|
  am_kd (fun d => ak_aload_n d rfl rfl) <|
  am_kd (fun d => ak_iload_n d rfl rfl) <|
  am_kd (fun d => ak_iload_n d rfl rfl) <|
  am_kd (fun d => ak_iast (t := 0) (fun _ => rfl) rfl d rfl) <|
  am_kd (fun d => ak_iinc d (by decide +kernel) rfl) <|
  am_kd (fun d => ak_goto d (by decide +kernel)) <|
  am_kd (fun d => ak_retV d) <| am_kdn
def TJ7_fill_53178 : am_T := fun live as M R => match as with
  | [.ref c, .int v] => am_if (am_isA live 0 c && Nat.blt (am_len c) 100000) (R none (am_lay M c 0 ((am_len c : Int) - 1) v))
  | _ => False
def JJ7_fill : am_E → List Value → am_M → am_R → am_inv := fun live as M0 _ pc => match as with
  | [.ref c, .int v] => (match pc with
    | 5 => some ([0, 1, 2, 3], fun k L st M => ∃ i : Int32, L = [(0, .ref c), (1, .int v), (2, .int i), (3, .int (Int32.ofNat (am_len c)))] ∧ st = [] ∧ k = ((am_len c + 1 - i.toInt).toNat, 0) ∧ 0 ≤ i.toInt ∧ i.toInt ≤ (am_len c : Int) ∧ M = am_lay M0 c 0 (i.toInt - 1) v)
    | _ => none)
  | _ => none
set_option maxRecDepth 100000 in
set_option maxHeartbeats 4000000 in
theorem metJ7_fill_53178 : am_Met yJ7_fill_53178 cJ7_fill_53178 4 none (0) (0) TJ7_fill_53178 := by
  refine am_met (own := RJ7) (by decide +kernel) rfl kJ7_fill_53178 koJ7_fill_53178 60 JJ7_fill ?_ ?_
  · intro live as M Ret h
    unfold TJ7_fill_53178 at h
    split at h
    · next c v =>
      refine ⟨Nat.le_of_ble_eq_true rfl, ?_⟩
      change am_wp _ _ _ _ [(0, Value.ref c), (1, Value.int v)] _ _
      have hh := am_if_mp h
      clear h
      obtain ⟨hb, h⟩ := hh
      rw [Bool.and_eq_true] at hb
      obtain ⟨h1, h4⟩ := hb
      have h4 : am_len c < 100000 := Nat.le_of_ble_eq_true h4
      repeat' (first | (with_reducible exact h1) | apply And.intro | exact rfl | intro hx | (refine Exists.intro _ (And.intro rfl ?_)) | ((with_reducible change _ = true); simp only [h1, Bool.true_and]; rfl))
      all_goals try first | (with_reducible change am_tI _ _) | (change Ret _ _) | (change Ret _ _ _) | (change Exists _)
      all_goals try dsimp only at *
      all_goals try (with_reducible exact absurd ‹(1000 : Int64) = 0› am_z1000)
      refine ⟨_, _, rfl, rfl, rfl, by decide, ?_, (am_lay_nil (by decide)).symm⟩
      simp only [Int32.reduceToInt]
      omega
    · exact h.elim
  · intro live as M0 Ret h k pc I hI L st M hi
    unfold TJ7_fill_53178 at h
    split at h
    · next c v =>
      have hh := am_if_mp h
      clear h
      obtain ⟨hb, h⟩ := hh
      rw [Bool.and_eq_true] at hb
      obtain ⟨h1, h4⟩ := hb
      have h4 : am_len c < 100000 := Nat.le_of_ble_eq_true h4
      change (match pc with | 5 => _ | _ => none) = _ at hI
      split at hI
      · cases hI
        obtain ⟨i, rfl, rfl, rfl, e1, e2, rfl⟩ := hi
        have hn : (Int32.ofNat (am_len c)).toInt = (am_len c : Int) := i_nat (by omega)
        repeat' (first | (with_reducible exact h1) | apply And.intro | exact rfl | intro hx | (refine Exists.intro _ (And.intro rfl ?_)) | ((with_reducible change _ = true); simp only [h1, Bool.true_and]; rfl))
        all_goals try first | (with_reducible change am_tI _ _) | (change Ret _ _) | (change Ret _ _ _) | (change Exists _)
        all_goals try dsimp only at *
        all_goals try (with_reducible exact absurd ‹(1000 : Int64) = 0› am_z1000)
        rotate_right
        · refine ⟨_, Or.inl ?_, i + 1, rfl, rfl, rfl, ?_, ?_, ?_⟩
          all_goals simp only [i_lt, i_le, hn] at *
          all_goals
            have hi := i_add (x := i) (y := 1) (by simp only [Int32.reduceToInt]; omega) (by simp only [Int32.reduceToInt]; omega)
            simp only [Int32.reduceToInt] at hi
          · simp only [hi]; omega
          · omega
          · omega
          · rw [am_lay_put (by omega) (i_clamp (by omega))]
            exact am_lay_eq (fun q => by omega)
        all_goals simp only [i_lt, i_le, hn] at *
        · rw [am_lay_eq (lo' := 0) (hi' := (am_len c : Int) - 1) (fun q => by omega)]; exact h
        · omega
        · omega
      · cases hI
    · exact h.elim
set_option maxRecDepth 100000 in
theorem wd_146 : Cond.methodLink "LearnLoans$Rows" 3 objectInit ∈ am_ws := am_wt1 (List.mem_of_getElem? (i := 89) (by rfl)) (by decide +kernel)
set_option maxRecDepth 100000 in
theorem wd_76 : Cond.instanceMethod objectInit ∈ am_ws := am_wt1 (List.mem_of_getElem? (i := 19) (by rfl)) (by decide +kernel)
set_option maxRecDepth 100000 in
theorem wd_77 : Cond.code objectInit ⟨#[0xb1]⟩ 1 none ∈ am_ws := am_wt1 (List.mem_of_getElem? (i := 20) (by rfl)) (by decide +kernel)
def rwX3_init : List dz_r := [(0, .aload_n 0, 1), (1, .invokespecial 3, 3), (4, .aload_n 0, 1), (5, .aload_n 1, 1), (6, .putfield 9, 3), (9, .aload_n 0, 1), (10, .iload_n 2, 1), (11, .putfield 15, 3), (14, .return_, 1)]
theorem dzX3_init : dz cX3_init rwX3_init := dz_all 0 (by decide +kernel)
def kX3_init (Ret : an_R) : an_code := [(0, an_lf (fun live => am_aload 0 1)), (1, an_obj 20 4), (4, an_lf (fun live => am_aload 0 5)), (5, an_lf (fun live => am_aload 1 6)), (6, an_putFR 3 0 9), (9, an_lf (fun live => am_aload 0 10)), (10, an_lf (fun live => am_iload 2 11)), (11, an_putFI 3 1 14), (14, an_retV Ret)]
theorem koX3_init (Ret : an_R) : ∀ q ∈ kX3_init Ret, an_ok RX3 cX3_init 3 none 1 20 0 0 true (fun _ _ _ => True) Ret q.1 q.2 :=
  am_kz dzX3_init <|
  an_kd (fun d => an_lift (fun live => ak_aload_n d rfl rfl)) <|
  an_kd (fun d => nk_obj (am_w3 wd_146 wd_76 wd_77) (by decide) d rfl) <|
  an_kd (fun d => an_lift (fun live => ak_aload_n d rfl rfl)) <|
  an_kd (fun d => an_lift (fun live => ak_aload_n d rfl rfl)) <|
  an_kd (fun d => nk_putFR (C := RX3) (C2 := RX3) (T := TX3) (N := 3) rfl inX3w tyX3_ok nmX3 (by decide) rfl rfl rfl rfl rfl (tyX3_ok 0 (by decide)) (fun _ => ⟨rfl, rfl⟩) rfl wd_147 d rfl) <|
  an_kd (fun d => an_lift (fun live => ak_aload_n d rfl rfl)) <|
  an_kd (fun d => an_lift (fun live => ak_iload_n d rfl rfl)) <|
  an_kd (fun d => nk_putFI (C := RX3) (T := TX3) (N := 3) rfl inX3w tyX3_ok nmX3 (by decide) rfl rfl rfl rfl rfl (by decide +kernel) rfl wd_148 d rfl) <|
  an_kd (fun d => nk_retV d) <| an_kdn
def TX3_init : an_T := fun E as M R => match as with
  | [.ref r, .ref c, .int w] => am_if (an_isO E 3 r && E.1 c) (R none (an_rE E r 0 c) (am_wI M r 1 w))
  | _ => False
set_option maxRecDepth 100000 in
set_option maxHeartbeats 4000000 in
theorem metX3_init : an_Met yX3_init cX3_init 3 none (1) (20) 0 0 TX3_init := by
  refine an_met (own := RX3) (ini := true) (by decide +kernel) rfl (fun _ => rfl) kX3_init koX3_init 60 (fun _ _ _ _ _ => none) (fun live as M Ret h => ?_) (fun _ _ _ _ _ _ _ _ hI => by cases hI)
  unfold TX3_init at h
  split at h
  · next r c w =>
    refine ⟨Nat.le_of_ble_eq_true rfl, ?_⟩
    change an_wp _ _ _ _ [(0, Value.ref r), (1, Value.ref c), (2, Value.int w)] _ _
    have hh := am_if_mp h
    clear h
    obtain ⟨hb, h⟩ := hh
    have hc := hb
    rw [Bool.and_eq_true] at hc
    obtain ⟨h1, h2⟩ := hc
    repeat' (first | (with_reducible exact hb) | (with_reducible exact h1) | (with_reducible exact h2) | (refine Exists.intro _ (And.intro h2 ?_)) | apply And.intro | exact rfl | intro hx | (refine Exists.intro _ (And.intro rfl ?_)) | ((with_reducible change _ = true); simp only [h1, h2, Bool.true_and]; rfl))
    all_goals try first | (with_reducible change am_tI _ _) | (change Ret _ _) | (change Ret _ _ _) | (change Exists _)
    all_goals try dsimp only at *
    all_goals try (with_reducible exact absurd ‹(1000 : Int64) = 0› am_z1000)
    all_goals first | (with_reducible exact h) | (with_reducible exact h1) | exact h | exact h1
  · exact h.elim
set_option maxRecDepth 100000 in
theorem wd_260 : Cond.methodLink "LearnLoans$Letters" 1 objectInit ∈ am_ws := am_wt1 (List.mem_of_getElem? (i := 203) (by rfl)) (by decide +kernel)
def rwX1_init : List dz_r := [(0, .aload_n 0, 1), (1, .invokespecial 1, 3), (4, .return_, 1)]
theorem dzX1_init : dz cX1_init rwX1_init := dz_all 0 (by decide +kernel)
def kX1_init (Ret : an_R) : an_code := [(0, an_lf (fun live => am_aload 0 1)), (1, an_obj 20 4), (4, an_retV Ret)]
theorem koX1_init (Ret : an_R) : ∀ q ∈ kX1_init Ret, an_ok RX1 cX1_init 1 none 1 20 0 0 true (fun _ _ _ => True) Ret q.1 q.2 :=
  am_kz dzX1_init <|
  an_kd (fun d => an_lift (fun live => ak_aload_n d rfl rfl)) <|
  an_kd (fun d => nk_obj (am_w3 wd_260 wd_76 wd_77) (by decide) d rfl) <|
  an_kd (fun d => nk_retV d) <| an_kdn
def TX1_init : an_T := fun E as M R => match as with
  | [.ref _] => R none E M
  | _ => False
set_option maxRecDepth 100000 in
set_option maxHeartbeats 4000000 in
theorem metX1_init : an_Met yX1_init cX1_init 1 none (1) (20) 0 0 TX1_init := by
  refine an_met (own := RX1) (ini := true) (by decide +kernel) rfl (fun _ => rfl) kX1_init koX1_init 60 (fun _ _ _ _ _ => none) (fun live as M Ret h => ?_) (fun _ _ _ _ _ _ _ _ hI => by cases hI)
  unfold TX1_init at h
  split at h
  · next r =>
    refine ⟨Nat.le_of_ble_eq_true rfl, ?_⟩
    change an_wp _ _ _ _ [(0, Value.ref r)] _ _
    repeat' (first | apply And.intro | exact rfl | intro hx | (refine Exists.intro _ (And.intro rfl ?_)))
    all_goals try first | (with_reducible change am_tI _ _) | (change Ret _ _) | (change Ret _ _ _) | (change Exists _)
    all_goals try dsimp only at *
    all_goals try (with_reducible exact absurd ‹(1000 : Int64) = 0› am_z1000)
    exact h
  · exact h.elim
/-- a text's place, a house's people's place -/
def an_t5 (n : Nat) : Bool := [39, 42, 45, 48, 51, 79, 82, 85, 88, 91, 119, 122, 125, 128, 131].contains n
def an_t2 (n : Nat) : Bool := [21, 61, 101].contains n
def an_ho (n k : Nat) (E : am_E) : am_E := (fun q => Nat.beq q n || (!(Nat.blt n q && Nat.ble q (n + k)) && E.1 q), E.2)
def an_fc (E : am_E) (n : Nat) : Nat → Bool
  | 0 => E.1 n
  | k + 1 => an_fc E n k && !(E.1 (n + k + 1))
theorem an_fc_spec {E : am_E} {n : Nat} : ∀ {k : Nat}, an_fc E n k = true → E.1 n = true ∧ ∀ q, n < q → q ≤ n + k → E.1 q = false
  | 0, h => ⟨h, fun q h1 h2 => by omega⟩
  | k + 1, h => by
    have h : (an_fc E n k && !(E.1 (n + k + 1))) = true := h
    rw [Bool.and_eq_true] at h
    obtain ⟨a, b⟩ := an_fc_spec h.1
    refine ⟨a, fun q h1 h2 => ?_⟩
    by_cases e : q = n + k + 1
    · rw [e]
      have := h.2
      cases hq : E.1 (n + k + 1) with
      | true => rw [hq] at this; cases this
      | false => rfl
    · exact b q h1 (by omega)
theorem an_ho_of {E : am_E} {n k : Nat} (h : an_fc E n k = true) : E = an_ho n k E := by
  obtain ⟨a, b⟩ := an_fc_spec h
  refine Prod.ext (funext fun q => ?_) rfl
  show E.1 q = (Nat.beq q n || (!(Nat.blt n q && Nat.ble q (n + k)) && E.1 q))
  by_cases e : q = n
  · rw [e, an_beq, a]; rfl
  · rw [an_bne e]
    by_cases h1 : n < q
    · by_cases h2 : q ≤ n + k
      · rw [b q h1 h2, Bool.and_false]; rfl
      · rw [show Nat.ble q (n + k) = false from by
          cases hh : Nat.ble q (n + k) with
          | true => exact absurd (Nat.le_of_ble_eq_true hh) h2
          | false => rfl, Bool.and_false]
        rfl
    · rw [show Nat.blt n q = false from by
          cases hh : Nat.blt n q with
          | true => exact absurd (Nat.le_of_ble_eq_true hh) h1
          | false => rfl, Bool.false_and]
      rfl
set_option maxRecDepth 100000 in
theorem wd_167 : Cond.methodLink "LearnLoans$Text" 3 objectInit ∈ am_ws := am_wt1 (List.mem_of_getElem? (i := 110) (by rfl)) (by decide +kernel)
set_option maxRecDepth 100000 in
theorem wd_140 : Cond.arrayClass (newarray.typeOf .int) ∈ am_ws := am_wt1 (List.mem_of_getElem? (i := 83) (by rfl)) (by decide +kernel)
def rwX5_init : List dz_r := [(0, .aload_n 0, 1), (1, .invokespecial 3, 3), (4, .aload_n 0, 1), (5, .bipush 50, 2), (7, .newarray .int, 2), (9, .putfield 9, 3), (12, .aload_n 0, 1), (13, .bipush 50, 2), (15, .newarray .int, 2), (17, .putfield 15, 3), (20, .aload_n 0, 1), (21, .iconst 1, 1), (22, .putfield 18, 3), (25, .return_, 1)]
theorem dzX5_init : dz cX5_init rwX5_init := dz_all 0 (by decide +kernel)
def kX5_init (n : Nat) (Ret : an_R) : an_code := [(0, an_lf (fun live => am_aload 0 1)), (1, an_obj 20 4), (4, an_lf (fun live => am_aload 0 5)), (5, an_lf (fun live => am_const (.int 50) 7)), (7, an_newa 0 50 (fun L => n + 1) 2 100 9), (9, an_putFR 5 0 12), (12, an_lf (fun live => am_aload 0 13)), (13, an_lf (fun live => am_const (.int 50) 15)), (15, an_newa 0 50 (fun L => n + 2) 2 100 17), (17, an_putFR 5 1 20), (20, an_lf (fun live => am_aload 0 21)), (21, an_lf (fun live => am_const (.int 1) 22)), (22, an_lf (fun live => am_putI live 5 6 25)), (25, an_retV Ret)]
theorem koX5_init (n : Nat) (Ret : an_R) : ∀ q ∈ kX5_init n Ret, an_ok RX5 cX5_init 1 none 1 20 2 100 true (fun _ _ _ => True) Ret q.1 q.2 :=
  am_kz dzX5_init <|
  an_kd (fun d => an_lift (fun live => ak_aload_n d rfl rfl)) <|
  an_kd (fun d => nk_obj (am_w3 wd_167 wd_76 wd_77) (by decide) d rfl) <|
  an_kd (fun d => an_lift (fun live => ak_aload_n d rfl rfl)) <|
  an_kd (fun d => an_lift (fun live => ak_bipush d (by decide +kernel) rfl)) <|
  an_kd (fun d => nk_newa (t := 0) (len := 50) (atype := .int) (ty := .int) rfl (fun _ => rfl) (fun _ z => by cases z) (fun _ => rfl) wd_140 (by decide) d rfl) <|
  an_kd (fun d => nk_putFR (C := RX5) (C2 := RX5) (T := TX5) (N := 7) rfl inX5w tyX5_ok nmX5 (by decide) rfl rfl rfl rfl rfl (tyX5_ok 0 (by decide)) (fun _ => ⟨rfl, rfl⟩) rfl wd_168 d rfl) <|
  an_kd (fun d => an_lift (fun live => ak_aload_n d rfl rfl)) <|
  an_kd (fun d => an_lift (fun live => ak_bipush d (by decide +kernel) rfl)) <|
  an_kd (fun d => nk_newa (t := 0) (len := 50) (atype := .int) (ty := .int) rfl (fun _ => rfl) (fun _ z => by cases z) (fun _ => rfl) wd_140 (by decide) d rfl) <|
  an_kd (fun d => nk_putFR (C := RX5) (C2 := RX5) (T := TX5) (N := 7) rfl inX5w tyX5_ok nmX5 (by decide) rfl rfl rfl rfl rfl (tyX5_ok 1 (by decide)) (fun _ => ⟨rfl, rfl⟩) rfl wd_169 d rfl) <|
  an_kd (fun d => an_lift (fun live => ak_aload_n d rfl rfl)) <|
  an_kd (fun d => an_lift (fun live => ak_iconst d (by decide +kernel) rfl)) <|
  an_kd (fun d => an_lift (fun live => ak_putI (C := RX5) (T := TX5) (N := 7) rfl inX5w tyX5_ok nmX5 (by decide) rfl rfl rfl rfl (by decide +kernel) wd_175 d rfl)) <|
  an_kd (fun d => nk_retV d) <| an_kdn
def eX5 (n : Nat) (E : am_E) : am_E := an_rE (an_bE (an_rE (an_bE (E) (n + 1)) n 0 (n + 1)) (n + 2)) n 1 (n + 2)
def mX5 (n : Nat) (M : am_M) : am_M := am_wI (an_bM (an_bM (M) (n + 1)) (n + 2)) n 6 1
def TX5n (n : Nat) : an_T := fun E as M R => match as with
  | [.ref r] => am_if (Nat.beq r n && (an_t5 n && an_fc E n 2)) (R none (eX5 n E) (mX5 n M))
  | _ => False
theorem an_t5_of {n : Nat} (h : an_t5 n = true) : n = 39 ∨ n = 42 ∨ n = 45 ∨ n = 48 ∨ n = 51 ∨ n = 79 ∨ n = 82 ∨ n = 85 ∨ n = 88 ∨ n = 91 ∨ n = 119 ∨ n = 122 ∨ n = 125 ∨ n = 128 ∨ n = 131 := by
  unfold an_t5 at h
  simpa using h
set_option maxRecDepth 100000 in
set_option maxHeartbeats 4000000 in
theorem metX5_initn (n : Nat) : an_Met yX5_init cX5_init 1 none (1) (20) 2 100 (TX5n n) := by
  refine an_met (own := RX5) (ini := true) (by decide +kernel) rfl (fun _ => rfl) (kX5_init n ) (koX5_init n  ) 120 (fun _ _ _ _ _ => none) (fun live as M Ret h => ?_) (fun _ _ _ _ _ _ _ _ hI => by cases hI)
  unfold TX5n at h
  split at h
  · next r =>
    refine ⟨Nat.le_of_ble_eq_true rfl, ?_⟩
    change an_wp _ _ _ _ [(0, Value.ref r)] _ _
    have hh := am_if_mp h
    clear h
    obtain ⟨hb, h⟩ := hh
    rw [Bool.and_eq_true, Bool.and_eq_true] at hb
    obtain ⟨h1, h2, h3⟩ := hb
    have h1 := Nat.eq_of_beq_eq_true h1
    subst h1
    obtain ⟨E, rfl⟩ : ∃ E, live = an_ho r 2 E := ⟨live, an_ho_of h3⟩
    clear h3
    have h2 := an_t5_of h2
    rcases h2 with rfl | rfl | rfl | rfl | rfl | rfl | rfl | rfl | rfl | rfl | rfl | rfl | rfl | rfl | rfl
    repeat' (first | apply And.intro | exact rfl | intro hx | (refine Exists.intro _ (And.intro rfl ?_)))
    all_goals try first | (with_reducible change am_tI _ _) | (change Ret _ _) | (change Ret _ _ _) | (change Exists _)
    all_goals try dsimp only at *
    all_goals try (with_reducible exact absurd ‹(1000 : Int64) = 0› am_z1000)
    all_goals exact h
  · exact h.elim
def TX5_init : an_T := fun E as M R => match as with
  | [.ref n] => TX5n n E [.ref n] M R
  | _ => False
theorem metX5_init : an_Met yX5_init cX5_init 1 none 1 20 2 100 TX5_init := by
  intro l D cA al B live as M Ret hcl hT
  unfold TX5_init at hT
  split at hT
  · next n => exact metX5_initn n l D cA al B live _ M Ret hcl hT
  · exact hT.elim
set_option maxRecDepth 100000 in
theorem wd_101 : Cond.methodLink "LearnLoans$People" 3 objectInit ∈ am_ws := am_wt1 (List.mem_of_getElem? (i := 44) (by rfl)) (by decide +kernel)
theorem hy_J7_fill_53178 : yJ7_fill_53178.cls ≠ "java/lang/invoke/MethodHandle" ∧ yJ7_fill_53178.cls ≠ "java/lang/invoke/VarHandle" ∧ (parseMethodDescriptor yJ7_fill_53178.desc).map (fun d => d.parameters.length) = some 2 := ⟨by decide +kernel, by decide +kernel, by decide +kernel⟩
set_option maxRecDepth 100000 in
theorem wd_102 : Cond.methodLink "LearnLoans$People" 33 yJ7_fill_53178 ∈ am_ws := am_wt1 (List.mem_of_getElem? (i := 45) (by rfl)) (by decide +kernel)
set_option maxRecDepth 100000 in
theorem wd_103 : Cond.static yJ7_fill_53178 ∈ am_ws := am_wt1 (List.mem_of_getElem? (i := 46) (by rfl)) (by decide +kernel)
set_option maxRecDepth 100000 in
theorem wd_63 : Cond.initialized "java/util/Arrays" ∈ am_ws := am_wt1 (List.mem_of_getElem? (i := 6) (by rfl)) (by decide +kernel)
set_option maxRecDepth 100000 in
theorem wd_104 : Cond.code yJ7_fill_53178 cJ7_fill_53178 4 none ∈ am_ws := am_wt1 (List.mem_of_getElem? (i := 47) (by rfl)) (by decide +kernel)
def rwX2_init : List dz_r := [(0, .aload_n 0, 1), (1, .invokespecial 3, 3), (4, .aload_n 0, 1), (5, .bipush 12, 2), (7, .newarray .int, 2), (9, .putfield 9, 3), (12, .aload_n 0, 1), (13, .bipush 12, 2), (15, .newarray .int, 2), (17, .putfield 15, 3), (20, .aload_n 0, 1), (21, .sipush 480, 3), (24, .newarray .int, 2), (26, .putfield 18, 3), (29, .aload_n 0, 1), (30, .sipush 480, 3), (33, .newarray .int, 2), (35, .putfield 21, 3), (38, .aload_n 0, 1), (39, .sipush 480, 3), (42, .newarray .int, 2), (44, .putfield 24, 3), (47, .aload_n 0, 1), (48, .sipush 480, 3), (51, .newarray .int, 2), (53, .putfield 27, 3), (56, .aload_n 0, 1), (57, .sipush 480, 3), (60, .newarray .int, 2), (62, .putfield 30, 3), (65, .aload_n 0, 1), (66, .getfield 15, 3), (69, .iconst (-1), 1), (70, .invokestatic 33, 3), (73, .aload_n 0, 1), (74, .getfield 24, 3), (77, .iconst (-1), 1), (78, .invokestatic 33, 3), (81, .aload_n 0, 1), (82, .getfield 30, 3), (85, .iconst (-1), 1), (86, .invokestatic 33, 3), (89, .return_, 1)]
theorem dzX2_init : dz cX2_init rwX2_init := dz_all 0 (by decide +kernel)
def kX2_init (n : Nat) (Ret : an_R) : an_code := [(0, an_lf (fun live => am_aload 0 1)), (1, an_obj 23 4), (4, an_lf (fun live => am_aload 0 5)), (5, an_lf (fun live => am_const (.int 12) 7)), (7, an_newa 0 12 (fun L => n + 1) 7 2424 9), (9, an_putFR 2 0 12), (12, an_lf (fun live => am_aload 0 13)), (13, an_lf (fun live => am_const (.int 12) 15)), (15, an_newa 0 12 (fun L => n + 2) 7 2424 17), (17, an_putFR 2 1 20), (20, an_lf (fun live => am_aload 0 21)), (21, an_lf (fun live => am_const (.int 480) 24)), (24, an_newa 0 480 (fun L => n + 3) 7 2424 26), (26, an_putFR 2 2 29), (29, an_lf (fun live => am_aload 0 30)), (30, an_lf (fun live => am_const (.int 480) 33)), (33, an_newa 0 480 (fun L => n + 4) 7 2424 35), (35, an_putFR 2 3 38), (38, an_lf (fun live => am_aload 0 39)), (39, an_lf (fun live => am_const (.int 480) 42)), (42, an_newa 0 480 (fun L => n + 5) 7 2424 44), (44, an_putFR 2 4 47), (47, an_lf (fun live => am_aload 0 48)), (48, an_lf (fun live => am_const (.int 480) 51)), (51, an_newa 0 480 (fun L => n + 6) 7 2424 53), (53, an_putFR 2 5 56), (56, an_lf (fun live => am_aload 0 57)), (57, an_lf (fun live => am_const (.int 480) 60)), (60, an_newa 0 480 (fun L => n + 7) 7 2424 62), (62, an_putFR 2 6 65), (65, an_lf (fun live => am_aload 0 66)), (66, an_lf (fun live => am_getR live 2 1 69)), (69, an_lf (fun live => am_const (.int (-1)) 70)), (70, an_lf (fun live => am_callS live 2 TJ7_fill_53178 73)), (73, an_lf (fun live => am_aload 0 74)), (74, an_lf (fun live => am_getR live 2 4 77)), (77, an_lf (fun live => am_const (.int (-1)) 78)), (78, an_lf (fun live => am_callS live 2 TJ7_fill_53178 81)), (81, an_lf (fun live => am_aload 0 82)), (82, an_lf (fun live => am_getR live 2 6 85)), (85, an_lf (fun live => am_const (.int (-1)) 86)), (86, an_lf (fun live => am_callS live 2 TJ7_fill_53178 89)), (89, an_retV Ret)]
theorem koX2_init (n : Nat) (Ret : an_R) : ∀ q ∈ kX2_init n Ret, an_ok RX2 cX2_init 1 none 1 23 7 2424 true (fun _ _ _ => True) Ret q.1 q.2 :=
  am_kz dzX2_init <|
  an_kd (fun d => an_lift (fun live => ak_aload_n d rfl rfl)) <|
  an_kd (fun d => nk_obj (am_w3 wd_101 wd_76 wd_77) (by decide) d rfl) <|
  an_kd (fun d => an_lift (fun live => ak_aload_n d rfl rfl)) <|
  an_kd (fun d => an_lift (fun live => ak_bipush d (by decide +kernel) rfl)) <|
  an_kd (fun d => nk_newa (t := 0) (len := 12) (atype := .int) (ty := .int) rfl (fun _ => rfl) (fun _ z => by cases z) (fun _ => rfl) wd_140 (by decide) d rfl) <|
  an_kd (fun d => nk_putFR (C := RX2) (C2 := RX2) (T := TX2) (N := 8) rfl inX2w tyX2_ok nmX2 (by decide) rfl rfl rfl rfl rfl (tyX2_ok 0 (by decide)) (fun _ => ⟨rfl, rfl⟩) rfl wd_105 d rfl) <|
  an_kd (fun d => an_lift (fun live => ak_aload_n d rfl rfl)) <|
  an_kd (fun d => an_lift (fun live => ak_bipush d (by decide +kernel) rfl)) <|
  an_kd (fun d => nk_newa (t := 0) (len := 12) (atype := .int) (ty := .int) rfl (fun _ => rfl) (fun _ z => by cases z) (fun _ => rfl) wd_140 (by decide) d rfl) <|
  an_kd (fun d => nk_putFR (C := RX2) (C2 := RX2) (T := TX2) (N := 8) rfl inX2w tyX2_ok nmX2 (by decide) rfl rfl rfl rfl rfl (tyX2_ok 1 (by decide)) (fun _ => ⟨rfl, rfl⟩) rfl wd_108 d rfl) <|
  an_kd (fun d => an_lift (fun live => ak_aload_n d rfl rfl)) <|
  an_kd (fun d => an_lift (fun live => ak_sipush d (by decide +kernel) rfl)) <|
  an_kd (fun d => nk_newa (t := 0) (len := 480) (atype := .int) (ty := .int) rfl (fun _ => rfl) (fun _ z => by cases z) (fun _ => rfl) wd_140 (by decide) d rfl) <|
  an_kd (fun d => nk_putFR (C := RX2) (C2 := RX2) (T := TX2) (N := 8) rfl inX2w tyX2_ok nmX2 (by decide) rfl rfl rfl rfl rfl (tyX2_ok 2 (by decide)) (fun _ => ⟨rfl, rfl⟩) rfl wd_110 d rfl) <|
  an_kd (fun d => an_lift (fun live => ak_aload_n d rfl rfl)) <|
  an_kd (fun d => an_lift (fun live => ak_sipush d (by decide +kernel) rfl)) <|
  an_kd (fun d => nk_newa (t := 0) (len := 480) (atype := .int) (ty := .int) rfl (fun _ => rfl) (fun _ z => by cases z) (fun _ => rfl) wd_140 (by decide) d rfl) <|
  an_kd (fun d => nk_putFR (C := RX2) (C2 := RX2) (T := TX2) (N := 8) rfl inX2w tyX2_ok nmX2 (by decide) rfl rfl rfl rfl rfl (tyX2_ok 3 (by decide)) (fun _ => ⟨rfl, rfl⟩) rfl wd_113 d rfl) <|
  an_kd (fun d => an_lift (fun live => ak_aload_n d rfl rfl)) <|
  an_kd (fun d => an_lift (fun live => ak_sipush d (by decide +kernel) rfl)) <|
  an_kd (fun d => nk_newa (t := 0) (len := 480) (atype := .int) (ty := .int) rfl (fun _ => rfl) (fun _ z => by cases z) (fun _ => rfl) wd_140 (by decide) d rfl) <|
  an_kd (fun d => nk_putFR (C := RX2) (C2 := RX2) (T := TX2) (N := 8) rfl inX2w tyX2_ok nmX2 (by decide) rfl rfl rfl rfl rfl (tyX2_ok 4 (by decide)) (fun _ => ⟨rfl, rfl⟩) rfl wd_115 d rfl) <|
  an_kd (fun d => an_lift (fun live => ak_aload_n d rfl rfl)) <|
  an_kd (fun d => an_lift (fun live => ak_sipush d (by decide +kernel) rfl)) <|
  an_kd (fun d => nk_newa (t := 0) (len := 480) (atype := .int) (ty := .int) rfl (fun _ => rfl) (fun _ z => by cases z) (fun _ => rfl) wd_140 (by decide) d rfl) <|
  an_kd (fun d => nk_putFR (C := RX2) (C2 := RX2) (T := TX2) (N := 8) rfl inX2w tyX2_ok nmX2 (by decide) rfl rfl rfl rfl rfl (tyX2_ok 5 (by decide)) (fun _ => ⟨rfl, rfl⟩) rfl wd_117 d rfl) <|
  an_kd (fun d => an_lift (fun live => ak_aload_n d rfl rfl)) <|
  an_kd (fun d => an_lift (fun live => ak_sipush d (by decide +kernel) rfl)) <|
  an_kd (fun d => nk_newa (t := 0) (len := 480) (atype := .int) (ty := .int) rfl (fun _ => rfl) (fun _ z => by cases z) (fun _ => rfl) wd_140 (by decide) d rfl) <|
  an_kd (fun d => nk_putFR (C := RX2) (C2 := RX2) (T := TX2) (N := 8) rfl inX2w tyX2_ok nmX2 (by decide) rfl rfl rfl rfl rfl (tyX2_ok 6 (by decide)) (fun _ => ⟨rfl, rfl⟩) rfl wd_119 d rfl) <|
  an_kd (fun d => an_lift (fun live => ak_aload_n d rfl rfl)) <|
  an_kd (fun d => an_lift (fun live => ak_getR (C := RX2) (T := TX2) (N := 8) rfl inX2w (by decide) rfl rfl rfl wd_108 d rfl)) <|
  an_kd (fun d => an_lift (fun live => ak_iconst d (by decide +kernel) rfl)) <|
  an_kd (fun d => an_lift (fun live => ak_callSO metJ7_fill_53178 hy_J7_fill_53178 (am_w4 wd_102 wd_103 wd_63 wd_104) (by decide) d rfl)) <|
  an_kd (fun d => an_lift (fun live => ak_aload_n d rfl rfl)) <|
  an_kd (fun d => an_lift (fun live => ak_getR (C := RX2) (T := TX2) (N := 8) rfl inX2w (by decide) rfl rfl rfl wd_115 d rfl)) <|
  an_kd (fun d => an_lift (fun live => ak_iconst d (by decide +kernel) rfl)) <|
  an_kd (fun d => an_lift (fun live => ak_callSO metJ7_fill_53178 hy_J7_fill_53178 (am_w4 wd_102 wd_103 wd_63 wd_104) (by decide) d rfl)) <|
  an_kd (fun d => an_lift (fun live => ak_aload_n d rfl rfl)) <|
  an_kd (fun d => an_lift (fun live => ak_getR (C := RX2) (T := TX2) (N := 8) rfl inX2w (by decide) rfl rfl rfl wd_119 d rfl)) <|
  an_kd (fun d => an_lift (fun live => ak_iconst d (by decide +kernel) rfl)) <|
  an_kd (fun d => an_lift (fun live => ak_callSO metJ7_fill_53178 hy_J7_fill_53178 (am_w4 wd_102 wd_103 wd_63 wd_104) (by decide) d rfl)) <|
  an_kd (fun d => nk_retV d) <| an_kdn
def eX2 (n : Nat) (E : am_E) : am_E := an_rE (an_bE (an_rE (an_bE (an_rE (an_bE (an_rE (an_bE (an_rE (an_bE (an_rE (an_bE (an_rE (an_bE (E) (n + 1)) n 0 (n + 1)) (n + 2)) n 1 (n + 2)) (n + 3)) n 2 (n + 3)) (n + 4)) n 3 (n + 4)) (n + 5)) n 4 (n + 5)) (n + 6)) n 5 (n + 6)) (n + 7)) n 6 (n + 7)
def mX2 (n : Nat) (M : am_M) : am_M := am_lay (am_lay (am_lay (an_bM (an_bM (an_bM (an_bM (an_bM (an_bM (an_bM (M) (n + 1)) (n + 2)) (n + 3)) (n + 4)) (n + 5)) (n + 6)) (n + 7)) (n + 2) 0 ((12 : Int) - 1) (-1)) (n + 5) 0 ((480 : Int) - 1) (-1)) (n + 7) 0 ((480 : Int) - 1) (-1)
def TX2n (n : Nat) : an_T := fun E as M R => match as with
  | [.ref r] => am_if (Nat.beq r n && (an_t2 n && an_fc E n 7)) (R none (eX2 n E) (mX2 n M))
  | _ => False
theorem an_t2_of {n : Nat} (h : an_t2 n = true) : n = 21 ∨ n = 61 ∨ n = 101 := by
  unfold an_t2 at h
  simpa using h
set_option maxRecDepth 100000 in
set_option maxHeartbeats 4000000 in
theorem metX2_initn (n : Nat) : an_Met yX2_init cX2_init 1 none (1) (23) 7 2424 (TX2n n) := by
  refine an_met (own := RX2) (ini := true) (by decide +kernel) rfl (fun _ => rfl) (kX2_init n ) (koX2_init n  ) 120 (fun _ _ _ _ _ => none) (fun live as M Ret h => ?_) (fun _ _ _ _ _ _ _ _ hI => by cases hI)
  unfold TX2n at h
  split at h
  · next r =>
    refine ⟨Nat.le_of_ble_eq_true rfl, ?_⟩
    change an_wp _ _ _ _ [(0, Value.ref r)] _ _
    have hh := am_if_mp h
    clear h
    obtain ⟨hb, h⟩ := hh
    rw [Bool.and_eq_true, Bool.and_eq_true] at hb
    obtain ⟨h1, h2, h3⟩ := hb
    have h1 := Nat.eq_of_beq_eq_true h1
    subst h1
    obtain ⟨E, rfl⟩ : ∃ E, live = an_ho r 7 E := ⟨live, an_ho_of h3⟩
    clear h3
    have h2 := an_t2_of h2
    rcases h2 with rfl | rfl | rfl
    repeat' (first | apply And.intro | exact rfl | intro hx | (refine Exists.intro _ (And.intro rfl ?_)))
    all_goals try first | (with_reducible change am_tI _ _) | (change Ret _ _) | (change Ret _ _ _) | (change Exists _)
    all_goals try dsimp only at *
    all_goals try (with_reducible exact absurd ‹(1000 : Int64) = 0› am_z1000)
    all_goals exact h
  · exact h.elim
def TX2_init : an_T := fun E as M R => match as with
  | [.ref n] => TX2n n E [.ref n] M R
  | _ => False
theorem metX2_init : an_Met yX2_init cX2_init 1 none 1 23 7 2424 TX2_init := by
  intro l D cA al B live as M Ret hcl hT
  unfold TX2_init at hT
  split at hT
  · next n => exact metX2_initn n l D cA al B live _ M Ret hcl hT
  · exact hT.elim
end
-- part 41.house.lean.txt
section
def an_t0 (n : Nat) : Bool := [20, 60, 100].contains n
theorem an_t0_of {n : Nat} (h : an_t0 n = true) : n = 20 ∨ n = 60 ∨ n = 100 := by
  unfold an_t0 at h
  simpa using h
set_option maxRecDepth 100000 in
theorem wd_95 : Cond.methodLink "LearnLoans$House" 3 objectInit ∈ am_ws := am_wt1 (List.mem_of_getElem? (i := 38) (by rfl)) (by decide +kernel)
set_option maxRecDepth 100000 in
theorem wd_96 : Cond.classLink "LearnLoans$House" 9 "LearnLoans$People" ∈ am_ws := am_wt1 (List.mem_of_getElem? (i := 39) (by rfl)) (by decide +kernel)
set_option maxRecDepth 100000 in
theorem wd_97 : Cond.instantiable "LearnLoans$People" 8 ∈ am_ws := am_wt1 (List.mem_of_getElem? (i := 40) (by rfl)) (by decide +kernel)
theorem hy_X2_init : yX2_init.cls ≠ "java/lang/invoke/MethodHandle" ∧ yX2_init.cls ≠ "java/lang/invoke/VarHandle" ∧ (parseMethodDescriptor yX2_init.desc).map (fun d => d.parameters.length) = some 0 := ⟨by decide +kernel, by decide +kernel, by decide +kernel⟩
set_option maxRecDepth 100000 in
theorem wd_98 : Cond.methodLink "LearnLoans$House" 11 yX2_init ∈ am_ws := am_wt1 (List.mem_of_getElem? (i := 41) (by rfl)) (by decide +kernel)
set_option maxRecDepth 100000 in
theorem wd_99 : Cond.instanceMethod yX2_init ∈ am_ws := am_wt1 (List.mem_of_getElem? (i := 42) (by rfl)) (by decide +kernel)
set_option maxRecDepth 100000 in
theorem wd_100 : Cond.code yX2_init cX2_init 1 none ∈ am_ws := am_wt1 (List.mem_of_getElem? (i := 43) (by rfl)) (by decide +kernel)
set_option maxRecDepth 100000 in
theorem wd_141 : Cond.classLink "LearnLoans$House" 25 "LearnLoans$Rows" ∈ am_ws := am_wt1 (List.mem_of_getElem? (i := 84) (by rfl)) (by decide +kernel)
set_option maxRecDepth 100000 in
theorem wd_142 : Cond.instantiable "LearnLoans$Rows" 3 ∈ am_ws := am_wt1 (List.mem_of_getElem? (i := 85) (by rfl)) (by decide +kernel)
theorem hy_X3_init : yX3_init.cls ≠ "java/lang/invoke/MethodHandle" ∧ yX3_init.cls ≠ "java/lang/invoke/VarHandle" ∧ (parseMethodDescriptor yX3_init.desc).map (fun d => d.parameters.length) = some 2 := ⟨by decide +kernel, by decide +kernel, by decide +kernel⟩
set_option maxRecDepth 100000 in
theorem wd_143 : Cond.methodLink "LearnLoans$House" 27 yX3_init ∈ am_ws := am_wt1 (List.mem_of_getElem? (i := 86) (by rfl)) (by decide +kernel)
set_option maxRecDepth 100000 in
theorem wd_144 : Cond.instanceMethod yX3_init ∈ am_ws := am_wt1 (List.mem_of_getElem? (i := 87) (by rfl)) (by decide +kernel)
set_option maxRecDepth 100000 in
theorem wd_145 : Cond.code yX3_init cX3_init 3 none ∈ am_ws := am_wt1 (List.mem_of_getElem? (i := 88) (by rfl)) (by decide +kernel)
set_option maxRecDepth 100000 in
theorem wd_160 : Cond.classLink "LearnLoans$House" 43 "LearnLoans$Text" ∈ am_ws := am_wt1 (List.mem_of_getElem? (i := 103) (by rfl)) (by decide +kernel)
set_option maxRecDepth 100000 in
theorem wd_162 : Cond.methodLink "LearnLoans$House" 61 yJ7_fill_53178 ∈ am_ws := am_wt1 (List.mem_of_getElem? (i := 105) (by rfl)) (by decide +kernel)
set_option maxRecDepth 100000 in
theorem wd_163 : Cond.instantiable "LearnLoans$Text" 7 ∈ am_ws := am_wt1 (List.mem_of_getElem? (i := 106) (by rfl)) (by decide +kernel)
theorem hy_X5_init : yX5_init.cls ≠ "java/lang/invoke/MethodHandle" ∧ yX5_init.cls ≠ "java/lang/invoke/VarHandle" ∧ (parseMethodDescriptor yX5_init.desc).map (fun d => d.parameters.length) = some 0 := ⟨by decide +kernel, by decide +kernel, by decide +kernel⟩
set_option maxRecDepth 100000 in
theorem wd_165 : Cond.instanceMethod yX5_init ∈ am_ws := am_wt1 (List.mem_of_getElem? (i := 108) (by rfl)) (by decide +kernel)
set_option maxRecDepth 100000 in
theorem wd_166 : Cond.code yX5_init cX5_init 1 none ∈ am_ws := am_wt1 (List.mem_of_getElem? (i := 109) (by rfl)) (by decide +kernel)
def rwX0_init : List dz_r := [(0, .aload_n 0, 1), (1, .invokespecial 3, 3), (4, .aload_n 0, 1), (5, .new 9, 3), (8, .dup, 1), (9, .invokespecial 11, 3), (12, .putfield 12, 3), (15, .aload_n 0, 1), (16, .iconst 4, 1), (17, .newarray .int, 2), (19, .putfield 18, 3), (22, .aload_n 0, 1), (23, .bipush 40, 2), (25, .newarray .int, 2), (27, .putfield 22, 3), (30, .aload_n 0, 1), (31, .new 25, 3), (34, .dup, 1), (35, .sipush 366, 3), (38, .newarray .int, 2), (40, .bipush 6, 2), (42, .invokespecial 27, 3), (45, .putfield 30, 3), (48, .aload_n 0, 1), (49, .new 25, 3), (52, .dup, 1), (53, .sipush 240, 3), (56, .newarray .int, 2), (58, .bipush 8, 2), (60, .invokespecial 27, 3), (63, .putfield 34, 3), (66, .aload_n 0, 1), (67, .new 25, 3), (70, .dup, 1), (71, .sipush 180, 3), (74, .newarray .int, 2), (76, .iconst 3, 1), (77, .invokespecial 27, 3), (80, .putfield 37, 3), (83, .aload_n 0, 1), (84, .sipush 1200, 3), (87, .newarray .int, 2), (89, .putfield 40, 3), (92, .aload_n 0, 1), (93, .iconst 5, 1), (94, .anewarray 43, 3), (97, .putfield 45, 3), (100, .aload_n 0, 1), (101, .new 25, 3), (104, .dup, 1), (105, .bipush 60, 2), (107, .newarray .int, 2), (109, .iconst 3, 1), (110, .invokespecial 27, 3), (113, .putfield 49, 3), (116, .aload_n 0, 1), (117, .sipush 160, 3), (120, .newarray .int, 2), (122, .putfield 52, 3), (125, .aload_n 0, 1), (126, .bipush 16, 2), (128, .newarray .int, 2), (130, .putfield 55, 3), (133, .aload_n 0, 1), (134, .bipush 9, 2), (136, .newarray .int, 2), (138, .putfield 58, 3), (141, .aload_n 0, 1), (142, .getfield 18, 3), (145, .sipush 1000, 3), (148, .invokestatic 61, 3), (151, .iconst 0, 1), (152, .istore_n 1, 1), (153, .iload_n 1, 1), (154, .iconst 5, 1), (155, .if_icmp .ge 22, 3), (158, .aload_n 0, 1), (159, .getfield 45, 3), (162, .iload_n 1, 1), (163, .new 43, 3), (166, .dup, 1), (167, .invokespecial 66, 3), (170, .aastore, 1), (171, .iinc 1 1, 3), (174, .goto (-21), 3), (177, .iconst 0, 1), (178, .istore_n 1, 1), (179, .iload_n 1, 1), (180, .iconst 4, 1), (181, .if_icmp .ge 21, 3), (184, .aload_n 0, 1), (185, .getfield 55, 3), (188, .iload_n 1, 1), (189, .iconst 4, 1), (190, .imul, 1), (191, .iload_n 1, 1), (192, .iadd, 1), (193, .bipush 10, 2), (195, .iastore, 1), (196, .iinc 1 1, 3), (199, .goto (-20), 3), (202, .return_, 1)]
theorem dzX0_init : dz cX0_init rwX0_init := dz_all 0 (by decide +kernel)
def kX0_init (b : Nat) (Ret : an_R) : an_code := [(0, an_lf (fun live => am_aload 0 1)), (1, an_obj 43 4), (4, an_lf (fun live => am_aload 0 5)), (5, an_new 2 8 (fun L => b + 1) 38 5259 8), (8, an_lf (fun live => am_dup 9)), (9, an_callI 2 0 TX2_init 38 5259 7 2424 12), (12, an_putFR 0 0 15), (15, an_lf (fun live => am_aload 0 16)), (16, an_lf (fun live => am_const (.int 4) 17)), (17, an_newa 0 4 (fun L => b + 9) 38 5259 19), (19, an_putFR 0 1 22), (22, an_lf (fun live => am_aload 0 23)), (23, an_lf (fun live => am_const (.int 40) 25)), (25, an_newa 0 40 (fun L => b + 10) 38 5259 27), (27, an_putFR 0 2 30), (30, an_lf (fun live => am_aload 0 31)), (31, an_new 3 3 (fun L => b + 11) 38 5259 34), (34, an_lf (fun live => am_dup 35)), (35, an_lf (fun live => am_const (.int 366) 38)), (38, an_newa 0 366 (fun L => b + 12) 38 5259 40), (40, an_lf (fun live => am_const (.int 6) 42)), (42, an_callI 3 2 TX3_init 38 5259 0 0 45), (45, an_putFR 0 3 48), (48, an_lf (fun live => am_aload 0 49)), (49, an_new 3 3 (fun L => b + 13) 38 5259 52), (52, an_lf (fun live => am_dup 53)), (53, an_lf (fun live => am_const (.int 240) 56)), (56, an_newa 0 240 (fun L => b + 14) 38 5259 58), (58, an_lf (fun live => am_const (.int 8) 60)), (60, an_callI 3 2 TX3_init 38 5259 0 0 63), (63, an_putFR 0 4 66), (66, an_lf (fun live => am_aload 0 67)), (67, an_new 3 3 (fun L => b + 15) 38 5259 70), (70, an_lf (fun live => am_dup 71)), (71, an_lf (fun live => am_const (.int 180) 74)), (74, an_newa 0 180 (fun L => b + 16) 38 5259 76), (76, an_lf (fun live => am_const (.int 3) 77)), (77, an_callI 3 2 TX3_init 38 5259 0 0 80), (80, an_putFR 0 5 83), (83, an_lf (fun live => am_aload 0 84)), (84, an_lf (fun live => am_const (.int 1200) 87)), (87, an_newa 0 1200 (fun L => b + 17) 38 5259 89), (89, an_putFR 0 6 92), (92, an_lf (fun live => am_aload 0 93)), (93, an_lf (fun live => am_const (.int 5) 94)), (94, an_newa 3 5 (fun L => b + 18) 38 5259 97), (97, an_putFR 0 7 100), (100, an_lf (fun live => am_aload 0 101)), (101, an_new 3 3 (fun L => b + 34) 38 5259 104), (104, an_lf (fun live => am_dup 105)), (105, an_lf (fun live => am_const (.int 60) 107)), (107, an_newa 0 60 (fun L => b + 35) 38 5259 109), (109, an_lf (fun live => am_const (.int 3) 110)), (110, an_callI 3 2 TX3_init 38 5259 0 0 113), (113, an_putFR 0 8 116), (116, an_lf (fun live => am_aload 0 117)), (117, an_lf (fun live => am_const (.int 160) 120)), (120, an_newa 0 160 (fun L => b + 36) 38 5259 122), (122, an_putFR 0 9 125), (125, an_lf (fun live => am_aload 0 126)), (126, an_lf (fun live => am_const (.int 16) 128)), (128, an_newa 0 16 (fun L => b + 37) 38 5259 130), (130, an_putFR 0 10 133), (133, an_lf (fun live => am_aload 0 134)), (134, an_lf (fun live => am_const (.int 9) 136)), (136, an_newa 0 9 (fun L => b + 38) 38 5259 138), (138, an_putFR 0 11 141), (141, an_lf (fun live => am_aload 0 142)), (142, an_lf (fun live => am_getR live 0 1 145)), (145, an_lf (fun live => am_const (.int 1000) 148)), (148, an_lf (fun live => am_callS live 2 TJ7_fill_53178 151)), (151, an_lf (fun live => am_const (.int 0) 152)), (152, an_lf (fun live => am_istore 1 2 153)), (153, an_lf (fun live => am_iload 1 154)), (154, an_lf (fun live => am_const (.int 5) 155)), (155, an_lf (fun live => am_if2 (fun x y => y ≤ x) 177 158)), (158, an_lf (fun live => am_aload 0 159)), (159, an_lf (fun live => am_getR live 0 7 162)), (162, an_lf (fun live => am_iload 1 163)), (163, an_new 5 7 (fun L => b + 19 + 3 * an_int L 1) 38 5259 166), (166, an_lf (fun live => am_dup 167)), (167, an_callI 5 0 TX5_init 38 5259 2 100 170), (170, an_astR 3 5 171), (171, an_lf (fun live => am_iinc 1 2 1 174)), (174, an_lf (fun live => am_goto 153)), (177, an_lf (fun live => am_const (.int 0) 178)), (178, an_lf (fun live => am_istore 1 2 179)), (179, an_lf (fun live => am_iload 1 180)), (180, an_lf (fun live => am_const (.int 4) 181)), (181, an_lf (fun live => am_if2 (fun x y => y ≤ x) 202 184)), (184, an_lf (fun live => am_aload 0 185)), (185, an_lf (fun live => am_getR live 0 10 188)), (188, an_lf (fun live => am_iload 1 189)), (189, an_lf (fun live => am_const (.int 4) 190)), (190, an_lf (fun live => am_i2 (fun x y => x * y) 191)), (191, an_lf (fun live => am_iload 1 192)), (192, an_lf (fun live => am_i2 (fun x y => x + y) 193)), (193, an_lf (fun live => am_const (.int 10) 195)), (195, an_lf (fun live => am_ast live 0 196)), (196, an_lf (fun live => am_iinc 1 2 1 199)), (199, an_lf (fun live => am_goto 179)), (202, an_retV Ret)]
theorem koX0_init (b : Nat) (Ret : an_R) : ∀ q ∈ kX0_init b Ret, an_ok RX0 cX0_init 2 none 2 43 38 5259 true (fun _ _ _ => True) Ret q.1 q.2 :=
  am_kz dzX0_init <|
  an_kd (fun d => an_lift (fun live => ak_aload_n d rfl rfl)) <|
  an_kd (fun d => nk_obj (am_w3 wd_95 wd_76 wd_77) (by decide) d rfl) <|
  an_kd (fun d => an_lift (fun live => ak_aload_n d rfl rfl)) <|
  an_kd (fun d => nk_new (C := RX2) (T := TX2) (N := 8) (ty := tyX2) rfl inX2w tyX2_ok rfl zX2 (am_w3 wd_96 wd_97 wd_62) d rfl) <|
  an_kd (fun d => an_lift (fun live => ak_dup d rfl)) <|
  an_kd (fun d => nk_callI metX2_init rfl hy_X2_init (am_w4 wd_62 wd_98 wd_99 wd_100) (by decide) d rfl) <|
  an_kd (fun d => nk_putFR (C := RX0) (C2 := RX0) (T := TX0) (N := 13) rfl inX0w tyX0_ok nmX0 (by decide) rfl rfl rfl rfl rfl (tyX0_ok 0 (by decide)) (fun _ => ⟨rfl, rfl⟩) rfl wd_193 d rfl) <|
  an_kd (fun d => an_lift (fun live => ak_aload_n d rfl rfl)) <|
  an_kd (fun d => an_lift (fun live => ak_iconst d (by decide +kernel) rfl)) <|
  an_kd (fun d => nk_newa (t := 0) (len := 4) (atype := .int) (ty := .int) rfl (fun _ => rfl) (fun _ z => by cases z) (fun _ => rfl) wd_140 (by decide) d rfl) <|
  an_kd (fun d => nk_putFR (C := RX0) (C2 := RX0) (T := TX0) (N := 13) rfl inX0w tyX0_ok nmX0 (by decide) rfl rfl rfl rfl rfl (tyX0_ok 1 (by decide)) (fun _ => ⟨rfl, rfl⟩) rfl wd_196 d rfl) <|
  an_kd (fun d => an_lift (fun live => ak_aload_n d rfl rfl)) <|
  an_kd (fun d => an_lift (fun live => ak_bipush d (by decide +kernel) rfl)) <|
  an_kd (fun d => nk_newa (t := 0) (len := 40) (atype := .int) (ty := .int) rfl (fun _ => rfl) (fun _ z => by cases z) (fun _ => rfl) wd_140 (by decide) d rfl) <|
  an_kd (fun d => nk_putFR (C := RX0) (C2 := RX0) (T := TX0) (N := 13) rfl inX0w tyX0_ok nmX0 (by decide) rfl rfl rfl rfl rfl (tyX0_ok 2 (by decide)) (fun _ => ⟨rfl, rfl⟩) rfl wd_199 d rfl) <|
  an_kd (fun d => an_lift (fun live => ak_aload_n d rfl rfl)) <|
  an_kd (fun d => nk_new (C := RX3) (T := TX3) (N := 3) (ty := tyX3) rfl inX3w tyX3_ok rfl zX3 (am_w3 wd_141 wd_142 wd_64) d rfl) <|
  an_kd (fun d => an_lift (fun live => ak_dup d rfl)) <|
  an_kd (fun d => an_lift (fun live => ak_sipush d (by decide +kernel) rfl)) <|
  an_kd (fun d => nk_newa (t := 0) (len := 366) (atype := .int) (ty := .int) rfl (fun _ => rfl) (fun _ z => by cases z) (fun _ => rfl) wd_140 (by decide) d rfl) <|
  an_kd (fun d => an_lift (fun live => ak_bipush d (by decide +kernel) rfl)) <|
  an_kd (fun d => nk_callI metX3_init rfl hy_X3_init (am_w4 wd_64 wd_143 wd_144 wd_145) (by decide) d rfl) <|
  an_kd (fun d => nk_putFR (C := RX0) (C2 := RX0) (T := TX0) (N := 13) rfl inX0w tyX0_ok nmX0 (by decide) rfl rfl rfl rfl rfl (tyX0_ok 3 (by decide)) (fun _ => ⟨rfl, rfl⟩) rfl wd_202 d rfl) <|
  an_kd (fun d => an_lift (fun live => ak_aload_n d rfl rfl)) <|
  an_kd (fun d => nk_new (C := RX3) (T := TX3) (N := 3) (ty := tyX3) rfl inX3w tyX3_ok rfl zX3 (am_w3 wd_141 wd_142 wd_64) d rfl) <|
  an_kd (fun d => an_lift (fun live => ak_dup d rfl)) <|
  an_kd (fun d => an_lift (fun live => ak_sipush d (by decide +kernel) rfl)) <|
  an_kd (fun d => nk_newa (t := 0) (len := 240) (atype := .int) (ty := .int) rfl (fun _ => rfl) (fun _ z => by cases z) (fun _ => rfl) wd_140 (by decide) d rfl) <|
  an_kd (fun d => an_lift (fun live => ak_bipush d (by decide +kernel) rfl)) <|
  an_kd (fun d => nk_callI metX3_init rfl hy_X3_init (am_w4 wd_64 wd_143 wd_144 wd_145) (by decide) d rfl) <|
  an_kd (fun d => nk_putFR (C := RX0) (C2 := RX0) (T := TX0) (N := 13) rfl inX0w tyX0_ok nmX0 (by decide) rfl rfl rfl rfl rfl (tyX0_ok 4 (by decide)) (fun _ => ⟨rfl, rfl⟩) rfl wd_205 d rfl) <|
  an_kd (fun d => an_lift (fun live => ak_aload_n d rfl rfl)) <|
  an_kd (fun d => nk_new (C := RX3) (T := TX3) (N := 3) (ty := tyX3) rfl inX3w tyX3_ok rfl zX3 (am_w3 wd_141 wd_142 wd_64) d rfl) <|
  an_kd (fun d => an_lift (fun live => ak_dup d rfl)) <|
  an_kd (fun d => an_lift (fun live => ak_sipush d (by decide +kernel) rfl)) <|
  an_kd (fun d => nk_newa (t := 0) (len := 180) (atype := .int) (ty := .int) rfl (fun _ => rfl) (fun _ z => by cases z) (fun _ => rfl) wd_140 (by decide) d rfl) <|
  an_kd (fun d => an_lift (fun live => ak_iconst d (by decide +kernel) rfl)) <|
  an_kd (fun d => nk_callI metX3_init rfl hy_X3_init (am_w4 wd_64 wd_143 wd_144 wd_145) (by decide) d rfl) <|
  an_kd (fun d => nk_putFR (C := RX0) (C2 := RX0) (T := TX0) (N := 13) rfl inX0w tyX0_ok nmX0 (by decide) rfl rfl rfl rfl rfl (tyX0_ok 5 (by decide)) (fun _ => ⟨rfl, rfl⟩) rfl wd_208 d rfl) <|
  an_kd (fun d => an_lift (fun live => ak_aload_n d rfl rfl)) <|
  an_kd (fun d => an_lift (fun live => ak_sipush d (by decide +kernel) rfl)) <|
  an_kd (fun d => nk_newa (t := 0) (len := 1200) (atype := .int) (ty := .int) rfl (fun _ => rfl) (fun _ z => by cases z) (fun _ => rfl) wd_140 (by decide) d rfl) <|
  an_kd (fun d => nk_putFR (C := RX0) (C2 := RX0) (T := TX0) (N := 13) rfl inX0w tyX0_ok nmX0 (by decide) rfl rfl rfl rfl rfl (tyX0_ok 6 (by decide)) (fun _ => ⟨rfl, rfl⟩) rfl wd_210 d rfl) <|
  an_kd (fun d => an_lift (fun live => ak_aload_n d rfl rfl)) <|
  an_kd (fun d => an_lift (fun live => ak_iconst d (by decide +kernel) rfl)) <|
  an_kd (fun d => nk_newq (t := 3) (len := 5) (C := "LearnLoans$Text") (fun _ => rfl) rfl (by decide +kernel) wd_160 d rfl) <|
  an_kd (fun d => nk_putFR (C := RX0) (C2 := RX0) (T := TX0) (N := 13) rfl inX0w tyX0_ok nmX0 (by decide) rfl rfl rfl rfl rfl (tyX0_ok 7 (by decide)) (fun _ => ⟨rfl, rfl⟩) rfl wd_213 d rfl) <|
  an_kd (fun d => an_lift (fun live => ak_aload_n d rfl rfl)) <|
  an_kd (fun d => nk_new (C := RX3) (T := TX3) (N := 3) (ty := tyX3) rfl inX3w tyX3_ok rfl zX3 (am_w3 wd_141 wd_142 wd_64) d rfl) <|
  an_kd (fun d => an_lift (fun live => ak_dup d rfl)) <|
  an_kd (fun d => an_lift (fun live => ak_bipush d (by decide +kernel) rfl)) <|
  an_kd (fun d => nk_newa (t := 0) (len := 60) (atype := .int) (ty := .int) rfl (fun _ => rfl) (fun _ z => by cases z) (fun _ => rfl) wd_140 (by decide) d rfl) <|
  an_kd (fun d => an_lift (fun live => ak_iconst d (by decide +kernel) rfl)) <|
  an_kd (fun d => nk_callI metX3_init rfl hy_X3_init (am_w4 wd_64 wd_143 wd_144 wd_145) (by decide) d rfl) <|
  an_kd (fun d => nk_putFR (C := RX0) (C2 := RX0) (T := TX0) (N := 13) rfl inX0w tyX0_ok nmX0 (by decide) rfl rfl rfl rfl rfl (tyX0_ok 8 (by decide)) (fun _ => ⟨rfl, rfl⟩) rfl wd_216 d rfl) <|
  an_kd (fun d => an_lift (fun live => ak_aload_n d rfl rfl)) <|
  an_kd (fun d => an_lift (fun live => ak_sipush d (by decide +kernel) rfl)) <|
  an_kd (fun d => nk_newa (t := 0) (len := 160) (atype := .int) (ty := .int) rfl (fun _ => rfl) (fun _ z => by cases z) (fun _ => rfl) wd_140 (by decide) d rfl) <|
  an_kd (fun d => nk_putFR (C := RX0) (C2 := RX0) (T := TX0) (N := 13) rfl inX0w tyX0_ok nmX0 (by decide) rfl rfl rfl rfl rfl (tyX0_ok 9 (by decide)) (fun _ => ⟨rfl, rfl⟩) rfl wd_218 d rfl) <|
  an_kd (fun d => an_lift (fun live => ak_aload_n d rfl rfl)) <|
  an_kd (fun d => an_lift (fun live => ak_bipush d (by decide +kernel) rfl)) <|
  an_kd (fun d => nk_newa (t := 0) (len := 16) (atype := .int) (ty := .int) rfl (fun _ => rfl) (fun _ z => by cases z) (fun _ => rfl) wd_140 (by decide) d rfl) <|
  an_kd (fun d => nk_putFR (C := RX0) (C2 := RX0) (T := TX0) (N := 13) rfl inX0w tyX0_ok nmX0 (by decide) rfl rfl rfl rfl rfl (tyX0_ok 10 (by decide)) (fun _ => ⟨rfl, rfl⟩) rfl wd_221 d rfl) <|
  an_kd (fun d => an_lift (fun live => ak_aload_n d rfl rfl)) <|
  an_kd (fun d => an_lift (fun live => ak_bipush d (by decide +kernel) rfl)) <|
  an_kd (fun d => nk_newa (t := 0) (len := 9) (atype := .int) (ty := .int) rfl (fun _ => rfl) (fun _ z => by cases z) (fun _ => rfl) wd_140 (by decide) d rfl) <|
  an_kd (fun d => nk_putFR (C := RX0) (C2 := RX0) (T := TX0) (N := 13) rfl inX0w tyX0_ok nmX0 (by decide) rfl rfl rfl rfl rfl (tyX0_ok 11 (by decide)) (fun _ => ⟨rfl, rfl⟩) rfl wd_224 d rfl) <|
  an_kd (fun d => an_lift (fun live => ak_aload_n d rfl rfl)) <|
  an_kd (fun d => an_lift (fun live => ak_getR (C := RX0) (T := TX0) (N := 13) rfl inX0w (by decide) rfl rfl rfl wd_196 d rfl)) <|
  an_kd (fun d => an_lift (fun live => ak_sipush d (by decide +kernel) rfl)) <|
  an_kd (fun d => an_lift (fun live => ak_callSO metJ7_fill_53178 hy_J7_fill_53178 (am_w4 wd_162 wd_103 wd_63 wd_104) (by decide) d rfl)) <|
  an_kd (fun d => an_lift (fun live => ak_iconst d (by decide +kernel) rfl)) <|
  an_kd (fun d => an_lift (fun live => ak_istore_n d rfl rfl)) <|
  an_kd (fun d => an_lift (fun live => ak_iload_n d rfl rfl)) <|
  an_kd (fun d => an_lift (fun live => ak_iconst d (by decide +kernel) rfl)) <|
  an_kd (fun d => an_lift (fun live => ak_icmp_ge d (by decide +kernel) rfl)) <|
  an_kd (fun d => an_lift (fun live => ak_aload_n d rfl rfl)) <|
  an_kd (fun d => an_lift (fun live => ak_getR (C := RX0) (T := TX0) (N := 13) rfl inX0w (by decide) rfl rfl rfl wd_213 d rfl)) <|
  an_kd (fun d => an_lift (fun live => ak_iload_n d rfl rfl)) <|
  an_kd (fun d => nk_new (C := RX5) (T := TX5) (N := 7) (ty := tyX5) rfl inX5w tyX5_ok rfl zX5 (am_w3 wd_160 wd_163 wd_65) d rfl) <|
  an_kd (fun d => an_lift (fun live => ak_dup d rfl)) <|
  an_kd (fun d => nk_callIN (host := "LearnLoans") metX5_init rfl hy_X5_init (by decide +kernel) (am_w3 wd_65 wd_165 wd_166) (by decide) d rfl) <|
  an_kd (fun d => nk_astR (t := 3) (ci := 5) (r0 := (RX5, TX5, 7)) (fun _ => rfl) rfl rfl d rfl) <|
  an_kd (fun d => an_lift (fun live => ak_iinc d (by decide +kernel) rfl)) <|
  an_kd (fun d => an_lift (fun live => ak_goto d (by decide +kernel))) <|
  an_kd (fun d => an_lift (fun live => ak_iconst d (by decide +kernel) rfl)) <|
  an_kd (fun d => an_lift (fun live => ak_istore_n d rfl rfl)) <|
  an_kd (fun d => an_lift (fun live => ak_iload_n d rfl rfl)) <|
  an_kd (fun d => an_lift (fun live => ak_iconst d (by decide +kernel) rfl)) <|
  an_kd (fun d => an_lift (fun live => ak_icmp_ge d (by decide +kernel) rfl)) <|
  an_kd (fun d => an_lift (fun live => ak_aload_n d rfl rfl)) <|
  an_kd (fun d => an_lift (fun live => ak_getR (C := RX0) (T := TX0) (N := 13) rfl inX0w (by decide) rfl rfl rfl wd_221 d rfl)) <|
  an_kd (fun d => an_lift (fun live => ak_iload_n d rfl rfl)) <|
  an_kd (fun d => an_lift (fun live => ak_iconst d (by decide +kernel) rfl)) <|
  an_kd (fun d => an_lift (fun live => ak_imul d rfl)) <|
  an_kd (fun d => an_lift (fun live => ak_iload_n d rfl rfl)) <|
  an_kd (fun d => an_lift (fun live => ak_iadd d rfl)) <|
  an_kd (fun d => an_lift (fun live => ak_bipush d (by decide +kernel) rfl)) <|
  an_kd (fun d => an_lift (fun live => ak_iast (t := 0) (fun _ => rfl) rfl d rfl)) <|
  an_kd (fun d => an_lift (fun live => ak_iinc d (by decide +kernel) rfl)) <|
  an_kd (fun d => an_lift (fun live => ak_goto d (by decide +kernel))) <|
  an_kd (fun d => nk_retV d) <| an_kdn
def eX0 (b : Nat) (E : am_E) : am_E := an_rE (eX5 (b + 19 + 3 * 4) (an_bE (an_rE (eX5 (b + 19 + 3 * 3) (an_bE (an_rE (eX5 (b + 19 + 3 * 2) (an_bE (an_rE (eX5 (b + 19 + 3 * 1) (an_bE (an_rE (eX5 (b + 19 + 3 * 0) (an_bE (an_rE (an_bE (an_rE (an_bE (an_rE (an_bE (an_rE (an_rE (an_bE (an_bE (an_rE (an_bE (an_rE (an_bE (an_rE (an_rE (an_bE (an_bE (an_rE (an_rE (an_bE (an_bE (an_rE (an_rE (an_bE (an_bE (an_rE (an_bE (an_rE (an_bE (an_rE (eX2 (b + 1) (an_bE (E) (b + 1))) (b) 0 (b + 1)) (b + 9)) (b) 1 (b + 9)) (b + 10)) (b) 2 (b + 10)) (b + 11)) (b + 12)) (b + 11) 0 (b + 12)) (b) 3 (b + 11)) (b + 13)) (b + 14)) (b + 13) 0 (b + 14)) (b) 4 (b + 13)) (b + 15)) (b + 16)) (b + 15) 0 (b + 16)) (b) 5 (b + 15)) (b + 17)) (b) 6 (b + 17)) (b + 18)) (b) 7 (b + 18)) (b + 34)) (b + 35)) (b + 34) 0 (b + 35)) (b) 8 (b + 34)) (b + 36)) (b) 9 (b + 36)) (b + 37)) (b) 10 (b + 37)) (b + 38)) (b) 11 (b + 38)) (b + 19 + 3 * 0))) (b + 18) 0 (b + 19 + 3 * 0)) (b + 19 + 3 * 1))) (b + 18) 1 (b + 19 + 3 * 1)) (b + 19 + 3 * 2))) (b + 18) 2 (b + 19 + 3 * 2)) (b + 19 + 3 * 3))) (b + 18) 3 (b + 19 + 3 * 3)) (b + 19 + 3 * 4))) (b + 18) 4 (b + 19 + 3 * 4)
def mX0 (b : Nat) (M : am_M) : am_M := am_wI (am_wI (am_wI (am_wI (mX5 (b + 19 + 3 * 4) (an_bM (mX5 (b + 19 + 3 * 3) (an_bM (mX5 (b + 19 + 3 * 2) (an_bM (mX5 (b + 19 + 3 * 1) (an_bM (mX5 (b + 19 + 3 * 0) (an_bM (am_lay (an_bM (an_bM (an_bM (am_wI (an_bM (an_bM (an_bM (an_bM (am_wI (an_bM (an_bM (am_wI (an_bM (an_bM (am_wI (an_bM (an_bM (an_bM (an_bM (mX2 (b + 1) (an_bM (M) (b + 1))) (b + 9)) (b + 10)) (b + 11)) (b + 12)) (b + 11) 1 6) (b + 13)) (b + 14)) (b + 13) 1 8) (b + 15)) (b + 16)) (b + 15) 1 3) (b + 17)) (b + 18)) (b + 34)) (b + 35)) (b + 34) 1 3) (b + 36)) (b + 37)) (b + 38)) (b + 9) 0 ((4 : Int) - 1) 1000) (b + 19 + 3 * 0))) (b + 19 + 3 * 1))) (b + 19 + 3 * 2))) (b + 19 + 3 * 3))) (b + 19 + 3 * 4))) (b + 37) 0 10) (b + 37) 5 10) (b + 37) 10 10) (b + 37) 15 10
def TX0n (b : Nat) : an_T := fun E as M R => match as with
  | [.ref r] => am_if (Nat.beq r b && (an_t0 b && an_fc E b 38)) (R none (eX0 b E) (mX0 b M))
  | _ => False
set_option maxRecDepth 100000 in
set_option maxHeartbeats 4000000 in
theorem metX0_initn (b : Nat) : an_Met yX0_init cX0_init 2 none (2) (43) 38 5259 (TX0n b) := by
  refine an_met (own := RX0) (ini := true) (by decide +kernel) rfl (fun _ => rfl) (kX0_init b ) (koX0_init b  ) 400 (fun _ _ _ _ _ => none) (fun live as M Ret h => ?_) (fun _ _ _ _ _ _ _ _ hI => by cases hI)
  unfold TX0n at h
  split at h
  · next r =>
    refine ⟨Nat.le_of_ble_eq_true rfl, ?_⟩
    change an_wp _ _ _ _ [(0, Value.ref r)] _ _
    have hh := am_if_mp h
    clear h
    obtain ⟨hb, h⟩ := hh
    rw [Bool.and_eq_true, Bool.and_eq_true] at hb
    obtain ⟨h1, h2, h3⟩ := hb
    have h1 := Nat.eq_of_beq_eq_true h1
    subst h1
    obtain ⟨E, rfl⟩ : ∃ E, live = an_ho r 38 E := ⟨live, an_ho_of h3⟩
    clear h3
    have h2 := an_t0_of h2
    rcases h2 with rfl | rfl | rfl
    repeat' (first | apply And.intro | exact rfl | (intro hx; exact absurd hx (by decide)) | (intro hx; exact absurd (by decide) hx) | decide | intro hx | (refine Exists.intro _ (And.intro rfl ?_)))
    all_goals try first | (with_reducible change am_tI _ _) | (change Ret _ _) | (change Ret _ _ _) | (change Exists _)
    all_goals try dsimp only at *
    all_goals try (with_reducible exact absurd ‹(1000 : Int64) = 0› am_z1000)
    all_goals exact h
  · exact h.elim
def TX0_init : an_T := fun E as M R => match as with
  | [.ref n] => TX0n n E [.ref n] M R
  | _ => False
theorem metX0_init : an_Met yX0_init cX0_init 2 none 2 43 38 5259 TX0_init := by
  intro l D cA al B live as M Ret hcl hT
  unfold TX0_init at hT
  split at hT
  · next n => exact metX0_initn n l D cA al B live _ M Ret hcl hT
  · exact hT.elim
end
-- part 42.ctors.lean.txt
section
/-! births: the run, the ways, the object, the reference -/
def an_E0 : am_E := (fun _ => false, fun _ _ => none)
set_option maxRecDepth 100000 in
theorem wd_89 : Cond.methodLink "LearnLoans$Run" 3 objectInit ∈ am_ws := am_wt1 (List.mem_of_getElem? (i := 32) (by rfl)) (by decide +kernel)
set_option maxRecDepth 100000 in
theorem wd_90 : Cond.classLink "LearnLoans$Run" 9 "LearnLoans$House" ∈ am_ws := am_wt1 (List.mem_of_getElem? (i := 33) (by rfl)) (by decide +kernel)
set_option maxRecDepth 100000 in
theorem wd_91 : Cond.instantiable "LearnLoans$House" 13 ∈ am_ws := am_wt1 (List.mem_of_getElem? (i := 34) (by rfl)) (by decide +kernel)
theorem hy_X0_init : yX0_init.cls ≠ "java/lang/invoke/MethodHandle" ∧ yX0_init.cls ≠ "java/lang/invoke/VarHandle" ∧ (parseMethodDescriptor yX0_init.desc).map (fun d => d.parameters.length) = some 0 := ⟨by decide +kernel, by decide +kernel, by decide +kernel⟩
set_option maxRecDepth 100000 in
theorem wd_92 : Cond.methodLink "LearnLoans$Run" 11 yX0_init ∈ am_ws := am_wt1 (List.mem_of_getElem? (i := 35) (by rfl)) (by decide +kernel)
set_option maxRecDepth 100000 in
theorem wd_93 : Cond.instanceMethod yX0_init ∈ am_ws := am_wt1 (List.mem_of_getElem? (i := 36) (by rfl)) (by decide +kernel)
set_option maxRecDepth 100000 in
theorem wd_94 : Cond.code yX0_init cX0_init 2 none ∈ am_ws := am_wt1 (List.mem_of_getElem? (i := 37) (by rfl)) (by decide +kernel)
set_option maxRecDepth 100000 in
theorem wd_290 : Cond.arrayClass (newarray.typeOf .long) ∈ am_ws := am_wt1 (List.mem_of_getElem? (i := 233) (by rfl)) (by decide +kernel)
set_option maxRecDepth 100000 in
theorem wd_255 : Cond.classLink "LearnLoans$Run" 32 "LearnLoans$Letters" ∈ am_ws := am_wt1 (List.mem_of_getElem? (i := 198) (by rfl)) (by decide +kernel)
set_option maxRecDepth 100000 in
theorem wd_256 : Cond.instantiable "LearnLoans$Letters" 7 ∈ am_ws := am_wt1 (List.mem_of_getElem? (i := 199) (by rfl)) (by decide +kernel)
theorem hy_X1_init : yX1_init.cls ≠ "java/lang/invoke/MethodHandle" ∧ yX1_init.cls ≠ "java/lang/invoke/VarHandle" ∧ (parseMethodDescriptor yX1_init.desc).map (fun d => d.parameters.length) = some 0 := ⟨by decide +kernel, by decide +kernel, by decide +kernel⟩
set_option maxRecDepth 100000 in
theorem wd_258 : Cond.instanceMethod yX1_init ∈ am_ws := am_wt1 (List.mem_of_getElem? (i := 201) (by rfl)) (by decide +kernel)
set_option maxRecDepth 100000 in
theorem wd_259 : Cond.code yX1_init cX1_init 1 none ∈ am_ws := am_wt1 (List.mem_of_getElem? (i := 202) (by rfl)) (by decide +kernel)
def rwX4_init : List dz_r := [(0, .aload_n 0, 1), (1, .invokespecial 3, 3), (4, .aload_n 0, 1), (5, .new 9, 3), (8, .dup, 1), (9, .invokespecial 11, 3), (12, .putfield 12, 3), (15, .aload_n 0, 1), (16, .sipush 1200, 3), (19, .newarray .int, 2), (21, .putfield 18, 3), (24, .aload_n 0, 1), (25, .sipush 180, 3), (28, .newarray .long, 2), (30, .putfield 22, 3), (33, .aload_n 0, 1), (34, .bipush 30, 2), (36, .newarray .int, 2), (38, .putfield 26, 3), (41, .aload_n 0, 1), (42, .bipush 30, 2), (44, .newarray .int, 2), (46, .putfield 29, 3), (49, .aload_n 0, 1), (50, .new 32, 3), (53, .dup, 1), (54, .invokespecial 34, 3), (57, .putfield 35, 3), (60, .aload_n 0, 1), (61, .bipush 50, 2), (63, .newarray .long, 2), (65, .putfield 39, 3), (68, .return_, 1)]
theorem dzX4_init : dz cX4_init rwX4_init := dz_all 0 (by decide +kernel)
def kX4_init (Ret : an_R) : an_code := [(0, an_lf (fun live => am_aload 0 1)), (1, an_obj 64 4), (4, an_lf (fun live => am_aload 0 5)), (5, an_new 0 13 (fun L => 20) 45 6769 8), (8, an_lf (fun live => am_dup 9)), (9, an_callI 0 0 TX0_init 45 6769 38 5259 12), (12, an_putFR 4 0 15), (15, an_lf (fun live => am_aload 0 16)), (16, an_lf (fun live => am_const (.int 1200) 19)), (19, an_newa 0 1200 (fun L => 5) 45 6769 21), (21, an_putFR 4 1 24), (24, an_lf (fun live => am_aload 0 25)), (25, an_lf (fun live => am_const (.int 180) 28)), (28, an_newa 1 180 (fun L => 6) 45 6769 30), (30, an_putFR 4 2 33), (33, an_lf (fun live => am_aload 0 34)), (34, an_lf (fun live => am_const (.int 30) 36)), (36, an_newa 0 30 (fun L => 7) 45 6769 38), (38, an_putFR 4 3 41), (41, an_lf (fun live => am_aload 0 42)), (42, an_lf (fun live => am_const (.int 30) 44)), (44, an_newa 0 30 (fun L => 8) 45 6769 46), (46, an_putFR 4 4 49), (49, an_lf (fun live => am_aload 0 50)), (50, an_new 1 7 (fun L => 9) 45 6769 53), (53, an_lf (fun live => am_dup 54)), (54, an_callI 1 0 TX1_init 45 6769 0 0 57), (57, an_putFR 4 5 60), (60, an_lf (fun live => am_aload 0 61)), (61, an_lf (fun live => am_const (.int 50) 63)), (63, an_newa 1 50 (fun L => 10) 45 6769 65), (65, an_putFR 4 6 68), (68, an_retV Ret)]
theorem koX4_init (Ret : an_R) : ∀ q ∈ kX4_init Ret, an_ok RX4 cX4_init 1 none 3 64 45 6769 true (fun _ _ _ => True) Ret q.1 q.2 :=
  am_kz dzX4_init <|
  an_kd (fun d => an_lift (fun live => ak_aload_n d rfl rfl)) <|
  an_kd (fun d => nk_obj (am_w3 wd_89 wd_76 wd_77) (by decide) d rfl) <|
  an_kd (fun d => an_lift (fun live => ak_aload_n d rfl rfl)) <|
  an_kd (fun d => nk_new (C := RX0) (T := TX0) (N := 13) (ty := tyX0) rfl inX0w tyX0_ok rfl zX0 (am_w3 wd_90 wd_91 wd_61) d rfl) <|
  an_kd (fun d => an_lift (fun live => ak_dup d rfl)) <|
  an_kd (fun d => nk_callI metX0_init rfl hy_X0_init (am_w4 wd_61 wd_92 wd_93 wd_94) (by decide) d rfl) <|
  an_kd (fun d => nk_putFR (C := RX4) (C2 := RX4) (T := TX4) (N := 19) rfl inX4w tyX4_ok nmX4 (by decide) rfl rfl rfl rfl rfl (tyX4_ok 0 (by decide)) (fun _ => ⟨rfl, rfl⟩) rfl wd_291 d rfl) <|
  an_kd (fun d => an_lift (fun live => ak_aload_n d rfl rfl)) <|
  an_kd (fun d => an_lift (fun live => ak_sipush d (by decide +kernel) rfl)) <|
  an_kd (fun d => nk_newa (t := 0) (len := 1200) (atype := .int) (ty := .int) rfl (fun _ => rfl) (fun _ z => by cases z) (fun _ => rfl) wd_140 (by decide) d rfl) <|
  an_kd (fun d => nk_putFR (C := RX4) (C2 := RX4) (T := TX4) (N := 19) rfl inX4w tyX4_ok nmX4 (by decide) rfl rfl rfl rfl rfl (tyX4_ok 1 (by decide)) (fun _ => ⟨rfl, rfl⟩) rfl wd_294 d rfl) <|
  an_kd (fun d => an_lift (fun live => ak_aload_n d rfl rfl)) <|
  an_kd (fun d => an_lift (fun live => ak_sipush d (by decide +kernel) rfl)) <|
  an_kd (fun d => nk_newa (t := 1) (len := 180) (atype := .long) (ty := .long) rfl (fun _ => rfl) (fun _ z => by cases z) (fun _ => rfl) wd_290 (by decide) d rfl) <|
  an_kd (fun d => nk_putFR (C := RX4) (C2 := RX4) (T := TX4) (N := 19) rfl inX4w tyX4_ok nmX4 (by decide) rfl rfl rfl rfl rfl (tyX4_ok 2 (by decide)) (fun _ => ⟨rfl, rfl⟩) rfl wd_296 d rfl) <|
  an_kd (fun d => an_lift (fun live => ak_aload_n d rfl rfl)) <|
  an_kd (fun d => an_lift (fun live => ak_bipush d (by decide +kernel) rfl)) <|
  an_kd (fun d => nk_newa (t := 0) (len := 30) (atype := .int) (ty := .int) rfl (fun _ => rfl) (fun _ z => by cases z) (fun _ => rfl) wd_140 (by decide) d rfl) <|
  an_kd (fun d => nk_putFR (C := RX4) (C2 := RX4) (T := TX4) (N := 19) rfl inX4w tyX4_ok nmX4 (by decide) rfl rfl rfl rfl rfl (tyX4_ok 3 (by decide)) (fun _ => ⟨rfl, rfl⟩) rfl wd_299 d rfl) <|
  an_kd (fun d => an_lift (fun live => ak_aload_n d rfl rfl)) <|
  an_kd (fun d => an_lift (fun live => ak_bipush d (by decide +kernel) rfl)) <|
  an_kd (fun d => nk_newa (t := 0) (len := 30) (atype := .int) (ty := .int) rfl (fun _ => rfl) (fun _ z => by cases z) (fun _ => rfl) wd_140 (by decide) d rfl) <|
  an_kd (fun d => nk_putFR (C := RX4) (C2 := RX4) (T := TX4) (N := 19) rfl inX4w tyX4_ok nmX4 (by decide) rfl rfl rfl rfl rfl (tyX4_ok 4 (by decide)) (fun _ => ⟨rfl, rfl⟩) rfl wd_300 d rfl) <|
  an_kd (fun d => an_lift (fun live => ak_aload_n d rfl rfl)) <|
  an_kd (fun d => nk_new (C := RX1) (T := TX1) (N := 7) (ty := tyX1) rfl inX1w tyX1_ok rfl zX1 (am_w3 wd_255 wd_256 wd_66) d rfl) <|
  an_kd (fun d => an_lift (fun live => ak_dup d rfl)) <|
  an_kd (fun d => nk_callIN (host := "LearnLoans") metX1_init rfl hy_X1_init (by decide +kernel) (am_w3 wd_66 wd_258 wd_259) (by decide) d rfl) <|
  an_kd (fun d => nk_putFR (C := RX4) (C2 := RX4) (T := TX4) (N := 19) rfl inX4w tyX4_ok nmX4 (by decide) rfl rfl rfl rfl rfl (tyX4_ok 5 (by decide)) (fun _ => ⟨rfl, rfl⟩) rfl wd_301 d rfl) <|
  an_kd (fun d => an_lift (fun live => ak_aload_n d rfl rfl)) <|
  an_kd (fun d => an_lift (fun live => ak_bipush d (by decide +kernel) rfl)) <|
  an_kd (fun d => nk_newa (t := 1) (len := 50) (atype := .long) (ty := .long) rfl (fun _ => rfl) (fun _ z => by cases z) (fun _ => rfl) wd_290 (by decide) d rfl) <|
  an_kd (fun d => nk_putFR (C := RX4) (C2 := RX4) (T := TX4) (N := 19) rfl inX4w tyX4_ok nmX4 (by decide) rfl rfl rfl rfl rfl (tyX4_ok 6 (by decide)) (fun _ => ⟨rfl, rfl⟩) rfl wd_302 d rfl) <|
  an_kd (fun d => nk_retV d) <| an_kdn
def eX4 (E : am_E) : am_E := an_rE (an_bE (an_rE (an_bE (an_rE (an_bE (an_rE (an_bE (an_rE (an_bE (an_rE (an_bE (an_rE (eX0 20 (an_bE (E) 20)) 4 0 20) 5) 4 1 5) 6) 4 2 6) 7) 4 3 7) 8) 4 4 8) 9) 4 5 9) 10) 4 6 10
def mX4 (M : am_M) : am_M := an_bM (an_bM (an_bM (an_bM (an_bM (an_bM (mX0 20 (an_bM (M) 20)) 5) 6) 7) 8) 9) 10
def TX4_init : an_T := fun E as M R => match as with
  | [.ref r] => r = 4 ∧ E = an_bE (an_bE (an_bE an_E0 0) 2) 4 ∧ R none (eX4 (an_bE (an_bE (an_bE an_E0 0) 2) 4)) (mX4 M)
  | _ => False
set_option maxRecDepth 100000 in
set_option maxHeartbeats 4000000 in
theorem metX4_init : an_Met yX4_init cX4_init 1 none (3) (64) 45 6769 TX4_init := by
  refine an_met (own := RX4) (ini := true) (by decide +kernel) rfl (fun _ => rfl) kX4_init koX4_init 200 (fun _ _ _ _ _ => none) (fun live as M Ret h => ?_) (fun _ _ _ _ _ _ _ _ hI => by cases hI)
  unfold TX4_init at h
  split at h
  · next r =>
    refine ⟨Nat.le_of_ble_eq_true rfl, ?_⟩
    change an_wp _ _ _ _ [(0, Value.ref r)] _ _
    obtain ⟨rfl, rfl, h⟩ := h
    repeat' (first | apply And.intro | exact rfl | (intro hx; exact absurd hx (by decide)) | (intro hx; exact absurd (by decide) hx) | decide | intro hx | (refine Exists.intro _ (And.intro rfl ?_)))
    all_goals try first | (with_reducible change am_tI _ _) | (change Ret _ _) | (change Ret _ _ _) | (change Exists _)
    all_goals try dsimp only at *
    all_goals try (with_reducible exact absurd ‹(1000 : Int64) = 0› am_z1000)
    all_goals exact h
  · exact h.elim
set_option maxRecDepth 100000 in
theorem wd_83 : Cond.methodLink "LearnLoans$Ways" 3 objectInit ∈ am_ws := am_wt1 (List.mem_of_getElem? (i := 26) (by rfl)) (by decide +kernel)
set_option maxRecDepth 100000 in
theorem wd_84 : Cond.classLink "LearnLoans$Ways" 9 "LearnLoans$Run" ∈ am_ws := am_wt1 (List.mem_of_getElem? (i := 27) (by rfl)) (by decide +kernel)
set_option maxRecDepth 100000 in
theorem wd_85 : Cond.instantiable "LearnLoans$Run" 19 ∈ am_ws := am_wt1 (List.mem_of_getElem? (i := 28) (by rfl)) (by decide +kernel)
theorem hy_X4_init : yX4_init.cls ≠ "java/lang/invoke/MethodHandle" ∧ yX4_init.cls ≠ "java/lang/invoke/VarHandle" ∧ (parseMethodDescriptor yX4_init.desc).map (fun d => d.parameters.length) = some 0 := ⟨by decide +kernel, by decide +kernel, by decide +kernel⟩
set_option maxRecDepth 100000 in
theorem wd_87 : Cond.instanceMethod yX4_init ∈ am_ws := am_wt1 (List.mem_of_getElem? (i := 30) (by rfl)) (by decide +kernel)
set_option maxRecDepth 100000 in
theorem wd_88 : Cond.code yX4_init cX4_init 1 none ∈ am_ws := am_wt1 (List.mem_of_getElem? (i := 31) (by rfl)) (by decide +kernel)
def rwX6_init : List dz_r := [(0, .aload_n 0, 1), (1, .invokespecial 3, 3), (4, .aload_n 0, 1), (5, .new 9, 3), (8, .dup, 1), (9, .invokespecial 11, 3), (12, .putfield 12, 3), (15, .aload_n 0, 1), (16, .sipush 150, 3), (19, .newarray .long, 2), (21, .putfield 18, 3), (24, .return_, 1)]
theorem dzX6_init : dz cX6_init rwX6_init := dz_all 0 (by decide +kernel)
def kX6_init (Ret : an_R) : an_code := [(0, an_lf (fun live => am_aload 0 1)), (1, an_obj 84 4), (4, an_lf (fun live => am_aload 0 5)), (5, an_new 4 19 (fun L => 4) 47 6938 8), (8, an_lf (fun live => am_dup 9)), (9, an_callI 4 0 TX4_init 47 6938 45 6769 12), (12, an_putFR 6 0 15), (15, an_lf (fun live => am_aload 0 16)), (16, an_lf (fun live => am_const (.int 150) 19)), (19, an_newa 1 150 (fun L => 3) 47 6938 21), (21, an_putFR 6 1 24), (24, an_retV Ret)]
theorem koX6_init (Ret : an_R) : ∀ q ∈ kX6_init Ret, an_ok RX6 cX6_init 1 none 4 84 47 6938 true (fun _ _ _ => True) Ret q.1 q.2 :=
  am_kz dzX6_init <|
  an_kd (fun d => an_lift (fun live => ak_aload_n d rfl rfl)) <|
  an_kd (fun d => nk_obj (am_w3 wd_83 wd_76 wd_77) (by decide) d rfl) <|
  an_kd (fun d => an_lift (fun live => ak_aload_n d rfl rfl)) <|
  an_kd (fun d => nk_new (C := RX4) (T := TX4) (N := 19) (ty := tyX4) rfl inX4w tyX4_ok rfl zX4 (am_w3 wd_84 wd_85 wd_60) d rfl) <|
  an_kd (fun d => an_lift (fun live => ak_dup d rfl)) <|
  an_kd (fun d => nk_callIN (host := "LearnLoans") metX4_init rfl hy_X4_init (by decide +kernel) (am_w3 wd_60 wd_87 wd_88) (by decide) d rfl) <|
  an_kd (fun d => nk_putFR (C := RX6) (C2 := RX6) (T := TX6) (N := 9) rfl inX6w tyX6_ok nmX6 (by decide) rfl rfl rfl rfl rfl (tyX6_ok 0 (by decide)) (fun _ => ⟨rfl, rfl⟩) rfl wd_355 d rfl) <|
  an_kd (fun d => an_lift (fun live => ak_aload_n d rfl rfl)) <|
  an_kd (fun d => an_lift (fun live => ak_sipush d (by decide +kernel) rfl)) <|
  an_kd (fun d => nk_newa (t := 1) (len := 150) (atype := .long) (ty := .long) rfl (fun _ => rfl) (fun _ z => by cases z) (fun _ => rfl) wd_290 (by decide) d rfl) <|
  an_kd (fun d => nk_putFR (C := RX6) (C2 := RX6) (T := TX6) (N := 9) rfl inX6w tyX6_ok nmX6 (by decide) rfl rfl rfl rfl rfl (tyX6_ok 1 (by decide)) (fun _ => ⟨rfl, rfl⟩) rfl wd_357 d rfl) <|
  an_kd (fun d => nk_retV d) <| an_kdn
def eX6 (E : am_E) : am_E := an_rE (an_bE (an_rE (eX4 (an_bE (E) 4)) 2 0 4) 3) 2 1 3
def mX6 (M : am_M) : am_M := an_bM (mX4 (an_bM (M) 4)) 3
def TX6_init : an_T := fun E as M R => match as with
  | [.ref r] => r = 2 ∧ E = an_bE (an_bE an_E0 0) 2 ∧ R none (eX6 (an_bE (an_bE an_E0 0) 2)) (mX6 M)
  | _ => False
set_option maxRecDepth 100000 in
set_option maxHeartbeats 4000000 in
theorem metX6_init : an_Met yX6_init cX6_init 1 none (4) (84) 47 6938 TX6_init := by
  refine an_met (own := RX6) (ini := true) (by decide +kernel) rfl (fun _ => rfl) kX6_init koX6_init 200 (fun _ _ _ _ _ => none) (fun live as M Ret h => ?_) (fun _ _ _ _ _ _ _ _ hI => by cases hI)
  unfold TX6_init at h
  split at h
  · next r =>
    refine ⟨Nat.le_of_ble_eq_true rfl, ?_⟩
    change an_wp _ _ _ _ [(0, Value.ref r)] _ _
    obtain ⟨rfl, rfl, h⟩ := h
    repeat' (first | apply And.intro | exact rfl | (intro hx; exact absurd hx (by decide)) | (intro hx; exact absurd (by decide) hx) | decide | intro hx | (refine Exists.intro _ (And.intro rfl ?_)))
    all_goals try first | (with_reducible change am_tI _ _) | (change Ret _ _) | (change Ret _ _ _) | (change Exists _)
    all_goals try dsimp only at *
    all_goals try (with_reducible exact absurd ‹(1000 : Int64) = 0› am_z1000)
    all_goals exact h
  · exact h.elim
set_option maxRecDepth 100000 in
theorem wd_75 : Cond.methodLink "LearnLoans" 3 objectInit ∈ am_ws := am_wt1 (List.mem_of_getElem? (i := 18) (by rfl)) (by decide +kernel)
set_option maxRecDepth 100000 in
theorem wd_78 : Cond.classLink "LearnLoans" 9 "LearnLoans$Ways" ∈ am_ws := am_wt1 (List.mem_of_getElem? (i := 21) (by rfl)) (by decide +kernel)
set_option maxRecDepth 100000 in
theorem wd_79 : Cond.instantiable "LearnLoans$Ways" 9 ∈ am_ws := am_wt1 (List.mem_of_getElem? (i := 22) (by rfl)) (by decide +kernel)
theorem hy_X6_init : yX6_init.cls ≠ "java/lang/invoke/MethodHandle" ∧ yX6_init.cls ≠ "java/lang/invoke/VarHandle" ∧ (parseMethodDescriptor yX6_init.desc).map (fun d => d.parameters.length) = some 0 := ⟨by decide +kernel, by decide +kernel, by decide +kernel⟩
set_option maxRecDepth 100000 in
theorem wd_81 : Cond.instanceMethod yX6_init ∈ am_ws := am_wt1 (List.mem_of_getElem? (i := 24) (by rfl)) (by decide +kernel)
set_option maxRecDepth 100000 in
theorem wd_82 : Cond.code yX6_init cX6_init 1 none ∈ am_ws := am_wt1 (List.mem_of_getElem? (i := 25) (by rfl)) (by decide +kernel)
set_option maxRecDepth 100000 in
theorem wd_356 : Cond.fieldLink "LearnLoans" 16 "LearnLoans$Ways" "run" "LLearnLoans$Run;" ∈ am_ws := am_wt2 (List.mem_of_getElem? (i := 59) (by rfl)) (by decide +kernel)
set_option maxRecDepth 100000 in
theorem wd_292 : Cond.fieldLink "LearnLoans" 21 "LearnLoans$Run" "house" "LLearnLoans$House;" ∈ am_ws := am_wt1 (List.mem_of_getElem? (i := 235) (by rfl)) (by decide +kernel)
set_option maxRecDepth 100000 in
theorem wd_388 : Cond.classLink "LearnLoans" 28 "LearnLoans$House" ∈ am_ws := am_wt2 (List.mem_of_getElem? (i := 91) (by rfl)) (by decide +kernel)
set_option maxRecDepth 100000 in
theorem wd_391 : Cond.fieldLink "LearnLoans" 30 "LearnLoans" "images" "[LLearnLoans$House;" ∈ am_ws := am_wt2 (List.mem_of_getElem? (i := 94) (by rfl)) (by decide +kernel)
def rwX7_init : List dz_r := [(0, .aload_n 0, 1), (1, .invokespecial 3, 3), (4, .aload_n 0, 1), (5, .new 9, 3), (8, .dup, 1), (9, .invokespecial 11, 3), (12, .putfield 12, 3), (15, .aload_n 0, 1), (16, .aload_n 0, 1), (17, .getfield 12, 3), (20, .getfield 16, 3), (23, .putfield 20, 3), (26, .aload_n 0, 1), (27, .aload_n 0, 1), (28, .getfield 20, 3), (31, .getfield 21, 3), (34, .putfield 27, 3), (37, .aload_n 0, 1), (38, .iconst 2, 1), (39, .anewarray 28, 3), (42, .putfield 30, 3), (45, .return_, 1)]
theorem dzX7_init : dz cX7_init rwX7_init := dz_all 0 (by decide +kernel)
def kX7_init (Ret : an_R) : an_code := [(0, an_lf (fun live => am_aload 0 1)), (1, an_obj 104 4), (4, an_lf (fun live => am_aload 0 5)), (5, an_new 6 9 (fun L => 2) 49 6949 8), (8, an_lf (fun live => am_dup 9)), (9, an_callI 6 0 TX6_init 49 6949 47 6938 12), (12, an_putFR 7 3 15), (15, an_lf (fun live => am_aload 0 16)), (16, an_lf (fun live => am_aload 0 17)), (17, an_lf (fun live => am_getR live 7 3 20)), (20, an_lf (fun live => am_getR live 6 0 23)), (23, an_putFR 7 2 26), (26, an_lf (fun live => am_aload 0 27)), (27, an_lf (fun live => am_aload 0 28)), (28, an_lf (fun live => am_getR live 7 2 31)), (31, an_lf (fun live => am_getR live 4 0 34)), (34, an_putFR 7 0 37), (37, an_lf (fun live => am_aload 0 38)), (38, an_lf (fun live => am_const (.int 2) 39)), (39, an_newa 4 2 (fun L => 1) 49 6949 42), (42, an_putFR 7 1 45), (45, an_retV Ret)]
theorem koX7_init (Ret : an_R) : ∀ q ∈ kX7_init Ret, an_ok RX7 cX7_init 1 none 5 104 49 6949 true (fun _ _ _ => True) Ret q.1 q.2 :=
  am_kz dzX7_init <|
  an_kd (fun d => an_lift (fun live => ak_aload_n d rfl rfl)) <|
  an_kd (fun d => nk_obj (am_w3 wd_75 wd_76 wd_77) (by decide) d rfl) <|
  an_kd (fun d => an_lift (fun live => ak_aload_n d rfl rfl)) <|
  an_kd (fun d => nk_new (C := RX6) (T := TX6) (N := 9) (ty := tyX6) rfl inX6w tyX6_ok rfl zX6 (am_w3 wd_78 wd_79 wd_59) d rfl) <|
  an_kd (fun d => an_lift (fun live => ak_dup d rfl)) <|
  an_kd (fun d => nk_callIN (host := "LearnLoans") metX6_init rfl hy_X6_init (by decide +kernel) (am_w3 wd_59 wd_81 wd_82) (by decide) d rfl) <|
  an_kd (fun d => nk_putFR (C := RX7) (C2 := RX7) (T := TX7) (N := 4) rfl inX7w tyX7_ok nmX7 (by decide) rfl rfl rfl rfl rfl (tyX7_ok 3 (by decide)) (fun _ => ⟨rfl, rfl⟩) rfl wd_393 d rfl) <|
  an_kd (fun d => an_lift (fun live => ak_aload_n d rfl rfl)) <|
  an_kd (fun d => an_lift (fun live => ak_aload_n d rfl rfl)) <|
  an_kd (fun d => an_lift (fun live => ak_getR (C := RX7) (T := TX7) (N := 4) rfl inX7w (by decide) rfl rfl rfl wd_393 d rfl)) <|
  an_kd (fun d => an_lift (fun live => ak_getR (C := RX6) (T := TX6) (N := 9) rfl inX6w (by decide) rfl rfl rfl wd_356 d rfl)) <|
  an_kd (fun d => nk_putFR (C := RX7) (C2 := RX7) (T := TX7) (N := 4) rfl inX7w tyX7_ok nmX7 (by decide) rfl rfl rfl rfl rfl (tyX7_ok 2 (by decide)) (fun _ => ⟨rfl, rfl⟩) rfl wd_392 d rfl) <|
  an_kd (fun d => an_lift (fun live => ak_aload_n d rfl rfl)) <|
  an_kd (fun d => an_lift (fun live => ak_aload_n d rfl rfl)) <|
  an_kd (fun d => an_lift (fun live => ak_getR (C := RX7) (T := TX7) (N := 4) rfl inX7w (by decide) rfl rfl rfl wd_392 d rfl)) <|
  an_kd (fun d => an_lift (fun live => ak_getR (C := RX4) (T := TX4) (N := 19) rfl inX4w (by decide) rfl rfl rfl wd_292 d rfl)) <|
  an_kd (fun d => nk_putFR (C := RX7) (C2 := RX7) (T := TX7) (N := 4) rfl inX7w tyX7_ok nmX7 (by decide) rfl rfl rfl rfl rfl (tyX7_ok 0 (by decide)) (fun _ => ⟨rfl, rfl⟩) rfl wd_390 d rfl) <|
  an_kd (fun d => an_lift (fun live => ak_aload_n d rfl rfl)) <|
  an_kd (fun d => an_lift (fun live => ak_iconst d (by decide +kernel) rfl)) <|
  an_kd (fun d => nk_newq (t := 4) (len := 2) (C := "LearnLoans$House") (fun _ => rfl) rfl (by decide +kernel) wd_388 d rfl) <|
  an_kd (fun d => nk_putFR (C := RX7) (C2 := RX7) (T := TX7) (N := 4) rfl inX7w tyX7_ok nmX7 (by decide) rfl rfl rfl rfl rfl (tyX7_ok 1 (by decide)) (fun _ => ⟨rfl, rfl⟩) rfl wd_391 d rfl) <|
  an_kd (fun d => nk_retV d) <| an_kdn
def eX7 (E : am_E) : am_E := an_rE (an_bE (an_rE (an_rE (an_rE (eX6 (an_bE (E) 2)) 0 3 2) 0 2 4) 0 0 20) 1) 0 1 1
def mX7 (M : am_M) : am_M := an_bM (mX6 (an_bM (M) 2)) 1
def TX7_init : an_T := fun E as M R => match as with
  | [.ref r] => r = 0 ∧ E = an_bE an_E0 0 ∧ R none (eX7 (an_bE an_E0 0)) (mX7 M)
  | _ => False
set_option maxRecDepth 100000 in
set_option maxHeartbeats 4000000 in
theorem metX7_init : an_Met yX7_init cX7_init 1 none (5) (104) 49 6949 TX7_init := by
  refine an_met (own := RX7) (ini := true) (by decide +kernel) rfl (fun _ => rfl) kX7_init koX7_init 200 (fun _ _ _ _ _ => none) (fun live as M Ret h => ?_) (fun _ _ _ _ _ _ _ _ hI => by cases hI)
  unfold TX7_init at h
  split at h
  · next r =>
    refine ⟨Nat.le_of_ble_eq_true rfl, ?_⟩
    change an_wp _ _ _ _ [(0, Value.ref r)] _ _
    obtain ⟨rfl, rfl, h⟩ := h
    repeat' (first | apply And.intro | exact rfl | (intro hx; exact absurd hx (by decide)) | (intro hx; exact absurd (by decide) hx) | decide | intro hx | (refine Exists.intro _ (And.intro rfl ?_)))
    all_goals try first | (with_reducible change am_tI _ _) | (change Ret _ _) | (change Ret _ _ _) | (change Exists _)
    all_goals try dsimp only at *
    all_goals try (with_reducible exact absurd ‹(1000 : Int64) = 0› am_z1000)
    all_goals exact h
  · exact h.elim
set_option maxRecDepth 100000 in
theorem wd_894 : Cond.methodLink "LearnLoansModel" 1 objectInit ∈ am_ws := am_wt4 (List.mem_of_getElem? (i := 117) (by rfl)) (by decide +kernel)
set_option maxRecDepth 100000 in
theorem wd_895 : Cond.fieldLink "LearnLoansModel" 7 "LearnLoansModel" "cells" "[I" ∈ am_ws := am_wt4 (List.mem_of_getElem? (i := 118) (by rfl)) (by decide +kernel)
set_option maxRecDepth 100000 in
theorem wd_896 : Cond.fieldLink "LearnLoansModel" 13 "LearnLoansModel" "images" "[I" ∈ am_ws := am_wt4 (List.mem_of_getElem? (i := 119) (by rfl)) (by decide +kernel)
set_option maxRecDepth 100000 in
theorem wd_977 : Cond.arrayClass (newarray.typeOf .boolean) ∈ am_ws := am_wt4 (List.mem_of_getElem? (i := 200) (by rfl)) (by decide +kernel)
set_option maxRecDepth 100000 in
theorem wd_897 : Cond.fieldLink "LearnLoansModel" 16 "LearnLoansModel" "hasImage" "[Z" ∈ am_ws := am_wt4 (List.mem_of_getElem? (i := 120) (by rfl)) (by decide +kernel)
set_option maxRecDepth 100000 in
theorem wd_904 : Cond.fieldLink "LearnLoansModel" 20 "LearnLoansModel" "waits" "[I" ∈ am_ws := am_wt4 (List.mem_of_getElem? (i := 127) (by rfl)) (by decide +kernel)
set_option maxRecDepth 100000 in
theorem wd_905 : Cond.fieldLink "LearnLoansModel" 23 "LearnLoansModel" "worked" "[J" ∈ am_ws := am_wt4 (List.mem_of_getElem? (i := 128) (by rfl)) (by decide +kernel)
set_option maxRecDepth 100000 in
theorem wd_908 : Cond.fieldLink "LearnLoansModel" 27 "LearnLoansModel" "facts" "[J" ∈ am_ws := am_wt4 (List.mem_of_getElem? (i := 131) (by rfl)) (by decide +kernel)
set_option maxRecDepth 100000 in
theorem wd_910 : Cond.fieldLink "LearnLoansModel" 30 "LearnLoansModel" "owed" "[J" ∈ am_ws := am_wt4 (List.mem_of_getElem? (i := 133) (by rfl)) (by decide +kernel)
set_option maxRecDepth 100000 in
theorem wd_911 : Cond.fieldLink "LearnLoansModel" 33 "LearnLoansModel" "taken" "[J" ∈ am_ws := am_wt4 (List.mem_of_getElem? (i := 134) (by rfl)) (by decide +kernel)
set_option maxRecDepth 100000 in
theorem wd_912 : Cond.fieldLink "LearnLoansModel" 36 "LearnLoansModel" "takenAll" "[J" ∈ am_ws := am_wt4 (List.mem_of_getElem? (i := 135) (by rfl)) (by decide +kernel)
set_option maxRecDepth 100000 in
theorem wd_913 : Cond.fieldLink "LearnLoansModel" 39 "LearnLoansModel" "takenSold" "[J" ∈ am_ws := am_wt4 (List.mem_of_getElem? (i := 136) (by rfl)) (by decide +kernel)
set_option maxRecDepth 100000 in
theorem wd_914 : Cond.fieldLink "LearnLoansModel" 42 "LearnLoansModel" "struck" "[J" ∈ am_ws := am_wt4 (List.mem_of_getElem? (i := 137) (by rfl)) (by decide +kernel)
set_option maxRecDepth 100000 in
theorem wd_915 : Cond.fieldLink "LearnLoansModel" 45 "LearnLoansModel" "grown" "[J" ∈ am_ws := am_wt4 (List.mem_of_getElem? (i := 138) (by rfl)) (by decide +kernel)
set_option maxRecDepth 100000 in
theorem wd_916 : Cond.fieldLink "LearnLoansModel" 48 "LearnLoansModel" "isStruck" "[Z" ∈ am_ws := am_wt4 (List.mem_of_getElem? (i := 139) (by rfl)) (by decide +kernel)
set_option maxRecDepth 100000 in
theorem wd_918 : Cond.fieldLink "LearnLoansModel" 51 "LearnLoansModel" "owedThen" "[J" ∈ am_ws := am_wt4 (List.mem_of_getElem? (i := 141) (by rfl)) (by decide +kernel)
set_option maxRecDepth 100000 in
theorem wd_919 : Cond.fieldLink "LearnLoansModel" 54 "LearnLoansModel" "struckThen" "[Z" ∈ am_ws := am_wt4 (List.mem_of_getElem? (i := 142) (by rfl)) (by decide +kernel)
set_option maxRecDepth 100000 in
theorem wd_898 : Cond.fieldLink "LearnLoansModel" 57 "LearnLoansModel" "tryPlan" "I" ∈ am_ws := am_wt4 (List.mem_of_getElem? (i := 121) (by rfl)) (by decide +kernel)
set_option maxRecDepth 100000 in
theorem wd_902 : Cond.fieldLink "LearnLoansModel" 61 "LearnLoansModel" "leadPlan" "I" ∈ am_ws := am_wt4 (List.mem_of_getElem? (i := 125) (by rfl)) (by decide +kernel)
def rwX8_init : List dz_r := [(0, .aload_n 0, 1), (1, .invokespecial 1, 3), (4, .aload_n 0, 1), (5, .sipush 3760, 3), (8, .newarray .int, 2), (10, .putfield 7, 3), (13, .aload_n 0, 1), (14, .sipush 7520, 3), (17, .newarray .int, 2), (19, .putfield 13, 3), (22, .aload_n 0, 1), (23, .iconst 2, 1), (24, .newarray .boolean, 2), (26, .putfield 16, 3), (29, .aload_n 0, 1), (30, .bipush 120, 2), (32, .newarray .int, 2), (34, .putfield 20, 3), (37, .aload_n 0, 1), (38, .bipush 120, 2), (40, .newarray .long, 2), (42, .putfield 23, 3), (45, .aload_n 0, 1), (46, .bipush 7, 2), (48, .newarray .long, 2), (50, .putfield 27, 3), (53, .aload_n 0, 1), (54, .bipush 30, 2), (56, .newarray .long, 2), (58, .putfield 30, 3), (61, .aload_n 0, 1), (62, .bipush 30, 2), (64, .newarray .long, 2), (66, .putfield 33, 3), (69, .aload_n 0, 1), (70, .bipush 30, 2), (72, .newarray .long, 2), (74, .putfield 36, 3), (77, .aload_n 0, 1), (78, .bipush 30, 2), (80, .newarray .long, 2), (82, .putfield 39, 3), (85, .aload_n 0, 1), (86, .bipush 30, 2), (88, .newarray .long, 2), (90, .putfield 42, 3), (93, .aload_n 0, 1), (94, .bipush 30, 2), (96, .newarray .long, 2), (98, .putfield 45, 3), (101, .aload_n 0, 1), (102, .bipush 30, 2), (104, .newarray .boolean, 2), (106, .putfield 48, 3), (109, .aload_n 0, 1), (110, .bipush 30, 2), (112, .newarray .long, 2), (114, .putfield 51, 3), (117, .aload_n 0, 1), (118, .bipush 30, 2), (120, .newarray .boolean, 2), (122, .putfield 54, 3), (125, .iconst 0, 1), (126, .istore_n 1, 1), (127, .iload_n 1, 1), (128, .bipush 12, 2), (130, .if_icmp .ge 19, 3), (133, .aload_n 0, 1), (134, .getfield 7, 3), (137, .bipush 22, 2), (139, .iload_n 1, 1), (140, .iadd, 1), (141, .iconst (-1), 1), (142, .iastore, 1), (143, .iinc 1 1, 3), (146, .goto (-19), 3), (149, .iconst 0, 1), (150, .istore_n 1, 1), (151, .iload_n 1, 1), (152, .iconst 4, 1), (153, .if_icmp .ge 22, 3), (156, .aload_n 0, 1), (157, .getfield 7, 3), (160, .sipush 514, 3), (163, .iload_n 1, 1), (164, .iadd, 1), (165, .sipush 1000, 3), (168, .iastore, 1), (169, .iinc 1 1, 3), (172, .goto (-21), 3), (175, .iconst 0, 1), (176, .istore_n 1, 1), (177, .iload_n 1, 1), (178, .sipush 480, 3), (181, .if_icmp .ge 31, 3), (184, .aload_n 0, 1), (185, .getfield 7, 3), (188, .sipush 1038, 3), (191, .iload_n 1, 1), (192, .iadd, 1), (193, .iconst (-1), 1), (194, .iastore, 1), (195, .aload_n 0, 1), (196, .getfield 7, 3), (199, .sipush 1998, 3), (202, .iload_n 1, 1), (203, .iadd, 1), (204, .iconst (-1), 1), (205, .iastore, 1), (206, .iinc 1 1, 3), (209, .goto (-32), 3), (212, .iconst 0, 1), (213, .istore_n 1, 1), (214, .iload_n 1, 1), (215, .iconst 3, 1), (216, .if_icmp .ge 25, 3), (219, .aload_n 0, 1), (220, .getfield 7, 3), (223, .sipush 3733, 3), (226, .iconst 4, 1), (227, .iload_n 1, 1), (228, .imul, 1), (229, .iadd, 1), (230, .iload_n 1, 1), (231, .iadd, 1), (232, .bipush 10, 2), (234, .iastore, 1), (235, .iinc 1 1, 3), (238, .goto (-24), 3), (241, .aload_n 0, 1), (242, .iconst (-1), 1), (243, .putfield 57, 3), (246, .aload_n 0, 1), (247, .iconst (-1), 1), (248, .putfield 61, 3), (251, .return_, 1)]
theorem dzX8_init : dz cX8_init rwX8_init := dz_all 0 (by decide +kernel)
def kX8_init (Ret : an_R) : an_code := [(0, an_lf (fun live => am_aload 0 1)), (1, an_obj 20 4), (4, an_lf (fun live => am_aload 0 5)), (5, an_lf (fun live => am_const (.int 3760) 8)), (8, an_newa 0 3760 (fun L => 201) 15 11799 10), (10, an_putFR 8 0 13), (13, an_lf (fun live => am_aload 0 14)), (14, an_lf (fun live => am_const (.int 7520) 17)), (17, an_newa 0 7520 (fun L => 202) 15 11799 19), (19, an_putFR 8 1 22), (22, an_lf (fun live => am_aload 0 23)), (23, an_lf (fun live => am_const (.int 2) 24)), (24, an_newa 2 2 (fun L => 203) 15 11799 26), (26, an_putFR 8 2 29), (29, an_lf (fun live => am_aload 0 30)), (30, an_lf (fun live => am_const (.int 120) 32)), (32, an_newa 0 120 (fun L => 204) 15 11799 34), (34, an_putFR 8 9 37), (37, an_lf (fun live => am_aload 0 38)), (38, an_lf (fun live => am_const (.int 120) 40)), (40, an_newa 1 120 (fun L => 205) 15 11799 42), (42, an_putFR 8 10 45), (45, an_lf (fun live => am_aload 0 46)), (46, an_lf (fun live => am_const (.int 7) 48)), (48, an_newa 1 7 (fun L => 206) 15 11799 50), (50, an_putFR 8 13 53), (53, an_lf (fun live => am_aload 0 54)), (54, an_lf (fun live => am_const (.int 30) 56)), (56, an_newa 1 30 (fun L => 207) 15 11799 58), (58, an_putFR 8 15 61), (61, an_lf (fun live => am_aload 0 62)), (62, an_lf (fun live => am_const (.int 30) 64)), (64, an_newa 1 30 (fun L => 208) 15 11799 66), (66, an_putFR 8 16 69), (69, an_lf (fun live => am_aload 0 70)), (70, an_lf (fun live => am_const (.int 30) 72)), (72, an_newa 1 30 (fun L => 209) 15 11799 74), (74, an_putFR 8 17 77), (77, an_lf (fun live => am_aload 0 78)), (78, an_lf (fun live => am_const (.int 30) 80)), (80, an_newa 1 30 (fun L => 210) 15 11799 82), (82, an_putFR 8 18 85), (85, an_lf (fun live => am_aload 0 86)), (86, an_lf (fun live => am_const (.int 30) 88)), (88, an_newa 1 30 (fun L => 211) 15 11799 90), (90, an_putFR 8 19 93), (93, an_lf (fun live => am_aload 0 94)), (94, an_lf (fun live => am_const (.int 30) 96)), (96, an_newa 1 30 (fun L => 212) 15 11799 98), (98, an_putFR 8 20 101), (101, an_lf (fun live => am_aload 0 102)), (102, an_lf (fun live => am_const (.int 30) 104)), (104, an_newa 2 30 (fun L => 213) 15 11799 106), (106, an_putFR 8 21 109), (109, an_lf (fun live => am_aload 0 110)), (110, an_lf (fun live => am_const (.int 30) 112)), (112, an_newa 1 30 (fun L => 214) 15 11799 114), (114, an_putFR 8 23 117), (117, an_lf (fun live => am_aload 0 118)), (118, an_lf (fun live => am_const (.int 30) 120)), (120, an_newa 2 30 (fun L => 215) 15 11799 122), (122, an_putFR 8 24 125), (125, an_lf (fun live => am_const (.int 0) 126)), (126, an_lf (fun live => am_istore 1 2 127)), (127, an_lf (fun live => am_iload 1 128)), (128, an_lf (fun live => am_const (.int 12) 130)), (130, an_lf (fun live => am_if2 (fun x y => y ≤ x) 149 133)), (133, an_lf (fun live => am_aload 0 134)), (134, an_lf (fun live => am_getR live 8 0 137)), (137, an_lf (fun live => am_const (.int 22) 139)), (139, an_lf (fun live => am_iload 1 140)), (140, an_lf (fun live => am_i2 (fun x y => x + y) 141)), (141, an_lf (fun live => am_const (.int (-1)) 142)), (142, an_lf (fun live => am_ast live 0 143)), (143, an_lf (fun live => am_iinc 1 2 1 146)), (146, an_lf (fun live => am_goto 127)), (149, an_lf (fun live => am_const (.int 0) 150)), (150, an_lf (fun live => am_istore 1 2 151)), (151, an_lf (fun live => am_iload 1 152)), (152, an_lf (fun live => am_const (.int 4) 153)), (153, an_lf (fun live => am_if2 (fun x y => y ≤ x) 175 156)), (156, an_lf (fun live => am_aload 0 157)), (157, an_lf (fun live => am_getR live 8 0 160)), (160, an_lf (fun live => am_const (.int 514) 163)), (163, an_lf (fun live => am_iload 1 164)), (164, an_lf (fun live => am_i2 (fun x y => x + y) 165)), (165, an_lf (fun live => am_const (.int 1000) 168)), (168, an_lf (fun live => am_ast live 0 169)), (169, an_lf (fun live => am_iinc 1 2 1 172)), (172, an_lf (fun live => am_goto 151)), (175, an_lf (fun live => am_const (.int 0) 176)), (176, an_lf (fun live => am_istore 1 2 177)), (177, an_lf (fun live => am_iload 1 178)), (178, an_lf (fun live => am_const (.int 480) 181)), (181, an_lf (fun live => am_if2 (fun x y => y ≤ x) 212 184)), (184, an_lf (fun live => am_aload 0 185)), (185, an_lf (fun live => am_getR live 8 0 188)), (188, an_lf (fun live => am_const (.int 1038) 191)), (191, an_lf (fun live => am_iload 1 192)), (192, an_lf (fun live => am_i2 (fun x y => x + y) 193)), (193, an_lf (fun live => am_const (.int (-1)) 194)), (194, an_lf (fun live => am_ast live 0 195)), (195, an_lf (fun live => am_aload 0 196)), (196, an_lf (fun live => am_getR live 8 0 199)), (199, an_lf (fun live => am_const (.int 1998) 202)), (202, an_lf (fun live => am_iload 1 203)), (203, an_lf (fun live => am_i2 (fun x y => x + y) 204)), (204, an_lf (fun live => am_const (.int (-1)) 205)), (205, an_lf (fun live => am_ast live 0 206)), (206, an_lf (fun live => am_iinc 1 2 1 209)), (209, an_lf (fun live => am_goto 177)), (212, an_lf (fun live => am_const (.int 0) 213)), (213, an_lf (fun live => am_istore 1 2 214)), (214, an_lf (fun live => am_iload 1 215)), (215, an_lf (fun live => am_const (.int 3) 216)), (216, an_lf (fun live => am_if2 (fun x y => y ≤ x) 241 219)), (219, an_lf (fun live => am_aload 0 220)), (220, an_lf (fun live => am_getR live 8 0 223)), (223, an_lf (fun live => am_const (.int 3733) 226)), (226, an_lf (fun live => am_const (.int 4) 227)), (227, an_lf (fun live => am_iload 1 228)), (228, an_lf (fun live => am_i2 (fun x y => x * y) 229)), (229, an_lf (fun live => am_i2 (fun x y => x + y) 230)), (230, an_lf (fun live => am_iload 1 231)), (231, an_lf (fun live => am_i2 (fun x y => x + y) 232)), (232, an_lf (fun live => am_const (.int 10) 234)), (234, an_lf (fun live => am_ast live 0 235)), (235, an_lf (fun live => am_iinc 1 2 1 238)), (238, an_lf (fun live => am_goto 214)), (241, an_lf (fun live => am_aload 0 242)), (242, an_lf (fun live => am_const (.int (-1)) 243)), (243, an_lf (fun live => am_putI live 8 3 246)), (246, an_lf (fun live => am_aload 0 247)), (247, an_lf (fun live => am_const (.int (-1)) 248)), (248, an_lf (fun live => am_putI live 8 7 251)), (251, an_retV Ret)]
theorem koX8_init (Ret : an_R) : ∀ q ∈ kX8_init Ret, an_ok RX8 cX8_init 2 none 1 20 15 11799 true (fun _ _ _ => True) Ret q.1 q.2 :=
  am_kz dzX8_init <|
  an_kd (fun d => an_lift (fun live => ak_aload_n d rfl rfl)) <|
  an_kd (fun d => nk_obj (am_w3 wd_894 wd_76 wd_77) (by decide) d rfl) <|
  an_kd (fun d => an_lift (fun live => ak_aload_n d rfl rfl)) <|
  an_kd (fun d => an_lift (fun live => ak_sipush d (by decide +kernel) rfl)) <|
  an_kd (fun d => nk_newa (t := 0) (len := 3760) (atype := .int) (ty := .int) rfl (fun _ => rfl) (fun _ z => by cases z) (fun _ => rfl) wd_140 (by decide) d rfl) <|
  an_kd (fun d => nk_putFR (C := RX8) (C2 := RX8) (T := TX8) (N := 27) rfl inX8w tyX8_ok nmX8 (by decide) rfl rfl rfl rfl rfl (tyX8_ok 0 (by decide)) (fun _ => ⟨rfl, rfl⟩) rfl wd_895 d rfl) <|
  an_kd (fun d => an_lift (fun live => ak_aload_n d rfl rfl)) <|
  an_kd (fun d => an_lift (fun live => ak_sipush d (by decide +kernel) rfl)) <|
  an_kd (fun d => nk_newa (t := 0) (len := 7520) (atype := .int) (ty := .int) rfl (fun _ => rfl) (fun _ z => by cases z) (fun _ => rfl) wd_140 (by decide) d rfl) <|
  an_kd (fun d => nk_putFR (C := RX8) (C2 := RX8) (T := TX8) (N := 27) rfl inX8w tyX8_ok nmX8 (by decide) rfl rfl rfl rfl rfl (tyX8_ok 1 (by decide)) (fun _ => ⟨rfl, rfl⟩) rfl wd_896 d rfl) <|
  an_kd (fun d => an_lift (fun live => ak_aload_n d rfl rfl)) <|
  an_kd (fun d => an_lift (fun live => ak_iconst d (by decide +kernel) rfl)) <|
  an_kd (fun d => nk_newa (t := 2) (len := 2) (atype := .boolean) (ty := .boolean) rfl (fun _ => rfl) (fun _ z => by cases z) (fun _ => rfl) wd_977 (by decide) d rfl) <|
  an_kd (fun d => nk_putFR (C := RX8) (C2 := RX8) (T := TX8) (N := 27) rfl inX8w tyX8_ok nmX8 (by decide) rfl rfl rfl rfl rfl (tyX8_ok 2 (by decide)) (fun _ => ⟨rfl, rfl⟩) rfl wd_897 d rfl) <|
  an_kd (fun d => an_lift (fun live => ak_aload_n d rfl rfl)) <|
  an_kd (fun d => an_lift (fun live => ak_bipush d (by decide +kernel) rfl)) <|
  an_kd (fun d => nk_newa (t := 0) (len := 120) (atype := .int) (ty := .int) rfl (fun _ => rfl) (fun _ z => by cases z) (fun _ => rfl) wd_140 (by decide) d rfl) <|
  an_kd (fun d => nk_putFR (C := RX8) (C2 := RX8) (T := TX8) (N := 27) rfl inX8w tyX8_ok nmX8 (by decide) rfl rfl rfl rfl rfl (tyX8_ok 9 (by decide)) (fun _ => ⟨rfl, rfl⟩) rfl wd_904 d rfl) <|
  an_kd (fun d => an_lift (fun live => ak_aload_n d rfl rfl)) <|
  an_kd (fun d => an_lift (fun live => ak_bipush d (by decide +kernel) rfl)) <|
  an_kd (fun d => nk_newa (t := 1) (len := 120) (atype := .long) (ty := .long) rfl (fun _ => rfl) (fun _ z => by cases z) (fun _ => rfl) wd_290 (by decide) d rfl) <|
  an_kd (fun d => nk_putFR (C := RX8) (C2 := RX8) (T := TX8) (N := 27) rfl inX8w tyX8_ok nmX8 (by decide) rfl rfl rfl rfl rfl (tyX8_ok 10 (by decide)) (fun _ => ⟨rfl, rfl⟩) rfl wd_905 d rfl) <|
  an_kd (fun d => an_lift (fun live => ak_aload_n d rfl rfl)) <|
  an_kd (fun d => an_lift (fun live => ak_bipush d (by decide +kernel) rfl)) <|
  an_kd (fun d => nk_newa (t := 1) (len := 7) (atype := .long) (ty := .long) rfl (fun _ => rfl) (fun _ z => by cases z) (fun _ => rfl) wd_290 (by decide) d rfl) <|
  an_kd (fun d => nk_putFR (C := RX8) (C2 := RX8) (T := TX8) (N := 27) rfl inX8w tyX8_ok nmX8 (by decide) rfl rfl rfl rfl rfl (tyX8_ok 13 (by decide)) (fun _ => ⟨rfl, rfl⟩) rfl wd_908 d rfl) <|
  an_kd (fun d => an_lift (fun live => ak_aload_n d rfl rfl)) <|
  an_kd (fun d => an_lift (fun live => ak_bipush d (by decide +kernel) rfl)) <|
  an_kd (fun d => nk_newa (t := 1) (len := 30) (atype := .long) (ty := .long) rfl (fun _ => rfl) (fun _ z => by cases z) (fun _ => rfl) wd_290 (by decide) d rfl) <|
  an_kd (fun d => nk_putFR (C := RX8) (C2 := RX8) (T := TX8) (N := 27) rfl inX8w tyX8_ok nmX8 (by decide) rfl rfl rfl rfl rfl (tyX8_ok 15 (by decide)) (fun _ => ⟨rfl, rfl⟩) rfl wd_910 d rfl) <|
  an_kd (fun d => an_lift (fun live => ak_aload_n d rfl rfl)) <|
  an_kd (fun d => an_lift (fun live => ak_bipush d (by decide +kernel) rfl)) <|
  an_kd (fun d => nk_newa (t := 1) (len := 30) (atype := .long) (ty := .long) rfl (fun _ => rfl) (fun _ z => by cases z) (fun _ => rfl) wd_290 (by decide) d rfl) <|
  an_kd (fun d => nk_putFR (C := RX8) (C2 := RX8) (T := TX8) (N := 27) rfl inX8w tyX8_ok nmX8 (by decide) rfl rfl rfl rfl rfl (tyX8_ok 16 (by decide)) (fun _ => ⟨rfl, rfl⟩) rfl wd_911 d rfl) <|
  an_kd (fun d => an_lift (fun live => ak_aload_n d rfl rfl)) <|
  an_kd (fun d => an_lift (fun live => ak_bipush d (by decide +kernel) rfl)) <|
  an_kd (fun d => nk_newa (t := 1) (len := 30) (atype := .long) (ty := .long) rfl (fun _ => rfl) (fun _ z => by cases z) (fun _ => rfl) wd_290 (by decide) d rfl) <|
  an_kd (fun d => nk_putFR (C := RX8) (C2 := RX8) (T := TX8) (N := 27) rfl inX8w tyX8_ok nmX8 (by decide) rfl rfl rfl rfl rfl (tyX8_ok 17 (by decide)) (fun _ => ⟨rfl, rfl⟩) rfl wd_912 d rfl) <|
  an_kd (fun d => an_lift (fun live => ak_aload_n d rfl rfl)) <|
  an_kd (fun d => an_lift (fun live => ak_bipush d (by decide +kernel) rfl)) <|
  an_kd (fun d => nk_newa (t := 1) (len := 30) (atype := .long) (ty := .long) rfl (fun _ => rfl) (fun _ z => by cases z) (fun _ => rfl) wd_290 (by decide) d rfl) <|
  an_kd (fun d => nk_putFR (C := RX8) (C2 := RX8) (T := TX8) (N := 27) rfl inX8w tyX8_ok nmX8 (by decide) rfl rfl rfl rfl rfl (tyX8_ok 18 (by decide)) (fun _ => ⟨rfl, rfl⟩) rfl wd_913 d rfl) <|
  an_kd (fun d => an_lift (fun live => ak_aload_n d rfl rfl)) <|
  an_kd (fun d => an_lift (fun live => ak_bipush d (by decide +kernel) rfl)) <|
  an_kd (fun d => nk_newa (t := 1) (len := 30) (atype := .long) (ty := .long) rfl (fun _ => rfl) (fun _ z => by cases z) (fun _ => rfl) wd_290 (by decide) d rfl) <|
  an_kd (fun d => nk_putFR (C := RX8) (C2 := RX8) (T := TX8) (N := 27) rfl inX8w tyX8_ok nmX8 (by decide) rfl rfl rfl rfl rfl (tyX8_ok 19 (by decide)) (fun _ => ⟨rfl, rfl⟩) rfl wd_914 d rfl) <|
  an_kd (fun d => an_lift (fun live => ak_aload_n d rfl rfl)) <|
  an_kd (fun d => an_lift (fun live => ak_bipush d (by decide +kernel) rfl)) <|
  an_kd (fun d => nk_newa (t := 1) (len := 30) (atype := .long) (ty := .long) rfl (fun _ => rfl) (fun _ z => by cases z) (fun _ => rfl) wd_290 (by decide) d rfl) <|
  an_kd (fun d => nk_putFR (C := RX8) (C2 := RX8) (T := TX8) (N := 27) rfl inX8w tyX8_ok nmX8 (by decide) rfl rfl rfl rfl rfl (tyX8_ok 20 (by decide)) (fun _ => ⟨rfl, rfl⟩) rfl wd_915 d rfl) <|
  an_kd (fun d => an_lift (fun live => ak_aload_n d rfl rfl)) <|
  an_kd (fun d => an_lift (fun live => ak_bipush d (by decide +kernel) rfl)) <|
  an_kd (fun d => nk_newa (t := 2) (len := 30) (atype := .boolean) (ty := .boolean) rfl (fun _ => rfl) (fun _ z => by cases z) (fun _ => rfl) wd_977 (by decide) d rfl) <|
  an_kd (fun d => nk_putFR (C := RX8) (C2 := RX8) (T := TX8) (N := 27) rfl inX8w tyX8_ok nmX8 (by decide) rfl rfl rfl rfl rfl (tyX8_ok 21 (by decide)) (fun _ => ⟨rfl, rfl⟩) rfl wd_916 d rfl) <|
  an_kd (fun d => an_lift (fun live => ak_aload_n d rfl rfl)) <|
  an_kd (fun d => an_lift (fun live => ak_bipush d (by decide +kernel) rfl)) <|
  an_kd (fun d => nk_newa (t := 1) (len := 30) (atype := .long) (ty := .long) rfl (fun _ => rfl) (fun _ z => by cases z) (fun _ => rfl) wd_290 (by decide) d rfl) <|
  an_kd (fun d => nk_putFR (C := RX8) (C2 := RX8) (T := TX8) (N := 27) rfl inX8w tyX8_ok nmX8 (by decide) rfl rfl rfl rfl rfl (tyX8_ok 23 (by decide)) (fun _ => ⟨rfl, rfl⟩) rfl wd_918 d rfl) <|
  an_kd (fun d => an_lift (fun live => ak_aload_n d rfl rfl)) <|
  an_kd (fun d => an_lift (fun live => ak_bipush d (by decide +kernel) rfl)) <|
  an_kd (fun d => nk_newa (t := 2) (len := 30) (atype := .boolean) (ty := .boolean) rfl (fun _ => rfl) (fun _ z => by cases z) (fun _ => rfl) wd_977 (by decide) d rfl) <|
  an_kd (fun d => nk_putFR (C := RX8) (C2 := RX8) (T := TX8) (N := 27) rfl inX8w tyX8_ok nmX8 (by decide) rfl rfl rfl rfl rfl (tyX8_ok 24 (by decide)) (fun _ => ⟨rfl, rfl⟩) rfl wd_919 d rfl) <|
  an_kd (fun d => an_lift (fun live => ak_iconst d (by decide +kernel) rfl)) <|
  an_kd (fun d => an_lift (fun live => ak_istore_n d rfl rfl)) <|
  an_kd (fun d => an_lift (fun live => ak_iload_n d rfl rfl)) <|
  an_kd (fun d => an_lift (fun live => ak_bipush d (by decide +kernel) rfl)) <|
  an_kd (fun d => an_lift (fun live => ak_icmp_ge d (by decide +kernel) rfl)) <|
  an_kd (fun d => an_lift (fun live => ak_aload_n d rfl rfl)) <|
  an_kd (fun d => an_lift (fun live => ak_getR (C := RX8) (T := TX8) (N := 27) rfl inX8w (by decide) rfl rfl rfl wd_895 d rfl)) <|
  an_kd (fun d => an_lift (fun live => ak_bipush d (by decide +kernel) rfl)) <|
  an_kd (fun d => an_lift (fun live => ak_iload_n d rfl rfl)) <|
  an_kd (fun d => an_lift (fun live => ak_iadd d rfl)) <|
  an_kd (fun d => an_lift (fun live => ak_iconst d (by decide +kernel) rfl)) <|
  an_kd (fun d => an_lift (fun live => ak_iast (t := 0) (fun _ => rfl) rfl d rfl)) <|
  an_kd (fun d => an_lift (fun live => ak_iinc d (by decide +kernel) rfl)) <|
  an_kd (fun d => an_lift (fun live => ak_goto d (by decide +kernel))) <|
  an_kd (fun d => an_lift (fun live => ak_iconst d (by decide +kernel) rfl)) <|
  an_kd (fun d => an_lift (fun live => ak_istore_n d rfl rfl)) <|
  an_kd (fun d => an_lift (fun live => ak_iload_n d rfl rfl)) <|
  an_kd (fun d => an_lift (fun live => ak_iconst d (by decide +kernel) rfl)) <|
  an_kd (fun d => an_lift (fun live => ak_icmp_ge d (by decide +kernel) rfl)) <|
  an_kd (fun d => an_lift (fun live => ak_aload_n d rfl rfl)) <|
  an_kd (fun d => an_lift (fun live => ak_getR (C := RX8) (T := TX8) (N := 27) rfl inX8w (by decide) rfl rfl rfl wd_895 d rfl)) <|
  an_kd (fun d => an_lift (fun live => ak_sipush d (by decide +kernel) rfl)) <|
  an_kd (fun d => an_lift (fun live => ak_iload_n d rfl rfl)) <|
  an_kd (fun d => an_lift (fun live => ak_iadd d rfl)) <|
  an_kd (fun d => an_lift (fun live => ak_sipush d (by decide +kernel) rfl)) <|
  an_kd (fun d => an_lift (fun live => ak_iast (t := 0) (fun _ => rfl) rfl d rfl)) <|
  an_kd (fun d => an_lift (fun live => ak_iinc d (by decide +kernel) rfl)) <|
  an_kd (fun d => an_lift (fun live => ak_goto d (by decide +kernel))) <|
  an_kd (fun d => an_lift (fun live => ak_iconst d (by decide +kernel) rfl)) <|
  an_kd (fun d => an_lift (fun live => ak_istore_n d rfl rfl)) <|
  an_kd (fun d => an_lift (fun live => ak_iload_n d rfl rfl)) <|
  an_kd (fun d => an_lift (fun live => ak_sipush d (by decide +kernel) rfl)) <|
  an_kd (fun d => an_lift (fun live => ak_icmp_ge d (by decide +kernel) rfl)) <|
  an_kd (fun d => an_lift (fun live => ak_aload_n d rfl rfl)) <|
  an_kd (fun d => an_lift (fun live => ak_getR (C := RX8) (T := TX8) (N := 27) rfl inX8w (by decide) rfl rfl rfl wd_895 d rfl)) <|
  an_kd (fun d => an_lift (fun live => ak_sipush d (by decide +kernel) rfl)) <|
  an_kd (fun d => an_lift (fun live => ak_iload_n d rfl rfl)) <|
  an_kd (fun d => an_lift (fun live => ak_iadd d rfl)) <|
  an_kd (fun d => an_lift (fun live => ak_iconst d (by decide +kernel) rfl)) <|
  an_kd (fun d => an_lift (fun live => ak_iast (t := 0) (fun _ => rfl) rfl d rfl)) <|
  an_kd (fun d => an_lift (fun live => ak_aload_n d rfl rfl)) <|
  an_kd (fun d => an_lift (fun live => ak_getR (C := RX8) (T := TX8) (N := 27) rfl inX8w (by decide) rfl rfl rfl wd_895 d rfl)) <|
  an_kd (fun d => an_lift (fun live => ak_sipush d (by decide +kernel) rfl)) <|
  an_kd (fun d => an_lift (fun live => ak_iload_n d rfl rfl)) <|
  an_kd (fun d => an_lift (fun live => ak_iadd d rfl)) <|
  an_kd (fun d => an_lift (fun live => ak_iconst d (by decide +kernel) rfl)) <|
  an_kd (fun d => an_lift (fun live => ak_iast (t := 0) (fun _ => rfl) rfl d rfl)) <|
  an_kd (fun d => an_lift (fun live => ak_iinc d (by decide +kernel) rfl)) <|
  an_kd (fun d => an_lift (fun live => ak_goto d (by decide +kernel))) <|
  an_kd (fun d => an_lift (fun live => ak_iconst d (by decide +kernel) rfl)) <|
  an_kd (fun d => an_lift (fun live => ak_istore_n d rfl rfl)) <|
  an_kd (fun d => an_lift (fun live => ak_iload_n d rfl rfl)) <|
  an_kd (fun d => an_lift (fun live => ak_iconst d (by decide +kernel) rfl)) <|
  an_kd (fun d => an_lift (fun live => ak_icmp_ge d (by decide +kernel) rfl)) <|
  an_kd (fun d => an_lift (fun live => ak_aload_n d rfl rfl)) <|
  an_kd (fun d => an_lift (fun live => ak_getR (C := RX8) (T := TX8) (N := 27) rfl inX8w (by decide) rfl rfl rfl wd_895 d rfl)) <|
  an_kd (fun d => an_lift (fun live => ak_sipush d (by decide +kernel) rfl)) <|
  an_kd (fun d => an_lift (fun live => ak_iconst d (by decide +kernel) rfl)) <|
  an_kd (fun d => an_lift (fun live => ak_iload_n d rfl rfl)) <|
  an_kd (fun d => an_lift (fun live => ak_imul d rfl)) <|
  an_kd (fun d => an_lift (fun live => ak_iadd d rfl)) <|
  an_kd (fun d => an_lift (fun live => ak_iload_n d rfl rfl)) <|
  an_kd (fun d => an_lift (fun live => ak_iadd d rfl)) <|
  an_kd (fun d => an_lift (fun live => ak_bipush d (by decide +kernel) rfl)) <|
  an_kd (fun d => an_lift (fun live => ak_iast (t := 0) (fun _ => rfl) rfl d rfl)) <|
  an_kd (fun d => an_lift (fun live => ak_iinc d (by decide +kernel) rfl)) <|
  an_kd (fun d => an_lift (fun live => ak_goto d (by decide +kernel))) <|
  an_kd (fun d => an_lift (fun live => ak_aload_n d rfl rfl)) <|
  an_kd (fun d => an_lift (fun live => ak_iconst d (by decide +kernel) rfl)) <|
  an_kd (fun d => an_lift (fun live => ak_putI (C := RX8) (T := TX8) (N := 27) rfl inX8w tyX8_ok nmX8 (by decide) rfl rfl rfl rfl (by decide +kernel) wd_898 d rfl)) <|
  an_kd (fun d => an_lift (fun live => ak_aload_n d rfl rfl)) <|
  an_kd (fun d => an_lift (fun live => ak_iconst d (by decide +kernel) rfl)) <|
  an_kd (fun d => an_lift (fun live => ak_putI (C := RX8) (T := TX8) (N := 27) rfl inX8w tyX8_ok nmX8 (by decide) rfl rfl rfl rfl (by decide +kernel) wd_902 d rfl)) <|
  an_kd (fun d => nk_retV d) <| an_kdn
def eX8 (E : am_E) : am_E := an_rE (an_bE (an_rE (an_bE (an_rE (an_bE (an_rE (an_bE (an_rE (an_bE (an_rE (an_bE (an_rE (an_bE (an_rE (an_bE (an_rE (an_bE (an_rE (an_bE (an_rE (an_bE (an_rE (an_bE (an_rE (an_bE (an_rE (an_bE (an_rE (an_bE (E) 201) 200 0 201) 202) 200 1 202) 203) 200 2 203) 204) 200 9 204) 205) 200 10 205) 206) 200 13 206) 207) 200 15 207) 208) 200 16 208) 209) 200 17 209) 210) 200 18 210) 211) 200 19 211) 212) 200 20 212) 213) 200 21 213) 214) 200 23 214) 215) 200 24 215
def mX8a (M : am_M) : am_M := am_wI (am_wI (am_wI (am_wI (am_wI (am_wI (am_wI (am_wI (am_wI (am_wI (am_wI (am_wI (am_wI (am_wI (am_wI (am_wI (an_bM (an_bM (an_bM (an_bM (an_bM (an_bM (an_bM (an_bM (an_bM (an_bM (an_bM (an_bM (an_bM (an_bM (an_bM (M) 201) 202) 203) 204) 205) 206) 207) 208) 209) 210) 211) 212) 213) 214) 215) 201 22 (-1)) 201 23 (-1)) 201 24 (-1)) 201 25 (-1)) 201 26 (-1)) 201 27 (-1)) 201 28 (-1)) 201 29 (-1)) 201 30 (-1)) 201 31 (-1)) 201 32 (-1)) 201 33 (-1)) 201 514 1000) 201 515 1000) 201 516 1000) 201 517 1000
def an_l2 (M : am_M) (j : Nat) : am_M := (fun a b => if a = 201 ∧ ((1038 ≤ b ∧ b < 1038 + j) ∨ (1998 ≤ b ∧ b < 1998 + j)) then -1 else M.1 a b, M.2)
def mX8 (M : am_M) : am_M := am_wI (am_wI (am_wI (am_wI (am_wI (an_l2 (mX8a M) 480) 201 3733 10) 201 3738 10) 201 3743 10) 200 3 (-1)) 200 7 (-1)
theorem an_l2_0 (M : am_M) : an_l2 M 0 = M := by
  refine am_Mext (fun a b => ?_) rfl
  show (if _ then _ else _) = _
  rw [if_neg (fun q => by omega)]
theorem an_l2_s (M : am_M) (j : Nat) : am_wI (am_wI (an_l2 M j) 201 (1038 + j) (-1)) 201 (1998 + j) (-1) = an_l2 M (j + 1) := by
  refine am_Mext (fun a b => ?_) rfl
  rw [am_wI_1, am_wI_1]
  show (if _ then _ else if _ then _ else if _ then _ else _) = (if _ then _ else _)
  by_cases ha : a = 201
  · subst ha
    simp only [true_and]
    by_cases h1 : b = 1998 + j
    · rw [if_pos h1, if_pos (by omega)]
    · rw [if_neg h1]
      by_cases h2 : b = 1038 + j
      · rw [if_pos h2, if_pos (by omega)]
      · rw [if_neg h2]
        by_cases h3 : (1038 ≤ b ∧ b < 1038 + j) ∨ (1998 ≤ b ∧ b < 1998 + j)
        · rw [if_pos h3, if_pos (by omega)]
        · rw [if_neg h3, if_neg (by omega)]
  · rw [if_neg (fun q => ha q.1), if_neg (fun q => ha q.1), if_neg (fun q => ha q.1), if_neg (fun q => ha q.1)]
theorem an_ofN {c j : Nat} (h : c + j < 2147483648) : (Int32.ofNat c + Int32.ofNat j).toNatClampNeg = c + j ∧ (Int32.ofNat c + Int32.ofNat j).toInt = ((c + j : Nat) : Int) := by
  have e : Int32.ofNat c + Int32.ofNat j = Int32.ofNat (c + j) := by rw [Int32.ofNat_add]
  have e2 : (Int32.ofNat (c + j)).toInt = ((c + j : Nat) : Int) := i_nat h
  rw [e]
  refine ⟨?_, e2⟩
  show (Int32.ofNat (c + j)).toInt.toNat = c + j
  omega
def TX8_init : an_T := fun E as M R => match as with
  | [.ref r] => am_if (Nat.beq r 200 && an_fc E 200 15) (R none (eX8 E) (mX8 M))
  | _ => False
def JX8_init : am_E → List Value → am_M → an_R → an_inv := fun E as M0 _ pc => match pc with
  | 177 => some ([0, 1], fun k L st X => ∃ j : Nat, j ≤ 480 ∧ L = [(0, .ref 200), (1, .int (Int32.ofNat j))] ∧ st = [] ∧ k = (480 - j, 0) ∧ X = (eX8 E, 15, 11799, an_l2 (mX8a M0) j))
  | _ => none
set_option maxRecDepth 100000 in
set_option maxHeartbeats 4000000 in
theorem metX8_init : an_Met yX8_init cX8_init 2 none (1) (20) 15 11799 TX8_init := by
  refine an_met (own := RX8) (ini := true) (by decide +kernel) rfl (fun _ => rfl) kX8_init koX8_init 400 JX8_init ?_ ?_
  · intro live as M Ret h
    unfold TX8_init at h
    split at h
    · next r =>
      refine ⟨Nat.le_of_ble_eq_true rfl, ?_⟩
      change an_wp _ _ _ _ [(0, Value.ref r)] _ _
      have hh := am_if_mp h
      clear h
      obtain ⟨hb, h⟩ := hh
      rw [Bool.and_eq_true] at hb
      obtain ⟨h1, h3⟩ := hb
      have h1 := Nat.eq_of_beq_eq_true h1
      subst h1
      obtain ⟨E, rfl⟩ : ∃ E, live = an_ho 200 15 E := ⟨live, an_ho_of h3⟩
      clear h3
      repeat' (first | apply And.intro | exact rfl | (intro hx; exact absurd hx (by decide)) | (intro hx; exact absurd (by decide) hx) | decide | intro hx | (refine Exists.intro _ (And.intro rfl ?_)))
      all_goals try first | (with_reducible change am_tI _ _) | (change Ret _ _) | (change Ret _ _ _) | (change Exists _)
      all_goals try dsimp only at *
      all_goals try (with_reducible exact absurd ‹(1000 : Int64) = 0› am_z1000)
      refine ⟨_, 0, Nat.zero_le _, rfl, rfl, rfl, ?_⟩
      rw [an_l2_0]
      rfl
    · exact h.elim
  · intro live as M0 Ret h k pc I hI L st M hi
    unfold TX8_init at h
    split at h
    · next r =>
      have hh := am_if_mp h
      clear h
      obtain ⟨hb, h⟩ := hh
      rw [Bool.and_eq_true] at hb
      obtain ⟨h1, h3⟩ := hb
      have h1 := Nat.eq_of_beq_eq_true h1
      subst h1
      obtain ⟨E, rfl⟩ : ∃ E, live = an_ho 200 15 E := ⟨live, an_ho_of h3⟩
      clear h3
      change (match pc with | 177 => _ | _ => none) = _ at hI
      split at hI
      · cases hI
        obtain ⟨j, hj, rfl, rfl, rfl, rfl⟩ := hi
        have a1 : j < 480 → am_in (1038 + Int32.ofNat j) (am_len 201) ∧ (1038 + Int32.ofNat j).toNatClampNeg = 1038 + j := fun hlt => by
          have := an_ofN (c := 1038) (j := j) (by omega)
          have l1 : (am_len 201 : Int) = 3760 := rfl
          exact ⟨⟨by rw [show (1038 : Int32) = Int32.ofNat 1038 from rfl, this.2]; omega, by rw [show (1038 : Int32) = Int32.ofNat 1038 from rfl, this.2, l1]; omega⟩, this.1⟩
        have a2 : j < 480 → am_in (1998 + Int32.ofNat j) (am_len 201) ∧ (1998 + Int32.ofNat j).toNatClampNeg = 1998 + j := fun hlt => by
          have := an_ofN (c := 1998) (j := j) (by omega)
          have l1 : (am_len 201 : Int) = 3760 := rfl
          exact ⟨⟨by rw [show (1998 : Int32) = Int32.ofNat 1998 from rfl, this.2]; omega, by rw [show (1998 : Int32) = Int32.ofNat 1998 from rfl, this.2, l1]; omega⟩, this.1⟩
        have e1 : (Int32.ofNat j).toInt = (j : Int) := i_nat (by omega)
        by_cases hlt : j < 480
        · have hn : ¬ (480 : Int32) ≤ Int32.ofNat j := by rw [i_le, e1]; simp only [Int32.reduceToInt]; omega
          have a1 := a1 hlt
          have a2 := a2 hlt
          have b1 := a1.1.1
          have b2 := a1.1.2
          have b3 := a2.1.1
          have b4 := a2.1.2
          repeat' (first | (with_reducible exact b1) | (with_reducible exact b2) | (with_reducible exact b3) | (with_reducible exact b4) | apply And.intro | exact rfl | (intro hx; with_reducible exact absurd hx hn) | intro hx | (refine Exists.intro _ (And.intro rfl ?_)))
          all_goals try first | (with_reducible change am_tI _ _) | (change Ret _ _) | (change Ret _ _ _) | (change Exists _)
          all_goals try dsimp only at *
          all_goals try (with_reducible exact absurd ‹(1000 : Int64) = 0› am_z1000)
          refine ⟨(480 - (j + 1), 0), Or.inl (by show 480 - (j + 1) < 480 - j; omega), j + 1, by omega, ?_, rfl, rfl, ?_⟩
          · rw [Int32.ofNat_add]
            rfl
          · refine congrArg (fun z => (eX8 (an_ho 200 15 E), 15, 11799, z)) ?_
            rw [a1.2, a2.2, an_l2_s]
        · have hj2 : j = 480 := by omega
          subst hj2
          repeat' (first | apply And.intro | exact rfl | (intro hx; exact absurd hx (by decide)) | (intro hx; exact absurd (by decide) hx) | decide | intro hx | (refine Exists.intro _ (And.intro rfl ?_)))
          all_goals try first | (with_reducible change am_tI _ _) | (change Ret _ _) | (change Ret _ _ _) | (change Exists _)
          all_goals try dsimp only at *
          all_goals try (with_reducible exact absurd ‹(1000 : Int64) = 0› am_z1000)
          all_goals exact h
      · cases hI
    · exact h.elim
end
