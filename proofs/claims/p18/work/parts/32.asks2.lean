/-! general: loan, book, early, best, digest -/
set_option maxRecDepth 100000 in
theorem wd_878 : Cond.constantLong "LearnLoans$People" 49 31 ∈ am_ws := am_wsi (List.mem_of_getElem? (i := 878) (by rfl)) (by decide +kernel)
theorem dX2_mixed_0 : decode cX2_mixed 0 = .ok (.iconst 0, 1) := by decide +kernel
theorem dX2_mixed_1 : decode cX2_mixed 1 = .ok (.istore_n 3, 1) := by decide +kernel
theorem dX2_mixed_2 : decode cX2_mixed 2 = .ok (.iload_n 3, 1) := by decide +kernel
theorem dX2_mixed_3 : decode cX2_mixed 3 = .ok (.aload_n 0, 1) := by decide +kernel
theorem dX2_mixed_4 : decode cX2_mixed 4 = .ok (.getfield 45, 3) := by decide +kernel
theorem dX2_mixed_7 : decode cX2_mixed 7 = .ok (.if_icmp .ge 79, 3) := by decide +kernel
theorem dX2_mixed_10 : decode cX2_mixed 10 = .ok (.iload_n 3, 1) := by decide +kernel
theorem dX2_mixed_11 : decode cX2_mixed 11 = .ok (.bipush 12, 2) := by decide +kernel
theorem dX2_mixed_13 : decode cX2_mixed 13 = .ok (.if_icmp .ge 73, 3) := by decide +kernel
theorem dX2_mixed_16 : decode cX2_mixed 16 = .ok (.ldc2_w 49, 3) := by decide +kernel
theorem dX2_mixed_19 : decode cX2_mixed 19 = .ok (.lload_n 1, 1) := by decide +kernel
theorem dX2_mixed_20 : decode cX2_mixed 20 = .ok (.lmul, 1) := by decide +kernel
theorem dX2_mixed_21 : decode cX2_mixed 21 = .ok (.aload_n 0, 1) := by decide +kernel
theorem dX2_mixed_22 : decode cX2_mixed 22 = .ok (.getfield 9, 3) := by decide +kernel
theorem dX2_mixed_25 : decode cX2_mixed 25 = .ok (.iload_n 3, 1) := by decide +kernel
theorem dX2_mixed_26 : decode cX2_mixed 26 = .ok (.iaload, 1) := by decide +kernel
theorem dX2_mixed_27 : decode cX2_mixed 27 = .ok (.i2l, 1) := by decide +kernel
theorem dX2_mixed_28 : decode cX2_mixed 28 = .ok (.ladd, 1) := by decide +kernel
theorem dX2_mixed_29 : decode cX2_mixed 29 = .ok (.lstore_n 1, 1) := by decide +kernel
theorem dX2_mixed_30 : decode cX2_mixed 30 = .ok (.ldc2_w 49, 3) := by decide +kernel
theorem dX2_mixed_33 : decode cX2_mixed 33 = .ok (.lload_n 1, 1) := by decide +kernel
theorem dX2_mixed_34 : decode cX2_mixed 34 = .ok (.lmul, 1) := by decide +kernel
theorem dX2_mixed_35 : decode cX2_mixed 35 = .ok (.aload_n 0, 1) := by decide +kernel
theorem dX2_mixed_36 : decode cX2_mixed 36 = .ok (.getfield 15, 3) := by decide +kernel
theorem dX2_mixed_39 : decode cX2_mixed 39 = .ok (.iload_n 3, 1) := by decide +kernel
theorem dX2_mixed_40 : decode cX2_mixed 40 = .ok (.iaload, 1) := by decide +kernel
theorem dX2_mixed_41 : decode cX2_mixed 41 = .ok (.i2l, 1) := by decide +kernel
theorem dX2_mixed_42 : decode cX2_mixed 42 = .ok (.ladd, 1) := by decide +kernel
theorem dX2_mixed_43 : decode cX2_mixed 43 = .ok (.lstore_n 1, 1) := by decide +kernel
theorem dX2_mixed_44 : decode cX2_mixed 44 = .ok (.iconst 0, 1) := by decide +kernel
theorem dX2_mixed_45 : decode cX2_mixed 45 = .ok (.istore 4, 2) := by decide +kernel
theorem dX2_mixed_47 : decode cX2_mixed 47 = .ok (.iload 4, 2) := by decide +kernel
theorem dX2_mixed_49 : decode cX2_mixed 49 = .ok (.bipush 40, 2) := by decide +kernel
theorem dX2_mixed_51 : decode cX2_mixed 51 = .ok (.if_icmp .ge 29, 3) := by decide +kernel
theorem dX2_mixed_54 : decode cX2_mixed 54 = .ok (.ldc2_w 49, 3) := by decide +kernel
theorem dX2_mixed_57 : decode cX2_mixed 57 = .ok (.lload_n 1, 1) := by decide +kernel
theorem dX2_mixed_58 : decode cX2_mixed 58 = .ok (.lmul, 1) := by decide +kernel
theorem dX2_mixed_59 : decode cX2_mixed 59 = .ok (.aload_n 0, 1) := by decide +kernel
theorem dX2_mixed_60 : decode cX2_mixed 60 = .ok (.getfield 18, 3) := by decide +kernel
theorem dX2_mixed_63 : decode cX2_mixed 63 = .ok (.iload_n 3, 1) := by decide +kernel
theorem dX2_mixed_64 : decode cX2_mixed 64 = .ok (.bipush 40, 2) := by decide +kernel
theorem dX2_mixed_66 : decode cX2_mixed 66 = .ok (.imul, 1) := by decide +kernel
theorem dX2_mixed_67 : decode cX2_mixed 67 = .ok (.iload 4, 2) := by decide +kernel
theorem dX2_mixed_69 : decode cX2_mixed 69 = .ok (.iadd, 1) := by decide +kernel
theorem dX2_mixed_70 : decode cX2_mixed 70 = .ok (.iaload, 1) := by decide +kernel
theorem dX2_mixed_71 : decode cX2_mixed 71 = .ok (.i2l, 1) := by decide +kernel
theorem dX2_mixed_72 : decode cX2_mixed 72 = .ok (.ladd, 1) := by decide +kernel
theorem dX2_mixed_73 : decode cX2_mixed 73 = .ok (.lstore_n 1, 1) := by decide +kernel
theorem dX2_mixed_74 : decode cX2_mixed 74 = .ok (.iinc 4 1, 3) := by decide +kernel
theorem dX2_mixed_77 : decode cX2_mixed 77 = .ok (.goto (-30), 3) := by decide +kernel
theorem dX2_mixed_80 : decode cX2_mixed 80 = .ok (.iinc 3 1, 3) := by decide +kernel
theorem dX2_mixed_83 : decode cX2_mixed 83 = .ok (.goto (-81), 3) := by decide +kernel
theorem dX2_mixed_86 : decode cX2_mixed 86 = .ok (.lload_n 1, 1) := by decide +kernel
theorem dX2_mixed_87 : decode cX2_mixed 87 = .ok (.lreturn, 1) := by decide +kernel
def kX2_mixed (live : am_E) (Ret : am_R) : am_code := [(0, am_const (.int 0) 1), (1, am_istore 3 5 2), (2, am_iload 3 3), (3, am_aload 0 4), (4, am_getI live 2 7 7), (7, am_if2 (fun x y => y ≤ x) 86 10), (10, am_iload 3 11), (11, am_const (.int 12) 13), (13, am_if2 (fun x y => y ≤ x) 86 16), (16, am_const (.long 31) 19), (19, am_lload 1 20), (20, am_l2 (fun x y => x * y) 21), (21, am_aload 0 22), (22, am_getR live 2 0 25), (25, am_iload 3 26), (26, am_ald live 0 27), (27, am_i2l 28), (28, am_l2 (fun x y => x + y) 29), (29, am_lstore 1 5 30), (30, am_const (.long 31) 33), (33, am_lload 1 34), (34, am_l2 (fun x y => x * y) 35), (35, am_aload 0 36), (36, am_getR live 2 1 39), (39, am_iload 3 40), (40, am_ald live 0 41), (41, am_i2l 42), (42, am_l2 (fun x y => x + y) 43), (43, am_lstore 1 5 44), (44, am_const (.int 0) 45), (45, am_istore 4 5 47), (47, am_iload 4 49), (49, am_const (.int 40) 51), (51, am_if2 (fun x y => y ≤ x) 80 54), (54, am_const (.long 31) 57), (57, am_lload 1 58), (58, am_l2 (fun x y => x * y) 59), (59, am_aload 0 60), (60, am_getR live 2 2 63), (63, am_iload 3 64), (64, am_const (.int 40) 66), (66, am_i2 (fun x y => x * y) 67), (67, am_iload 4 69), (69, am_i2 (fun x y => x + y) 70), (70, am_ald live 0 71), (71, am_i2l 72), (72, am_l2 (fun x y => x + y) 73), (73, am_lstore 1 5 74), (74, am_iinc 4 5 1 77), (77, am_goto 47), (80, am_iinc 3 5 1 83), (83, am_goto 2), (86, am_lload 1 87), (87, am_retL Ret)]
theorem koX2_mixed (live : am_E) (Ret : am_R) : ∀ q ∈ kX2_mixed live Ret, am_ok RX2 cX2_mixed 5 (some .long) 0 0 live Ret q.1 q.2 :=
  am_kc (ak_iconst dX2_mixed_0 (by decide +kernel) rfl) <|
  am_kc (ak_istore_n dX2_mixed_1 rfl rfl) <|
  am_kc (ak_iload_n dX2_mixed_2 rfl rfl) <|
  am_kc (ak_aload_n dX2_mixed_3 rfl rfl) <|
  am_kc (ak_getI (C := RX2) (T := TX2) (N := 8) rfl inX2w (by decide) rfl rfl rfl wd_122 dX2_mixed_4 rfl) <|
  am_kc (ak_icmp_ge dX2_mixed_7 (by decide +kernel) rfl) <|
  am_kc (ak_iload_n dX2_mixed_10 rfl rfl) <|
  am_kc (ak_bipush dX2_mixed_11 (by decide +kernel) rfl) <|
  am_kc (ak_icmp_ge dX2_mixed_13 (by decide +kernel) rfl) <|
  am_kc (ak_ldc2 wd_878 dX2_mixed_16 rfl) <|
  am_kc (ak_lload_n dX2_mixed_19 rfl rfl) <|
  am_kc (ak_lmul dX2_mixed_20 rfl) <|
  am_kc (ak_aload_n dX2_mixed_21 rfl rfl) <|
  am_kc (ak_getR (C := RX2) (T := TX2) (N := 8) rfl inX2w (by decide) rfl rfl rfl wd_105 dX2_mixed_22 rfl) <|
  am_kc (ak_iload_n dX2_mixed_25 rfl rfl) <|
  am_kc (ak_iald (t := 0) (fun _ => rfl) rfl dX2_mixed_26 rfl) <|
  am_kc (ak_i2l dX2_mixed_27 rfl) <|
  am_kc (ak_ladd dX2_mixed_28 rfl) <|
  am_kc (ak_lstore_n dX2_mixed_29 rfl rfl) <|
  am_kc (ak_ldc2 wd_878 dX2_mixed_30 rfl) <|
  am_kc (ak_lload_n dX2_mixed_33 rfl rfl) <|
  am_kc (ak_lmul dX2_mixed_34 rfl) <|
  am_kc (ak_aload_n dX2_mixed_35 rfl rfl) <|
  am_kc (ak_getR (C := RX2) (T := TX2) (N := 8) rfl inX2w (by decide) rfl rfl rfl wd_108 dX2_mixed_36 rfl) <|
  am_kc (ak_iload_n dX2_mixed_39 rfl rfl) <|
  am_kc (ak_iald (t := 0) (fun _ => rfl) rfl dX2_mixed_40 rfl) <|
  am_kc (ak_i2l dX2_mixed_41 rfl) <|
  am_kc (ak_ladd dX2_mixed_42 rfl) <|
  am_kc (ak_lstore_n dX2_mixed_43 rfl rfl) <|
  am_kc (ak_iconst dX2_mixed_44 (by decide +kernel) rfl) <|
  am_kc (ak_istore dX2_mixed_45 rfl) <|
  am_kc (ak_iload dX2_mixed_47 rfl) <|
  am_kc (ak_bipush dX2_mixed_49 (by decide +kernel) rfl) <|
  am_kc (ak_icmp_ge dX2_mixed_51 (by decide +kernel) rfl) <|
  am_kc (ak_ldc2 wd_878 dX2_mixed_54 rfl) <|
  am_kc (ak_lload_n dX2_mixed_57 rfl rfl) <|
  am_kc (ak_lmul dX2_mixed_58 rfl) <|
  am_kc (ak_aload_n dX2_mixed_59 rfl rfl) <|
  am_kc (ak_getR (C := RX2) (T := TX2) (N := 8) rfl inX2w (by decide) rfl rfl rfl wd_110 dX2_mixed_60 rfl) <|
  am_kc (ak_iload_n dX2_mixed_63 rfl rfl) <|
  am_kc (ak_bipush dX2_mixed_64 (by decide +kernel) rfl) <|
  am_kc (ak_imul dX2_mixed_66 rfl) <|
  am_kc (ak_iload dX2_mixed_67 rfl) <|
  am_kc (ak_iadd dX2_mixed_69 rfl) <|
  am_kc (ak_iald (t := 0) (fun _ => rfl) rfl dX2_mixed_70 rfl) <|
  am_kc (ak_i2l dX2_mixed_71 rfl) <|
  am_kc (ak_ladd dX2_mixed_72 rfl) <|
  am_kc (ak_lstore_n dX2_mixed_73 rfl rfl) <|
  am_kc (ak_iinc dX2_mixed_74 (by decide +kernel) rfl) <|
  am_kc (ak_goto dX2_mixed_77 (by decide +kernel)) <|
  am_kc (ak_iinc dX2_mixed_80 (by decide +kernel) rfl) <|
  am_kc (ak_goto dX2_mixed_83 (by decide +kernel)) <|
  am_kc (ak_lload_n dX2_mixed_86 rfl rfl) <|
  am_kc (ak_retL dX2_mixed_87) <| am_kn
def TX2_mixed : am_T := fun live as M R => match as with
  | [.ref n, .long x] => am_mn live ∧ n = 21 ∧ ∀ v, R (some (.long v)) M
  | _ => False
def JX2_mixed : am_E → List Value → am_M → am_R → am_inv := fun live as M0 _ pc => match as with
  | [.ref n, .long x] => (match pc with
    | 2 => some ([0, 1, 3], fun k L st M => ∃ (v : Int64) (i : Int32), L = [(0, .ref 21), (1, .long v), (3, .int i)] ∧ st = [] ∧ k = ((14 - i.toInt).toNat, 100) ∧ 0 ≤ i.toInt ∧ M = M0)
    | 47 => some ([0, 1, 3, 4], fun k L st M => ∃ (v : Int64) (i y : Int32), L = [(0, .ref 21), (1, .long v), (3, .int i), (4, .int y)] ∧ st = [] ∧ k = ((14 - i.toInt).toNat, (41 - y.toInt).toNat) ∧ (0 ≤ i.toInt ∧ i.toInt < 12) ∧ 0 ≤ y.toInt ∧ M = M0)
    | _ => none)
  | _ => none
set_option maxRecDepth 100000 in
set_option maxHeartbeats 4000000 in
theorem metX2_mixed : am_Met yX2_mixed cX2_mixed 5 (some .long) (0) (0) TX2_mixed := by
  refine am_met (own := RX2) (by decide +kernel) rfl kX2_mixed koX2_mixed 100 JX2_mixed ?_ ?_
  · intro live as M Ret h
    unfold TX2_mixed at h
    split at h
    · next n x =>
      refine ⟨Nat.le_of_ble_eq_true rfl, ?_⟩
      change am_wp _ _ _ _ [(0, Value.ref n), (1, Value.long x)] _ _
      obtain ⟨hmn, rfl, h⟩ := h
      repeat' (first | apply And.intro | exact rfl | intro hx | (refine Exists.intro _ (And.intro rfl ?_)))
      all_goals try first | (with_reducible change am_tI _ _) | (change Ret _ _) | (change Ret _ _ _) | (change Exists _)
      all_goals try dsimp only at *
      all_goals try exact absurd ‹(1000 : Int64) = 0› (by decide)
      exact ⟨_, _, _, rfl, rfl, rfl, by decide, rfl⟩
    · exact h.elim
  · intro live as M0 Ret h k pc I hI L st M hi
    unfold TX2_mixed at h
    split at h
    · next n x =>
      obtain ⟨hmn, rfl, h⟩ := h
      obtain ⟨i1, i2, rfl⟩ := hmn
      have l22 : am_len 22 = 12 := rfl
      have l23 : am_len 23 = 12 := rfl
      have l24 : am_len 24 = 480 := rfl
      change (match pc with | 2 => _ | 47 => _ | _ => none) = _ at hI
      split at hI
      · cases hI
        obtain ⟨v, i, rfl, rfl, rfl, e1, rfl⟩ := hi
        by_cases hz : (12 : Int32) ≤ i
        · skip
          repeat' (first | apply And.intro | exact rfl | (intro hx; with_reducible exact absurd hz hx) | intro hx | (refine Exists.intro _ (And.intro rfl ?_)))
          all_goals try first | (with_reducible change am_tI _ _) | (change Ret _ _) | (change Ret _ _ _) | (change Exists _)
          all_goals try dsimp only at *
          all_goals try exact absurd ‹(1000 : Int64) = 0› (by decide)
          all_goals exact h _
        · have hz2 := hz
          simp only [i_le, Int32.reduceToInt] at hz2
          repeat' (first | apply And.intro | exact rfl | (intro hx; with_reducible exact absurd hx hz) | intro hx | (refine Exists.intro _ (And.intro rfl ?_)))
          all_goals try first | (with_reducible change am_tI _ _) | (change Ret _ _) | (change Ret _ _ _) | (change Exists _)
          all_goals try dsimp only at *
          all_goals try exact absurd ‹(1000 : Int64) = 0› (by decide)
          all_goals first
            | exact h _
            | omega
            | (rw [l22]; omega)
            | (rw [l23]; omega)
            | exact ⟨_, am_lt_r (by simp only [Int32.reduceToInt]; omega), _, _, _, rfl, rfl, rfl, ⟨e1, by omega⟩, by decide, rfl⟩
            | skip
      · cases hI
        obtain ⟨v, i, y, rfl, rfl, rfl, ⟨e1, e2⟩, e3, rfl⟩ := hi
        have hi := i_inc (x := i) (by omega) (by omega)
        by_cases hz : (40 : Int32) ≤ y
        · skip
          repeat' (first | apply And.intro | exact rfl | (intro hx; with_reducible exact absurd hz hx) | intro hx | (refine Exists.intro _ (And.intro rfl ?_)))
          all_goals try first | (with_reducible change am_tI _ _) | (change Ret _ _) | (change Ret _ _ _) | (change Exists _)
          all_goals try dsimp only at *
          all_goals try exact absurd ‹(1000 : Int64) = 0› (by decide)
          exact ⟨_, am_lt_l (by omega), _, _, rfl, rfl, rfl, by omega, rfl⟩
        · have hz2 := hz
          simp only [i_le, Int32.reduceToInt] at hz2
          have hy := i_inc (x := y) (by omega) (by omega)
          have ei := g_40 (n := 12) (by decide) (a := i) (y := y) ⟨e1, by omega⟩ ⟨e3, by omega⟩
          repeat' (first | apply And.intro | exact rfl | (intro hx; with_reducible exact absurd hx hz) | intro hx | (refine Exists.intro _ (And.intro rfl ?_)))
          all_goals try first | (with_reducible change am_tI _ _) | (change Ret _ _) | (change Ret _ _ _) | (change Exists _)
          all_goals try dsimp only at *
          all_goals try exact absurd ‹(1000 : Int64) = 0› (by decide)
          all_goals first
            | omega
            | (rw [l24]; omega)
            | exact ⟨_, am_lt_r (by omega), _, _, _, rfl, rfl, rfl, ⟨e1, e2⟩, by omega, rfl⟩
            | skip
      · cases hI
    · exact h.elim
theorem dX7_loan_0 : decode cX7_loan 0 = .ok (.aload_n 0, 1) := by decide +kernel
theorem dX7_loan_1 : decode cX7_loan 1 = .ok (.iload_n 1, 1) := by decide +kernel
theorem dX7_loan_2 : decode cX7_loan 2 = .ok (.invokevirtual 52, 3) := by decide +kernel
theorem dX7_loan_5 : decode cX7_loan 5 = .ok (.ifCond .eq 30, 3) := by decide +kernel
theorem dX7_loan_8 : decode cX7_loan 8 = .ok (.iload_n 2, 1) := by decide +kernel
theorem dX7_loan_9 : decode cX7_loan 9 = .ok (.invokestatic 98, 3) := by decide +kernel
theorem dX7_loan_12 : decode cX7_loan 12 = .ok (.ifCond .eq 23, 3) := by decide +kernel
theorem dX7_loan_15 : decode cX7_loan 15 = .ok (.iload_n 3, 1) := by decide +kernel
theorem dX7_loan_16 : decode cX7_loan 16 = .ok (.invokestatic 34, 3) := by decide +kernel
theorem dX7_loan_19 : decode cX7_loan 19 = .ok (.ifCond .eq 16, 3) := by decide +kernel
theorem dX7_loan_22 : decode cX7_loan 22 = .ok (.iload 4, 2) := by decide +kernel
theorem dX7_loan_24 : decode cX7_loan 24 = .ok (.invokestatic 79, 3) := by decide +kernel
theorem dX7_loan_27 : decode cX7_loan 27 = .ok (.ifCond .eq 8, 3) := by decide +kernel
theorem dX7_loan_30 : decode cX7_loan 30 = .ok (.iload 4, 2) := by decide +kernel
theorem dX7_loan_32 : decode cX7_loan 32 = .ok (.ifCond .ne 6, 3) := by decide +kernel
theorem dX7_loan_35 : decode cX7_loan 35 = .ok (.bipush (-2), 2) := by decide +kernel
theorem dX7_loan_37 : decode cX7_loan 37 = .ok (.ireturn, 1) := by decide +kernel
theorem dX7_loan_38 : decode cX7_loan 38 = .ok (.aload_n 0, 1) := by decide +kernel
theorem dX7_loan_39 : decode cX7_loan 39 = .ok (.getfield 27, 3) := by decide +kernel
theorem dX7_loan_42 : decode cX7_loan 42 = .ok (.getfield 122, 3) := by decide +kernel
theorem dX7_loan_45 : decode cX7_loan 45 = .ok (.astore 6, 2) := by decide +kernel
theorem dX7_loan_47 : decode cX7_loan 47 = .ok (.aload 6, 2) := by decide +kernel
theorem dX7_loan_49 : decode cX7_loan 49 = .ok (.getfield 108, 3) := by decide +kernel
theorem dX7_loan_52 : decode cX7_loan 52 = .ok (.bipush 30, 2) := by decide +kernel
theorem dX7_loan_54 : decode cX7_loan 54 = .ok (.if_icmp .lt 6, 3) := by decide +kernel
theorem dX7_loan_57 : decode cX7_loan 57 = .ok (.bipush (-4), 2) := by decide +kernel
theorem dX7_loan_59 : decode cX7_loan 59 = .ok (.ireturn, 1) := by decide +kernel
theorem dX7_loan_60 : decode cX7_loan 60 = .ok (.aload 6, 2) := by decide +kernel
theorem dX7_loan_62 : decode cX7_loan 62 = .ok (.iload_n 1, 1) := by decide +kernel
theorem dX7_loan_63 : decode cX7_loan 63 = .ok (.iload_n 2, 1) := by decide +kernel
theorem dX7_loan_64 : decode cX7_loan 64 = .ok (.iload_n 3, 1) := by decide +kernel
theorem dX7_loan_65 : decode cX7_loan 65 = .ok (.invokevirtual 125, 3) := by decide +kernel
theorem dX7_loan_68 : decode cX7_loan 68 = .ok (.istore 7, 2) := by decide +kernel
theorem dX7_loan_70 : decode cX7_loan 70 = .ok (.aload 6, 2) := by decide +kernel
theorem dX7_loan_72 : decode cX7_loan 72 = .ok (.iload 7, 2) := by decide +kernel
theorem dX7_loan_74 : decode cX7_loan 74 = .ok (.iconst 3, 1) := by decide +kernel
theorem dX7_loan_75 : decode cX7_loan 75 = .ok (.iload 4, 2) := by decide +kernel
theorem dX7_loan_77 : decode cX7_loan 77 = .ok (.invokevirtual 128, 3) := by decide +kernel
theorem dX7_loan_80 : decode cX7_loan 80 = .ok (.aload 6, 2) := by decide +kernel
theorem dX7_loan_82 : decode cX7_loan 82 = .ok (.iload 7, 2) := by decide +kernel
theorem dX7_loan_84 : decode cX7_loan 84 = .ok (.iconst 4, 1) := by decide +kernel
theorem dX7_loan_85 : decode cX7_loan 85 = .ok (.iload 5, 2) := by decide +kernel
theorem dX7_loan_87 : decode cX7_loan 87 = .ok (.ifCond .eq 7, 3) := by decide +kernel
theorem dX7_loan_90 : decode cX7_loan 90 = .ok (.iconst 1, 1) := by decide +kernel
theorem dX7_loan_91 : decode cX7_loan 91 = .ok (.goto 4, 3) := by decide +kernel
theorem dX7_loan_94 : decode cX7_loan 94 = .ok (.iconst 0, 1) := by decide +kernel
theorem dX7_loan_95 : decode cX7_loan 95 = .ok (.invokevirtual 128, 3) := by decide +kernel
theorem dX7_loan_98 : decode cX7_loan 98 = .ok (.aload 6, 2) := by decide +kernel
theorem dX7_loan_100 : decode cX7_loan 100 = .ok (.iload 7, 2) := by decide +kernel
theorem dX7_loan_102 : decode cX7_loan 102 = .ok (.iconst 5, 1) := by decide +kernel
theorem dX7_loan_103 : decode cX7_loan 103 = .ok (.iconst (-1), 1) := by decide +kernel
theorem dX7_loan_104 : decode cX7_loan 104 = .ok (.invokevirtual 128, 3) := by decide +kernel
theorem dX7_loan_107 : decode cX7_loan 107 = .ok (.aload 6, 2) := by decide +kernel
theorem dX7_loan_109 : decode cX7_loan 109 = .ok (.iload 7, 2) := by decide +kernel
theorem dX7_loan_111 : decode cX7_loan 111 = .ok (.bipush 6, 2) := by decide +kernel
theorem dX7_loan_113 : decode cX7_loan 113 = .ok (.iconst (-1), 1) := by decide +kernel
theorem dX7_loan_114 : decode cX7_loan 114 = .ok (.invokevirtual 128, 3) := by decide +kernel
theorem dX7_loan_117 : decode cX7_loan 117 = .ok (.aload 6, 2) := by decide +kernel
theorem dX7_loan_119 : decode cX7_loan 119 = .ok (.iload 7, 2) := by decide +kernel
theorem dX7_loan_121 : decode cX7_loan 121 = .ok (.bipush 7, 2) := by decide +kernel
theorem dX7_loan_123 : decode cX7_loan 123 = .ok (.iconst (-1), 1) := by decide +kernel
theorem dX7_loan_124 : decode cX7_loan 124 = .ok (.invokevirtual 128, 3) := by decide +kernel
theorem dX7_loan_127 : decode cX7_loan 127 = .ok (.aload_n 0, 1) := by decide +kernel
theorem dX7_loan_128 : decode cX7_loan 128 = .ok (.getfield 27, 3) := by decide +kernel
theorem dX7_loan_131 : decode cX7_loan 131 = .ok (.getfield 132, 3) := by decide +kernel
theorem dX7_loan_134 : decode cX7_loan 134 = .ok (.iload 7, 2) := by decide +kernel
theorem dX7_loan_136 : decode cX7_loan 136 = .ok (.bipush 40, 2) := by decide +kernel
theorem dX7_loan_138 : decode cX7_loan 138 = .ok (.imul, 1) := by decide +kernel
theorem dX7_loan_139 : decode cX7_loan 139 = .ok (.iload 7, 2) := by decide +kernel
theorem dX7_loan_141 : decode cX7_loan 141 = .ok (.bipush 40, 2) := by decide +kernel
theorem dX7_loan_143 : decode cX7_loan 143 = .ok (.imul, 1) := by decide +kernel
theorem dX7_loan_144 : decode cX7_loan 144 = .ok (.bipush 39, 2) := by decide +kernel
theorem dX7_loan_146 : decode cX7_loan 146 = .ok (.iadd, 1) := by decide +kernel
theorem dX7_loan_147 : decode cX7_loan 147 = .ok (.iload_n 2, 1) := by decide +kernel
theorem dX7_loan_148 : decode cX7_loan 148 = .ok (.invokestatic 66, 3) := by decide +kernel
theorem dX7_loan_151 : decode cX7_loan 151 = .ok (.iload 7, 2) := by decide +kernel
theorem dX7_loan_153 : decode cX7_loan 153 = .ok (.ireturn, 1) := by decide +kernel
def kX7_loan (live : am_E) (Ret : am_R) : am_code := [(0, am_aload 0 1), (1, am_iload 1 2), (2, am_callV live 7 1 TX7_isPerson 5), (5, am_if1 (fun x => x = 0) 35 8), (8, am_iload 2 9), (9, am_callS live 1 TX7_isPlan 12), (12, am_if1 (fun x => x = 0) 35 15), (15, am_iload 3 16), (16, am_callS live 1 TX7_isYear 19), (19, am_if1 (fun x => x = 0) 35 22), (22, am_iload 4 24), (24, am_callS live 1 TX7_isPence 27), (27, am_if1 (fun x => x = 0) 35 30), (30, am_iload 4 32), (32, am_if1 (fun x => x = 0) 35 38), (35, am_const (.int (-2)) 37), (37, am_retI Ret), (38, am_aload 0 39), (39, am_getR live 7 0 42), (42, am_getR live 0 4 45), (45, am_astore 6 8 47), (47, am_aload 6 49), (49, am_getI live 3 2 52), (52, am_const (.int 30) 54), (54, am_if2 (fun x y => x < y) 60 57), (57, am_const (.int (-4)) 59), (59, am_retI Ret), (60, am_aload 6 62), (62, am_iload 1 63), (63, am_iload 2 64), (64, am_iload 3 65), (65, am_callV live 3 3 TX3_add 68), (68, am_istore 7 8 70), (70, am_aload 6 72), (72, am_iload 7 74), (74, am_const (.int 3) 75), (75, am_iload 4 77), (77, am_callV live 3 3 TX3_put 80), (80, am_aload 6 82), (82, am_iload 7 84), (84, am_const (.int 4) 85), (85, am_iload 5 87), (87, am_if1 (fun x => x = 0) 94 90), (90, am_const (.int 1) 91), (91, am_goto 95), (94, am_const (.int 0) 95), (95, am_callV live 3 3 TX3_put 98), (98, am_aload 6 100), (100, am_iload 7 102), (102, am_const (.int 5) 103), (103, am_const (.int (-1)) 104), (104, am_callV live 3 3 TX3_put 107), (107, am_aload 6 109), (109, am_iload 7 111), (111, am_const (.int 6) 113), (113, am_const (.int (-1)) 114), (114, am_callV live 3 3 TX3_put 117), (117, am_aload 6 119), (119, am_iload 7 121), (121, am_const (.int 7) 123), (123, am_const (.int (-1)) 124), (124, am_callV live 3 3 TX3_put 127), (127, am_aload 0 128), (128, am_getR live 7 0 131), (131, am_getR live 0 6 134), (134, am_iload 7 136), (136, am_const (.int 40) 138), (138, am_i2 (fun x y => x * y) 139), (139, am_iload 7 141), (141, am_const (.int 40) 143), (143, am_i2 (fun x y => x * y) 144), (144, am_const (.int 39) 146), (146, am_i2 (fun x y => x + y) 147), (147, am_iload 2 148), (148, am_callS live 4 TX7_lay 151), (151, am_iload 7 153), (153, am_retI Ret)]
theorem koX7_loan (live : am_E) (Ret : am_R) : ∀ q ∈ kX7_loan live Ret, am_ok RX7 cX7_loan 8 (some .int) 2 47 live Ret q.1 q.2 :=
  am_kc (ak_aload_n dX7_loan_0 rfl rfl) <|
  am_kc (ak_iload_n dX7_loan_1 rfl rfl) <|
  am_kc (ak_callV (C := RX7) (F := TX7) (N := 4) metX7_isPerson rfl ⟨rfl, by decide +kernel, by decide +kernel, by decide +kernel⟩ (am_w5 wd_414 wd_416 wd_0 wd_58 wd_417) (by decide) dX7_loan_2 rfl) <|
  am_kc (ak_if_eq dX7_loan_5 (by decide +kernel) rfl) <|
  am_kc (ak_iload_n dX7_loan_8 rfl rfl) <|
  am_kc (ak_callS metX7_isPlan ⟨rfl, by decide +kernel, by decide +kernel, by decide +kernel⟩ (am_w4 wd_466 wd_467 wd_58 wd_468) (by decide) dX7_loan_9 rfl) <|
  am_kc (ak_if_eq dX7_loan_12 (by decide +kernel) rfl) <|
  am_kc (ak_iload_n dX7_loan_15 rfl rfl) <|
  am_kc (ak_callS metX7_isYear ⟨rfl, by decide +kernel, by decide +kernel, by decide +kernel⟩ (am_w4 wd_407 wd_408 wd_58 wd_409) (by decide) dX7_loan_16 rfl) <|
  am_kc (ak_if_eq dX7_loan_19 (by decide +kernel) rfl) <|
  am_kc (ak_iload dX7_loan_22 rfl) <|
  am_kc (ak_callS metX7_isPence ⟨rfl, by decide +kernel, by decide +kernel, by decide +kernel⟩ (am_w4 wd_446 wd_447 wd_58 wd_448) (by decide) dX7_loan_24 rfl) <|
  am_kc (ak_if_eq dX7_loan_27 (by decide +kernel) rfl) <|
  am_kc (ak_iload dX7_loan_30 rfl) <|
  am_kc (ak_if_ne dX7_loan_32 (by decide +kernel) rfl) <|
  am_kc (ak_bipush dX7_loan_35 (by decide +kernel) rfl) <|
  am_kc (ak_retI dX7_loan_37) <|
  am_kc (ak_aload_n dX7_loan_38 rfl rfl) <|
  am_kc (ak_getR (C := RX7) (T := TX7) (N := 4) rfl inX7w (by decide) rfl rfl rfl wd_390 dX7_loan_39 rfl) <|
  am_kc (ak_getR (C := RX0) (T := TX0) (N := 13) rfl inX0w (by decide) rfl rfl rfl wd_207 dX7_loan_42 rfl) <|
  am_kc (ak_astore dX7_loan_45 rfl) <|
  am_kc (ak_aload dX7_loan_47 rfl) <|
  am_kc (ak_getI (C := RX3) (T := TX3) (N := 3) rfl inX3w (by decide) rfl rfl rfl wd_152 dX7_loan_49 rfl) <|
  am_kc (ak_bipush dX7_loan_52 (by decide +kernel) rfl) <|
  am_kc (ak_icmp_lt dX7_loan_54 (by decide +kernel) rfl) <|
  am_kc (ak_bipush dX7_loan_57 (by decide +kernel) rfl) <|
  am_kc (ak_retI dX7_loan_59) <|
  am_kc (ak_aload dX7_loan_60 rfl) <|
  am_kc (ak_iload_n dX7_loan_62 rfl rfl) <|
  am_kc (ak_iload_n dX7_loan_63 rfl rfl) <|
  am_kc (ak_iload_n dX7_loan_64 rfl rfl) <|
  am_kc (ak_callV (C := RX3) (F := TX3) (N := 3) metX3_add rfl ⟨rfl, by decide +kernel, by decide +kernel, by decide +kernel⟩ (am_w5 wd_514 wd_481 wd_482 wd_64 wd_483) (by decide) dX7_loan_65 rfl) <|
  am_kc (ak_istore dX7_loan_68 rfl) <|
  am_kc (ak_aload dX7_loan_70 rfl) <|
  am_kc (ak_iload dX7_loan_72 rfl) <|
  am_kc (ak_iconst dX7_loan_74 (by decide +kernel) rfl) <|
  am_kc (ak_iload dX7_loan_75 rfl) <|
  am_kc (ak_callV (C := RX3) (F := TX3) (N := 3) metX3_put rfl ⟨rfl, by decide +kernel, by decide +kernel, by decide +kernel⟩ (am_w5 wd_515 wd_485 wd_486 wd_64 wd_487) (by decide) dX7_loan_77 rfl) <|
  am_kc (ak_aload dX7_loan_80 rfl) <|
  am_kc (ak_iload dX7_loan_82 rfl) <|
  am_kc (ak_iconst dX7_loan_84 (by decide +kernel) rfl) <|
  am_kc (ak_iload dX7_loan_85 rfl) <|
  am_kc (ak_if_eq dX7_loan_87 (by decide +kernel) rfl) <|
  am_kc (ak_iconst dX7_loan_90 (by decide +kernel) rfl) <|
  am_kc (ak_goto dX7_loan_91 (by decide +kernel)) <|
  am_kc (ak_iconst dX7_loan_94 (by decide +kernel) rfl) <|
  am_kc (ak_callV (C := RX3) (F := TX3) (N := 3) metX3_put rfl ⟨rfl, by decide +kernel, by decide +kernel, by decide +kernel⟩ (am_w5 wd_515 wd_485 wd_486 wd_64 wd_487) (by decide) dX7_loan_95 rfl) <|
  am_kc (ak_aload dX7_loan_98 rfl) <|
  am_kc (ak_iload dX7_loan_100 rfl) <|
  am_kc (ak_iconst dX7_loan_102 (by decide +kernel) rfl) <|
  am_kc (ak_iconst dX7_loan_103 (by decide +kernel) rfl) <|
  am_kc (ak_callV (C := RX3) (F := TX3) (N := 3) metX3_put rfl ⟨rfl, by decide +kernel, by decide +kernel, by decide +kernel⟩ (am_w5 wd_515 wd_485 wd_486 wd_64 wd_487) (by decide) dX7_loan_104 rfl) <|
  am_kc (ak_aload dX7_loan_107 rfl) <|
  am_kc (ak_iload dX7_loan_109 rfl) <|
  am_kc (ak_bipush dX7_loan_111 (by decide +kernel) rfl) <|
  am_kc (ak_iconst dX7_loan_113 (by decide +kernel) rfl) <|
  am_kc (ak_callV (C := RX3) (F := TX3) (N := 3) metX3_put rfl ⟨rfl, by decide +kernel, by decide +kernel, by decide +kernel⟩ (am_w5 wd_515 wd_485 wd_486 wd_64 wd_487) (by decide) dX7_loan_114 rfl) <|
  am_kc (ak_aload dX7_loan_117 rfl) <|
  am_kc (ak_iload dX7_loan_119 rfl) <|
  am_kc (ak_bipush dX7_loan_121 (by decide +kernel) rfl) <|
  am_kc (ak_iconst dX7_loan_123 (by decide +kernel) rfl) <|
  am_kc (ak_callV (C := RX3) (F := TX3) (N := 3) metX3_put rfl ⟨rfl, by decide +kernel, by decide +kernel, by decide +kernel⟩ (am_w5 wd_515 wd_485 wd_486 wd_64 wd_487) (by decide) dX7_loan_124 rfl) <|
  am_kc (ak_aload_n dX7_loan_127 rfl rfl) <|
  am_kc (ak_getR (C := RX7) (T := TX7) (N := 4) rfl inX7w (by decide) rfl rfl rfl wd_390 dX7_loan_128 rfl) <|
  am_kc (ak_getR (C := RX0) (T := TX0) (N := 13) rfl inX0w (by decide) rfl rfl rfl wd_211 dX7_loan_131 rfl) <|
  am_kc (ak_iload dX7_loan_134 rfl) <|
  am_kc (ak_bipush dX7_loan_136 (by decide +kernel) rfl) <|
  am_kc (ak_imul dX7_loan_138 rfl) <|
  am_kc (ak_iload dX7_loan_139 rfl) <|
  am_kc (ak_bipush dX7_loan_141 (by decide +kernel) rfl) <|
  am_kc (ak_imul dX7_loan_143 rfl) <|
  am_kc (ak_bipush dX7_loan_144 (by decide +kernel) rfl) <|
  am_kc (ak_iadd dX7_loan_146 rfl) <|
  am_kc (ak_iload_n dX7_loan_147 rfl rfl) <|
  am_kc (ak_callS metX7_lay ⟨rfl, by decide +kernel, by decide +kernel, by decide +kernel⟩ (am_w4 wd_424 wd_425 wd_58 wd_426) (by decide) dX7_loan_148 rfl) <|
  am_kc (ak_iload dX7_loan_151 rfl) <|
  am_kc (ak_retI dX7_loan_153) <| am_kn
def c_loan (M : am_M) (p pl y s fe : Int32) : Int32 × am_M := if 0 ≤ p ∧ p < M.1 21 7 then (if 0 ≤ pl ∧ pl < 5 then (if 0 ≤ y ∧ y < 40 then (if 0 ≤ s ∧ s ≤ 10000000 then (if s = 0 then ((-2 : Int32), M) else (if M.1 33 2 < 30 then (M.1 33 2 + 1 - 1, am_lay (am_rput (am_rput (am_rput (am_rput (am_rput (am_radd M 33 34 p pl y) 33 34 (M.1 33 2 + 1 - 1) 3 s) 33 34 (M.1 33 2 + 1 - 1) 4 fe) 33 34 (M.1 33 2 + 1 - 1) 5 (-1)) 33 34 (M.1 33 2 + 1 - 1) 6 (-1)) 33 34 (M.1 33 2 + 1 - 1) 7 (-1)) 37 (max ((M.1 33 2 + 1 - 1) * 40).toInt 0) (min ((M.1 33 2 + 1 - 1) * 40 + 39).toInt ((am_len 37 : Int) - 1)) pl) else ((-4 : Int32), M))) else ((-2 : Int32), M)) else ((-2 : Int32), M)) else ((-2 : Int32), M)) else ((-2 : Int32), M)
def TX7_loan : am_T := fun live as M R => match as with
  | [.ref n, .int p, .int pl, .int y, .int s, .int fe] => am_mn live ∧ n = 0 ∧ (g_hI M ∧ g_rI M) ∧ (fe = 0 ∨ fe = 1) ∧ R (some (.int (c_loan M p pl y s fe).1)) (c_loan M p pl y s fe).2
  | _ => False
set_option maxRecDepth 100000 in
set_option maxHeartbeats 4000000 in
theorem metX7_loan : am_Met yX7_loan cX7_loan 8 (some .int) (2) (47) TX7_loan := by
  refine am_met (own := RX7) (by decide +kernel) rfl kX7_loan koX7_loan 150 (fun _ _ _ _ _ => none) (fun live as M Ret h => ?_) (fun _ _ _ _ _ _ _ _ hI => by cases hI)
  unfold TX7_loan at h
  split at h
  · next n p pl y s fe =>
    refine ⟨Nat.le_of_ble_eq_true rfl, ?_⟩
    change am_wp _ _ _ _ [(0, Value.ref n), (1, Value.int p), (2, Value.int pl), (3, Value.int y), (4, Value.int s), (5, Value.int fe)] _ _
    obtain ⟨hmn, rfl, ⟨hH, hR⟩, hfe, h⟩ := h
    have hmn2 := hmn
    obtain ⟨i1, i2, rfl⟩ := hmn2
    by_cases z0 : 0 ≤ p ∧ p < M.1 21 7
    rotate_left
    · skip
      have q0 : (if 0 ≤ p ∧ p < M.1 21 7 then (1 : Int32) else 0) = 0 := if_neg z0
      have e : c_loan M p pl y s fe = ((-2 : Int32), M) := by unfold c_loan; rw [if_neg z0]
      rw [e] at h
      repeat' (first | (with_reducible exact hmn) | (with_reducible exact h) | apply And.intro | exact rfl | (intro hx; with_reducible exact absurd q0 hx) | (intro hx; exact absurd hx (by decide)) | (intro hx; exact absurd (by decide) hx) | decide | intro hx | (refine Exists.intro _ (And.intro rfl ?_)))
      all_goals try first | (with_reducible change am_tI _ _) | (change Ret _ _) | (change Ret _ _ _) | (change Exists _)
      all_goals try dsimp only at *
      all_goals try exact absurd ‹(1000 : Int64) = 0› (by decide)
      all_goals first | exact h | skip
    · skip
      have q0 : ¬ ((if 0 ≤ p ∧ p < M.1 21 7 then (1 : Int32) else 0) = 0) := by rw [if_pos z0]; decide
      by_cases z1 : 0 ≤ pl ∧ pl < 5
      rotate_left
      · skip
        have q1 : (if 0 ≤ pl ∧ pl < 5 then (1 : Int32) else 0) = 0 := if_neg z1
        have e : c_loan M p pl y s fe = ((-2 : Int32), M) := by unfold c_loan; rw [if_pos z0, if_neg z1]
        rw [e] at h
        repeat' (first | (with_reducible exact hmn) | (with_reducible exact h) | apply And.intro | exact rfl | (intro hx; with_reducible exact absurd hx q0) | (intro hx; with_reducible exact absurd q1 hx) | (intro hx; exact absurd hx (by decide)) | (intro hx; exact absurd (by decide) hx) | decide | intro hx | (refine Exists.intro _ (And.intro rfl ?_)))
        all_goals try first | (with_reducible change am_tI _ _) | (change Ret _ _) | (change Ret _ _ _) | (change Exists _)
        all_goals try dsimp only at *
        all_goals try exact absurd ‹(1000 : Int64) = 0› (by decide)
        all_goals first | exact h | skip
      · skip
        have q1 : ¬ ((if 0 ≤ pl ∧ pl < 5 then (1 : Int32) else 0) = 0) := by rw [if_pos z1]; decide
        by_cases z2 : 0 ≤ y ∧ y < 40
        rotate_left
        · skip
          have q2 : (if 0 ≤ y ∧ y < 40 then (1 : Int32) else 0) = 0 := if_neg z2
          have e : c_loan M p pl y s fe = ((-2 : Int32), M) := by unfold c_loan; rw [if_pos z0, if_pos z1, if_neg z2]
          rw [e] at h
          repeat' (first | (with_reducible exact hmn) | (with_reducible exact h) | apply And.intro | exact rfl | (intro hx; with_reducible exact absurd hx q0) | (intro hx; with_reducible exact absurd hx q1) | (intro hx; with_reducible exact absurd q2 hx) | (intro hx; exact absurd hx (by decide)) | (intro hx; exact absurd (by decide) hx) | decide | intro hx | (refine Exists.intro _ (And.intro rfl ?_)))
          all_goals try first | (with_reducible change am_tI _ _) | (change Ret _ _) | (change Ret _ _ _) | (change Exists _)
          all_goals try dsimp only at *
          all_goals try exact absurd ‹(1000 : Int64) = 0› (by decide)
          all_goals first | exact h | skip
        · skip
          have q2 : ¬ ((if 0 ≤ y ∧ y < 40 then (1 : Int32) else 0) = 0) := by rw [if_pos z2]; decide
          by_cases z3 : 0 ≤ s ∧ s ≤ 10000000
          rotate_left
          · skip
            have q3 : (if 0 ≤ s ∧ s ≤ 10000000 then (1 : Int32) else 0) = 0 := if_neg z3
            have e : c_loan M p pl y s fe = ((-2 : Int32), M) := by unfold c_loan; rw [if_pos z0, if_pos z1, if_pos z2, if_neg z3]
            rw [e] at h
            repeat' (first | (with_reducible exact hmn) | (with_reducible exact h) | apply And.intro | exact rfl | (intro hx; with_reducible exact absurd hx q0) | (intro hx; with_reducible exact absurd hx q1) | (intro hx; with_reducible exact absurd hx q2) | (intro hx; with_reducible exact absurd q3 hx) | (intro hx; exact absurd hx (by decide)) | (intro hx; exact absurd (by decide) hx) | decide | intro hx | (refine Exists.intro _ (And.intro rfl ?_)))
            all_goals try first | (with_reducible change am_tI _ _) | (change Ret _ _) | (change Ret _ _ _) | (change Exists _)
            all_goals try dsimp only at *
            all_goals try exact absurd ‹(1000 : Int64) = 0› (by decide)
            all_goals first | exact h | skip
          · skip
            have q3 : ¬ ((if 0 ≤ s ∧ s ≤ 10000000 then (1 : Int32) else 0) = 0) := by rw [if_pos z3]; decide
            by_cases z4 : s = 0
            · skip
              have e : c_loan M p pl y s fe = ((-2 : Int32), M) := by unfold c_loan; rw [if_pos z0, if_pos z1, if_pos z2, if_pos z3, if_pos z4]
              rw [e] at h
              repeat' (first | (with_reducible exact hmn) | (with_reducible exact h) | apply And.intro | exact rfl | (intro hx; with_reducible exact absurd hx q0) | (intro hx; with_reducible exact absurd hx q1) | (intro hx; with_reducible exact absurd hx q2) | (intro hx; with_reducible exact absurd hx q3) | (intro hx; with_reducible exact absurd z4 hx) | (intro hx; exact absurd hx (by decide)) | (intro hx; exact absurd (by decide) hx) | decide | intro hx | (refine Exists.intro _ (And.intro rfl ?_)))
              all_goals try first | (with_reducible change am_tI _ _) | (change Ret _ _) | (change Ret _ _ _) | (change Exists _)
              all_goals try dsimp only at *
              all_goals try exact absurd ‹(1000 : Int64) = 0› (by decide)
              all_goals first | exact h | skip
            · skip
              by_cases z5 : M.1 33 2 < 30
              rotate_left
              · skip
                have y5 : (30 : Int32) ≤ M.1 33 2 := Int32.not_lt.mp z5
                have e : c_loan M p pl y s fe = ((-4 : Int32), M) := by unfold c_loan; rw [if_pos z0, if_pos z1, if_pos z2, if_pos z3, if_neg z4, if_neg z5]
                rw [e] at h
                repeat' (first | (with_reducible exact hmn) | (with_reducible exact h) | apply And.intro | exact rfl | (intro hx; with_reducible exact absurd hx q0) | (intro hx; with_reducible exact absurd hx q1) | (intro hx; with_reducible exact absurd hx q2) | (intro hx; with_reducible exact absurd hx q3) | (intro hx; with_reducible exact absurd hx z4) | (intro hx; with_reducible exact absurd hx z5) | (intro hx; with_reducible exact absurd y5 hx) | (intro hx; exact absurd hx (by decide)) | (intro hx; exact absurd (by decide) hx) | decide | intro hx | (refine Exists.intro _ (And.intro rfl ?_)))
                all_goals try first | (with_reducible change am_tI _ _) | (change Ret _ _) | (change Ret _ _ _) | (change Exists _)
                all_goals try dsimp only at *
                all_goals try exact absurd ‹(1000 : Int64) = 0› (by decide)
                all_goals first | exact h | skip
              · skip
                have y5 : ¬ (30 : Int32) ≤ M.1 33 2 := Int32.not_le.mpr z5
                have e : c_loan M p pl y s fe = (M.1 33 2 + 1 - 1, am_lay (am_rput (am_rput (am_rput (am_rput (am_rput (am_radd M 33 34 p pl y) 33 34 (M.1 33 2 + 1 - 1) 3 s) 33 34 (M.1 33 2 + 1 - 1) 4 fe) 33 34 (M.1 33 2 + 1 - 1) 5 (-1)) 33 34 (M.1 33 2 + 1 - 1) 6 (-1)) 33 34 (M.1 33 2 + 1 - 1) 7 (-1)) 37 (max ((M.1 33 2 + 1 - 1) * 40).toInt 0) (min ((M.1 33 2 + 1 - 1) * 40 + 39).toInt ((am_len 37 : Int) - 1)) pl) := by unfold c_loan; rw [if_pos z0, if_pos z1, if_pos z2, if_pos z3, if_neg z4, if_pos z5]
                rw [e] at h
                rcases hfe with rfl | rfl
                · skip
                  repeat' (first | (with_reducible exact hmn) | apply And.intro | exact rfl | (intro hx; with_reducible exact absurd hx q0) | (intro hx; with_reducible exact absurd hx q1) | (intro hx; with_reducible exact absurd hx q2) | (intro hx; with_reducible exact absurd hx q3) | (intro hx; with_reducible exact absurd hx z4) | (intro hx; with_reducible exact absurd hx y5) | (intro hx; with_reducible exact absurd z5 hx) | (intro hx; exact absurd hx (by decide)) | (intro hx; exact absurd (by decide) hx) | decide | intro hx | (refine Exists.intro _ (And.intro rfl ?_)))
                  all_goals try first | (with_reducible change am_tI _ _) | (change Ret _ _) | (change Ret _ _ _) | (change Exists _)
                  all_goals try dsimp only at *
                  all_goals try exact absurd ‹(1000 : Int64) = 0› (by decide)
                  all_goals first | exact h | skip
                · skip
                  repeat' (first | (with_reducible exact hmn) | apply And.intro | exact rfl | (intro hx; with_reducible exact absurd hx q0) | (intro hx; with_reducible exact absurd hx q1) | (intro hx; with_reducible exact absurd hx q2) | (intro hx; with_reducible exact absurd hx q3) | (intro hx; with_reducible exact absurd hx z4) | (intro hx; with_reducible exact absurd hx y5) | (intro hx; with_reducible exact absurd z5 hx) | (intro hx; exact absurd hx (by decide)) | (intro hx; exact absurd (by decide) hx) | decide | intro hx | (refine Exists.intro _ (And.intro rfl ?_)))
                  all_goals try first | (with_reducible change am_tI _ _) | (change Ret _ _) | (change Ret _ _ _) | (change Exists _)
                  all_goals try dsimp only at *
                  all_goals try exact absurd ‹(1000 : Int64) = 0› (by decide)
                  all_goals first | exact h | skip
  · exact h.elim
set_option maxRecDepth 100000 in
theorem wd_743 : Cond.methodLink "LearnLoans" 193 yX7_runEverybody ∈ am_ws := am_wsi (List.mem_of_getElem? (i := 743) (by rfl)) (by decide +kernel)
set_option maxRecDepth 100000 in
theorem wd_745 : Cond.instanceMethod yX7_runEverybody ∈ am_ws := am_wsi (List.mem_of_getElem? (i := 745) (by rfl)) (by decide +kernel)
set_option maxRecDepth 100000 in
theorem wd_23 : Cond.selects "LearnLoans" yX7_runEverybody yX7_runEverybody ∈ am_ws := am_wsi (List.mem_of_getElem? (i := 23) (by rfl)) (by decide +kernel)
set_option maxRecDepth 100000 in
theorem wd_746 : Cond.code yX7_runEverybody cX7_runEverybody 4 none ∈ am_ws := am_wsi (List.mem_of_getElem? (i := 746) (by rfl)) (by decide +kernel)
set_option maxRecDepth 100000 in
theorem wd_747 : Cond.methodLink "LearnLoans" 196 yX0_promised ∈ am_ws := am_wsi (List.mem_of_getElem? (i := 747) (by rfl)) (by decide +kernel)
set_option maxRecDepth 100000 in
theorem wd_748 : Cond.instanceMethod yX0_promised ∈ am_ws := am_wsi (List.mem_of_getElem? (i := 748) (by rfl)) (by decide +kernel)
set_option maxRecDepth 100000 in
theorem wd_749 : Cond.selects "LearnLoans$House" yX0_promised yX0_promised ∈ am_ws := am_wsi (List.mem_of_getElem? (i := 749) (by rfl)) (by decide +kernel)
set_option maxRecDepth 100000 in
theorem wd_750 : Cond.code yX0_promised cX0_promised 6 (some .long) ∈ am_ws := am_wsi (List.mem_of_getElem? (i := 750) (by rfl)) (by decide +kernel)
set_option maxRecDepth 100000 in
theorem wd_751 : Cond.methodLink "LearnLoans" 200 Lib.MathLoose.max_long.x ∈ am_ws := am_wsi (List.mem_of_getElem? (i := 751) (by rfl)) (by decide +kernel)
theorem dX7_book_0 : decode cX7_book 0 = .ok (.iload_n 1, 1) := by decide +kernel
theorem dX7_book_1 : decode cX7_book 1 = .ok (.iconst 0, 1) := by decide +kernel
theorem dX7_book_2 : decode cX7_book 2 = .ok (.iconst 3, 1) := by decide +kernel
theorem dX7_book_3 : decode cX7_book 3 = .ok (.invokestatic 55, 3) := by decide +kernel
theorem dX7_book_6 : decode cX7_book 6 = .ok (.ifCond .eq 27, 3) := by decide +kernel
theorem dX7_book_9 : decode cX7_book 9 = .ok (.iload_n 2, 1) := by decide +kernel
theorem dX7_book_10 : decode cX7_book 10 = .ok (.invokestatic 34, 3) := by decide +kernel
theorem dX7_book_13 : decode cX7_book 13 = .ok (.ifCond .eq 20, 3) := by decide +kernel
theorem dX7_book_16 : decode cX7_book 16 = .ok (.iload_n 3, 1) := by decide +kernel
theorem dX7_book_17 : decode cX7_book 17 = .ok (.invokestatic 34, 3) := by decide +kernel
theorem dX7_book_20 : decode cX7_book 20 = .ok (.ifCond .eq 13, 3) := by decide +kernel
theorem dX7_book_23 : decode cX7_book 23 = .ok (.iload 4, 2) := by decide +kernel
theorem dX7_book_25 : decode cX7_book 25 = .ok (.iconst 0, 1) := by decide +kernel
theorem dX7_book_26 : decode cX7_book 26 = .ok (.iconst 1, 1) := by decide +kernel
theorem dX7_book_27 : decode cX7_book 27 = .ok (.invokestatic 55, 3) := by decide +kernel
theorem dX7_book_30 : decode cX7_book 30 = .ok (.ifCond .ne 7, 3) := by decide +kernel
theorem dX7_book_33 : decode cX7_book 33 = .ok (.ldc2_w 149, 3) := by decide +kernel
theorem dX7_book_36 : decode cX7_book 36 = .ok (.lreturn, 1) := by decide +kernel
theorem dX7_book_37 : decode cX7_book 37 = .ok (.aload_n 0, 1) := by decide +kernel
theorem dX7_book_38 : decode cX7_book 38 = .ok (.iload_n 2, 1) := by decide +kernel
theorem dX7_book_39 : decode cX7_book 39 = .ok (.iload_n 3, 1) := by decide +kernel
theorem dX7_book_40 : decode cX7_book 40 = .ok (.invokevirtual 193, 3) := by decide +kernel
theorem dX7_book_43 : decode cX7_book 43 = .ok (.lconst 0, 1) := by decide +kernel
theorem dX7_book_44 : decode cX7_book 44 = .ok (.lstore 5, 2) := by decide +kernel
theorem dX7_book_46 : decode cX7_book 46 = .ok (.iconst 0, 1) := by decide +kernel
theorem dX7_book_47 : decode cX7_book 47 = .ok (.istore 7, 2) := by decide +kernel
theorem dX7_book_49 : decode cX7_book 49 = .ok (.iload 7, 2) := by decide +kernel
theorem dX7_book_51 : decode cX7_book 51 = .ok (.aload_n 0, 1) := by decide +kernel
theorem dX7_book_52 : decode cX7_book 52 = .ok (.getfield 27, 3) := by decide +kernel
theorem dX7_book_55 : decode cX7_book 55 = .ok (.getfield 122, 3) := by decide +kernel
theorem dX7_book_58 : decode cX7_book 58 = .ok (.getfield 108, 3) := by decide +kernel
theorem dX7_book_61 : decode cX7_book 61 = .ok (.if_icmp .ge 46, 3) := by decide +kernel
theorem dX7_book_64 : decode cX7_book 64 = .ok (.aload_n 0, 1) := by decide +kernel
theorem dX7_book_65 : decode cX7_book 65 = .ok (.getfield 27, 3) := by decide +kernel
theorem dX7_book_68 : decode cX7_book 68 = .ok (.getfield 122, 3) := by decide +kernel
theorem dX7_book_71 : decode cX7_book 71 = .ok (.iload 7, 2) := by decide +kernel
theorem dX7_book_73 : decode cX7_book 73 = .ok (.bipush 6, 2) := by decide +kernel
theorem dX7_book_75 : decode cX7_book 75 = .ok (.invokevirtual 138, 3) := by decide +kernel
theorem dX7_book_78 : decode cX7_book 78 = .ok (.iload_n 1, 1) := by decide +kernel
theorem dX7_book_79 : decode cX7_book 79 = .ok (.if_icmp .ne 22, 3) := by decide +kernel
theorem dX7_book_82 : decode cX7_book 82 = .ok (.lload 5, 2) := by decide +kernel
theorem dX7_book_84 : decode cX7_book 84 = .ok (.aload_n 0, 1) := by decide +kernel
theorem dX7_book_85 : decode cX7_book 85 = .ok (.getfield 20, 3) := by decide +kernel
theorem dX7_book_88 : decode cX7_book 88 = .ok (.getfield 158, 3) := by decide +kernel
theorem dX7_book_91 : decode cX7_book 91 = .ok (.sipush 150, 3) := by decide +kernel
theorem dX7_book_94 : decode cX7_book 94 = .ok (.iload 7, 2) := by decide +kernel
theorem dX7_book_96 : decode cX7_book 96 = .ok (.iadd, 1) := by decide +kernel
theorem dX7_book_97 : decode cX7_book 97 = .ok (.laload, 1) := by decide +kernel
theorem dX7_book_98 : decode cX7_book 98 = .ok (.ladd, 1) := by decide +kernel
theorem dX7_book_99 : decode cX7_book 99 = .ok (.lstore 5, 2) := by decide +kernel
theorem dX7_book_101 : decode cX7_book 101 = .ok (.iinc 7 1, 3) := by decide +kernel
theorem dX7_book_104 : decode cX7_book 104 = .ok (.goto (-55), 3) := by decide +kernel
theorem dX7_book_107 : decode cX7_book 107 = .ok (.iload 4, 2) := by decide +kernel
theorem dX7_book_109 : decode cX7_book 109 = .ok (.ifCond .ne 8, 3) := by decide +kernel
theorem dX7_book_112 : decode cX7_book 112 = .ok (.lload 5, 2) := by decide +kernel
theorem dX7_book_114 : decode cX7_book 114 = .ok (.goto 19, 3) := by decide +kernel
theorem dX7_book_117 : decode cX7_book 117 = .ok (.lconst 0, 1) := by decide +kernel
theorem dX7_book_118 : decode cX7_book 118 = .ok (.aload_n 0, 1) := by decide +kernel
theorem dX7_book_119 : decode cX7_book 119 = .ok (.getfield 27, 3) := by decide +kernel
theorem dX7_book_122 : decode cX7_book 122 = .ok (.iload_n 1, 1) := by decide +kernel
theorem dX7_book_123 : decode cX7_book 123 = .ok (.iload_n 2, 1) := by decide +kernel
theorem dX7_book_124 : decode cX7_book 124 = .ok (.invokevirtual 196, 3) := by decide +kernel
theorem dX7_book_127 : decode cX7_book 127 = .ok (.lload 5, 2) := by decide +kernel
theorem dX7_book_129 : decode cX7_book 129 = .ok (.lsub, 1) := by decide +kernel
theorem dX7_book_130 : decode cX7_book 130 = .ok (.invokestatic 200, 3) := by decide +kernel
theorem dX7_book_133 : decode cX7_book 133 = .ok (.lreturn, 1) := by decide +kernel
def kX7_book (live : am_E) (Ret : am_R) : am_code := [(0, am_iload 1 1), (1, am_const (.int 0) 2), (2, am_const (.int 3) 3), (3, am_callS live 3 TX7_within 6), (6, am_if1 (fun x => x = 0) 33 9), (9, am_iload 2 10), (10, am_callS live 1 TX7_isYear 13), (13, am_if1 (fun x => x = 0) 33 16), (16, am_iload 3 17), (17, am_callS live 1 TX7_isYear 20), (20, am_if1 (fun x => x = 0) 33 23), (23, am_iload 4 25), (25, am_const (.int 0) 26), (26, am_const (.int 1) 27), (27, am_callS live 3 TX7_within 30), (30, am_if1 (fun x => x = 0) 33 37), (33, am_const (.long (-2)) 36), (36, am_retL Ret), (37, am_aload 0 38), (38, am_iload 2 39), (39, am_iload 3 40), (40, am_callV live 7 2 TX7_runEverybody 43), (43, am_const (.long 0) 44), (44, am_lstore 5 8 46), (46, am_const (.int 0) 47), (47, am_istore 7 8 49), (49, am_iload 7 51), (51, am_aload 0 52), (52, am_getR live 7 0 55), (55, am_getR live 0 4 58), (58, am_getI live 3 2 61), (61, am_if2 (fun x y => y ≤ x) 107 64), (64, am_aload 0 65), (65, am_getR live 7 0 68), (68, am_getR live 0 4 71), (71, am_iload 7 73), (73, am_const (.int 6) 75), (75, am_callV live 3 2 TX3_at 78), (78, am_iload 1 79), (79, am_if2 (fun x y => x = y) 82 101), (82, am_lload 5 84), (84, am_aload 0 85), (85, am_getR live 7 2 88), (88, am_getR live 4 2 91), (91, am_const (.int 150) 94), (94, am_iload 7 96), (96, am_i2 (fun x y => x + y) 97), (97, am_lald live 1 98), (98, am_l2 (fun x y => x + y) 99), (99, am_lstore 5 8 101), (101, am_iinc 7 8 1 104), (104, am_goto 49), (107, am_iload 4 109), (109, am_if1 (fun x => x = 0) 112 117), (112, am_lload 5 114), (114, am_goto 133), (117, am_const (.long 0) 118), (118, am_aload 0 119), (119, am_getR live 7 0 122), (122, am_iload 1 123), (123, am_iload 2 124), (124, am_callV live 0 2 TX0_promised 127), (127, am_lload 5 129), (129, am_l2 (fun x y => x - y) 130), (130, am_mathl (fun x y => if y < x then x else y) 147 133), (133, am_retL Ret)]
theorem koX7_book (live : am_E) (Ret : am_R) : ∀ q ∈ kX7_book live Ret, am_ok RX7 cX7_book 8 (some .long) 6 147 live Ret q.1 q.2 :=
  am_kc (ak_iload_n dX7_book_0 rfl rfl) <|
  am_kc (ak_iconst dX7_book_1 (by decide +kernel) rfl) <|
  am_kc (ak_iconst dX7_book_2 (by decide +kernel) rfl) <|
  am_kc (ak_callS metX7_within ⟨rfl, by decide +kernel, by decide +kernel, by decide +kernel⟩ (am_w4 wd_418 wd_419 wd_58 wd_420) (by decide) dX7_book_3 rfl) <|
  am_kc (ak_if_eq dX7_book_6 (by decide +kernel) rfl) <|
  am_kc (ak_iload_n dX7_book_9 rfl rfl) <|
  am_kc (ak_callS metX7_isYear ⟨rfl, by decide +kernel, by decide +kernel, by decide +kernel⟩ (am_w4 wd_407 wd_408 wd_58 wd_409) (by decide) dX7_book_10 rfl) <|
  am_kc (ak_if_eq dX7_book_13 (by decide +kernel) rfl) <|
  am_kc (ak_iload_n dX7_book_16 rfl rfl) <|
  am_kc (ak_callS metX7_isYear ⟨rfl, by decide +kernel, by decide +kernel, by decide +kernel⟩ (am_w4 wd_407 wd_408 wd_58 wd_409) (by decide) dX7_book_17 rfl) <|
  am_kc (ak_if_eq dX7_book_20 (by decide +kernel) rfl) <|
  am_kc (ak_iload dX7_book_23 rfl) <|
  am_kc (ak_iconst dX7_book_25 (by decide +kernel) rfl) <|
  am_kc (ak_iconst dX7_book_26 (by decide +kernel) rfl) <|
  am_kc (ak_callS metX7_within ⟨rfl, by decide +kernel, by decide +kernel, by decide +kernel⟩ (am_w4 wd_418 wd_419 wd_58 wd_420) (by decide) dX7_book_27 rfl) <|
  am_kc (ak_if_ne dX7_book_30 (by decide +kernel) rfl) <|
  am_kc (ak_ldc2 wd_545 dX7_book_33 rfl) <|
  am_kc (ak_retL dX7_book_36) <|
  am_kc (ak_aload_n dX7_book_37 rfl rfl) <|
  am_kc (ak_iload_n dX7_book_38 rfl rfl) <|
  am_kc (ak_iload_n dX7_book_39 rfl rfl) <|
  am_kc (ak_callV (C := RX7) (F := TX7) (N := 4) metX7_runEverybody rfl ⟨rfl, by decide +kernel, by decide +kernel, by decide +kernel⟩ (am_w5 wd_743 wd_745 wd_23 wd_58 wd_746) (by decide) dX7_book_40 rfl) <|
  am_kc (ak_lconst dX7_book_43 (by decide +kernel) rfl) <|
  am_kc (ak_lstore dX7_book_44 rfl) <|
  am_kc (ak_iconst dX7_book_46 (by decide +kernel) rfl) <|
  am_kc (ak_istore dX7_book_47 rfl) <|
  am_kc (ak_iload dX7_book_49 rfl) <|
  am_kc (ak_aload_n dX7_book_51 rfl rfl) <|
  am_kc (ak_getR (C := RX7) (T := TX7) (N := 4) rfl inX7w (by decide) rfl rfl rfl wd_390 dX7_book_52 rfl) <|
  am_kc (ak_getR (C := RX0) (T := TX0) (N := 13) rfl inX0w (by decide) rfl rfl rfl wd_207 dX7_book_55 rfl) <|
  am_kc (ak_getI (C := RX3) (T := TX3) (N := 3) rfl inX3w (by decide) rfl rfl rfl wd_152 dX7_book_58 rfl) <|
  am_kc (ak_icmp_ge dX7_book_61 (by decide +kernel) rfl) <|
  am_kc (ak_aload_n dX7_book_64 rfl rfl) <|
  am_kc (ak_getR (C := RX7) (T := TX7) (N := 4) rfl inX7w (by decide) rfl rfl rfl wd_390 dX7_book_65 rfl) <|
  am_kc (ak_getR (C := RX0) (T := TX0) (N := 13) rfl inX0w (by decide) rfl rfl rfl wd_207 dX7_book_68 rfl) <|
  am_kc (ak_iload dX7_book_71 rfl) <|
  am_kc (ak_bipush dX7_book_73 (by decide +kernel) rfl) <|
  am_kc (ak_callV (C := RX3) (F := TX3) (N := 3) metX3_at rfl ⟨rfl, by decide +kernel, by decide +kernel, by decide +kernel⟩ (am_w5 wd_524 wd_503 wd_504 wd_64 wd_505) (by decide) dX7_book_75 rfl) <|
  am_kc (ak_iload_n dX7_book_78 rfl rfl) <|
  am_kc (ak_icmp_ne dX7_book_79 (by decide +kernel) rfl) <|
  am_kc (ak_lload dX7_book_82 rfl) <|
  am_kc (ak_aload_n dX7_book_84 rfl rfl) <|
  am_kc (ak_getR (C := RX7) (T := TX7) (N := 4) rfl inX7w (by decide) rfl rfl rfl wd_392 dX7_book_85 rfl) <|
  am_kc (ak_getR (C := RX4) (T := TX4) (N := 19) rfl inX4w (by decide) rfl rfl rfl wd_298 dX7_book_88 rfl) <|
  am_kc (ak_sipush dX7_book_91 (by decide +kernel) rfl) <|
  am_kc (ak_iload dX7_book_94 rfl) <|
  am_kc (ak_iadd dX7_book_96 rfl) <|
  am_kc (ak_lald (t := 1) (fun _ => rfl) rfl dX7_book_97 rfl) <|
  am_kc (ak_ladd dX7_book_98 rfl) <|
  am_kc (ak_lstore dX7_book_99 rfl) <|
  am_kc (ak_iinc dX7_book_101 (by decide +kernel) rfl) <|
  am_kc (ak_goto dX7_book_104 (by decide +kernel)) <|
  am_kc (ak_iload dX7_book_107 rfl) <|
  am_kc (ak_if_ne dX7_book_109 (by decide +kernel) rfl) <|
  am_kc (ak_lload dX7_book_112 rfl) <|
  am_kc (ak_goto dX7_book_114 (by decide +kernel)) <|
  am_kc (ak_lconst dX7_book_117 (by decide +kernel) rfl) <|
  am_kc (ak_aload_n dX7_book_118 rfl rfl) <|
  am_kc (ak_getR (C := RX7) (T := TX7) (N := 4) rfl inX7w (by decide) rfl rfl rfl wd_390 dX7_book_119 rfl) <|
  am_kc (ak_iload_n dX7_book_122 rfl rfl) <|
  am_kc (ak_iload_n dX7_book_123 rfl rfl) <|
  am_kc (ak_callV (C := RX0) (F := TX0) (N := 13) metX0_promised rfl ⟨rfl, by decide +kernel, by decide +kernel, by decide +kernel⟩ (am_w5 wd_747 wd_748 wd_749 wd_61 wd_750) (by decide) dX7_book_124 rfl) <|
  am_kc (ak_lload dX7_book_127 rfl) <|
  am_kc (ak_lsub dX7_book_129 rfl) <|
  am_kc (ak_lmax (am_w4 wd_751 wd_611 wd_68 wd_612) (by decide) dX7_book_130 rfl) <|
  am_kc (ak_retL dX7_book_133) <| am_kn
def TX7_book : am_T := fun live as M R => match as with
  | [.ref n, .int b, .int y, .int k, .int w] => am_mn live ∧ n = 0 ∧ (g_hI M ∧ g_rI M) ∧ ∀ v M', g_sc M M' → g_rI M' → R (some (.long v)) M'
  | _ => False
def JX7_book : am_E → List Value → am_M → am_R → am_inv := fun live as M0 _ pc => match as with
  | [.ref n, .int b, .int y, .int k, .int w] => (match pc with
    | 49 => some ([0, 1, 2, 4, 5, 7], fun u L st M => ∃ (v : Int64) (i : Int32), L = [(0, .ref 0), (1, .int b), (2, .int y), (4, .int w), (5, .long v), (7, .int i)] ∧ st = [] ∧ u = ((31 - i.toInt).toNat, 0) ∧ 0 ≤ i.toInt ∧ g_sc M0 M ∧ g_rI M)
    | _ => none)
  | _ => none
set_option maxRecDepth 100000 in
set_option maxHeartbeats 4000000 in
theorem metX7_book : am_Met yX7_book cX7_book 8 (some .long) (6) (147) TX7_book := by
  refine am_met (own := RX7) (by decide +kernel) rfl kX7_book koX7_book 150 JX7_book ?_ ?_
  · intro live as M Ret h
    unfold TX7_book at h
    split at h
    · next n b y k w =>
      refine ⟨Nat.le_of_ble_eq_true rfl, ?_⟩
      change am_wp _ _ _ _ [(0, Value.ref n), (1, Value.int b), (2, Value.int y), (3, Value.int k), (4, Value.int w)] _ _
      obtain ⟨hmn, rfl, ⟨hH, hR⟩, h⟩ := h
      have hmn2 := hmn
      obtain ⟨i1, i2, rfl⟩ := hmn2
      by_cases z0 : 0 ≤ b ∧ b ≤ 3
      rotate_left
      · skip
        have q0 : (if 0 ≤ b ∧ b ≤ 3 then (1 : Int32) else 0) = 0 := if_neg z0
        repeat' (first | (with_reducible exact hmn) | apply And.intro | exact rfl | (intro hx; with_reducible exact absurd q0 hx) | (intro hx; exact absurd hx (by decide)) | (intro hx; exact absurd (by decide) hx) | decide | intro hx | (refine Exists.intro _ (And.intro rfl ?_)))
        all_goals try first | (with_reducible change am_tI _ _) | (change Ret _ _) | (change Ret _ _ _) | (change Exists _)
        all_goals try dsimp only at *
        all_goals try exact absurd ‹(1000 : Int64) = 0› (by decide)
        all_goals exact h _ _ g_sc.rf hR
      · skip
        have q0 : ¬ ((if 0 ≤ b ∧ b ≤ 3 then (1 : Int32) else 0) = 0) := by rw [if_pos z0]; decide
        by_cases z1 : 0 ≤ y ∧ y < 40
        rotate_left
        · skip
          have q1 : (if 0 ≤ y ∧ y < 40 then (1 : Int32) else 0) = 0 := if_neg z1
          repeat' (first | (with_reducible exact hmn) | apply And.intro | exact rfl | (intro hx; with_reducible exact absurd hx q0) | (intro hx; with_reducible exact absurd q1 hx) | (intro hx; exact absurd hx (by decide)) | (intro hx; exact absurd (by decide) hx) | decide | intro hx | (refine Exists.intro _ (And.intro rfl ?_)))
          all_goals try first | (with_reducible change am_tI _ _) | (change Ret _ _) | (change Ret _ _ _) | (change Exists _)
          all_goals try dsimp only at *
          all_goals try exact absurd ‹(1000 : Int64) = 0› (by decide)
          all_goals exact h _ _ g_sc.rf hR
        · skip
          have q1 : ¬ ((if 0 ≤ y ∧ y < 40 then (1 : Int32) else 0) = 0) := by rw [if_pos z1]; decide
          by_cases z2 : 0 ≤ k ∧ k < 40
          rotate_left
          · skip
            have q2 : (if 0 ≤ k ∧ k < 40 then (1 : Int32) else 0) = 0 := if_neg z2
            repeat' (first | (with_reducible exact hmn) | apply And.intro | exact rfl | (intro hx; with_reducible exact absurd hx q0) | (intro hx; with_reducible exact absurd hx q1) | (intro hx; with_reducible exact absurd q2 hx) | (intro hx; exact absurd hx (by decide)) | (intro hx; exact absurd (by decide) hx) | decide | intro hx | (refine Exists.intro _ (And.intro rfl ?_)))
            all_goals try first | (with_reducible change am_tI _ _) | (change Ret _ _) | (change Ret _ _ _) | (change Exists _)
            all_goals try dsimp only at *
            all_goals try exact absurd ‹(1000 : Int64) = 0› (by decide)
            all_goals exact h _ _ g_sc.rf hR
          · skip
            have q2 : ¬ ((if 0 ≤ k ∧ k < 40 then (1 : Int32) else 0) = 0) := by rw [if_pos z2]; decide
            by_cases z3 : 0 ≤ w ∧ w ≤ 1
            rotate_left
            · skip
              have q3 : (if 0 ≤ w ∧ w ≤ 1 then (1 : Int32) else 0) = 0 := if_neg z3
              repeat' (first | (with_reducible exact hmn) | apply And.intro | exact rfl | (intro hx; with_reducible exact absurd hx q0) | (intro hx; with_reducible exact absurd hx q1) | (intro hx; with_reducible exact absurd hx q2) | (intro hx; with_reducible exact absurd q3 hx) | (intro hx; exact absurd hx (by decide)) | (intro hx; exact absurd (by decide) hx) | decide | intro hx | (refine Exists.intro _ (And.intro rfl ?_)))
              all_goals try first | (with_reducible change am_tI _ _) | (change Ret _ _) | (change Ret _ _ _) | (change Exists _)
              all_goals try dsimp only at *
              all_goals try exact absurd ‹(1000 : Int64) = 0› (by decide)
              all_goals exact h _ _ g_sc.rf hR
            · skip
              have q3 : ¬ ((if 0 ≤ w ∧ w ≤ 1 then (1 : Int32) else 0) = 0) := by rw [if_pos z3]; decide
              repeat' (first | (with_reducible exact hmn) | (with_reducible exact hR) | (with_reducible exact hH) | apply And.intro | exact rfl | (intro hx; with_reducible exact absurd hx q0) | (intro hx; with_reducible exact absurd hx q1) | (intro hx; with_reducible exact absurd hx q2) | (intro hx; with_reducible exact absurd hx q3) | ((with_reducible change g_rI _); (with_reducible assumption)) | (intro hx; exact absurd hx (by decide)) | (intro hx; exact absurd (by decide) hx) | decide | intro hx | (refine Exists.intro _ (And.intro rfl ?_)))
              all_goals try first | (with_reducible change am_tI _ _) | (change Ret _ _) | (change Ret _ _ _) | (change Exists _)
              all_goals try dsimp only at *
              all_goals try exact absurd ‹(1000 : Int64) = 0› (by decide)
              all_goals first | exact ⟨_, _, _, rfl, rfl, rfl, by decide, by (repeat' (first | (with_reducible exact g_sc.rf) | (with_reducible assumption) | ((with_reducible change g_sc _ (am_wI _ _ _ _)); refine g_sc.wI ?_ rfl) | ((with_reducible change g_sc _ (am_wJ _ _ _ _)); refine g_sc.wJ ?_ rfl) | ((with_reducible change g_sc _ (am_cI _ _ _)); refine g_sc.cI ?_ rfl) | ((with_reducible change g_sc _ (am_cJ _ _ _)); refine g_sc.cJ ?_ rfl) | (refine g_sc.tr ?_ (by with_reducible assumption)) | (refine g_sc.st ?_ (by with_reducible assumption)))), by (repeat' (first | (with_reducible assumption) | ((with_reducible change g_rI (am_wJ _ _ _ _)); refine g_rI.wJ ?_) | ((with_reducible change g_rI (am_cJ _ _ _)); refine g_rI.cJ ?_) | ((with_reducible change g_rI (am_wI _ 5 _ _)); refine g_rI.w5 ?_) | ((with_reducible change g_rI (am_wI _ _ _ _)); refine g_rI.wF ?_ rfl) | (refine g_rI.st ?_ (by with_reducible assumption)) | (refine g_rI.we ?_ (by with_reducible assumption))))⟩ | ((with_reducible change Ret _ _); exact h _ _ (by (repeat' (first | (with_reducible exact g_sc.rf) | (with_reducible assumption) | ((with_reducible change g_sc _ (am_wI _ _ _ _)); refine g_sc.wI ?_ rfl) | ((with_reducible change g_sc _ (am_wJ _ _ _ _)); refine g_sc.wJ ?_ rfl) | ((with_reducible change g_sc _ (am_cI _ _ _)); refine g_sc.cI ?_ rfl) | ((with_reducible change g_sc _ (am_cJ _ _ _)); refine g_sc.cJ ?_ rfl) | (refine g_sc.tr ?_ (by with_reducible assumption)) | (refine g_sc.st ?_ (by with_reducible assumption))))) (by (repeat' (first | (with_reducible assumption) | ((with_reducible change g_rI (am_wJ _ _ _ _)); refine g_rI.wJ ?_) | ((with_reducible change g_rI (am_cJ _ _ _)); refine g_rI.cJ ?_) | ((with_reducible change g_rI (am_wI _ 5 _ _)); refine g_rI.w5 ?_) | ((with_reducible change g_rI (am_wI _ _ _ _)); refine g_rI.wF ?_ rfl) | (refine g_rI.st ?_ (by with_reducible assumption)) | (refine g_rI.we ?_ (by with_reducible assumption)))))) | skip
    · exact h.elim
  · intro live as M0 Ret h k pc I hI L st M hi
    unfold TX7_book at h
    split at h
    · next n b y k w =>
      obtain ⟨hmn, rfl, ⟨hH, hR⟩, h⟩ := h
      have hmn2 := hmn
      obtain ⟨i1, i2, rfl⟩ := hmn2
      change (match pc with | 49 => _ | _ => none) = _ at hI
      split at hI
      · cases hI
        obtain ⟨v, i, rfl, rfl, rfl, e1, e2, e3⟩ := hi
        have hs := hH.lo.2
        have hpr : (M.1 54 2).toInt ≤ 100000 := by rw [e2.i 2 (by decide)]; have := hH.pr.2; omega
        by_cases hz : M.1 33 2 ≤ i
        · skip
          repeat' (first | (with_reducible exact hmn) | (with_reducible exact hpr) | apply And.intro | exact rfl | (intro hx; with_reducible exact absurd hz hx) | intro hx | (refine Exists.intro _ (And.intro rfl ?_)))
          all_goals try first | (with_reducible change am_tI _ _) | (change Ret _ _) | (change Ret _ _ _) | (change Exists _)
          all_goals try dsimp only at *
          all_goals try exact absurd ‹(1000 : Int64) = 0› (by decide)
          all_goals exact h _ _ e2 e3
        · have hz2 := hz
          rw [e2.i 2 (by decide)] at hz2
          simp only [i_le] at hz2
          have hi := i_inc (x := i) (by omega) (by omega)
          have hl : am_in i 30 := ⟨e1, by omega⟩
          have f150 := g_ix hl 150 150 rfl (by decide)
          have l6 : am_len 6 = 180 := rfl
          repeat' (first | (with_reducible exact hmn) | apply And.intro | exact rfl | (intro hx; with_reducible exact absurd hx hz) | intro hx | (refine Exists.intro _ (And.intro rfl ?_)))
          all_goals try first | (with_reducible change am_tI _ _) | (change Ret _ _) | (change Ret _ _ _) | (change Exists _)
          all_goals try dsimp only at *
          all_goals try exact absurd ‹(1000 : Int64) = 0› (by decide)
          all_goals first
            | exact f150.1
            | (rw [l6]; exact f150.2.1)
            | exact ⟨_, am_lt_l (by omega), _, _, rfl, rfl, rfl, by omega, e2, e3⟩
            | skip
      · cases hI
    · exact h.elim
set_option maxRecDepth 100000 in
theorem wd_312 : Cond.fieldLink "LearnLoans" 213 "LearnLoans$Run" "paid" "J" ∈ am_ws := am_wsi (List.mem_of_getElem? (i := 312) (by rfl)) (by decide +kernel)
theorem dX7_early_0 : decode cX7_early 0 = .ok (.aload_n 0, 1) := by decide +kernel
theorem dX7_early_1 : decode cX7_early 1 = .ok (.iload_n 1, 1) := by decide +kernel
theorem dX7_early_2 : decode cX7_early 2 = .ok (.invokevirtual 52, 3) := by decide +kernel
theorem dX7_early_5 : decode cX7_early 5 = .ok (.ifCond .eq 28, 3) := by decide +kernel
theorem dX7_early_8 : decode cX7_early 8 = .ok (.iload_n 2, 1) := by decide +kernel
theorem dX7_early_9 : decode cX7_early 9 = .ok (.iconst 1, 1) := by decide +kernel
theorem dX7_early_10 : decode cX7_early 10 = .ok (.ldc 189, 2) := by decide +kernel
theorem dX7_early_12 : decode cX7_early 12 = .ok (.invokestatic 55, 3) := by decide +kernel
theorem dX7_early_15 : decode cX7_early 15 = .ok (.ifCond .eq 18, 3) := by decide +kernel
theorem dX7_early_18 : decode cX7_early 18 = .ok (.iload_n 3, 1) := by decide +kernel
theorem dX7_early_19 : decode cX7_early 19 = .ok (.invokestatic 34, 3) := by decide +kernel
theorem dX7_early_22 : decode cX7_early 22 = .ok (.ifCond .eq 11, 3) := by decide +kernel
theorem dX7_early_25 : decode cX7_early 25 = .ok (.iload 4, 2) := by decide +kernel
theorem dX7_early_27 : decode cX7_early 27 = .ok (.invokestatic 34, 3) := by decide +kernel
theorem dX7_early_30 : decode cX7_early 30 = .ok (.ifCond .ne 6, 3) := by decide +kernel
theorem dX7_early_33 : decode cX7_early 33 = .ok (.bipush (-2), 2) := by decide +kernel
theorem dX7_early_35 : decode cX7_early 35 = .ok (.ireturn, 1) := by decide +kernel
theorem dX7_early_36 : decode cX7_early 36 = .ok (.iconst 0, 1) := by decide +kernel
theorem dX7_early_37 : decode cX7_early 37 = .ok (.istore 5, 2) := by decide +kernel
theorem dX7_early_39 : decode cX7_early 39 = .ok (.iconst 0, 1) := by decide +kernel
theorem dX7_early_40 : decode cX7_early 40 = .ok (.istore 6, 2) := by decide +kernel
theorem dX7_early_42 : decode cX7_early 42 = .ok (.iload 6, 2) := by decide +kernel
theorem dX7_early_44 : decode cX7_early 44 = .ok (.iconst 4, 1) := by decide +kernel
theorem dX7_early_45 : decode cX7_early 45 = .ok (.if_icmp .ge 62, 3) := by decide +kernel
theorem dX7_early_48 : decode cX7_early 48 = .ok (.aload_n 0, 1) := by decide +kernel
theorem dX7_early_49 : decode cX7_early 49 = .ok (.iload_n 1, 1) := by decide +kernel
theorem dX7_early_50 : decode cX7_early 50 = .ok (.iconst (-1), 1) := by decide +kernel
theorem dX7_early_51 : decode cX7_early 51 = .ok (.iload 6, 2) := by decide +kernel
theorem dX7_early_53 : decode cX7_early 53 = .ok (.iload_n 3, 1) := by decide +kernel
theorem dX7_early_54 : decode cX7_early 54 = .ok (.iload 4, 2) := by decide +kernel
theorem dX7_early_56 : decode cX7_early 56 = .ok (.iconst 0, 1) := by decide +kernel
theorem dX7_early_57 : decode cX7_early 57 = .ok (.invokevirtual 209, 3) := by decide +kernel
theorem dX7_early_60 : decode cX7_early 60 = .ok (.lstore 7, 2) := by decide +kernel
theorem dX7_early_62 : decode cX7_early 62 = .ok (.aload_n 0, 1) := by decide +kernel
theorem dX7_early_63 : decode cX7_early 63 = .ok (.iload_n 1, 1) := by decide +kernel
theorem dX7_early_64 : decode cX7_early 64 = .ok (.iconst (-1), 1) := by decide +kernel
theorem dX7_early_65 : decode cX7_early 65 = .ok (.iload 6, 2) := by decide +kernel
theorem dX7_early_67 : decode cX7_early 67 = .ok (.iload_n 3, 1) := by decide +kernel
theorem dX7_early_68 : decode cX7_early 68 = .ok (.iload 4, 2) := by decide +kernel
theorem dX7_early_70 : decode cX7_early 70 = .ok (.iload_n 2, 1) := by decide +kernel
theorem dX7_early_71 : decode cX7_early 71 = .ok (.invokevirtual 209, 3) := by decide +kernel
theorem dX7_early_74 : decode cX7_early 74 = .ok (.aload_n 0, 1) := by decide +kernel
theorem dX7_early_75 : decode cX7_early 75 = .ok (.getfield 20, 3) := by decide +kernel
theorem dX7_early_78 : decode cX7_early 78 = .ok (.getfield 213, 3) := by decide +kernel
theorem dX7_early_81 : decode cX7_early 81 = .ok (.ladd, 1) := by decide +kernel
theorem dX7_early_82 : decode cX7_early 82 = .ok (.lstore 9, 2) := by decide +kernel
theorem dX7_early_84 : decode cX7_early 84 = .ok (.lload 9, 2) := by decide +kernel
theorem dX7_early_86 : decode cX7_early 86 = .ok (.lload 7, 2) := by decide +kernel
theorem dX7_early_88 : decode cX7_early 88 = .ok (.lcmp, 1) := by decide +kernel
theorem dX7_early_89 : decode cX7_early 89 = .ok (.ifCond .ge 12, 3) := by decide +kernel
theorem dX7_early_92 : decode cX7_early 92 = .ok (.iload 5, 2) := by decide +kernel
theorem dX7_early_94 : decode cX7_early 94 = .ok (.iconst 1, 1) := by decide +kernel
theorem dX7_early_95 : decode cX7_early 95 = .ok (.iload 6, 2) := by decide +kernel
theorem dX7_early_97 : decode cX7_early 97 = .ok (.ishl, 1) := by decide +kernel
theorem dX7_early_98 : decode cX7_early 98 = .ok (.ior, 1) := by decide +kernel
theorem dX7_early_99 : decode cX7_early 99 = .ok (.istore 5, 2) := by decide +kernel
theorem dX7_early_101 : decode cX7_early 101 = .ok (.iinc 6 1, 3) := by decide +kernel
theorem dX7_early_104 : decode cX7_early 104 = .ok (.goto (-62), 3) := by decide +kernel
theorem dX7_early_107 : decode cX7_early 107 = .ok (.iload 5, 2) := by decide +kernel
theorem dX7_early_109 : decode cX7_early 109 = .ok (.ireturn, 1) := by decide +kernel
def kX7_early (live : am_E) (Ret : am_R) : am_code := [(0, am_aload 0 1), (1, am_iload 1 2), (2, am_callV live 7 1 TX7_isPerson 5), (5, am_if1 (fun x => x = 0) 33 8), (8, am_iload 2 9), (9, am_const (.int 1) 10), (10, am_const (.int 1000000000) 12), (12, am_callS live 3 TX7_within 15), (15, am_if1 (fun x => x = 0) 33 18), (18, am_iload 3 19), (19, am_callS live 1 TX7_isYear 22), (22, am_if1 (fun x => x = 0) 33 25), (25, am_iload 4 27), (27, am_callS live 1 TX7_isYear 30), (30, am_if1 (fun x => x = 0) 33 36), (33, am_const (.int (-2)) 35), (35, am_retI Ret), (36, am_const (.int 0) 37), (37, am_istore 5 11 39), (39, am_const (.int 0) 40), (40, am_istore 6 11 42), (42, am_iload 6 44), (44, am_const (.int 4) 45), (45, am_if2 (fun x y => y ≤ x) 107 48), (48, am_aload 0 49), (49, am_iload 1 50), (50, am_const (.int (-1)) 51), (51, am_iload 6 53), (53, am_iload 3 54), (54, am_iload 4 56), (56, am_const (.int 0) 57), (57, am_callV live 7 6 TX7_takenByLife 60), (60, am_lstore 7 11 62), (62, am_aload 0 63), (63, am_iload 1 64), (64, am_const (.int (-1)) 65), (65, am_iload 6 67), (67, am_iload 3 68), (68, am_iload 4 70), (70, am_iload 2 71), (71, am_callV live 7 6 TX7_takenByLife 74), (74, am_aload 0 75), (75, am_getR live 7 2 78), (78, am_getJ live 4 15 81), (81, am_l2 (fun x y => x + y) 82), (82, am_lstore 9 11 84), (84, am_lload 9 86), (86, am_lload 7 88), (88, am_lcmp 89), (89, am_if1 (fun x => 0 ≤ x) 101 92), (92, am_iload 5 94), (94, am_const (.int 1) 95), (95, am_iload 6 97), (97, am_i2 (fun x y => x <<< (y &&& 31)) 98), (98, am_i2 (fun x y => x ||| y) 99), (99, am_istore 5 11 101), (101, am_iinc 6 11 1 104), (104, am_goto 42), (107, am_iload 5 109), (109, am_retI Ret)]
theorem koX7_early (live : am_E) (Ret : am_R) : ∀ q ∈ kX7_early live Ret, am_ok RX7 cX7_early 11 (some .int) 6 152 live Ret q.1 q.2 :=
  am_kc (ak_aload_n dX7_early_0 rfl rfl) <|
  am_kc (ak_iload_n dX7_early_1 rfl rfl) <|
  am_kc (ak_callV (C := RX7) (F := TX7) (N := 4) metX7_isPerson rfl ⟨rfl, by decide +kernel, by decide +kernel, by decide +kernel⟩ (am_w5 wd_414 wd_416 wd_0 wd_58 wd_417) (by decide) dX7_early_2 rfl) <|
  am_kc (ak_if_eq dX7_early_5 (by decide +kernel) rfl) <|
  am_kc (ak_iload_n dX7_early_8 rfl rfl) <|
  am_kc (ak_iconst dX7_early_9 (by decide +kernel) rfl) <|
  am_kc (ak_ldc wd_738 dX7_early_10 rfl) <|
  am_kc (ak_callS metX7_within ⟨rfl, by decide +kernel, by decide +kernel, by decide +kernel⟩ (am_w4 wd_418 wd_419 wd_58 wd_420) (by decide) dX7_early_12 rfl) <|
  am_kc (ak_if_eq dX7_early_15 (by decide +kernel) rfl) <|
  am_kc (ak_iload_n dX7_early_18 rfl rfl) <|
  am_kc (ak_callS metX7_isYear ⟨rfl, by decide +kernel, by decide +kernel, by decide +kernel⟩ (am_w4 wd_407 wd_408 wd_58 wd_409) (by decide) dX7_early_19 rfl) <|
  am_kc (ak_if_eq dX7_early_22 (by decide +kernel) rfl) <|
  am_kc (ak_iload dX7_early_25 rfl) <|
  am_kc (ak_callS metX7_isYear ⟨rfl, by decide +kernel, by decide +kernel, by decide +kernel⟩ (am_w4 wd_407 wd_408 wd_58 wd_409) (by decide) dX7_early_27 rfl) <|
  am_kc (ak_if_ne dX7_early_30 (by decide +kernel) rfl) <|
  am_kc (ak_bipush dX7_early_33 (by decide +kernel) rfl) <|
  am_kc (ak_retI dX7_early_35) <|
  am_kc (ak_iconst dX7_early_36 (by decide +kernel) rfl) <|
  am_kc (ak_istore dX7_early_37 rfl) <|
  am_kc (ak_iconst dX7_early_39 (by decide +kernel) rfl) <|
  am_kc (ak_istore dX7_early_40 rfl) <|
  am_kc (ak_iload dX7_early_42 rfl) <|
  am_kc (ak_iconst dX7_early_44 (by decide +kernel) rfl) <|
  am_kc (ak_icmp_ge dX7_early_45 (by decide +kernel) rfl) <|
  am_kc (ak_aload_n dX7_early_48 rfl rfl) <|
  am_kc (ak_iload_n dX7_early_49 rfl rfl) <|
  am_kc (ak_iconst dX7_early_50 (by decide +kernel) rfl) <|
  am_kc (ak_iload dX7_early_51 rfl) <|
  am_kc (ak_iload_n dX7_early_53 rfl rfl) <|
  am_kc (ak_iload dX7_early_54 rfl) <|
  am_kc (ak_iconst dX7_early_56 (by decide +kernel) rfl) <|
  am_kc (ak_callV (C := RX7) (F := TX7) (N := 4) metX7_takenByLife rfl ⟨rfl, by decide +kernel, by decide +kernel, by decide +kernel⟩ (am_w5 wd_760 wd_762 wd_24 wd_58 wd_763) (by decide) dX7_early_57 rfl) <|
  am_kc (ak_lstore dX7_early_60 rfl) <|
  am_kc (ak_aload_n dX7_early_62 rfl rfl) <|
  am_kc (ak_iload_n dX7_early_63 rfl rfl) <|
  am_kc (ak_iconst dX7_early_64 (by decide +kernel) rfl) <|
  am_kc (ak_iload dX7_early_65 rfl) <|
  am_kc (ak_iload_n dX7_early_67 rfl rfl) <|
  am_kc (ak_iload dX7_early_68 rfl) <|
  am_kc (ak_iload_n dX7_early_70 rfl rfl) <|
  am_kc (ak_callV (C := RX7) (F := TX7) (N := 4) metX7_takenByLife rfl ⟨rfl, by decide +kernel, by decide +kernel, by decide +kernel⟩ (am_w5 wd_760 wd_762 wd_24 wd_58 wd_763) (by decide) dX7_early_71 rfl) <|
  am_kc (ak_aload_n dX7_early_74 rfl rfl) <|
  am_kc (ak_getR (C := RX7) (T := TX7) (N := 4) rfl inX7w (by decide) rfl rfl rfl wd_392 dX7_early_75 rfl) <|
  am_kc (ak_getJ (C := RX4) (T := TX4) (N := 19) rfl inX4w (by decide) rfl rfl rfl wd_312 dX7_early_78 rfl) <|
  am_kc (ak_ladd dX7_early_81 rfl) <|
  am_kc (ak_lstore dX7_early_82 rfl) <|
  am_kc (ak_lload dX7_early_84 rfl) <|
  am_kc (ak_lload dX7_early_86 rfl) <|
  am_kc (ak_lcmp dX7_early_88 rfl) <|
  am_kc (ak_if_ge dX7_early_89 (by decide +kernel) rfl) <|
  am_kc (ak_iload dX7_early_92 rfl) <|
  am_kc (ak_iconst dX7_early_94 (by decide +kernel) rfl) <|
  am_kc (ak_iload dX7_early_95 rfl) <|
  am_kc (ak_ishl dX7_early_97 rfl) <|
  am_kc (ak_ior dX7_early_98 rfl) <|
  am_kc (ak_istore dX7_early_99 rfl) <|
  am_kc (ak_iinc dX7_early_101 (by decide +kernel) rfl) <|
  am_kc (ak_goto dX7_early_104 (by decide +kernel)) <|
  am_kc (ak_iload dX7_early_107 rfl) <|
  am_kc (ak_retI dX7_early_109) <| am_kn
def TX7_early : am_T := fun live as M R => match as with
  | [.ref n, .int p, .int s, .int y, .int k] => am_mn live ∧ n = 0 ∧ (g_hI M ∧ g_rI M) ∧ ∀ v M', g_sc M M' → g_rI M' → R (some (.int v)) M'
  | _ => False
def JX7_early : am_E → List Value → am_M → am_R → am_inv := fun live as M0 _ pc => match as with
  | [.ref n, .int p, .int s, .int y, .int k] => (match pc with
    | 42 => some ([0, 1, 2, 3, 4, 5, 6], fun u L st M => ∃ o l : Int32, L = [(0, .ref 0), (1, .int p), (2, .int s), (3, .int y), (4, .int k), (5, .int o), (6, .int l)] ∧ st = [] ∧ u = ((5 - l.toInt).toNat, 0) ∧ 0 ≤ l.toInt ∧ am_in p 12 ∧ g_sc M0 M ∧ g_rI M)
    | _ => none)
  | _ => none
set_option maxRecDepth 100000 in
set_option maxHeartbeats 4000000 in
theorem metX7_early : am_Met yX7_early cX7_early 11 (some .int) (6) (152) TX7_early := by
  refine am_met (own := RX7) (by decide +kernel) rfl kX7_early koX7_early 150 JX7_early ?_ ?_
  · intro live as M Ret h
    unfold TX7_early at h
    split at h
    · next n p s y k =>
      refine ⟨Nat.le_of_ble_eq_true rfl, ?_⟩
      change am_wp _ _ _ _ [(0, Value.ref n), (1, Value.int p), (2, Value.int s), (3, Value.int y), (4, Value.int k)] _ _
      obtain ⟨hmn, rfl, ⟨hH, hR⟩, h⟩ := h
      have hmn2 := hmn
      obtain ⟨i1, i2, rfl⟩ := hmn2
      by_cases z0 : 0 ≤ p ∧ p < M.1 21 7
      rotate_left
      · skip
        have q0 : (if 0 ≤ p ∧ p < M.1 21 7 then (1 : Int32) else 0) = 0 := if_neg z0
        repeat' (first | (with_reducible exact hmn) | apply And.intro | exact rfl | (intro hx; with_reducible exact absurd q0 hx) | (intro hx; exact absurd hx (by decide)) | (intro hx; exact absurd (by decide) hx) | decide | intro hx | (refine Exists.intro _ (And.intro rfl ?_)))
        all_goals try first | (with_reducible change am_tI _ _) | (change Ret _ _) | (change Ret _ _ _) | (change Exists _)
        all_goals try dsimp only at *
        all_goals try exact absurd ‹(1000 : Int64) = 0› (by decide)
        all_goals exact h _ _ g_sc.rf hR
      · skip
        have q0 : ¬ ((if 0 ≤ p ∧ p < M.1 21 7 then (1 : Int32) else 0) = 0) := by rw [if_pos z0]; decide
        by_cases z1 : 1 ≤ s ∧ s ≤ 1000000000
        rotate_left
        · skip
          have q1 : (if 1 ≤ s ∧ s ≤ 1000000000 then (1 : Int32) else 0) = 0 := if_neg z1
          repeat' (first | (with_reducible exact hmn) | apply And.intro | exact rfl | (intro hx; with_reducible exact absurd hx q0) | (intro hx; with_reducible exact absurd q1 hx) | (intro hx; exact absurd hx (by decide)) | (intro hx; exact absurd (by decide) hx) | decide | intro hx | (refine Exists.intro _ (And.intro rfl ?_)))
          all_goals try first | (with_reducible change am_tI _ _) | (change Ret _ _) | (change Ret _ _ _) | (change Exists _)
          all_goals try dsimp only at *
          all_goals try exact absurd ‹(1000 : Int64) = 0› (by decide)
          all_goals exact h _ _ g_sc.rf hR
        · skip
          have q1 : ¬ ((if 1 ≤ s ∧ s ≤ 1000000000 then (1 : Int32) else 0) = 0) := by rw [if_pos z1]; decide
          by_cases z2 : 0 ≤ y ∧ y < 40
          rotate_left
          · skip
            have q2 : (if 0 ≤ y ∧ y < 40 then (1 : Int32) else 0) = 0 := if_neg z2
            repeat' (first | (with_reducible exact hmn) | apply And.intro | exact rfl | (intro hx; with_reducible exact absurd hx q0) | (intro hx; with_reducible exact absurd hx q1) | (intro hx; with_reducible exact absurd q2 hx) | (intro hx; exact absurd hx (by decide)) | (intro hx; exact absurd (by decide) hx) | decide | intro hx | (refine Exists.intro _ (And.intro rfl ?_)))
            all_goals try first | (with_reducible change am_tI _ _) | (change Ret _ _) | (change Ret _ _ _) | (change Exists _)
            all_goals try dsimp only at *
            all_goals try exact absurd ‹(1000 : Int64) = 0› (by decide)
            all_goals exact h _ _ g_sc.rf hR
          · skip
            have q2 : ¬ ((if 0 ≤ y ∧ y < 40 then (1 : Int32) else 0) = 0) := by rw [if_pos z2]; decide
            by_cases z3 : 0 ≤ k ∧ k < 40
            rotate_left
            · skip
              have q3 : (if 0 ≤ k ∧ k < 40 then (1 : Int32) else 0) = 0 := if_neg z3
              repeat' (first | (with_reducible exact hmn) | apply And.intro | exact rfl | (intro hx; with_reducible exact absurd hx q0) | (intro hx; with_reducible exact absurd hx q1) | (intro hx; with_reducible exact absurd hx q2) | (intro hx; with_reducible exact absurd q3 hx) | (intro hx; exact absurd hx (by decide)) | (intro hx; exact absurd (by decide) hx) | decide | intro hx | (refine Exists.intro _ (And.intro rfl ?_)))
              all_goals try first | (with_reducible change am_tI _ _) | (change Ret _ _) | (change Ret _ _ _) | (change Exists _)
              all_goals try dsimp only at *
              all_goals try exact absurd ‹(1000 : Int64) = 0› (by decide)
              all_goals exact h _ _ g_sc.rf hR
            · skip
              have q3 : ¬ ((if 0 ≤ k ∧ k < 40 then (1 : Int32) else 0) = 0) := by rw [if_pos z3]; decide
              repeat' (first | (with_reducible exact hmn) | (with_reducible exact hR) | apply And.intro | exact rfl | (intro hx; with_reducible exact absurd hx q0) | (intro hx; with_reducible exact absurd hx q1) | (intro hx; with_reducible exact absurd hx q2) | (intro hx; with_reducible exact absurd hx q3) | ((with_reducible change g_rI _); (with_reducible assumption)) | (intro hx; exact absurd hx (by decide)) | (intro hx; exact absurd (by decide) hx) | decide | intro hx | (refine Exists.intro _ (And.intro rfl ?_)))
              all_goals try first | (with_reducible change am_tI _ _) | (change Ret _ _) | (change Ret _ _ _) | (change Exists _)
              all_goals try dsimp only at *
              all_goals try exact absurd ‹(1000 : Int64) = 0› (by decide)
              all_goals first | (have hp : am_in p 12 := ⟨by have q := z0.1; simp only [i_le, Int32.reduceToInt] at q; omega, by have q := z0.2; have q2 := hH.pe; simp only [i_lt] at q; omega⟩; exact ⟨_, _, _, rfl, rfl, rfl, by decide, hp, g_sc.rf, hR⟩) | ((with_reducible change Ret _ _); exact h _ _ (by (repeat' (first | (with_reducible exact g_sc.rf) | (with_reducible assumption) | ((with_reducible change g_sc _ (am_wI _ _ _ _)); refine g_sc.wI ?_ rfl) | ((with_reducible change g_sc _ (am_wJ _ _ _ _)); refine g_sc.wJ ?_ rfl) | ((with_reducible change g_sc _ (am_cI _ _ _)); refine g_sc.cI ?_ rfl) | ((with_reducible change g_sc _ (am_cJ _ _ _)); refine g_sc.cJ ?_ rfl) | (refine g_sc.tr ?_ (by with_reducible assumption)) | (refine g_sc.st ?_ (by with_reducible assumption))))) (by (repeat' (first | (with_reducible assumption) | ((with_reducible change g_rI (am_wJ _ _ _ _)); refine g_rI.wJ ?_) | ((with_reducible change g_rI (am_cJ _ _ _)); refine g_rI.cJ ?_) | ((with_reducible change g_rI (am_wI _ 5 _ _)); refine g_rI.w5 ?_) | ((with_reducible change g_rI (am_wI _ _ _ _)); refine g_rI.wF ?_ rfl) | (refine g_rI.st ?_ (by with_reducible assumption)) | (refine g_rI.we ?_ (by with_reducible assumption)))))) | skip
    · exact h.elim
  · intro live as M0 Ret h k pc I hI L st M hi
    unfold TX7_early at h
    split at h
    · next n p s y k =>
      obtain ⟨hmn, rfl, ⟨hH, hR⟩, h⟩ := h
      have hmn2 := hmn
      obtain ⟨i1, i2, rfl⟩ := hmn2
      change (match pc with | 42 => _ | _ => none) = _ at hI
      split at hI
      · cases hI
        obtain ⟨o, l, rfl, rfl, rfl, e1, hp, e2, e3⟩ := hi
        by_cases hz : (4 : Int32) ≤ l
        · skip
          repeat' (first | (with_reducible exact hmn) | apply And.intro | exact rfl | (intro hx; with_reducible exact absurd hz hx) | intro hx | (refine Exists.intro _ (And.intro rfl ?_)))
          all_goals try first | (with_reducible change am_tI _ _) | (change Ret _ _) | (change Ret _ _ _) | (change Exists _)
          all_goals try dsimp only at *
          all_goals try exact absurd ‹(1000 : Int64) = 0› (by decide)
          all_goals exact h _ _ e2 e3
        · have hz2 := hz
          simp only [i_le, Int32.reduceToInt] at hz2
          have hi := i_inc (x := l) (by omega) (by omega)
          have hl : am_in l 4 := ⟨e1, by omega⟩
          have hq : (-1 : Int32) = -1 ∨ am_in (-1 : Int32) 5 := Or.inl rfl
          repeat' (first | (with_reducible exact hmn) | (with_reducible exact hp) | (with_reducible exact hq) | (with_reducible exact hl) | (with_reducible exact e3) | apply And.intro | exact rfl | (intro hx; with_reducible exact absurd hx hz) | ((with_reducible change g_rI _); (with_reducible assumption)) | intro hx | (refine Exists.intro _ (And.intro rfl ?_)))
          all_goals try first | (with_reducible change am_tI _ _) | (change Ret _ _) | (change Ret _ _ _) | (change Exists _)
          all_goals try dsimp only at *
          all_goals try exact absurd ‹(1000 : Int64) = 0› (by decide)
          all_goals exact ⟨_, am_lt_l (by omega), _, _, rfl, rfl, rfl, by omega, hp, by (repeat' (first | (with_reducible exact g_sc.rf) | (with_reducible assumption) | ((with_reducible change g_sc _ (am_wI _ _ _ _)); refine g_sc.wI ?_ rfl) | ((with_reducible change g_sc _ (am_wJ _ _ _ _)); refine g_sc.wJ ?_ rfl) | ((with_reducible change g_sc _ (am_cI _ _ _)); refine g_sc.cI ?_ rfl) | ((with_reducible change g_sc _ (am_cJ _ _ _)); refine g_sc.cJ ?_ rfl) | (refine g_sc.tr ?_ (by with_reducible assumption)) | (refine g_sc.st ?_ (by with_reducible assumption)))), by (repeat' (first | (with_reducible assumption) | ((with_reducible change g_rI (am_wJ _ _ _ _)); refine g_rI.wJ ?_) | ((with_reducible change g_rI (am_cJ _ _ _)); refine g_rI.cJ ?_) | ((with_reducible change g_rI (am_wI _ 5 _ _)); refine g_rI.w5 ?_) | ((with_reducible change g_rI (am_wI _ _ _ _)); refine g_rI.wF ?_ rfl) | (refine g_rI.st ?_ (by with_reducible assumption)) | (refine g_rI.we ?_ (by with_reducible assumption))))⟩
      · cases hI
    · exact h.elim
set_option maxRecDepth 100000 in
theorem wd_824 : Cond.methodLink "LearnLoans" 249 yX7_force ∈ am_ws := am_wsi (List.mem_of_getElem? (i := 824) (by rfl)) (by decide +kernel)
set_option maxRecDepth 100000 in
theorem wd_490 : Cond.instanceMethod yX7_force ∈ am_ws := am_wsi (List.mem_of_getElem? (i := 490) (by rfl)) (by decide +kernel)
set_option maxRecDepth 100000 in
theorem wd_491 : Cond.selects "LearnLoans" yX7_force yX7_force ∈ am_ws := am_wsi (List.mem_of_getElem? (i := 491) (by rfl)) (by decide +kernel)
set_option maxRecDepth 100000 in
theorem wd_492 : Cond.code yX7_force cX7_force 5 (some .int) ∈ am_ws := am_wsi (List.mem_of_getElem? (i := 492) (by rfl)) (by decide +kernel)
set_option maxRecDepth 100000 in
theorem wd_825 : Cond.methodLink "LearnLoans" 253 yX7_isNearer ∈ am_ws := am_wsi (List.mem_of_getElem? (i := 825) (by rfl)) (by decide +kernel)
set_option maxRecDepth 100000 in
theorem wd_826 : Cond.static yX7_isNearer ∈ am_ws := am_wsi (List.mem_of_getElem? (i := 826) (by rfl)) (by decide +kernel)
set_option maxRecDepth 100000 in
theorem wd_827 : Cond.code yX7_isNearer cX7_isNearer 5 (some .boolean) ∈ am_ws := am_wsi (List.mem_of_getElem? (i := 827) (by rfl)) (by decide +kernel)
theorem dX7_best_0 : decode cX7_best 0 = .ok (.iload_n 1, 1) := by decide +kernel
theorem dX7_best_1 : decode cX7_best 1 = .ok (.invokestatic 98, 3) := by decide +kernel
theorem dX7_best_4 : decode cX7_best 4 = .ok (.ifCond .eq 27, 3) := by decide +kernel
theorem dX7_best_7 : decode cX7_best 7 = .ok (.iload_n 2, 1) := by decide +kernel
theorem dX7_best_8 : decode cX7_best 8 = .ok (.iconst 0, 1) := by decide +kernel
theorem dX7_best_9 : decode cX7_best 9 = .ok (.iconst 5, 1) := by decide +kernel
theorem dX7_best_10 : decode cX7_best 10 = .ok (.invokestatic 55, 3) := by decide +kernel
theorem dX7_best_13 : decode cX7_best 13 = .ok (.ifCond .eq 18, 3) := by decide +kernel
theorem dX7_best_16 : decode cX7_best 16 = .ok (.iload_n 3, 1) := by decide +kernel
theorem dX7_best_17 : decode cX7_best 17 = .ok (.invokestatic 34, 3) := by decide +kernel
theorem dX7_best_20 : decode cX7_best 20 = .ok (.ifCond .eq 11, 3) := by decide +kernel
theorem dX7_best_23 : decode cX7_best 23 = .ok (.iload 4, 2) := by decide +kernel
theorem dX7_best_25 : decode cX7_best 25 = .ok (.invokestatic 34, 3) := by decide +kernel
theorem dX7_best_28 : decode cX7_best 28 = .ok (.ifCond .ne 6, 3) := by decide +kernel
theorem dX7_best_31 : decode cX7_best 31 = .ok (.bipush (-2), 2) := by decide +kernel
theorem dX7_best_33 : decode cX7_best 33 = .ok (.ireturn, 1) := by decide +kernel
theorem dX7_best_34 : decode cX7_best 34 = .ok (.aload_n 0, 1) := by decide +kernel
theorem dX7_best_35 : decode cX7_best 35 = .ok (.iload 5, 2) := by decide +kernel
theorem dX7_best_37 : decode cX7_best 37 = .ok (.invokevirtual 52, 3) := by decide +kernel
theorem dX7_best_40 : decode cX7_best 40 = .ok (.ifCond .ne 6, 3) := by decide +kernel
theorem dX7_best_43 : decode cX7_best 43 = .ok (.bipush (-2), 2) := by decide +kernel
theorem dX7_best_45 : decode cX7_best 45 = .ok (.ireturn, 1) := by decide +kernel
theorem dX7_best_46 : decode cX7_best 46 = .ok (.aload_n 0, 1) := by decide +kernel
theorem dX7_best_47 : decode cX7_best 47 = .ok (.iload_n 1, 1) := by decide +kernel
theorem dX7_best_48 : decode cX7_best 48 = .ok (.iload_n 2, 1) := by decide +kernel
theorem dX7_best_49 : decode cX7_best 49 = .ok (.iload 5, 2) := by decide +kernel
theorem dX7_best_51 : decode cX7_best 51 = .ok (.iload 4, 2) := by decide +kernel
theorem dX7_best_53 : decode cX7_best 53 = .ok (.invokevirtual 249, 3) := by decide +kernel
theorem dX7_best_56 : decode cX7_best 56 = .ok (.istore 8, 2) := by decide +kernel
theorem dX7_best_58 : decode cX7_best 58 = .ok (.iconst (-1), 1) := by decide +kernel
theorem dX7_best_59 : decode cX7_best 59 = .ok (.istore 9, 2) := by decide +kernel
theorem dX7_best_61 : decode cX7_best 61 = .ok (.iconst 0, 1) := by decide +kernel
theorem dX7_best_62 : decode cX7_best 62 = .ok (.istore 10, 2) := by decide +kernel
theorem dX7_best_64 : decode cX7_best 64 = .ok (.iload 10, 2) := by decide +kernel
theorem dX7_best_66 : decode cX7_best 66 = .ok (.aload_n 0, 1) := by decide +kernel
theorem dX7_best_67 : decode cX7_best 67 = .ok (.getfield 27, 3) := by decide +kernel
theorem dX7_best_70 : decode cX7_best 70 = .ok (.getfield 243, 3) := by decide +kernel
theorem dX7_best_73 : decode cX7_best 73 = .ok (.if_icmp .ge 70, 3) := by decide +kernel
theorem dX7_best_76 : decode cX7_best 76 = .ok (.iload 10, 2) := by decide +kernel
theorem dX7_best_78 : decode cX7_best 78 = .ok (.bipush 9, 2) := by decide +kernel
theorem dX7_best_80 : decode cX7_best 80 = .ok (.if_icmp .ge 63, 3) := by decide +kernel
theorem dX7_best_83 : decode cX7_best 83 = .ok (.aload_n 0, 1) := by decide +kernel
theorem dX7_best_84 : decode cX7_best 84 = .ok (.getfield 27, 3) := by decide +kernel
theorem dX7_best_87 : decode cX7_best 87 = .ok (.getfield 246, 3) := by decide +kernel
theorem dX7_best_90 : decode cX7_best 90 = .ok (.iload 10, 2) := by decide +kernel
theorem dX7_best_92 : decode cX7_best 92 = .ok (.iaload, 1) := by decide +kernel
theorem dX7_best_93 : decode cX7_best 93 = .ok (.istore 11, 2) := by decide +kernel
theorem dX7_best_95 : decode cX7_best 95 = .ok (.iload_n 2, 1) := by decide +kernel
theorem dX7_best_96 : decode cX7_best 96 = .ok (.iload 11, 2) := by decide +kernel
theorem dX7_best_98 : decode cX7_best 98 = .ok (.invokestatic 101, 3) := by decide +kernel
theorem dX7_best_101 : decode cX7_best 101 = .ok (.ifCond .eq 36, 3) := by decide +kernel
theorem dX7_best_104 : decode cX7_best 104 = .ok (.iload 11, 2) := by decide +kernel
theorem dX7_best_106 : decode cX7_best 106 = .ok (.iload 9, 2) := by decide +kernel
theorem dX7_best_108 : decode cX7_best 108 = .ok (.iload 8, 2) := by decide +kernel
theorem dX7_best_110 : decode cX7_best 110 = .ok (.invokestatic 253, 3) := by decide +kernel
theorem dX7_best_113 : decode cX7_best 113 = .ok (.ifCond .eq 24, 3) := by decide +kernel
theorem dX7_best_116 : decode cX7_best 116 = .ok (.aload_n 0, 1) := by decide +kernel
theorem dX7_best_117 : decode cX7_best 117 = .ok (.iload_n 1, 1) := by decide +kernel
theorem dX7_best_118 : decode cX7_best 118 = .ok (.iload_n 2, 1) := by decide +kernel
theorem dX7_best_119 : decode cX7_best 119 = .ok (.iload 11, 2) := by decide +kernel
theorem dX7_best_121 : decode cX7_best 121 = .ok (.iload_n 3, 1) := by decide +kernel
theorem dX7_best_122 : decode cX7_best 122 = .ok (.iload 4, 2) := by decide +kernel
theorem dX7_best_124 : decode cX7_best 124 = .ok (.invokevirtual 239, 3) := by decide +kernel
theorem dX7_best_127 : decode cX7_best 127 = .ok (.lload 6, 2) := by decide +kernel
theorem dX7_best_129 : decode cX7_best 129 = .ok (.lcmp, 1) := by decide +kernel
theorem dX7_best_130 : decode cX7_best 130 = .ok (.ifCond .lt 7, 3) := by decide +kernel
theorem dX7_best_133 : decode cX7_best 133 = .ok (.iload 11, 2) := by decide +kernel
theorem dX7_best_135 : decode cX7_best 135 = .ok (.istore 9, 2) := by decide +kernel
theorem dX7_best_137 : decode cX7_best 137 = .ok (.iinc 10 1, 3) := by decide +kernel
theorem dX7_best_140 : decode cX7_best 140 = .ok (.goto (-76), 3) := by decide +kernel
theorem dX7_best_143 : decode cX7_best 143 = .ok (.iload 9, 2) := by decide +kernel
theorem dX7_best_145 : decode cX7_best 145 = .ok (.ireturn, 1) := by decide +kernel
def kX7_best (live : am_E) (Ret : am_R) : am_code := [(0, am_iload 1 1), (1, am_callS live 1 TX7_isPlan 4), (4, am_if1 (fun x => x = 0) 31 7), (7, am_iload 2 8), (8, am_const (.int 0) 9), (9, am_const (.int 5) 10), (10, am_callS live 3 TX7_within 13), (13, am_if1 (fun x => x = 0) 31 16), (16, am_iload 3 17), (17, am_callS live 1 TX7_isYear 20), (20, am_if1 (fun x => x = 0) 31 23), (23, am_iload 4 25), (25, am_callS live 1 TX7_isYear 28), (28, am_if1 (fun x => x = 0) 31 34), (31, am_const (.int (-2)) 33), (33, am_retI Ret), (34, am_aload 0 35), (35, am_iload 5 37), (37, am_callV live 7 1 TX7_isPerson 40), (40, am_if1 (fun x => x = 0) 43 46), (43, am_const (.int (-2)) 45), (45, am_retI Ret), (46, am_aload 0 47), (47, am_iload 1 48), (48, am_iload 2 49), (49, am_iload 5 51), (51, am_iload 4 53), (53, am_callV live 7 4 TX7_force 56), (56, am_istore 8 12 58), (58, am_const (.int (-1)) 59), (59, am_istore 9 12 61), (61, am_const (.int 0) 62), (62, am_istore 10 12 64), (64, am_iload 10 66), (66, am_aload 0 67), (67, am_getR live 7 0 70), (70, am_getI live 0 12 73), (73, am_if2 (fun x y => y ≤ x) 143 76), (76, am_iload 10 78), (78, am_const (.int 9) 80), (80, am_if2 (fun x y => y ≤ x) 143 83), (83, am_aload 0 84), (84, am_getR live 7 0 87), (87, am_getR live 0 11 90), (90, am_iload 10 92), (92, am_ald live 0 93), (93, am_istore 11 12 95), (95, am_iload 2 96), (96, am_iload 11 98), (98, am_callS live 2 TX7_isNumber 101), (101, am_if1 (fun x => x = 0) 137 104), (104, am_iload 11 106), (106, am_iload 9 108), (108, am_iload 8 110), (110, am_callS live 3 TX7_isNearer 113), (113, am_if1 (fun x => x = 0) 137 116), (116, am_aload 0 117), (117, am_iload 1 118), (118, am_iload 2 119), (119, am_iload 11 121), (121, am_iload 3 122), (122, am_iload 4 124), (124, am_callV live 7 5 TX7_takenIf 127), (127, am_lload 6 129), (129, am_lcmp 130), (130, am_if1 (fun x => x < 0) 137 133), (133, am_iload 11 135), (135, am_istore 9 12 137), (137, am_iinc 10 12 1 140), (140, am_goto 64), (143, am_iload 9 145), (145, am_retI Ret)]
theorem koX7_best (live : am_E) (Ret : am_R) : ∀ q ∈ kX7_best live Ret, am_ok RX7 cX7_best 12 (some .int) 6 152 live Ret q.1 q.2 :=
  am_kc (ak_iload_n dX7_best_0 rfl rfl) <|
  am_kc (ak_callS metX7_isPlan ⟨rfl, by decide +kernel, by decide +kernel, by decide +kernel⟩ (am_w4 wd_466 wd_467 wd_58 wd_468) (by decide) dX7_best_1 rfl) <|
  am_kc (ak_if_eq dX7_best_4 (by decide +kernel) rfl) <|
  am_kc (ak_iload_n dX7_best_7 rfl rfl) <|
  am_kc (ak_iconst dX7_best_8 (by decide +kernel) rfl) <|
  am_kc (ak_iconst dX7_best_9 (by decide +kernel) rfl) <|
  am_kc (ak_callS metX7_within ⟨rfl, by decide +kernel, by decide +kernel, by decide +kernel⟩ (am_w4 wd_418 wd_419 wd_58 wd_420) (by decide) dX7_best_10 rfl) <|
  am_kc (ak_if_eq dX7_best_13 (by decide +kernel) rfl) <|
  am_kc (ak_iload_n dX7_best_16 rfl rfl) <|
  am_kc (ak_callS metX7_isYear ⟨rfl, by decide +kernel, by decide +kernel, by decide +kernel⟩ (am_w4 wd_407 wd_408 wd_58 wd_409) (by decide) dX7_best_17 rfl) <|
  am_kc (ak_if_eq dX7_best_20 (by decide +kernel) rfl) <|
  am_kc (ak_iload dX7_best_23 rfl) <|
  am_kc (ak_callS metX7_isYear ⟨rfl, by decide +kernel, by decide +kernel, by decide +kernel⟩ (am_w4 wd_407 wd_408 wd_58 wd_409) (by decide) dX7_best_25 rfl) <|
  am_kc (ak_if_ne dX7_best_28 (by decide +kernel) rfl) <|
  am_kc (ak_bipush dX7_best_31 (by decide +kernel) rfl) <|
  am_kc (ak_retI dX7_best_33) <|
  am_kc (ak_aload_n dX7_best_34 rfl rfl) <|
  am_kc (ak_iload dX7_best_35 rfl) <|
  am_kc (ak_callV (C := RX7) (F := TX7) (N := 4) metX7_isPerson rfl ⟨rfl, by decide +kernel, by decide +kernel, by decide +kernel⟩ (am_w5 wd_414 wd_416 wd_0 wd_58 wd_417) (by decide) dX7_best_37 rfl) <|
  am_kc (ak_if_ne dX7_best_40 (by decide +kernel) rfl) <|
  am_kc (ak_bipush dX7_best_43 (by decide +kernel) rfl) <|
  am_kc (ak_retI dX7_best_45) <|
  am_kc (ak_aload_n dX7_best_46 rfl rfl) <|
  am_kc (ak_iload_n dX7_best_47 rfl rfl) <|
  am_kc (ak_iload_n dX7_best_48 rfl rfl) <|
  am_kc (ak_iload dX7_best_49 rfl) <|
  am_kc (ak_iload dX7_best_51 rfl) <|
  am_kc (ak_callV (C := RX7) (F := TX7) (N := 4) metX7_force rfl ⟨rfl, by decide +kernel, by decide +kernel, by decide +kernel⟩ (am_w5 wd_824 wd_490 wd_491 wd_58 wd_492) (by decide) dX7_best_53 rfl) <|
  am_kc (ak_istore dX7_best_56 rfl) <|
  am_kc (ak_iconst dX7_best_58 (by decide +kernel) rfl) <|
  am_kc (ak_istore dX7_best_59 rfl) <|
  am_kc (ak_iconst dX7_best_61 (by decide +kernel) rfl) <|
  am_kc (ak_istore dX7_best_62 rfl) <|
  am_kc (ak_iload dX7_best_64 rfl) <|
  am_kc (ak_aload_n dX7_best_66 rfl rfl) <|
  am_kc (ak_getR (C := RX7) (T := TX7) (N := 4) rfl inX7w (by decide) rfl rfl rfl wd_390 dX7_best_67 rfl) <|
  am_kc (ak_getI (C := RX0) (T := TX0) (N := 13) rfl inX0w (by decide) rfl rfl rfl wd_227 dX7_best_70 rfl) <|
  am_kc (ak_icmp_ge dX7_best_73 (by decide +kernel) rfl) <|
  am_kc (ak_iload dX7_best_76 rfl) <|
  am_kc (ak_bipush dX7_best_78 (by decide +kernel) rfl) <|
  am_kc (ak_icmp_ge dX7_best_80 (by decide +kernel) rfl) <|
  am_kc (ak_aload_n dX7_best_83 rfl rfl) <|
  am_kc (ak_getR (C := RX7) (T := TX7) (N := 4) rfl inX7w (by decide) rfl rfl rfl wd_390 dX7_best_84 rfl) <|
  am_kc (ak_getR (C := RX0) (T := TX0) (N := 13) rfl inX0w (by decide) rfl rfl rfl wd_225 dX7_best_87 rfl) <|
  am_kc (ak_iload dX7_best_90 rfl) <|
  am_kc (ak_iald (t := 0) (fun _ => rfl) rfl dX7_best_92 rfl) <|
  am_kc (ak_istore dX7_best_93 rfl) <|
  am_kc (ak_iload_n dX7_best_95 rfl rfl) <|
  am_kc (ak_iload dX7_best_96 rfl) <|
  am_kc (ak_callS metX7_isNumber ⟨rfl, by decide +kernel, by decide +kernel, by decide +kernel⟩ (am_w4 wd_469 wd_470 wd_58 wd_471) (by decide) dX7_best_98 rfl) <|
  am_kc (ak_if_eq dX7_best_101 (by decide +kernel) rfl) <|
  am_kc (ak_iload dX7_best_104 rfl) <|
  am_kc (ak_iload dX7_best_106 rfl) <|
  am_kc (ak_iload dX7_best_108 rfl) <|
  am_kc (ak_callS metX7_isNearer ⟨rfl, by decide +kernel, by decide +kernel, by decide +kernel⟩ (am_w4 wd_825 wd_826 wd_58 wd_827) (by decide) dX7_best_110 rfl) <|
  am_kc (ak_if_eq dX7_best_113 (by decide +kernel) rfl) <|
  am_kc (ak_aload_n dX7_best_116 rfl rfl) <|
  am_kc (ak_iload_n dX7_best_117 rfl rfl) <|
  am_kc (ak_iload_n dX7_best_118 rfl rfl) <|
  am_kc (ak_iload dX7_best_119 rfl) <|
  am_kc (ak_iload_n dX7_best_121 rfl rfl) <|
  am_kc (ak_iload dX7_best_122 rfl) <|
  am_kc (ak_callV (C := RX7) (F := TX7) (N := 4) metX7_takenIf rfl ⟨rfl, by decide +kernel, by decide +kernel, by decide +kernel⟩ (am_w5 wd_804 wd_806 wd_26 wd_58 wd_807) (by decide) dX7_best_124 rfl) <|
  am_kc (ak_lload dX7_best_127 rfl) <|
  am_kc (ak_lcmp dX7_best_129 rfl) <|
  am_kc (ak_if_lt dX7_best_130 (by decide +kernel) rfl) <|
  am_kc (ak_iload dX7_best_133 rfl) <|
  am_kc (ak_istore dX7_best_135 rfl) <|
  am_kc (ak_iinc dX7_best_137 (by decide +kernel) rfl) <|
  am_kc (ak_goto dX7_best_140 (by decide +kernel)) <|
  am_kc (ak_iload dX7_best_143 rfl) <|
  am_kc (ak_retI dX7_best_145) <| am_kn
def TX7_best : am_T := fun live as M R => match as with
  | [.ref n, .int pl, .int w, .int f, .int y, .int p, .long a] => am_mn live ∧ n = 0 ∧ (g_hI M ∧ g_rI M) ∧ ∀ v M', g_sa M M' → g_rI M' → R (some (.int v)) M'
  | _ => False
def JX7_best : am_E → List Value → am_M → am_R → am_inv := fun live as M0 _ pc => match as with
  | [.ref n, .int pl, .int w, .int f, .int y, .int p, .long a] => (match pc with
    | 64 => some ([0, 1, 2, 3, 4, 6, 8, 9, 10], fun u L st M => ∃ o b i : Int32, L = [(0, .ref 0), (1, .int pl), (2, .int w), (3, .int f), (4, .int y), (6, .long a), (8, .int o), (9, .int b), (10, .int i)] ∧ st = [] ∧ u = ((10 - i.toInt).toNat, 0) ∧ 0 ≤ i.toInt ∧ g_sa M0 M ∧ g_rI M)
    | _ => none)
  | _ => none
theorem g_hI.sa {M M' : am_M} (h : g_hI M) (c : g_sa M M') : g_hI M' := by
  obtain ⟨-, h1, ⟨h2, h3⟩, ⟨h4, h5⟩, ⟨h6, h7⟩, ⟨h8, h9⟩, h10, h11⟩ := h
  obtain ⟨-, c⟩ := c
  have e : ∀ a b, 11 ≤ a → a ≠ 32 → M'.1 a b = M.1 a b := fun a b z y => (c a b z (fun q => absurd q y)).1
  refine ⟨(), ?_, ⟨?_, ?_⟩, ⟨?_, ?_⟩, ⟨?_, ?_⟩, ⟨?_, ?_⟩, ?_, fun l hl => ?_⟩
  all_goals rw [e _ _ (by decide) (by decide)]
  all_goals first | assumption | exact h11 l hl
set_option maxRecDepth 100000 in
set_option maxHeartbeats 4000000 in
theorem metX7_best : am_Met yX7_best cX7_best 12 (some .int) (6) (152) TX7_best := by
  refine am_met (own := RX7) (by decide +kernel) rfl kX7_best koX7_best 150 JX7_best ?_ ?_
  · intro live as M Ret h
    unfold TX7_best at h
    split at h
    · next n pl w f y p a =>
      refine ⟨Nat.le_of_ble_eq_true rfl, ?_⟩
      change am_wp _ _ _ _ [(0, Value.ref n), (1, Value.int pl), (2, Value.int w), (3, Value.int f), (4, Value.int y), (5, Value.int p), (6, Value.long a)] _ _
      obtain ⟨hmn, rfl, ⟨hH, hR⟩, h⟩ := h
      have hmn2 := hmn
      obtain ⟨i1, i2, rfl⟩ := hmn2
      by_cases z0 : 0 ≤ pl ∧ pl < 5
      rotate_left
      · skip
        have q0 : (if 0 ≤ pl ∧ pl < 5 then (1 : Int32) else 0) = 0 := if_neg z0
        repeat' (first | (with_reducible exact hmn) | apply And.intro | exact rfl | (intro hx; with_reducible exact absurd q0 hx) | (intro hx; exact absurd hx (by decide)) | (intro hx; exact absurd (by decide) hx) | decide | intro hx | (refine Exists.intro _ (And.intro rfl ?_)))
        all_goals try first | (with_reducible change am_tI _ _) | (change Ret _ _) | (change Ret _ _ _) | (change Exists _)
        all_goals try dsimp only at *
        all_goals try exact absurd ‹(1000 : Int64) = 0› (by decide)
        all_goals exact h _ _ g_sv.rf.a hR
      · skip
        have q0 : ¬ ((if 0 ≤ pl ∧ pl < 5 then (1 : Int32) else 0) = 0) := by rw [if_pos z0]; decide
        by_cases z1 : 0 ≤ w ∧ w ≤ 5
        rotate_left
        · skip
          have q1 : (if 0 ≤ w ∧ w ≤ 5 then (1 : Int32) else 0) = 0 := if_neg z1
          repeat' (first | (with_reducible exact hmn) | apply And.intro | exact rfl | (intro hx; with_reducible exact absurd hx q0) | (intro hx; with_reducible exact absurd q1 hx) | (intro hx; exact absurd hx (by decide)) | (intro hx; exact absurd (by decide) hx) | decide | intro hx | (refine Exists.intro _ (And.intro rfl ?_)))
          all_goals try first | (with_reducible change am_tI _ _) | (change Ret _ _) | (change Ret _ _ _) | (change Exists _)
          all_goals try dsimp only at *
          all_goals try exact absurd ‹(1000 : Int64) = 0› (by decide)
          all_goals exact h _ _ g_sv.rf.a hR
        · skip
          have q1 : ¬ ((if 0 ≤ w ∧ w ≤ 5 then (1 : Int32) else 0) = 0) := by rw [if_pos z1]; decide
          by_cases z2 : 0 ≤ f ∧ f < 40
          rotate_left
          · skip
            have q2 : (if 0 ≤ f ∧ f < 40 then (1 : Int32) else 0) = 0 := if_neg z2
            repeat' (first | (with_reducible exact hmn) | apply And.intro | exact rfl | (intro hx; with_reducible exact absurd hx q0) | (intro hx; with_reducible exact absurd hx q1) | (intro hx; with_reducible exact absurd q2 hx) | (intro hx; exact absurd hx (by decide)) | (intro hx; exact absurd (by decide) hx) | decide | intro hx | (refine Exists.intro _ (And.intro rfl ?_)))
            all_goals try first | (with_reducible change am_tI _ _) | (change Ret _ _) | (change Ret _ _ _) | (change Exists _)
            all_goals try dsimp only at *
            all_goals try exact absurd ‹(1000 : Int64) = 0› (by decide)
            all_goals exact h _ _ g_sv.rf.a hR
          · skip
            have q2 : ¬ ((if 0 ≤ f ∧ f < 40 then (1 : Int32) else 0) = 0) := by rw [if_pos z2]; decide
            by_cases z3 : 0 ≤ y ∧ y < 40
            rotate_left
            · skip
              have q3 : (if 0 ≤ y ∧ y < 40 then (1 : Int32) else 0) = 0 := if_neg z3
              repeat' (first | (with_reducible exact hmn) | apply And.intro | exact rfl | (intro hx; with_reducible exact absurd hx q0) | (intro hx; with_reducible exact absurd hx q1) | (intro hx; with_reducible exact absurd hx q2) | (intro hx; with_reducible exact absurd q3 hx) | (intro hx; exact absurd hx (by decide)) | (intro hx; exact absurd (by decide) hx) | decide | intro hx | (refine Exists.intro _ (And.intro rfl ?_)))
              all_goals try first | (with_reducible change am_tI _ _) | (change Ret _ _) | (change Ret _ _ _) | (change Exists _)
              all_goals try dsimp only at *
              all_goals try exact absurd ‹(1000 : Int64) = 0› (by decide)
              all_goals exact h _ _ g_sv.rf.a hR
            · skip
              have q3 : ¬ ((if 0 ≤ y ∧ y < 40 then (1 : Int32) else 0) = 0) := by rw [if_pos z3]; decide
              by_cases z4 : 0 ≤ p ∧ p < M.1 21 7
              rotate_left
              · skip
                have q4 : (if 0 ≤ p ∧ p < M.1 21 7 then (1 : Int32) else 0) = 0 := if_neg z4
                repeat' (first | (with_reducible exact hmn) | apply And.intro | exact rfl | (intro hx; with_reducible exact absurd hx q0) | (intro hx; with_reducible exact absurd hx q1) | (intro hx; with_reducible exact absurd hx q2) | (intro hx; with_reducible exact absurd hx q3) | (intro hx; with_reducible exact absurd q4 hx) | (intro hx; exact absurd hx (by decide)) | (intro hx; exact absurd (by decide) hx) | decide | intro hx | (refine Exists.intro _ (And.intro rfl ?_)))
                all_goals try first | (with_reducible change am_tI _ _) | (change Ret _ _) | (change Ret _ _ _) | (change Exists _)
                all_goals try dsimp only at *
                all_goals try exact absurd ‹(1000 : Int64) = 0› (by decide)
                all_goals exact h _ _ g_sv.rf.a hR
              · skip
                have q4 : ¬ ((if 0 ≤ p ∧ p < M.1 21 7 then (1 : Int32) else 0) = 0) := by rw [if_pos z4]; decide
                repeat' (first | (with_reducible exact hmn) | (with_reducible exact hR) | (with_reducible exact hH) | apply And.intro | exact rfl | (intro hx; with_reducible exact absurd hx q0) | (intro hx; with_reducible exact absurd hx q1) | (intro hx; with_reducible exact absurd hx q2) | (intro hx; with_reducible exact absurd hx q3) | (intro hx; with_reducible exact absurd hx q4) | ((with_reducible change g_rI _); (with_reducible assumption)) | (intro hx; exact absurd hx (by decide)) | (intro hx; exact absurd (by decide) hx) | decide | intro hx | (refine Exists.intro _ (And.intro rfl ?_)))
                all_goals try first | (with_reducible change am_tI _ _) | (change Ret _ _) | (change Ret _ _ _) | (change Exists _)
                all_goals try dsimp only at *
                all_goals try exact absurd ‹(1000 : Int64) = 0› (by decide)
                all_goals first | exact ⟨_, _, _, _, rfl, rfl, rfl, by decide, (g_sc.v (by (repeat' (first | (with_reducible exact g_sc.rf) | (with_reducible assumption) | ((with_reducible change g_sc _ (am_wI _ _ _ _)); refine g_sc.wI ?_ rfl) | ((with_reducible change g_sc _ (am_wJ _ _ _ _)); refine g_sc.wJ ?_ rfl) | ((with_reducible change g_sc _ (am_cI _ _ _)); refine g_sc.cI ?_ rfl) | ((with_reducible change g_sc _ (am_cJ _ _ _)); refine g_sc.cJ ?_ rfl) | (refine g_sc.tr ?_ (by with_reducible assumption)) | (refine g_sc.st ?_ (by with_reducible assumption)))))).a, by (repeat' (first | (with_reducible assumption) | ((with_reducible change g_rI (am_wJ _ _ _ _)); refine g_rI.wJ ?_) | ((with_reducible change g_rI (am_cJ _ _ _)); refine g_rI.cJ ?_) | ((with_reducible change g_rI (am_wI _ 5 _ _)); refine g_rI.w5 ?_) | ((with_reducible change g_rI (am_wI _ _ _ _)); refine g_rI.wF ?_ rfl) | (refine g_rI.st ?_ (by with_reducible assumption)) | (refine g_rI.we ?_ (by with_reducible assumption))))⟩ | ((with_reducible change Ret _ _); exact h _ _ (g_sc.v (by (repeat' (first | (with_reducible exact g_sc.rf) | (with_reducible assumption) | ((with_reducible change g_sc _ (am_wI _ _ _ _)); refine g_sc.wI ?_ rfl) | ((with_reducible change g_sc _ (am_wJ _ _ _ _)); refine g_sc.wJ ?_ rfl) | ((with_reducible change g_sc _ (am_cI _ _ _)); refine g_sc.cI ?_ rfl) | ((with_reducible change g_sc _ (am_cJ _ _ _)); refine g_sc.cJ ?_ rfl) | (refine g_sc.tr ?_ (by with_reducible assumption)) | (refine g_sc.st ?_ (by with_reducible assumption)))))).a (by (repeat' (first | (with_reducible assumption) | ((with_reducible change g_rI (am_wJ _ _ _ _)); refine g_rI.wJ ?_) | ((with_reducible change g_rI (am_cJ _ _ _)); refine g_rI.cJ ?_) | ((with_reducible change g_rI (am_wI _ 5 _ _)); refine g_rI.w5 ?_) | ((with_reducible change g_rI (am_wI _ _ _ _)); refine g_rI.wF ?_ rfl) | (refine g_rI.st ?_ (by with_reducible assumption)) | (refine g_rI.we ?_ (by with_reducible assumption)))))) | skip
    · exact h.elim
  · intro live as M0 Ret h k pc I hI L st M hi
    unfold TX7_best at h
    split at h
    · next n pl w f y p a =>
      obtain ⟨hmn, rfl, ⟨hH, hR⟩, h⟩ := h
      have hmn2 := hmn
      obtain ⟨i1, i2, rfl⟩ := hmn2
      change (match pc with | 64 => _ | _ => none) = _ at hI
      split at hI
      · cases hI
        obtain ⟨o, b, i, rfl, rfl, rfl, e1, e2, e3⟩ := hi
        have hH2 := hH.sa e2
        by_cases hz : (9 : Int32) ≤ i
        · skip
          repeat' (first | (with_reducible exact hmn) | apply And.intro | exact rfl | (intro hx; with_reducible exact absurd hz hx) | intro hx | (refine Exists.intro _ (And.intro rfl ?_)))
          all_goals try first | (with_reducible change am_tI _ _) | (change Ret _ _) | (change Ret _ _ _) | (change Exists _)
          all_goals try dsimp only at *
          all_goals try exact absurd ‹(1000 : Int64) = 0› (by decide)
          all_goals exact h _ _ e2 e3
        · have hz2 := hz
          simp only [i_le, Int32.reduceToInt] at hz2
          have hi := i_inc (x := i) (by omega) (by omega)
          have l58 : am_len 58 = 9 := rfl
          repeat' (first | (with_reducible exact hmn) | (with_reducible exact hH2) | (with_reducible exact e3) | apply And.intro | exact rfl | (intro hx; with_reducible exact absurd hx hz) | (intro hx; exact absurd hx (by decide)) | (intro hx; exact absurd (by decide) hx) | decide | intro hx | (refine Exists.intro _ (And.intro rfl ?_)))
          all_goals try first | (with_reducible change am_tI _ _) | (change Ret _ _) | (change Ret _ _ _) | (change Exists _)
          all_goals try dsimp only at *
          all_goals try exact absurd ‹(1000 : Int64) = 0› (by decide)
          all_goals first
            | exact h _ _ e2 e3
            | omega
            | (rw [l58]; omega)
            | exact ⟨_, am_lt_l (by omega), _, _, _, rfl, rfl, rfl, by omega, e2, e3⟩
            | exact ⟨_, am_lt_l (by omega), _, _, _, rfl, rfl, rfl, by omega, e2.tr ‹g_sa M _›, by with_reducible assumption⟩
            | skip
      · cases hI
    · exact h.elim
set_option maxRecDepth 100000 in
theorem wd_871 : Cond.constantLong "LearnLoans" 261 347 ∈ am_ws := am_wsi (List.mem_of_getElem? (i := 871) (by rfl)) (by decide +kernel)
set_option maxRecDepth 100000 in
theorem wd_872 : Cond.constantLong "LearnLoans" 263 31 ∈ am_ws := am_wsi (List.mem_of_getElem? (i := 872) (by rfl)) (by decide +kernel)
set_option maxRecDepth 100000 in
theorem wd_873 : Cond.methodLink "LearnLoans" 265 yX7_count ∈ am_ws := am_wsi (List.mem_of_getElem? (i := 873) (by rfl)) (by decide +kernel)
set_option maxRecDepth 100000 in
theorem wd_864 : Cond.instanceMethod yX7_count ∈ am_ws := am_wsi (List.mem_of_getElem? (i := 864) (by rfl)) (by decide +kernel)
set_option maxRecDepth 100000 in
theorem wd_865 : Cond.selects "LearnLoans" yX7_count yX7_count ∈ am_ws := am_wsi (List.mem_of_getElem? (i := 865) (by rfl)) (by decide +kernel)
set_option maxRecDepth 100000 in
theorem wd_866 : Cond.code yX7_count cX7_count 2 (some .int) ∈ am_ws := am_wsi (List.mem_of_getElem? (i := 866) (by rfl)) (by decide +kernel)
set_option maxRecDepth 100000 in
theorem wd_874 : Cond.methodLink "LearnLoans" 269 yX2_mixed ∈ am_ws := am_wsi (List.mem_of_getElem? (i := 874) (by rfl)) (by decide +kernel)
set_option maxRecDepth 100000 in
theorem wd_875 : Cond.instanceMethod yX2_mixed ∈ am_ws := am_wsi (List.mem_of_getElem? (i := 875) (by rfl)) (by decide +kernel)
set_option maxRecDepth 100000 in
theorem wd_876 : Cond.selects "LearnLoans$People" yX2_mixed yX2_mixed ∈ am_ws := am_wsi (List.mem_of_getElem? (i := 876) (by rfl)) (by decide +kernel)
set_option maxRecDepth 100000 in
theorem wd_877 : Cond.code yX2_mixed cX2_mixed 5 (some .long) ∈ am_ws := am_wsi (List.mem_of_getElem? (i := 877) (by rfl)) (by decide +kernel)
set_option maxRecDepth 100000 in
theorem wd_879 : Cond.methodLink "LearnLoans" 273 yX3_mixed ∈ am_ws := am_wsi (List.mem_of_getElem? (i := 879) (by rfl)) (by decide +kernel)
set_option maxRecDepth 100000 in
theorem wd_880 : Cond.instanceMethod yX3_mixed ∈ am_ws := am_wsi (List.mem_of_getElem? (i := 880) (by rfl)) (by decide +kernel)
set_option maxRecDepth 100000 in
theorem wd_881 : Cond.selects "LearnLoans$Rows" yX3_mixed yX3_mixed ∈ am_ws := am_wsi (List.mem_of_getElem? (i := 881) (by rfl)) (by decide +kernel)
set_option maxRecDepth 100000 in
theorem wd_882 : Cond.code yX3_mixed cX3_mixed 5 (some .long) ∈ am_ws := am_wsi (List.mem_of_getElem? (i := 882) (by rfl)) (by decide +kernel)
set_option maxRecDepth 100000 in
theorem wd_884 : Cond.methodLink "LearnLoans" 274 yX5_mixed ∈ am_ws := am_wsi (List.mem_of_getElem? (i := 884) (by rfl)) (by decide +kernel)
set_option maxRecDepth 100000 in
theorem wd_885 : Cond.instanceMethod yX5_mixed ∈ am_ws := am_wsi (List.mem_of_getElem? (i := 885) (by rfl)) (by decide +kernel)
set_option maxRecDepth 100000 in
theorem wd_886 : Cond.selects "LearnLoans$Text" yX5_mixed yX5_mixed ∈ am_ws := am_wsi (List.mem_of_getElem? (i := 886) (by rfl)) (by decide +kernel)
set_option maxRecDepth 100000 in
theorem wd_887 : Cond.code yX5_mixed cX5_mixed 4 (some .long) ∈ am_ws := am_wsi (List.mem_of_getElem? (i := 887) (by rfl)) (by decide +kernel)
theorem dX7_digest_0 : decode cX7_digest 0 = .ok (.ldc2_w 261, 3) := by decide +kernel
theorem dX7_digest_3 : decode cX7_digest 3 = .ok (.lstore_n 1, 1) := by decide +kernel
theorem dX7_digest_4 : decode cX7_digest 4 = .ok (.iconst 0, 1) := by decide +kernel
theorem dX7_digest_5 : decode cX7_digest 5 = .ok (.istore_n 3, 1) := by decide +kernel
theorem dX7_digest_6 : decode cX7_digest 6 = .ok (.iload_n 3, 1) := by decide +kernel
theorem dX7_digest_7 : decode cX7_digest 7 = .ok (.iconst 5, 1) := by decide +kernel
theorem dX7_digest_8 : decode cX7_digest 8 = .ok (.if_icmp .gt 22, 3) := by decide +kernel
theorem dX7_digest_11 : decode cX7_digest 11 = .ok (.ldc2_w 263, 3) := by decide +kernel
theorem dX7_digest_14 : decode cX7_digest 14 = .ok (.lload_n 1, 1) := by decide +kernel
theorem dX7_digest_15 : decode cX7_digest 15 = .ok (.lmul, 1) := by decide +kernel
theorem dX7_digest_16 : decode cX7_digest 16 = .ok (.aload_n 0, 1) := by decide +kernel
theorem dX7_digest_17 : decode cX7_digest 17 = .ok (.iload_n 3, 1) := by decide +kernel
theorem dX7_digest_18 : decode cX7_digest 18 = .ok (.invokevirtual 265, 3) := by decide +kernel
theorem dX7_digest_21 : decode cX7_digest 21 = .ok (.i2l, 1) := by decide +kernel
theorem dX7_digest_22 : decode cX7_digest 22 = .ok (.ladd, 1) := by decide +kernel
theorem dX7_digest_23 : decode cX7_digest 23 = .ok (.lstore_n 1, 1) := by decide +kernel
theorem dX7_digest_24 : decode cX7_digest 24 = .ok (.iinc 3 1, 3) := by decide +kernel
theorem dX7_digest_27 : decode cX7_digest 27 = .ok (.goto (-21), 3) := by decide +kernel
theorem dX7_digest_30 : decode cX7_digest 30 = .ok (.aload_n 0, 1) := by decide +kernel
theorem dX7_digest_31 : decode cX7_digest 31 = .ok (.getfield 27, 3) := by decide +kernel
theorem dX7_digest_34 : decode cX7_digest 34 = .ok (.getfield 38, 3) := by decide +kernel
theorem dX7_digest_37 : decode cX7_digest 37 = .ok (.lload_n 1, 1) := by decide +kernel
theorem dX7_digest_38 : decode cX7_digest 38 = .ok (.invokevirtual 269, 3) := by decide +kernel
theorem dX7_digest_41 : decode cX7_digest 41 = .ok (.lstore_n 1, 1) := by decide +kernel
theorem dX7_digest_42 : decode cX7_digest 42 = .ok (.aload_n 0, 1) := by decide +kernel
theorem dX7_digest_43 : decode cX7_digest 43 = .ok (.getfield 27, 3) := by decide +kernel
theorem dX7_digest_46 : decode cX7_digest 46 = .ok (.getfield 122, 3) := by decide +kernel
theorem dX7_digest_49 : decode cX7_digest 49 = .ok (.lload_n 1, 1) := by decide +kernel
theorem dX7_digest_50 : decode cX7_digest 50 = .ok (.invokevirtual 273, 3) := by decide +kernel
theorem dX7_digest_53 : decode cX7_digest 53 = .ok (.lstore_n 1, 1) := by decide +kernel
theorem dX7_digest_54 : decode cX7_digest 54 = .ok (.aload_n 0, 1) := by decide +kernel
theorem dX7_digest_55 : decode cX7_digest 55 = .ok (.getfield 27, 3) := by decide +kernel
theorem dX7_digest_58 : decode cX7_digest 58 = .ok (.getfield 104, 3) := by decide +kernel
theorem dX7_digest_61 : decode cX7_digest 61 = .ok (.lload_n 1, 1) := by decide +kernel
theorem dX7_digest_62 : decode cX7_digest 62 = .ok (.invokevirtual 273, 3) := by decide +kernel
theorem dX7_digest_65 : decode cX7_digest 65 = .ok (.lstore_n 1, 1) := by decide +kernel
theorem dX7_digest_66 : decode cX7_digest 66 = .ok (.aload_n 0, 1) := by decide +kernel
theorem dX7_digest_67 : decode cX7_digest 67 = .ok (.getfield 27, 3) := by decide +kernel
theorem dX7_digest_70 : decode cX7_digest 70 = .ok (.getfield 146, 3) := by decide +kernel
theorem dX7_digest_73 : decode cX7_digest 73 = .ok (.lload_n 1, 1) := by decide +kernel
theorem dX7_digest_74 : decode cX7_digest 74 = .ok (.invokevirtual 273, 3) := by decide +kernel
theorem dX7_digest_77 : decode cX7_digest 77 = .ok (.lstore_n 1, 1) := by decide +kernel
theorem dX7_digest_78 : decode cX7_digest 78 = .ok (.iconst 0, 1) := by decide +kernel
theorem dX7_digest_79 : decode cX7_digest 79 = .ok (.istore_n 3, 1) := by decide +kernel
theorem dX7_digest_80 : decode cX7_digest 80 = .ok (.iload_n 3, 1) := by decide +kernel
theorem dX7_digest_81 : decode cX7_digest 81 = .ok (.iconst 5, 1) := by decide +kernel
theorem dX7_digest_82 : decode cX7_digest 82 = .ok (.if_icmp .ge 23, 3) := by decide +kernel
theorem dX7_digest_85 : decode cX7_digest 85 = .ok (.aload_n 0, 1) := by decide +kernel
theorem dX7_digest_86 : decode cX7_digest 86 = .ok (.getfield 27, 3) := by decide +kernel
theorem dX7_digest_89 : decode cX7_digest 89 = .ok (.getfield 174, 3) := by decide +kernel
theorem dX7_digest_92 : decode cX7_digest 92 = .ok (.iload_n 3, 1) := by decide +kernel
theorem dX7_digest_93 : decode cX7_digest 93 = .ok (.aaload, 1) := by decide +kernel
theorem dX7_digest_94 : decode cX7_digest 94 = .ok (.lload_n 1, 1) := by decide +kernel
theorem dX7_digest_95 : decode cX7_digest 95 = .ok (.invokevirtual 274, 3) := by decide +kernel
theorem dX7_digest_98 : decode cX7_digest 98 = .ok (.lstore_n 1, 1) := by decide +kernel
theorem dX7_digest_99 : decode cX7_digest 99 = .ok (.iinc 3 1, 3) := by decide +kernel
theorem dX7_digest_102 : decode cX7_digest 102 = .ok (.goto (-22), 3) := by decide +kernel
theorem dX7_digest_105 : decode cX7_digest 105 = .ok (.aload_n 0, 1) := by decide +kernel
theorem dX7_digest_106 : decode cX7_digest 106 = .ok (.bipush 39, 2) := by decide +kernel
theorem dX7_digest_108 : decode cX7_digest 108 = .ok (.bipush 39, 2) := by decide +kernel
theorem dX7_digest_110 : decode cX7_digest 110 = .ok (.invokevirtual 193, 3) := by decide +kernel
theorem dX7_digest_113 : decode cX7_digest 113 = .ok (.iconst 0, 1) := by decide +kernel
theorem dX7_digest_114 : decode cX7_digest 114 = .ok (.istore_n 3, 1) := by decide +kernel
theorem dX7_digest_115 : decode cX7_digest 115 = .ok (.iload_n 3, 1) := by decide +kernel
theorem dX7_digest_116 : decode cX7_digest 116 = .ok (.aload_n 0, 1) := by decide +kernel
theorem dX7_digest_117 : decode cX7_digest 117 = .ok (.getfield 27, 3) := by decide +kernel
theorem dX7_digest_120 : decode cX7_digest 120 = .ok (.getfield 122, 3) := by decide +kernel
theorem dX7_digest_123 : decode cX7_digest 123 = .ok (.getfield 108, 3) := by decide +kernel
theorem dX7_digest_126 : decode cX7_digest 126 = .ok (.if_icmp .ge 46, 3) := by decide +kernel
theorem dX7_digest_129 : decode cX7_digest 129 = .ok (.ldc2_w 263, 3) := by decide +kernel
theorem dX7_digest_132 : decode cX7_digest 132 = .ok (.lload_n 1, 1) := by decide +kernel
theorem dX7_digest_133 : decode cX7_digest 133 = .ok (.lmul, 1) := by decide +kernel
theorem dX7_digest_134 : decode cX7_digest 134 = .ok (.aload_n 0, 1) := by decide +kernel
theorem dX7_digest_135 : decode cX7_digest 135 = .ok (.getfield 20, 3) := by decide +kernel
theorem dX7_digest_138 : decode cX7_digest 138 = .ok (.getfield 158, 3) := by decide +kernel
theorem dX7_digest_141 : decode cX7_digest 141 = .ok (.iconst 0, 1) := by decide +kernel
theorem dX7_digest_142 : decode cX7_digest 142 = .ok (.iload_n 3, 1) := by decide +kernel
theorem dX7_digest_143 : decode cX7_digest 143 = .ok (.iadd, 1) := by decide +kernel
theorem dX7_digest_144 : decode cX7_digest 144 = .ok (.laload, 1) := by decide +kernel
theorem dX7_digest_145 : decode cX7_digest 145 = .ok (.ladd, 1) := by decide +kernel
theorem dX7_digest_146 : decode cX7_digest 146 = .ok (.lstore_n 1, 1) := by decide +kernel
theorem dX7_digest_147 : decode cX7_digest 147 = .ok (.ldc2_w 263, 3) := by decide +kernel
theorem dX7_digest_150 : decode cX7_digest 150 = .ok (.lload_n 1, 1) := by decide +kernel
theorem dX7_digest_151 : decode cX7_digest 151 = .ok (.lmul, 1) := by decide +kernel
theorem dX7_digest_152 : decode cX7_digest 152 = .ok (.aload_n 0, 1) := by decide +kernel
theorem dX7_digest_153 : decode cX7_digest 153 = .ok (.getfield 20, 3) := by decide +kernel
theorem dX7_digest_156 : decode cX7_digest 156 = .ok (.getfield 158, 3) := by decide +kernel
theorem dX7_digest_159 : decode cX7_digest 159 = .ok (.bipush 90, 2) := by decide +kernel
theorem dX7_digest_161 : decode cX7_digest 161 = .ok (.iload_n 3, 1) := by decide +kernel
theorem dX7_digest_162 : decode cX7_digest 162 = .ok (.iadd, 1) := by decide +kernel
theorem dX7_digest_163 : decode cX7_digest 163 = .ok (.laload, 1) := by decide +kernel
theorem dX7_digest_164 : decode cX7_digest 164 = .ok (.ladd, 1) := by decide +kernel
theorem dX7_digest_165 : decode cX7_digest 165 = .ok (.lstore_n 1, 1) := by decide +kernel
theorem dX7_digest_166 : decode cX7_digest 166 = .ok (.iinc 3 1, 3) := by decide +kernel
theorem dX7_digest_169 : decode cX7_digest 169 = .ok (.goto (-54), 3) := by decide +kernel
theorem dX7_digest_172 : decode cX7_digest 172 = .ok (.lload_n 1, 1) := by decide +kernel
theorem dX7_digest_173 : decode cX7_digest 173 = .ok (.lreturn, 1) := by decide +kernel
def kX7_digest (live : am_E) (Ret : am_R) : am_code := [(0, am_const (.long 347) 3), (3, am_lstore 1 4 4), (4, am_const (.int 0) 5), (5, am_istore 3 4 6), (6, am_iload 3 7), (7, am_const (.int 5) 8), (8, am_if2 (fun x y => y < x) 30 11), (11, am_const (.long 31) 14), (14, am_lload 1 15), (15, am_l2 (fun x y => x * y) 16), (16, am_aload 0 17), (17, am_iload 3 18), (18, am_callV live 7 1 TX7_count 21), (21, am_i2l 22), (22, am_l2 (fun x y => x + y) 23), (23, am_lstore 1 4 24), (24, am_iinc 3 4 1 27), (27, am_goto 6), (30, am_aload 0 31), (31, am_getR live 7 0 34), (34, am_getR live 0 0 37), (37, am_lload 1 38), (38, am_callV live 2 1 TX2_mixed 41), (41, am_lstore 1 4 42), (42, am_aload 0 43), (43, am_getR live 7 0 46), (46, am_getR live 0 4 49), (49, am_lload 1 50), (50, am_callV live 3 1 TX3_mixed 53), (53, am_lstore 1 4 54), (54, am_aload 0 55), (55, am_getR live 7 0 58), (58, am_getR live 0 3 61), (61, am_lload 1 62), (62, am_callV live 3 1 TX3_mixed 65), (65, am_lstore 1 4 66), (66, am_aload 0 67), (67, am_getR live 7 0 70), (70, am_getR live 0 5 73), (73, am_lload 1 74), (74, am_callV live 3 1 TX3_mixed 77), (77, am_lstore 1 4 78), (78, am_const (.int 0) 79), (79, am_istore 3 4 80), (80, am_iload 3 81), (81, am_const (.int 5) 82), (82, am_if2 (fun x y => y ≤ x) 105 85), (85, am_aload 0 86), (86, am_getR live 7 0 89), (89, am_getR live 0 7 92), (92, am_iload 3 93), (93, am_aald live 3 94), (94, am_lload 1 95), (95, am_callV live 5 1 TX5_mixed 98), (98, am_lstore 1 4 99), (99, am_iinc 3 4 1 102), (102, am_goto 80), (105, am_aload 0 106), (106, am_const (.int 39) 108), (108, am_const (.int 39) 110), (110, am_callV live 7 2 TX7_runEverybody 113), (113, am_const (.int 0) 114), (114, am_istore 3 4 115), (115, am_iload 3 116), (116, am_aload 0 117), (117, am_getR live 7 0 120), (120, am_getR live 0 4 123), (123, am_getI live 3 2 126), (126, am_if2 (fun x y => y ≤ x) 172 129), (129, am_const (.long 31) 132), (132, am_lload 1 133), (133, am_l2 (fun x y => x * y) 134), (134, am_aload 0 135), (135, am_getR live 7 2 138), (138, am_getR live 4 2 141), (141, am_const (.int 0) 142), (142, am_iload 3 143), (143, am_i2 (fun x y => x + y) 144), (144, am_lald live 1 145), (145, am_l2 (fun x y => x + y) 146), (146, am_lstore 1 4 147), (147, am_const (.long 31) 150), (150, am_lload 1 151), (151, am_l2 (fun x y => x * y) 152), (152, am_aload 0 153), (153, am_getR live 7 2 156), (156, am_getR live 4 2 159), (159, am_const (.int 90) 161), (161, am_iload 3 162), (162, am_i2 (fun x y => x + y) 163), (163, am_lald live 1 164), (164, am_l2 (fun x y => x + y) 165), (165, am_lstore 1 4 166), (166, am_iinc 3 4 1 169), (169, am_goto 115), (172, am_lload 1 173), (173, am_retL Ret)]
theorem koX7_digest (live : am_E) (Ret : am_R) : ∀ q ∈ kX7_digest live Ret, am_ok RX7 cX7_digest 4 (some .long) 6 147 live Ret q.1 q.2 :=
  am_kc (ak_ldc2 wd_871 dX7_digest_0 rfl) <|
  am_kc (ak_lstore_n dX7_digest_3 rfl rfl) <|
  am_kc (ak_iconst dX7_digest_4 (by decide +kernel) rfl) <|
  am_kc (ak_istore_n dX7_digest_5 rfl rfl) <|
  am_kc (ak_iload_n dX7_digest_6 rfl rfl) <|
  am_kc (ak_iconst dX7_digest_7 (by decide +kernel) rfl) <|
  am_kc (ak_icmp_gt dX7_digest_8 (by decide +kernel) rfl) <|
  am_kc (ak_ldc2 wd_872 dX7_digest_11 rfl) <|
  am_kc (ak_lload_n dX7_digest_14 rfl rfl) <|
  am_kc (ak_lmul dX7_digest_15 rfl) <|
  am_kc (ak_aload_n dX7_digest_16 rfl rfl) <|
  am_kc (ak_iload_n dX7_digest_17 rfl rfl) <|
  am_kc (ak_callV (C := RX7) (F := TX7) (N := 4) metX7_count rfl ⟨rfl, by decide +kernel, by decide +kernel, by decide +kernel⟩ (am_w5 wd_873 wd_864 wd_865 wd_58 wd_866) (by decide) dX7_digest_18 rfl) <|
  am_kc (ak_i2l dX7_digest_21 rfl) <|
  am_kc (ak_ladd dX7_digest_22 rfl) <|
  am_kc (ak_lstore_n dX7_digest_23 rfl rfl) <|
  am_kc (ak_iinc dX7_digest_24 (by decide +kernel) rfl) <|
  am_kc (ak_goto dX7_digest_27 (by decide +kernel)) <|
  am_kc (ak_aload_n dX7_digest_30 rfl rfl) <|
  am_kc (ak_getR (C := RX7) (T := TX7) (N := 4) rfl inX7w (by decide) rfl rfl rfl wd_390 dX7_digest_31 rfl) <|
  am_kc (ak_getR (C := RX0) (T := TX0) (N := 13) rfl inX0w (by decide) rfl rfl rfl wd_194 dX7_digest_34 rfl) <|
  am_kc (ak_lload_n dX7_digest_37 rfl rfl) <|
  am_kc (ak_callV (C := RX2) (F := TX2) (N := 8) metX2_mixed rfl ⟨rfl, by decide +kernel, by decide +kernel, by decide +kernel⟩ (am_w5 wd_874 wd_875 wd_876 wd_62 wd_877) (by decide) dX7_digest_38 rfl) <|
  am_kc (ak_lstore_n dX7_digest_41 rfl rfl) <|
  am_kc (ak_aload_n dX7_digest_42 rfl rfl) <|
  am_kc (ak_getR (C := RX7) (T := TX7) (N := 4) rfl inX7w (by decide) rfl rfl rfl wd_390 dX7_digest_43 rfl) <|
  am_kc (ak_getR (C := RX0) (T := TX0) (N := 13) rfl inX0w (by decide) rfl rfl rfl wd_207 dX7_digest_46 rfl) <|
  am_kc (ak_lload_n dX7_digest_49 rfl rfl) <|
  am_kc (ak_callV (C := RX3) (F := TX3) (N := 3) metX3_mixed rfl ⟨rfl, by decide +kernel, by decide +kernel, by decide +kernel⟩ (am_w5 wd_879 wd_880 wd_881 wd_64 wd_882) (by decide) dX7_digest_50 rfl) <|
  am_kc (ak_lstore_n dX7_digest_53 rfl rfl) <|
  am_kc (ak_aload_n dX7_digest_54 rfl rfl) <|
  am_kc (ak_getR (C := RX7) (T := TX7) (N := 4) rfl inX7w (by decide) rfl rfl rfl wd_390 dX7_digest_55 rfl) <|
  am_kc (ak_getR (C := RX0) (T := TX0) (N := 13) rfl inX0w (by decide) rfl rfl rfl wd_204 dX7_digest_58 rfl) <|
  am_kc (ak_lload_n dX7_digest_61 rfl rfl) <|
  am_kc (ak_callV (C := RX3) (F := TX3) (N := 3) metX3_mixed rfl ⟨rfl, by decide +kernel, by decide +kernel, by decide +kernel⟩ (am_w5 wd_879 wd_880 wd_881 wd_64 wd_882) (by decide) dX7_digest_62 rfl) <|
  am_kc (ak_lstore_n dX7_digest_65 rfl rfl) <|
  am_kc (ak_aload_n dX7_digest_66 rfl rfl) <|
  am_kc (ak_getR (C := RX7) (T := TX7) (N := 4) rfl inX7w (by decide) rfl rfl rfl wd_390 dX7_digest_67 rfl) <|
  am_kc (ak_getR (C := RX0) (T := TX0) (N := 13) rfl inX0w (by decide) rfl rfl rfl wd_209 dX7_digest_70 rfl) <|
  am_kc (ak_lload_n dX7_digest_73 rfl rfl) <|
  am_kc (ak_callV (C := RX3) (F := TX3) (N := 3) metX3_mixed rfl ⟨rfl, by decide +kernel, by decide +kernel, by decide +kernel⟩ (am_w5 wd_879 wd_880 wd_881 wd_64 wd_882) (by decide) dX7_digest_74 rfl) <|
  am_kc (ak_lstore_n dX7_digest_77 rfl rfl) <|
  am_kc (ak_iconst dX7_digest_78 (by decide +kernel) rfl) <|
  am_kc (ak_istore_n dX7_digest_79 rfl rfl) <|
  am_kc (ak_iload_n dX7_digest_80 rfl rfl) <|
  am_kc (ak_iconst dX7_digest_81 (by decide +kernel) rfl) <|
  am_kc (ak_icmp_ge dX7_digest_82 (by decide +kernel) rfl) <|
  am_kc (ak_aload_n dX7_digest_85 rfl rfl) <|
  am_kc (ak_getR (C := RX7) (T := TX7) (N := 4) rfl inX7w (by decide) rfl rfl rfl wd_390 dX7_digest_86 rfl) <|
  am_kc (ak_getR (C := RX0) (T := TX0) (N := 13) rfl inX0w (by decide) rfl rfl rfl wd_215 dX7_digest_89 rfl) <|
  am_kc (ak_iload_n dX7_digest_92 rfl rfl) <|
  am_kc (ak_aald (t := 3) (fun _ => rfl) rfl dX7_digest_93 rfl) <|
  am_kc (ak_lload_n dX7_digest_94 rfl rfl) <|
  am_kc (ak_callV (C := RX5) (F := TX5) (N := 7) metX5_mixed rfl ⟨rfl, by decide +kernel, by decide +kernel, by decide +kernel⟩ (am_w5 wd_884 wd_885 wd_886 wd_65 wd_887) (by decide) dX7_digest_95 rfl) <|
  am_kc (ak_lstore_n dX7_digest_98 rfl rfl) <|
  am_kc (ak_iinc dX7_digest_99 (by decide +kernel) rfl) <|
  am_kc (ak_goto dX7_digest_102 (by decide +kernel)) <|
  am_kc (ak_aload_n dX7_digest_105 rfl rfl) <|
  am_kc (ak_bipush dX7_digest_106 (by decide +kernel) rfl) <|
  am_kc (ak_bipush dX7_digest_108 (by decide +kernel) rfl) <|
  am_kc (ak_callV (C := RX7) (F := TX7) (N := 4) metX7_runEverybody rfl ⟨rfl, by decide +kernel, by decide +kernel, by decide +kernel⟩ (am_w5 wd_743 wd_745 wd_23 wd_58 wd_746) (by decide) dX7_digest_110 rfl) <|
  am_kc (ak_iconst dX7_digest_113 (by decide +kernel) rfl) <|
  am_kc (ak_istore_n dX7_digest_114 rfl rfl) <|
  am_kc (ak_iload_n dX7_digest_115 rfl rfl) <|
  am_kc (ak_aload_n dX7_digest_116 rfl rfl) <|
  am_kc (ak_getR (C := RX7) (T := TX7) (N := 4) rfl inX7w (by decide) rfl rfl rfl wd_390 dX7_digest_117 rfl) <|
  am_kc (ak_getR (C := RX0) (T := TX0) (N := 13) rfl inX0w (by decide) rfl rfl rfl wd_207 dX7_digest_120 rfl) <|
  am_kc (ak_getI (C := RX3) (T := TX3) (N := 3) rfl inX3w (by decide) rfl rfl rfl wd_152 dX7_digest_123 rfl) <|
  am_kc (ak_icmp_ge dX7_digest_126 (by decide +kernel) rfl) <|
  am_kc (ak_ldc2 wd_872 dX7_digest_129 rfl) <|
  am_kc (ak_lload_n dX7_digest_132 rfl rfl) <|
  am_kc (ak_lmul dX7_digest_133 rfl) <|
  am_kc (ak_aload_n dX7_digest_134 rfl rfl) <|
  am_kc (ak_getR (C := RX7) (T := TX7) (N := 4) rfl inX7w (by decide) rfl rfl rfl wd_392 dX7_digest_135 rfl) <|
  am_kc (ak_getR (C := RX4) (T := TX4) (N := 19) rfl inX4w (by decide) rfl rfl rfl wd_298 dX7_digest_138 rfl) <|
  am_kc (ak_iconst dX7_digest_141 (by decide +kernel) rfl) <|
  am_kc (ak_iload_n dX7_digest_142 rfl rfl) <|
  am_kc (ak_iadd dX7_digest_143 rfl) <|
  am_kc (ak_lald (t := 1) (fun _ => rfl) rfl dX7_digest_144 rfl) <|
  am_kc (ak_ladd dX7_digest_145 rfl) <|
  am_kc (ak_lstore_n dX7_digest_146 rfl rfl) <|
  am_kc (ak_ldc2 wd_872 dX7_digest_147 rfl) <|
  am_kc (ak_lload_n dX7_digest_150 rfl rfl) <|
  am_kc (ak_lmul dX7_digest_151 rfl) <|
  am_kc (ak_aload_n dX7_digest_152 rfl rfl) <|
  am_kc (ak_getR (C := RX7) (T := TX7) (N := 4) rfl inX7w (by decide) rfl rfl rfl wd_392 dX7_digest_153 rfl) <|
  am_kc (ak_getR (C := RX4) (T := TX4) (N := 19) rfl inX4w (by decide) rfl rfl rfl wd_298 dX7_digest_156 rfl) <|
  am_kc (ak_bipush dX7_digest_159 (by decide +kernel) rfl) <|
  am_kc (ak_iload_n dX7_digest_161 rfl rfl) <|
  am_kc (ak_iadd dX7_digest_162 rfl) <|
  am_kc (ak_lald (t := 1) (fun _ => rfl) rfl dX7_digest_163 rfl) <|
  am_kc (ak_ladd dX7_digest_164 rfl) <|
  am_kc (ak_lstore_n dX7_digest_165 rfl rfl) <|
  am_kc (ak_iinc dX7_digest_166 (by decide +kernel) rfl) <|
  am_kc (ak_goto dX7_digest_169 (by decide +kernel)) <|
  am_kc (ak_lload_n dX7_digest_172 rfl rfl) <|
  am_kc (ak_retL dX7_digest_173) <| am_kn
def TX7_digest : am_T := fun live as M R => match as with
  | [.ref n] => am_mn live ∧ n = 0 ∧ (g_hI M ∧ g_rI M) ∧ ∀ v M', g_sc M M' → g_rI M' → R (some (.long v)) M'
  | _ => False
def JX7_digest : am_E → List Value → am_M → am_R → am_inv := fun live as M0 _ pc => match as with
  | [.ref n] => (match pc with
    | 6 => some ([0, 1, 3], fun u L st M => ∃ (v : Int64) (i : Int32), L = [(0, .ref 0), (1, .long v), (3, .int i)] ∧ st = [] ∧ u = (2000 + (8 - i.toInt).toNat, 0) ∧ 0 ≤ i.toInt ∧ M = M0)
    | 80 => some ([0, 1, 3], fun u L st M => ∃ (v : Int64) (i : Int32), L = [(0, .ref 0), (1, .long v), (3, .int i)] ∧ st = [] ∧ u = (1000 + (8 - i.toInt).toNat, 0) ∧ 0 ≤ i.toInt ∧ M = M0)
    | 115 => some ([0, 1, 3], fun u L st M => ∃ (v : Int64) (i : Int32), L = [(0, .ref 0), (1, .long v), (3, .int i)] ∧ st = [] ∧ u = ((31 - i.toInt).toNat, 0) ∧ 0 ≤ i.toInt ∧ g_sc M0 M ∧ g_rI M)
    | _ => none)
  | _ => none
set_option maxRecDepth 100000 in
set_option maxHeartbeats 4000000 in
theorem metX7_digest : am_Met yX7_digest cX7_digest 4 (some .long) (6) (147) TX7_digest := by
  refine am_met (own := RX7) (by decide +kernel) rfl kX7_digest koX7_digest 150 JX7_digest ?_ ?_
  · intro live as M Ret h
    unfold TX7_digest at h
    split at h
    · next n =>
      refine ⟨Nat.le_of_ble_eq_true rfl, ?_⟩
      change am_wp _ _ _ _ [(0, Value.ref n)] _ _
      obtain ⟨hmn, rfl, ⟨hH, hR⟩, h⟩ := h
      have hmn2 := hmn
      obtain ⟨i1, i2, rfl⟩ := hmn2
      repeat' (first | (with_reducible exact hmn) | (with_reducible exact hR) | (with_reducible exact hH) | apply And.intro | exact rfl | ((with_reducible change g_rI _); (with_reducible assumption)) | (intro hx; exact absurd hx (by decide)) | (intro hx; exact absurd (by decide) hx) | decide | intro hx | (refine Exists.intro _ (And.intro rfl ?_)))
      all_goals try first | (with_reducible change am_tI _ _) | (change Ret _ _) | (change Ret _ _ _) | (change Exists _)
      all_goals try dsimp only at *
      all_goals try exact absurd ‹(1000 : Int64) = 0› (by decide)
      all_goals first | exact ⟨_, _, _, rfl, rfl, rfl, by decide, rfl⟩ | ((with_reducible change Ret _ _); exact h _ _ (by (repeat' (first | (with_reducible exact g_sc.rf) | (with_reducible assumption) | ((with_reducible change g_sc _ (am_wI _ _ _ _)); refine g_sc.wI ?_ rfl) | ((with_reducible change g_sc _ (am_wJ _ _ _ _)); refine g_sc.wJ ?_ rfl) | ((with_reducible change g_sc _ (am_cI _ _ _)); refine g_sc.cI ?_ rfl) | ((with_reducible change g_sc _ (am_cJ _ _ _)); refine g_sc.cJ ?_ rfl) | (refine g_sc.tr ?_ (by with_reducible assumption)) | (refine g_sc.st ?_ (by with_reducible assumption))))) (by (repeat' (first | (with_reducible assumption) | ((with_reducible change g_rI (am_wJ _ _ _ _)); refine g_rI.wJ ?_) | ((with_reducible change g_rI (am_cJ _ _ _)); refine g_rI.cJ ?_) | ((with_reducible change g_rI (am_wI _ 5 _ _)); refine g_rI.w5 ?_) | ((with_reducible change g_rI (am_wI _ _ _ _)); refine g_rI.wF ?_ rfl) | (refine g_rI.st ?_ (by with_reducible assumption)) | (refine g_rI.we ?_ (by with_reducible assumption)))))) | skip
    · exact h.elim
  · intro live as M0 Ret h k pc I hI L st M hi
    unfold TX7_digest at h
    split at h
    · next n =>
      obtain ⟨hmn, rfl, ⟨hH, hR⟩, h⟩ := h
      have hmn2 := hmn
      obtain ⟨i1, i2, rfl⟩ := hmn2
      change (match pc with | 6 => _ | 80 => _ | 115 => _ | _ => none) = _ at hI
      split at hI
      · cases hI
        obtain ⟨v, i, rfl, rfl, rfl, e1, rfl⟩ := hi
        by_cases hz : (5 : Int32) < i
        · skip
          repeat' (first | (with_reducible exact hmn) | apply And.intro | exact rfl | (intro hx; with_reducible exact absurd hz hx) | intro hx | (refine Exists.intro _ (And.intro rfl ?_)))
          all_goals try first | (with_reducible change am_tI _ _) | (change Ret _ _) | (change Ret _ _ _) | (change Exists _)
          all_goals try dsimp only at *
          all_goals try exact absurd ‹(1000 : Int64) = 0› (by decide)
          all_goals first
            | exact ⟨_, am_lt_l (by simp only [Int32.reduceToInt]; omega), _, _, rfl, rfl, rfl, by decide, rfl⟩
            | skip
        · have hz2 := hz
          simp only [i_lt, Int32.reduceToInt] at hz2
          have hi := i_inc (x := i) (by omega) (by omega)
          repeat' (first | (with_reducible exact hmn) | apply And.intro | exact rfl | (intro hx; with_reducible exact absurd hx hz) | intro hx | (refine Exists.intro _ (And.intro rfl ?_)))
          all_goals try first | (with_reducible change am_tI _ _) | (change Ret _ _) | (change Ret _ _ _) | (change Exists _)
          all_goals try dsimp only at *
          all_goals try exact absurd ‹(1000 : Int64) = 0› (by decide)
          all_goals exact ⟨_, am_lt_l (by omega), _, _, rfl, rfl, rfl, by omega, rfl⟩
      · cases hI
        obtain ⟨v, i, rfl, rfl, rfl, e1, rfl⟩ := hi
        by_cases hz : (5 : Int32) ≤ i
        · skip
          repeat' (first | (with_reducible exact hmn) | (with_reducible exact hH) | (with_reducible exact hR) | apply And.intro | exact rfl | (intro hx; with_reducible exact absurd hz hx) | intro hx | (refine Exists.intro _ (And.intro rfl ?_)))
          all_goals try first | (with_reducible change am_tI _ _) | (change Ret _ _) | (change Ret _ _ _) | (change Exists _)
          all_goals try dsimp only at *
          all_goals try exact absurd ‹(1000 : Int64) = 0› (by decide)
          all_goals exact ⟨_, am_lt_l (by simp only [Int32.reduceToInt]; omega), _, _, rfl, rfl, rfl, by decide, by (repeat' (first | (with_reducible exact g_sc.rf) | (with_reducible assumption) | ((with_reducible change g_sc _ (am_wI _ _ _ _)); refine g_sc.wI ?_ rfl) | ((with_reducible change g_sc _ (am_wJ _ _ _ _)); refine g_sc.wJ ?_ rfl) | ((with_reducible change g_sc _ (am_cI _ _ _)); refine g_sc.cI ?_ rfl) | ((with_reducible change g_sc _ (am_cJ _ _ _)); refine g_sc.cJ ?_ rfl) | (refine g_sc.tr ?_ (by with_reducible assumption)) | (refine g_sc.st ?_ (by with_reducible assumption)))), by (repeat' (first | (with_reducible assumption) | ((with_reducible change g_rI (am_wJ _ _ _ _)); refine g_rI.wJ ?_) | ((with_reducible change g_rI (am_cJ _ _ _)); refine g_rI.cJ ?_) | ((with_reducible change g_rI (am_wI _ 5 _ _)); refine g_rI.w5 ?_) | ((with_reducible change g_rI (am_wI _ _ _ _)); refine g_rI.wF ?_ rfl) | (refine g_rI.st ?_ (by with_reducible assumption)) | (refine g_rI.we ?_ (by with_reducible assumption))))⟩
        · have hz2 := hz
          simp only [i_le, Int32.reduceToInt] at hz2
          have hi := i_inc (x := i) (by omega) (by omega)
          have hp : am_in i 5 := ⟨e1, by omega⟩
          obtain ⟨t, s, c, h2, k1, k2, k3, h1, ht, et, es, ec, k4⟩ := g_txt hmn hp
          have l38 : am_len 38 = 5 := rfl
          repeat' (first | (with_reducible exact hmn) | (with_reducible exact h1) | (with_reducible exact h2) | (refine Exists.intro _ (And.intro h2 ?_)) | apply And.intro | exact rfl | (intro hx; with_reducible exact absurd hx hz) | intro hx | (refine Exists.intro _ (And.intro rfl ?_)) | (refine am_tP_in k1 k2 k3 ?_) | ((with_reducible change _ = true); simp only [h1, h2, Bool.true_and]; rfl))
          all_goals try first | (with_reducible change am_tI _ _) | (change Ret _ _) | (change Ret _ _ _) | (change Exists _)
          all_goals try dsimp only at *
          all_goals try exact absurd ‹(1000 : Int64) = 0› (by decide)
          all_goals first
            | exact hp.1
            | (rw [l38]; exact hp.2)
            | exact ⟨_, am_lt_l (by omega), _, _, rfl, rfl, rfl, by omega, rfl⟩
      · cases hI
        obtain ⟨v, i, rfl, rfl, rfl, e1, e2, e3⟩ := hi
        have hs := hH.lo.2
        by_cases hz : M.1 33 2 ≤ i
        · skip
          repeat' (first | (with_reducible exact hmn) | apply And.intro | exact rfl | (intro hx; with_reducible exact absurd hz hx) | intro hx | (refine Exists.intro _ (And.intro rfl ?_)))
          all_goals try first | (with_reducible change am_tI _ _) | (change Ret _ _) | (change Ret _ _ _) | (change Exists _)
          all_goals try dsimp only at *
          all_goals try exact absurd ‹(1000 : Int64) = 0› (by decide)
          all_goals exact h _ _ e2 e3
        · have hz2 := hz
          rw [e2.i 2 (by decide)] at hz2
          simp only [i_le] at hz2
          have hi := i_inc (x := i) (by omega) (by omega)
          have hl : am_in i 30 := ⟨e1, by omega⟩
          have f0 := g_ix hl 0 0 rfl (by decide)
          have f90 := g_ix hl 90 90 rfl (by decide)
          have l6 : am_len 6 = 180 := rfl
          repeat' (first | (with_reducible exact hmn) | apply And.intro | exact rfl | (intro hx; with_reducible exact absurd hx hz) | intro hx | (refine Exists.intro _ (And.intro rfl ?_)))
          all_goals try first | (with_reducible change am_tI _ _) | (change Ret _ _) | (change Ret _ _ _) | (change Exists _)
          all_goals try dsimp only at *
          all_goals try exact absurd ‹(1000 : Int64) = 0› (by decide)
          all_goals first
            | exact f0.1
            | (rw [l6]; exact f0.2.1)
            | exact f90.1
            | (rw [l6]; exact f90.2.1)
            | exact ⟨_, am_lt_l (by omega), _, _, rfl, rfl, rfl, by omega, e2, e3⟩
            | skip
      · cases hI
    · exact h.elim
