/-! p1: book, tried, count, digest of a new object -/
theorem wd_122 : Cond.fieldLink "LearnLoans$People" 45 "LearnLoans$People" "size" "I" ∈ am_ws := am_wsi (List.mem_of_getElem? (i := 122) (by decide +kernel)) (by decide +kernel)
theorem wd_875 : Cond.constantLong "LearnLoans$People" 49 31 ∈ am_ws := am_wsi (List.mem_of_getElem? (i := 875) (by decide +kernel)) (by decide +kernel)
theorem dX2_mixed_0 : decode cX2_mixed 0 = .ok (.iconst 0, 1) := by decide +kernel
theorem dX2_mixed_1 : decode cX2_mixed 1 = .ok (.istore_n 3, 1) := by decide +kernel
theorem dX2_mixed_2 : decode cX2_mixed 2 = .ok (.iload_n 3, 1) := by decide +kernel
theorem dX2_mixed_3 : decode cX2_mixed 3 = .ok (.aload_n 0, 1) := by decide +kernel
theorem dX2_mixed_4 : decode cX2_mixed 4 = .ok (.getfield 45, 3) := by decide +kernel
theorem dX2_mixed_7 : decode cX2_mixed 7 = .ok (.if_icmp .ge 79, 3) := by decide +kernel
theorem dX2_mixed_10 : decode cX2_mixed 10 = .ok (.iload_n 3, 1) := by decide +kernel
theorem dX2_mixed_11 : decode cX2_mixed 11 = .ok (.bipush 12, 2) := by decide +kernel
theorem dX2_mixed_13 : decode cX2_mixed 13 = .ok (.if_icmp .ge 73, 3) := by decide +kernel
theorem dX2_mixed_16 : decode cX2_mixed 16 = .ok (.ldc2_w 49, 3) := by decide +kernel
theorem dX2_mixed_19 : decode cX2_mixed 19 = .ok (.lload_n 1, 1) := by decide +kernel
theorem dX2_mixed_20 : decode cX2_mixed 20 = .ok (.lmul, 1) := by decide +kernel
theorem dX2_mixed_21 : decode cX2_mixed 21 = .ok (.aload_n 0, 1) := by decide +kernel
theorem dX2_mixed_22 : decode cX2_mixed 22 = .ok (.getfield 9, 3) := by decide +kernel
theorem dX2_mixed_25 : decode cX2_mixed 25 = .ok (.iload_n 3, 1) := by decide +kernel
theorem dX2_mixed_26 : decode cX2_mixed 26 = .ok (.iaload, 1) := by decide +kernel
theorem dX2_mixed_27 : decode cX2_mixed 27 = .ok (.i2l, 1) := by decide +kernel
theorem dX2_mixed_28 : decode cX2_mixed 28 = .ok (.ladd, 1) := by decide +kernel
theorem dX2_mixed_29 : decode cX2_mixed 29 = .ok (.lstore_n 1, 1) := by decide +kernel
theorem dX2_mixed_30 : decode cX2_mixed 30 = .ok (.ldc2_w 49, 3) := by decide +kernel
theorem dX2_mixed_33 : decode cX2_mixed 33 = .ok (.lload_n 1, 1) := by decide +kernel
theorem dX2_mixed_34 : decode cX2_mixed 34 = .ok (.lmul, 1) := by decide +kernel
theorem dX2_mixed_35 : decode cX2_mixed 35 = .ok (.aload_n 0, 1) := by decide +kernel
theorem dX2_mixed_36 : decode cX2_mixed 36 = .ok (.getfield 15, 3) := by decide +kernel
theorem dX2_mixed_39 : decode cX2_mixed 39 = .ok (.iload_n 3, 1) := by decide +kernel
theorem dX2_mixed_40 : decode cX2_mixed 40 = .ok (.iaload, 1) := by decide +kernel
theorem dX2_mixed_41 : decode cX2_mixed 41 = .ok (.i2l, 1) := by decide +kernel
theorem dX2_mixed_42 : decode cX2_mixed 42 = .ok (.ladd, 1) := by decide +kernel
theorem dX2_mixed_43 : decode cX2_mixed 43 = .ok (.lstore_n 1, 1) := by decide +kernel
theorem dX2_mixed_44 : decode cX2_mixed 44 = .ok (.iconst 0, 1) := by decide +kernel
theorem dX2_mixed_45 : decode cX2_mixed 45 = .ok (.istore 4, 2) := by decide +kernel
theorem dX2_mixed_47 : decode cX2_mixed 47 = .ok (.iload 4, 2) := by decide +kernel
theorem dX2_mixed_49 : decode cX2_mixed 49 = .ok (.bipush 40, 2) := by decide +kernel
theorem dX2_mixed_51 : decode cX2_mixed 51 = .ok (.if_icmp .ge 29, 3) := by decide +kernel
theorem dX2_mixed_54 : decode cX2_mixed 54 = .ok (.ldc2_w 49, 3) := by decide +kernel
theorem dX2_mixed_57 : decode cX2_mixed 57 = .ok (.lload_n 1, 1) := by decide +kernel
theorem dX2_mixed_58 : decode cX2_mixed 58 = .ok (.lmul, 1) := by decide +kernel
theorem dX2_mixed_59 : decode cX2_mixed 59 = .ok (.aload_n 0, 1) := by decide +kernel
theorem dX2_mixed_60 : decode cX2_mixed 60 = .ok (.getfield 18, 3) := by decide +kernel
theorem dX2_mixed_63 : decode cX2_mixed 63 = .ok (.iload_n 3, 1) := by decide +kernel
theorem dX2_mixed_64 : decode cX2_mixed 64 = .ok (.bipush 40, 2) := by decide +kernel
theorem dX2_mixed_66 : decode cX2_mixed 66 = .ok (.imul, 1) := by decide +kernel
theorem dX2_mixed_67 : decode cX2_mixed 67 = .ok (.iload 4, 2) := by decide +kernel
theorem dX2_mixed_69 : decode cX2_mixed 69 = .ok (.iadd, 1) := by decide +kernel
theorem dX2_mixed_70 : decode cX2_mixed 70 = .ok (.iaload, 1) := by decide +kernel
theorem dX2_mixed_71 : decode cX2_mixed 71 = .ok (.i2l, 1) := by decide +kernel
theorem dX2_mixed_72 : decode cX2_mixed 72 = .ok (.ladd, 1) := by decide +kernel
theorem dX2_mixed_73 : decode cX2_mixed 73 = .ok (.lstore_n 1, 1) := by decide +kernel
theorem dX2_mixed_74 : decode cX2_mixed 74 = .ok (.iinc 4 1, 3) := by decide +kernel
theorem dX2_mixed_77 : decode cX2_mixed 77 = .ok (.goto (-30), 3) := by decide +kernel
theorem dX2_mixed_80 : decode cX2_mixed 80 = .ok (.iinc 3 1, 3) := by decide +kernel
theorem dX2_mixed_83 : decode cX2_mixed 83 = .ok (.goto (-81), 3) := by decide +kernel
theorem dX2_mixed_86 : decode cX2_mixed 86 = .ok (.lload_n 1, 1) := by decide +kernel
theorem dX2_mixed_87 : decode cX2_mixed 87 = .ok (.lreturn, 1) := by decide +kernel
def kX2_mixed (live : am_E) (Ret : am_R) : am_code := [(0, am_const (.int 0) 1), (1, am_istore 3 5 2), (2, am_iload 3 3), (3, am_aload 0 4), (4, am_getI live 2 7 7), (7, am_if2 (fun x y => y ≤ x) 86 10), (10, am_iload 3 11), (11, am_const (.int 12) 13), (13, am_if2 (fun x y => y ≤ x) 86 16), (16, am_const (.long 31) 19), (19, am_lload 1 20), (20, am_l2 (fun x y => x * y) 21), (21, am_aload 0 22), (22, am_getR live 2 0 25), (25, am_iload 3 26), (26, am_ald live 0 27), (27, am_i2l 28), (28, am_l2 (fun x y => x + y) 29), (29, am_lstore 1 5 30), (30, am_const (.long 31) 33), (33, am_lload 1 34), (34, am_l2 (fun x y => x * y) 35), (35, am_aload 0 36), (36, am_getR live 2 1 39), (39, am_iload 3 40), (40, am_ald live 0 41), (41, am_i2l 42), (42, am_l2 (fun x y => x + y) 43), (43, am_lstore 1 5 44), (44, am_const (.int 0) 45), (45, am_istore 4 5 47), (47, am_iload 4 49), (49, am_const (.int 40) 51), (51, am_if2 (fun x y => y ≤ x) 80 54), (54, am_const (.long 31) 57), (57, am_lload 1 58), (58, am_l2 (fun x y => x * y) 59), (59, am_aload 0 60), (60, am_getR live 2 2 63), (63, am_iload 3 64), (64, am_const (.int 40) 66), (66, am_i2 (fun x y => x * y) 67), (67, am_iload 4 69), (69, am_i2 (fun x y => x + y) 70), (70, am_ald live 0 71), (71, am_i2l 72), (72, am_l2 (fun x y => x + y) 73), (73, am_lstore 1 5 74), (74, am_iinc 4 5 1 77), (77, am_goto 47), (80, am_iinc 3 5 1 83), (83, am_goto 2), (86, am_lload 1 87), (87, am_retL Ret)]
theorem koX2_mixed (live : am_E) (Ret : am_R) : ∀ q ∈ kX2_mixed live Ret, am_ok RX2 cX2_mixed 5 (some .long) 0 0 live Ret q.1 q.2 :=
  am_kc (ak_iconst dX2_mixed_0 (by decide +kernel) rfl) <|
  am_kc (ak_istore_n dX2_mixed_1 rfl rfl) <|
  am_kc (ak_iload_n dX2_mixed_2 rfl rfl) <|
  am_kc (ak_aload_n dX2_mixed_3 rfl rfl) <|
  am_kc (ak_getI (C := RX2) (T := TX2) (N := 8) rfl inX2w (by decide) rfl rfl rfl wd_122 dX2_mixed_4 rfl) <|
  am_kc (ak_icmp_ge dX2_mixed_7 (by decide +kernel) rfl) <|
  am_kc (ak_iload_n dX2_mixed_10 rfl rfl) <|
  am_kc (ak_bipush dX2_mixed_11 (by decide +kernel) rfl) <|
  am_kc (ak_icmp_ge dX2_mixed_13 (by decide +kernel) rfl) <|
  am_kc (ak_ldc2 wd_875 dX2_mixed_16 rfl) <|
  am_kc (ak_lload_n dX2_mixed_19 rfl rfl) <|
  am_kc (ak_lmul dX2_mixed_20 rfl) <|
  am_kc (ak_aload_n dX2_mixed_21 rfl rfl) <|
  am_kc (ak_getR (C := RX2) (T := TX2) (N := 8) rfl inX2w (by decide) rfl rfl rfl wd_105 dX2_mixed_22 rfl) <|
  am_kc (ak_iload_n dX2_mixed_25 rfl rfl) <|
  am_kc (ak_iald (t := 0) (fun _ => rfl) rfl dX2_mixed_26 rfl) <|
  am_kc (ak_i2l dX2_mixed_27 rfl) <|
  am_kc (ak_ladd dX2_mixed_28 rfl) <|
  am_kc (ak_lstore_n dX2_mixed_29 rfl rfl) <|
  am_kc (ak_ldc2 wd_875 dX2_mixed_30 rfl) <|
  am_kc (ak_lload_n dX2_mixed_33 rfl rfl) <|
  am_kc (ak_lmul dX2_mixed_34 rfl) <|
  am_kc (ak_aload_n dX2_mixed_35 rfl rfl) <|
  am_kc (ak_getR (C := RX2) (T := TX2) (N := 8) rfl inX2w (by decide) rfl rfl rfl wd_108 dX2_mixed_36 rfl) <|
  am_kc (ak_iload_n dX2_mixed_39 rfl rfl) <|
  am_kc (ak_iald (t := 0) (fun _ => rfl) rfl dX2_mixed_40 rfl) <|
  am_kc (ak_i2l dX2_mixed_41 rfl) <|
  am_kc (ak_ladd dX2_mixed_42 rfl) <|
  am_kc (ak_lstore_n dX2_mixed_43 rfl rfl) <|
  am_kc (ak_iconst dX2_mixed_44 (by decide +kernel) rfl) <|
  am_kc (ak_istore dX2_mixed_45 rfl) <|
  am_kc (ak_iload dX2_mixed_47 rfl) <|
  am_kc (ak_bipush dX2_mixed_49 (by decide +kernel) rfl) <|
  am_kc (ak_icmp_ge dX2_mixed_51 (by decide +kernel) rfl) <|
  am_kc (ak_ldc2 wd_875 dX2_mixed_54 rfl) <|
  am_kc (ak_lload_n dX2_mixed_57 rfl rfl) <|
  am_kc (ak_lmul dX2_mixed_58 rfl) <|
  am_kc (ak_aload_n dX2_mixed_59 rfl rfl) <|
  am_kc (ak_getR (C := RX2) (T := TX2) (N := 8) rfl inX2w (by decide) rfl rfl rfl wd_110 dX2_mixed_60 rfl) <|
  am_kc (ak_iload_n dX2_mixed_63 rfl rfl) <|
  am_kc (ak_bipush dX2_mixed_64 (by decide +kernel) rfl) <|
  am_kc (ak_imul dX2_mixed_66 rfl) <|
  am_kc (ak_iload dX2_mixed_67 rfl) <|
  am_kc (ak_iadd dX2_mixed_69 rfl) <|
  am_kc (ak_iald (t := 0) (fun _ => rfl) rfl dX2_mixed_70 rfl) <|
  am_kc (ak_i2l dX2_mixed_71 rfl) <|
  am_kc (ak_ladd dX2_mixed_72 rfl) <|
  am_kc (ak_lstore_n dX2_mixed_73 rfl rfl) <|
  am_kc (ak_iinc dX2_mixed_74 (by decide +kernel) rfl) <|
  am_kc (ak_goto dX2_mixed_77 (by decide +kernel)) <|
  am_kc (ak_iinc dX2_mixed_80 (by decide +kernel) rfl) <|
  am_kc (ak_goto dX2_mixed_83 (by decide +kernel)) <|
  am_kc (ak_lload_n dX2_mixed_86 rfl rfl) <|
  am_kc (ak_retL dX2_mixed_87) <| am_kn
def TX2_mixed : am_T := fun live as M R => match as with
  | [.ref n, .long x] => am_mn live ∧ n = 21 ∧ M.1 21 7 = 0 ∧ R (some (.long x)) M
  | _ => False
set_option maxRecDepth 100000 in
set_option maxHeartbeats 4000000 in
theorem metX2_mixed : am_Met yX2_mixed cX2_mixed 5 (some .long) (0) (0) TX2_mixed := by
  refine am_met (own := RX2) (by decide +kernel) rfl kX2_mixed koX2_mixed 100 (fun _ _ _ _ _ => none) (fun live as M Ret h => ?_) (fun _ _ _ _ _ _ _ _ hI => by cases hI)
  unfold TX2_mixed at h
  split at h
  · next n x =>
    refine ⟨Nat.le_of_ble_eq_true rfl, ?_⟩
    change am_wp _ _ _ _ [(0, Value.ref n), (1, Value.long x)] _ _
    obtain ⟨⟨i1, i2, rfl⟩, rfl, hs, h⟩ := h
    have hp : M.1 21 7 ≤ 0 := by rw [hs]; decide
    repeat' (first | exact rfl | apply And.intro | (intro hx; exact absurd hp hx) | intro hx | (refine Exists.intro _ (And.intro rfl ?_)))
    all_goals try first | (with_reducible change am_tI _ _) | (change Ret _ _) | (change Ret _ _ _) | (change Exists _)
    all_goals try dsimp only at *
    all_goals try exact absurd ‹(1000 : Int64) = 0› (by decide)
    all_goals exact h
  · exact h.elim
def TX3_mixed0 : am_T := fun live as M R => match as with
  | [.ref r, .long x] => am_ex (live.2 r 0) (fun c => am_if (am_rc live r c) (M.1 r 2 = 0 ∧ R (some (.long x)) M))
  | _ => False
set_option maxRecDepth 100000 in
set_option maxHeartbeats 4000000 in
theorem metX3_mixed0 : am_Met yX3_mixed cX3_mixed 5 (some .long) (1) (23) TX3_mixed0 := by
  refine am_met (own := RX3) (by decide +kernel) rfl kX3_mixed koX3_mixed 100 (fun _ _ _ _ _ => none) (fun live as M Ret h => ?_) (fun _ _ _ _ _ _ _ _ hI => by cases hI)
  unfold TX3_mixed0 at h
  split at h
  · next r x =>
    refine ⟨Nat.le_of_ble_eq_true rfl, ?_⟩
    change am_wp _ _ _ _ [(0, Value.ref r), (1, Value.long x)] _ _
    have hh := am_qm h
    clear h
    obtain ⟨c, h2, h⟩ := hh
    have hh := am_if_mp h
    clear h
    obtain ⟨hb, hs, h⟩ := hh
    obtain ⟨h1, h3, h4, h5⟩ := am_rc_spec hb
    have hp : (if Int32.ofNat (am_len c) < M.1 r 2 * M.1 r 1 then Int32.ofNat (am_len c) else M.1 r 2 * M.1 r 1) ≤ 0 := by
      rw [hs, Int32.zero_mul]
      by_cases z : Int32.ofNat (am_len c) < 0
      · rw [if_pos z, i_le]; rw [i_lt] at z; omega
      · rw [if_neg z]; decide
    repeat' (first | exact rfl | (with_reducible exact h1) | (with_reducible exact h2) | (with_reducible exact h3) | (refine Exists.intro _ (And.intro h2 ?_)) | apply And.intro | (intro hx; exact absurd hp hx) | intro hx | (refine Exists.intro _ (And.intro rfl ?_)) | ((with_reducible change _ = true); simp only [h1, h2, h3, Bool.true_and]; rfl))
    all_goals try first | (with_reducible change am_tI _ _) | (change Ret _ _) | (change Ret _ _ _) | (change Exists _)
    all_goals try dsimp only at *
    all_goals try exact absurd ‹(1000 : Int64) = 0› (by decide)
    all_goals exact h
  · exact h.elim
def TX5_mixed0 : am_T := fun live as M R => match as with
  | [.ref t, .long x] => am_tP live t (fun s c => M.1 t 5 = 0 ∧ R (some (.long (31 * x + 0))) M)
  | _ => False
set_option maxRecDepth 100000 in
set_option maxHeartbeats 4000000 in
theorem metX5_mixed0 : am_Met yX5_mixed cX5_mixed 4 (some .long) (0) (0) TX5_mixed0 := by
  refine am_met (own := RX5) (by decide +kernel) rfl kX5_mixed koX5_mixed 100 (fun _ _ _ _ _ => none) (fun live as M Ret h => ?_) (fun _ _ _ _ _ _ _ _ hI => by cases hI)
  unfold TX5_mixed0 at h
  split at h
  · next t x =>
    refine ⟨Nat.le_of_ble_eq_true rfl, ?_⟩
    change am_wp _ _ _ _ [(0, Value.ref t), (1, Value.long x)] _ _
    have hh := am_tP_mp h
    clear h
    obtain ⟨s, c, h2, h3, hb, h1, g1, g2, l1, l2, n1, n2, n3, hs, h⟩ := hh
    have hp : M.1 t 5 ≤ 0 := by rw [hs]; decide
    have he : (31 * x + (M.1 t 5).toInt64 : Int64) = 31 * x + 0 := by rw [hs]; rfl
    repeat' (first | exact rfl | (with_reducible exact h1) | (with_reducible exact h2) | (with_reducible exact h3) | (with_reducible exact g1) | (with_reducible exact g2) | (refine Exists.intro _ (And.intro h2 ?_)) | apply And.intro | (intro hx; exact absurd hp hx) | intro hx | (refine Exists.intro _ (And.intro rfl ?_)) | ((with_reducible change _ = true); simp only [h1, h2, h3, g1, g2, Bool.true_and]; rfl))
    all_goals try first | (with_reducible change am_tI _ _) | (change Ret _ _) | (change Ret _ _ _) | (change Exists _)
    all_goals try dsimp only at *
    all_goals try exact absurd ‹(1000 : Int64) = 0› (by decide)
    all_goals first | (rw [he]; exact h) | exact h
  · exact h.elim
def TX0_promised0 : am_T := fun live as M R => match as with
  | [.ref n, .int b, .int y] => am_mn live ∧ n = 20 ∧ M.1 54 2 = 0 ∧ R (some (.long 0)) M
  | _ => False
set_option maxRecDepth 100000 in
set_option maxHeartbeats 4000000 in
theorem metX0_promised0 : am_Met yX0_promised cX0_promised 6 (some .long) (1) (23) TX0_promised0 := by
  refine am_met (own := RX0) (by decide +kernel) rfl kX0_promised koX0_promised 100 (fun _ _ _ _ _ => none) (fun live as M Ret h => ?_) (fun _ _ _ _ _ _ _ _ hI => by cases hI)
  unfold TX0_promised0 at h
  split at h
  · next n b y =>
    refine ⟨Nat.le_of_ble_eq_true rfl, ?_⟩
    change am_wp _ _ _ _ [(0, Value.ref n), (1, Value.int b), (2, Value.int y)] _ _
    obtain ⟨⟨i1, i2, rfl⟩, rfl, hs, h⟩ := h
    have hp : M.1 54 2 ≤ 0 := by rw [hs]; decide
    repeat' (first | exact rfl | apply And.intro | (intro hx; exact absurd hp hx) | intro hx | (refine Exists.intro _ (And.intro rfl ?_)))
    all_goals try first | (with_reducible change am_tI _ _) | (change Ret _ _) | (change Ret _ _ _) | (change Exists _)
    all_goals try dsimp only at *
    all_goals try exact absurd ‹(1000 : Int64) = 0› (by decide)
    all_goals exact h
  · exact h.elim
theorem dX7_runEverybody_0 : decode cX7_runEverybody 0 = .ok (.iconst 0, 1) := by decide +kernel
theorem dX7_runEverybody_1 : decode cX7_runEverybody 1 = .ok (.istore_n 3, 1) := by decide +kernel
theorem dX7_runEverybody_2 : decode cX7_runEverybody 2 = .ok (.iload_n 3, 1) := by decide +kernel
theorem dX7_runEverybody_3 : decode cX7_runEverybody 3 = .ok (.aload_n 0, 1) := by decide +kernel
theorem dX7_runEverybody_4 : decode cX7_runEverybody 4 = .ok (.getfield 27, 3) := by decide +kernel
theorem dX7_runEverybody_7 : decode cX7_runEverybody 7 = .ok (.getfield 38, 3) := by decide +kernel
theorem dX7_runEverybody_10 : decode cX7_runEverybody 10 = .ok (.getfield 42, 3) := by decide +kernel
theorem dX7_runEverybody_13 : decode cX7_runEverybody 13 = .ok (.if_icmp .ge 26, 3) := by decide +kernel
theorem dX7_runEverybody_16 : decode cX7_runEverybody 16 = .ok (.aload_n 0, 1) := by decide +kernel
theorem dX7_runEverybody_17 : decode cX7_runEverybody 17 = .ok (.getfield 20, 3) := by decide +kernel
theorem dX7_runEverybody_20 : decode cX7_runEverybody 20 = .ok (.iload_n 3, 1) := by decide +kernel
theorem dX7_runEverybody_21 : decode cX7_runEverybody 21 = .ok (.iload_n 2, 1) := by decide +kernel
theorem dX7_runEverybody_22 : decode cX7_runEverybody 22 = .ok (.invokevirtual 151, 3) := by decide +kernel
theorem dX7_runEverybody_25 : decode cX7_runEverybody 25 = .ok (.aload_n 0, 1) := by decide +kernel
theorem dX7_runEverybody_26 : decode cX7_runEverybody 26 = .ok (.getfield 20, 3) := by decide +kernel
theorem dX7_runEverybody_29 : decode cX7_runEverybody 29 = .ok (.iload_n 1, 1) := by decide +kernel
theorem dX7_runEverybody_30 : decode cX7_runEverybody 30 = .ok (.invokevirtual 155, 3) := by decide +kernel
theorem dX7_runEverybody_33 : decode cX7_runEverybody 33 = .ok (.iinc 3 1, 3) := by decide +kernel
theorem dX7_runEverybody_36 : decode cX7_runEverybody 36 = .ok (.goto (-34), 3) := by decide +kernel
theorem dX7_runEverybody_39 : decode cX7_runEverybody 39 = .ok (.return_, 1) := by decide +kernel
def kX7_runEverybody (live : am_E) (Ret : am_R) : am_code := [(0, am_const (.int 0) 1), (1, am_istore 3 4 2), (2, am_iload 3 3), (3, am_aload 0 4), (4, am_getR live 7 0 7), (7, am_getR live 0 0 10), (10, am_getI live 2 7 13), (13, am_if2 (fun x y => y ≤ x) 39 16), (16, am_aload 0 17), (17, am_getR live 7 2 20), (20, am_iload 3 21), (21, am_iload 2 22), (22, am_callV live 4 2 am_TF 25), (25, am_aload 0 26), (26, am_getR live 7 2 29), (29, am_iload 1 30), (30, am_callV live 4 1 am_TF 33), (33, am_iinc 3 4 1 36), (36, am_goto 2), (39, am_retV Ret)]
theorem koX7_runEverybody (live : am_E) (Ret : am_R) : ∀ q ∈ kX7_runEverybody live Ret, am_ok RX7 cX7_runEverybody 4 none 1 24 live Ret q.1 q.2 :=
  am_kc (ak_iconst dX7_runEverybody_0 (by decide +kernel) rfl) <|
  am_kc (ak_istore_n dX7_runEverybody_1 rfl rfl) <|
  am_kc (ak_iload_n dX7_runEverybody_2 rfl rfl) <|
  am_kc (ak_aload_n dX7_runEverybody_3 rfl rfl) <|
  am_kc (ak_getR (C := RX7) (T := TX7) (N := 4) rfl inX7w (by decide) rfl rfl rfl wd_387 dX7_runEverybody_4 rfl) <|
  am_kc (ak_getR (C := RX0) (T := TX0) (N := 13) rfl inX0w (by decide) rfl rfl rfl wd_194 dX7_runEverybody_7 rfl) <|
  am_kc (ak_getI (C := RX2) (T := TX2) (N := 8) rfl inX2w (by decide) rfl rfl rfl wd_121 dX7_runEverybody_10 rfl) <|
  am_kc (ak_icmp_ge dX7_runEverybody_13 (by decide +kernel) rfl) <|
  am_kc (ak_aload_n dX7_runEverybody_16 rfl rfl) <|
  am_kc (ak_getR (C := RX7) (T := TX7) (N := 4) rfl inX7w (by decide) rfl rfl rfl wd_389 dX7_runEverybody_17 rfl) <|
  am_kc (ak_iload_n dX7_runEverybody_20 rfl rfl) <|
  am_kc (ak_iload_n dX7_runEverybody_21 rfl rfl) <|
  am_kc (ak_callV (C := RX4) (F := TX4) (N := 18) (am_metF _ _ _ _) rfl ⟨rfl, by decide +kernel, by decide +kernel, by decide +kernel⟩ (am_w5 wd_543 wd_544 wd_545 wd_60 wd_546) (by decide) dX7_runEverybody_22 rfl) <|
  am_kc (ak_aload_n dX7_runEverybody_25 rfl rfl) <|
  am_kc (ak_getR (C := RX7) (T := TX7) (N := 4) rfl inX7w (by decide) rfl rfl rfl wd_389 dX7_runEverybody_26 rfl) <|
  am_kc (ak_iload_n dX7_runEverybody_29 rfl rfl) <|
  am_kc (ak_callV (C := RX4) (F := TX4) (N := 18) (am_metF _ _ _ _) rfl ⟨rfl, by decide +kernel, by decide +kernel, by decide +kernel⟩ (am_w5 wd_552 wd_553 wd_554 wd_60 wd_555) (by decide) dX7_runEverybody_30 rfl) <|
  am_kc (ak_iinc dX7_runEverybody_33 (by decide +kernel) rfl) <|
  am_kc (ak_goto dX7_runEverybody_36 (by decide +kernel)) <|
  am_kc (ak_retV dX7_runEverybody_39) <| am_kn
def TX7_runEverybody : am_T := fun live as M R => match as with
  | [.ref n, .int y, .int k] => am_mn live ∧ n = 0 ∧ M.1 21 7 = 0 ∧ R none M
  | _ => False
set_option maxRecDepth 100000 in
set_option maxHeartbeats 4000000 in
theorem metX7_runEverybody : am_Met yX7_runEverybody cX7_runEverybody 4 none (1) (24) TX7_runEverybody := by
  refine am_met (own := RX7) (by decide +kernel) rfl kX7_runEverybody koX7_runEverybody 100 (fun _ _ _ _ _ => none) (fun live as M Ret h => ?_) (fun _ _ _ _ _ _ _ _ hI => by cases hI)
  unfold TX7_runEverybody at h
  split at h
  · next n y k =>
    refine ⟨Nat.le_of_ble_eq_true rfl, ?_⟩
    change am_wp _ _ _ _ [(0, Value.ref n), (1, Value.int y), (2, Value.int k)] _ _
    obtain ⟨⟨i1, i2, rfl⟩, rfl, hs, h⟩ := h
    have hp : M.1 21 7 ≤ 0 := by rw [hs]; decide
    repeat' (first | exact rfl | apply And.intro | (intro hx; exact absurd hp hx) | intro hx | (refine Exists.intro _ (And.intro rfl ?_)))
    all_goals try first | (with_reducible change am_tI _ _) | (change Ret _ _) | (change Ret _ _ _) | (change Exists _)
    all_goals try dsimp only at *
    all_goals try exact absurd ‹(1000 : Int64) = 0› (by decide)
    all_goals exact h
  · exact h.elim
theorem wd_646 : Cond.methodLink "LearnLoans" 284 yX4_together ∈ am_ws := am_wsi (List.mem_of_getElem? (i := 646) (by decide +kernel)) (by decide +kernel)
theorem wd_647 : Cond.instanceMethod yX4_together ∈ am_ws := am_wsi (List.mem_of_getElem? (i := 647) (by decide +kernel)) (by decide +kernel)
theorem wd_648 : Cond.selects "LearnLoans$Run" yX4_together yX4_together ∈ am_ws := am_wsi (List.mem_of_getElem? (i := 648) (by decide +kernel)) (by decide +kernel)
theorem wd_649 : Cond.code yX4_together cX4_together 5 (some .long) ∈ am_ws := am_wsi (List.mem_of_getElem? (i := 649) (by decide +kernel)) (by decide +kernel)
theorem wd_805 : Cond.methodLink "LearnLoans" 290 yX3_dropLast ∈ am_ws := am_wsi (List.mem_of_getElem? (i := 805) (by decide +kernel)) (by decide +kernel)
theorem wd_806 : Cond.instanceMethod yX3_dropLast ∈ am_ws := am_wsi (List.mem_of_getElem? (i := 806) (by decide +kernel)) (by decide +kernel)
theorem wd_807 : Cond.selects "LearnLoans$Rows" yX3_dropLast yX3_dropLast ∈ am_ws := am_wsi (List.mem_of_getElem? (i := 807) (by decide +kernel)) (by decide +kernel)
theorem wd_808 : Cond.code yX3_dropLast cX3_dropLast 1 none ∈ am_ws := am_wsi (List.mem_of_getElem? (i := 808) (by decide +kernel)) (by decide +kernel)
theorem dX7_takenIf_0 : decode cX7_takenIf 0 = .ok (.aload_n 0, 1) := by decide +kernel
theorem dX7_takenIf_1 : decode cX7_takenIf 1 = .ok (.getfield 27, 3) := by decide +kernel
theorem dX7_takenIf_4 : decode cX7_takenIf 4 = .ok (.iload_n 1, 1) := by decide +kernel
theorem dX7_takenIf_5 : decode cX7_takenIf 5 = .ok (.iload_n 2, 1) := by decide +kernel
theorem dX7_takenIf_6 : decode cX7_takenIf 6 = .ok (.iload_n 3, 1) := by decide +kernel
theorem dX7_takenIf_7 : decode cX7_takenIf 7 = .ok (.iload 4, 2) := by decide +kernel
theorem dX7_takenIf_9 : decode cX7_takenIf 9 = .ok (.iconst 0, 1) := by decide +kernel
theorem dX7_takenIf_10 : decode cX7_takenIf 10 = .ok (.bipush 39, 2) := by decide +kernel
theorem dX7_takenIf_12 : decode cX7_takenIf 12 = .ok (.invokevirtual 111, 3) := by decide +kernel
theorem dX7_takenIf_15 : decode cX7_takenIf 15 = .ok (.pop, 1) := by decide +kernel
theorem dX7_takenIf_16 : decode cX7_takenIf 16 = .ok (.lconst 0, 1) := by decide +kernel
theorem dX7_takenIf_17 : decode cX7_takenIf 17 = .ok (.lstore 6, 2) := by decide +kernel
theorem dX7_takenIf_19 : decode cX7_takenIf 19 = .ok (.iconst 0, 1) := by decide +kernel
theorem dX7_takenIf_20 : decode cX7_takenIf 20 = .ok (.istore 8, 2) := by decide +kernel
theorem dX7_takenIf_22 : decode cX7_takenIf 22 = .ok (.iload 8, 2) := by decide +kernel
theorem dX7_takenIf_24 : decode cX7_takenIf 24 = .ok (.aload_n 0, 1) := by decide +kernel
theorem dX7_takenIf_25 : decode cX7_takenIf 25 = .ok (.getfield 27, 3) := by decide +kernel
theorem dX7_takenIf_28 : decode cX7_takenIf 28 = .ok (.getfield 38, 3) := by decide +kernel
theorem dX7_takenIf_31 : decode cX7_takenIf 31 = .ok (.getfield 42, 3) := by decide +kernel
theorem dX7_takenIf_34 : decode cX7_takenIf 34 = .ok (.if_icmp .ge 42, 3) := by decide +kernel
theorem dX7_takenIf_37 : decode cX7_takenIf 37 = .ok (.aload_n 0, 1) := by decide +kernel
theorem dX7_takenIf_38 : decode cX7_takenIf 38 = .ok (.getfield 20, 3) := by decide +kernel
theorem dX7_takenIf_41 : decode cX7_takenIf 41 = .ok (.iload 8, 2) := by decide +kernel
theorem dX7_takenIf_43 : decode cX7_takenIf 43 = .ok (.bipush 39, 2) := by decide +kernel
theorem dX7_takenIf_45 : decode cX7_takenIf 45 = .ok (.invokevirtual 151, 3) := by decide +kernel
theorem dX7_takenIf_48 : decode cX7_takenIf 48 = .ok (.aload_n 0, 1) := by decide +kernel
theorem dX7_takenIf_49 : decode cX7_takenIf 49 = .ok (.getfield 20, 3) := by decide +kernel
theorem dX7_takenIf_52 : decode cX7_takenIf 52 = .ok (.iload 5, 2) := by decide +kernel
theorem dX7_takenIf_54 : decode cX7_takenIf 54 = .ok (.invokevirtual 155, 3) := by decide +kernel
theorem dX7_takenIf_57 : decode cX7_takenIf 57 = .ok (.lload 6, 2) := by decide +kernel
theorem dX7_takenIf_59 : decode cX7_takenIf 59 = .ok (.aload_n 0, 1) := by decide +kernel
theorem dX7_takenIf_60 : decode cX7_takenIf 60 = .ok (.getfield 20, 3) := by decide +kernel
theorem dX7_takenIf_63 : decode cX7_takenIf 63 = .ok (.iconst 1, 1) := by decide +kernel
theorem dX7_takenIf_64 : decode cX7_takenIf 64 = .ok (.invokevirtual 284, 3) := by decide +kernel
theorem dX7_takenIf_67 : decode cX7_takenIf 67 = .ok (.ladd, 1) := by decide +kernel
theorem dX7_takenIf_68 : decode cX7_takenIf 68 = .ok (.lstore 6, 2) := by decide +kernel
theorem dX7_takenIf_70 : decode cX7_takenIf 70 = .ok (.iinc 8 1, 3) := by decide +kernel
theorem dX7_takenIf_73 : decode cX7_takenIf 73 = .ok (.goto (-51), 3) := by decide +kernel
theorem dX7_takenIf_76 : decode cX7_takenIf 76 = .ok (.aload_n 0, 1) := by decide +kernel
theorem dX7_takenIf_77 : decode cX7_takenIf 77 = .ok (.getfield 27, 3) := by decide +kernel
theorem dX7_takenIf_80 : decode cX7_takenIf 80 = .ok (.getfield 104, 3) := by decide +kernel
theorem dX7_takenIf_83 : decode cX7_takenIf 83 = .ok (.invokevirtual 290, 3) := by decide +kernel
theorem dX7_takenIf_86 : decode cX7_takenIf 86 = .ok (.lload 6, 2) := by decide +kernel
theorem dX7_takenIf_88 : decode cX7_takenIf 88 = .ok (.lreturn, 1) := by decide +kernel
def kX7_takenIf (live : am_E) (Ret : am_R) : am_code := [(0, am_aload 0 1), (1, am_getR live 7 0 4), (4, am_iload 1 5), (5, am_iload 2 6), (6, am_iload 3 7), (7, am_iload 4 9), (9, am_const (.int 0) 10), (10, am_const (.int 39) 12), (12, am_callV live 0 6 TX0_addAct 15), (15, am_pop 16), (16, am_const (.long 0) 17), (17, am_lstore 6 9 19), (19, am_const (.int 0) 20), (20, am_istore 8 9 22), (22, am_iload 8 24), (24, am_aload 0 25), (25, am_getR live 7 0 28), (28, am_getR live 0 0 31), (31, am_getI live 2 7 34), (34, am_if2 (fun x y => y ≤ x) 76 37), (37, am_aload 0 38), (38, am_getR live 7 2 41), (41, am_iload 8 43), (43, am_const (.int 39) 45), (45, am_callV live 4 2 am_TF 48), (48, am_aload 0 49), (49, am_getR live 7 2 52), (52, am_iload 5 54), (54, am_callV live 4 1 am_TF 57), (57, am_lload 6 59), (59, am_aload 0 60), (60, am_getR live 7 2 63), (63, am_const (.int 1) 64), (64, am_callV live 4 1 am_TF 67), (67, am_l2 (fun x y => x + y) 68), (68, am_lstore 6 9 70), (70, am_iinc 8 9 1 73), (73, am_goto 22), (76, am_aload 0 77), (77, am_getR live 7 0 80), (80, am_getR live 0 3 83), (83, am_callV live 3 0 TX3_dropLast 86), (86, am_lload 6 88), (88, am_retL Ret)]
theorem koX7_takenIf (live : am_E) (Ret : am_R) : ∀ q ∈ kX7_takenIf live Ret, am_ok RX7 cX7_takenIf 9 (some .long) 3 74 live Ret q.1 q.2 :=
  am_kc (ak_aload_n dX7_takenIf_0 rfl rfl) <|
  am_kc (ak_getR (C := RX7) (T := TX7) (N := 4) rfl inX7w (by decide) rfl rfl rfl wd_387 dX7_takenIf_1 rfl) <|
  am_kc (ak_iload_n dX7_takenIf_4 rfl rfl) <|
  am_kc (ak_iload_n dX7_takenIf_5 rfl rfl) <|
  am_kc (ak_iload_n dX7_takenIf_6 rfl rfl) <|
  am_kc (ak_iload dX7_takenIf_7 rfl) <|
  am_kc (ak_iconst dX7_takenIf_9 (by decide +kernel) rfl) <|
  am_kc (ak_bipush dX7_takenIf_10 (by decide +kernel) rfl) <|
  am_kc (ak_callV (C := RX0) (F := TX0) (N := 13) metX0_addAct rfl ⟨rfl, by decide +kernel, by decide +kernel, by decide +kernel⟩ (am_w5 wd_473 wd_474 wd_475 wd_61 wd_476) (by decide) dX7_takenIf_12 rfl) <|
  am_kc (ak_pop dX7_takenIf_15 rfl) <|
  am_kc (ak_lconst dX7_takenIf_16 (by decide +kernel) rfl) <|
  am_kc (ak_lstore dX7_takenIf_17 rfl) <|
  am_kc (ak_iconst dX7_takenIf_19 (by decide +kernel) rfl) <|
  am_kc (ak_istore dX7_takenIf_20 rfl) <|
  am_kc (ak_iload dX7_takenIf_22 rfl) <|
  am_kc (ak_aload_n dX7_takenIf_24 rfl rfl) <|
  am_kc (ak_getR (C := RX7) (T := TX7) (N := 4) rfl inX7w (by decide) rfl rfl rfl wd_387 dX7_takenIf_25 rfl) <|
  am_kc (ak_getR (C := RX0) (T := TX0) (N := 13) rfl inX0w (by decide) rfl rfl rfl wd_194 dX7_takenIf_28 rfl) <|
  am_kc (ak_getI (C := RX2) (T := TX2) (N := 8) rfl inX2w (by decide) rfl rfl rfl wd_121 dX7_takenIf_31 rfl) <|
  am_kc (ak_icmp_ge dX7_takenIf_34 (by decide +kernel) rfl) <|
  am_kc (ak_aload_n dX7_takenIf_37 rfl rfl) <|
  am_kc (ak_getR (C := RX7) (T := TX7) (N := 4) rfl inX7w (by decide) rfl rfl rfl wd_389 dX7_takenIf_38 rfl) <|
  am_kc (ak_iload dX7_takenIf_41 rfl) <|
  am_kc (ak_bipush dX7_takenIf_43 (by decide +kernel) rfl) <|
  am_kc (ak_callV (C := RX4) (F := TX4) (N := 18) (am_metF _ _ _ _) rfl ⟨rfl, by decide +kernel, by decide +kernel, by decide +kernel⟩ (am_w5 wd_543 wd_544 wd_545 wd_60 wd_546) (by decide) dX7_takenIf_45 rfl) <|
  am_kc (ak_aload_n dX7_takenIf_48 rfl rfl) <|
  am_kc (ak_getR (C := RX7) (T := TX7) (N := 4) rfl inX7w (by decide) rfl rfl rfl wd_389 dX7_takenIf_49 rfl) <|
  am_kc (ak_iload dX7_takenIf_52 rfl) <|
  am_kc (ak_callV (C := RX4) (F := TX4) (N := 18) (am_metF _ _ _ _) rfl ⟨rfl, by decide +kernel, by decide +kernel, by decide +kernel⟩ (am_w5 wd_552 wd_553 wd_554 wd_60 wd_555) (by decide) dX7_takenIf_54 rfl) <|
  am_kc (ak_lload dX7_takenIf_57 rfl) <|
  am_kc (ak_aload_n dX7_takenIf_59 rfl rfl) <|
  am_kc (ak_getR (C := RX7) (T := TX7) (N := 4) rfl inX7w (by decide) rfl rfl rfl wd_389 dX7_takenIf_60 rfl) <|
  am_kc (ak_iconst dX7_takenIf_63 (by decide +kernel) rfl) <|
  am_kc (ak_callV (C := RX4) (F := TX4) (N := 18) (am_metF _ _ _ _) rfl ⟨rfl, by decide +kernel, by decide +kernel, by decide +kernel⟩ (am_w5 wd_646 wd_647 wd_648 wd_60 wd_649) (by decide) dX7_takenIf_64 rfl) <|
  am_kc (ak_ladd dX7_takenIf_67 rfl) <|
  am_kc (ak_lstore dX7_takenIf_68 rfl) <|
  am_kc (ak_iinc dX7_takenIf_70 (by decide +kernel) rfl) <|
  am_kc (ak_goto dX7_takenIf_73 (by decide +kernel)) <|
  am_kc (ak_aload_n dX7_takenIf_76 rfl rfl) <|
  am_kc (ak_getR (C := RX7) (T := TX7) (N := 4) rfl inX7w (by decide) rfl rfl rfl wd_387 dX7_takenIf_77 rfl) <|
  am_kc (ak_getR (C := RX0) (T := TX0) (N := 13) rfl inX0w (by decide) rfl rfl rfl wd_204 dX7_takenIf_80 rfl) <|
  am_kc (ak_callV (C := RX3) (F := TX3) (N := 3) metX3_dropLast rfl ⟨rfl, by decide +kernel, by decide +kernel, by decide +kernel⟩ (am_w5 wd_805 wd_806 wd_807 wd_64 wd_808) (by decide) dX7_takenIf_83 rfl) <|
  am_kc (ak_lload dX7_takenIf_86 rfl) <|
  am_kc (ak_retL dX7_takenIf_88) <| am_kn
def TX7_takenIf : am_T := fun live as M R => match as with
  | [.ref n, .int p, .int w, .int v, .int f, .int y] => am_mn live ∧ n = 0 ∧ M.1 21 7 = 0 ∧ ∀ M', am_ch am_lo M M' → R (some (.long 0)) M'
  | _ => False
set_option maxRecDepth 100000 in
set_option maxHeartbeats 4000000 in
theorem metX7_takenIf : am_Met yX7_takenIf cX7_takenIf 9 (some .long) (3) (74) TX7_takenIf := by
  refine am_met (own := RX7) (by decide +kernel) rfl kX7_takenIf koX7_takenIf 100 (fun _ _ _ _ _ => none) (fun live as M Ret h => ?_) (fun _ _ _ _ _ _ _ _ hI => by cases hI)
  unfold TX7_takenIf at h
  split at h
  · next n p w v f y =>
    refine ⟨Nat.le_of_ble_eq_true rfl, ?_⟩
    change am_wp _ _ _ _ [(0, Value.ref n), (1, Value.int p), (2, Value.int w), (3, Value.int v), (4, Value.int f), (5, Value.int y)] _ _
    obtain ⟨⟨i1, i2, rfl⟩, rfl, hs, h⟩ := h
    have hp : (am_addAct M p w v f 0 39).1 21 7 ≤ 0 := by rw [am_addAct_21, hs]; decide
    repeat' (first | exact rfl | apply And.intro | (intro hx; exact absurd hp hx) | intro hx | (refine Exists.intro _ (And.intro rfl ?_)))
    all_goals try first | (with_reducible change am_tI _ _) | (change Ret _ _) | (change Ret _ _ _) | (change Exists _)
    all_goals try dsimp only at *
    all_goals try exact absurd ‹(1000 : Int64) = 0› (by decide)
    all_goals first
      | exact ⟨i1, i2, rfl⟩
      | exact h _ (((am_ch.rf).addAct (fun _ => by show (_ : Nat) < 200; decide) (fun _ => by show (_ : Nat) < 200; decide)).wIc (by show (_ : Nat) < 200; decide))
  · exact h.elim
theorem dX7_tried_0 : decode cX7_tried 0 = .ok (.iload_n 1, 1) := by decide +kernel
theorem dX7_tried_1 : decode cX7_tried 1 = .ok (.invokestatic 98, 3) := by decide +kernel
theorem dX7_tried_4 : decode cX7_tried 4 = .ok (.ifCond .eq 27, 3) := by decide +kernel
theorem dX7_tried_7 : decode cX7_tried 7 = .ok (.iload_n 2, 1) := by decide +kernel
theorem dX7_tried_8 : decode cX7_tried 8 = .ok (.iload_n 3, 1) := by decide +kernel
theorem dX7_tried_9 : decode cX7_tried 9 = .ok (.invokestatic 101, 3) := by decide +kernel
theorem dX7_tried_12 : decode cX7_tried 12 = .ok (.ifCond .eq 19, 3) := by decide +kernel
theorem dX7_tried_15 : decode cX7_tried 15 = .ok (.iload 4, 2) := by decide +kernel
theorem dX7_tried_17 : decode cX7_tried 17 = .ok (.invokestatic 34, 3) := by decide +kernel
theorem dX7_tried_20 : decode cX7_tried 20 = .ok (.ifCond .eq 11, 3) := by decide +kernel
theorem dX7_tried_23 : decode cX7_tried 23 = .ok (.iload 5, 2) := by decide +kernel
theorem dX7_tried_25 : decode cX7_tried 25 = .ok (.invokestatic 34, 3) := by decide +kernel
theorem dX7_tried_28 : decode cX7_tried 28 = .ok (.ifCond .ne 7, 3) := by decide +kernel
theorem dX7_tried_31 : decode cX7_tried 31 = .ok (.ldc2_w 149, 3) := by decide +kernel
theorem dX7_tried_34 : decode cX7_tried 34 = .ok (.lreturn, 1) := by decide +kernel
theorem dX7_tried_35 : decode cX7_tried 35 = .ok (.aload_n 0, 1) := by decide +kernel
theorem dX7_tried_36 : decode cX7_tried 36 = .ok (.iload_n 1, 1) := by decide +kernel
theorem dX7_tried_37 : decode cX7_tried 37 = .ok (.iload_n 2, 1) := by decide +kernel
theorem dX7_tried_38 : decode cX7_tried 38 = .ok (.iload_n 3, 1) := by decide +kernel
theorem dX7_tried_39 : decode cX7_tried 39 = .ok (.iload 4, 2) := by decide +kernel
theorem dX7_tried_41 : decode cX7_tried 41 = .ok (.iload 5, 2) := by decide +kernel
theorem dX7_tried_43 : decode cX7_tried 43 = .ok (.invokevirtual 239, 3) := by decide +kernel
theorem dX7_tried_46 : decode cX7_tried 46 = .ok (.lreturn, 1) := by decide +kernel
def kX7_tried (live : am_E) (Ret : am_R) : am_code := [(0, am_iload 1 1), (1, am_callS live 1 TX7_isPlan 4), (4, am_if1 (fun x => x = 0) 31 7), (7, am_iload 2 8), (8, am_iload 3 9), (9, am_callS live 2 TX7_isNumber 12), (12, am_if1 (fun x => x = 0) 31 15), (15, am_iload 4 17), (17, am_callS live 1 TX7_isYear 20), (20, am_if1 (fun x => x = 0) 31 23), (23, am_iload 5 25), (25, am_callS live 1 TX7_isYear 28), (28, am_if1 (fun x => x = 0) 31 35), (31, am_const (.long (-2)) 34), (34, am_retL Ret), (35, am_aload 0 36), (36, am_iload 1 37), (37, am_iload 2 38), (38, am_iload 3 39), (39, am_iload 4 41), (41, am_iload 5 43), (43, am_callV live 7 5 TX7_takenIf 46), (46, am_retL Ret)]
theorem koX7_tried (live : am_E) (Ret : am_R) : ∀ q ∈ kX7_tried live Ret, am_ok RX7 cX7_tried 6 (some .long) 4 102 live Ret q.1 q.2 :=
  am_kc (ak_iload_n dX7_tried_0 rfl rfl) <|
  am_kc (ak_callS metX7_isPlan ⟨rfl, by decide +kernel, by decide +kernel, by decide +kernel⟩ (am_w4 wd_463 wd_464 wd_58 wd_465) (by decide) dX7_tried_1 rfl) <|
  am_kc (ak_if_eq dX7_tried_4 (by decide +kernel) rfl) <|
  am_kc (ak_iload_n dX7_tried_7 rfl rfl) <|
  am_kc (ak_iload_n dX7_tried_8 rfl rfl) <|
  am_kc (ak_callS metX7_isNumber ⟨rfl, by decide +kernel, by decide +kernel, by decide +kernel⟩ (am_w4 wd_466 wd_467 wd_58 wd_468) (by decide) dX7_tried_9 rfl) <|
  am_kc (ak_if_eq dX7_tried_12 (by decide +kernel) rfl) <|
  am_kc (ak_iload dX7_tried_15 rfl) <|
  am_kc (ak_callS metX7_isYear ⟨rfl, by decide +kernel, by decide +kernel, by decide +kernel⟩ (am_w4 wd_404 wd_405 wd_58 wd_406) (by decide) dX7_tried_17 rfl) <|
  am_kc (ak_if_eq dX7_tried_20 (by decide +kernel) rfl) <|
  am_kc (ak_iload dX7_tried_23 rfl) <|
  am_kc (ak_callS metX7_isYear ⟨rfl, by decide +kernel, by decide +kernel, by decide +kernel⟩ (am_w4 wd_404 wd_405 wd_58 wd_406) (by decide) dX7_tried_25 rfl) <|
  am_kc (ak_if_ne dX7_tried_28 (by decide +kernel) rfl) <|
  am_kc (ak_ldc2 wd_542 dX7_tried_31 rfl) <|
  am_kc (ak_retL dX7_tried_34) <|
  am_kc (ak_aload_n dX7_tried_35 rfl rfl) <|
  am_kc (ak_iload_n dX7_tried_36 rfl rfl) <|
  am_kc (ak_iload_n dX7_tried_37 rfl rfl) <|
  am_kc (ak_iload_n dX7_tried_38 rfl rfl) <|
  am_kc (ak_iload dX7_tried_39 rfl) <|
  am_kc (ak_iload dX7_tried_41 rfl) <|
  am_kc (ak_callV (C := RX7) (F := TX7) (N := 4) metX7_takenIf rfl ⟨rfl, by decide +kernel, by decide +kernel, by decide +kernel⟩ (am_w5 wd_801 wd_803 wd_26 wd_58 wd_804) (by decide) dX7_tried_43 rfl) <|
  am_kc (ak_retL dX7_tried_46) <| am_kn
def TX7_tried : am_T := fun live as M R => match as with
  | [.ref n, .int p, .int w, .int v, .int f, .int y] => am_mn live ∧ n = 0 ∧ am_F7 M ∧ ∀ M', am_ch am_lo M M' → R (some (.long (a_tried p w v f y))) M'
  | _ => False
set_option maxRecDepth 100000 in
set_option maxHeartbeats 4000000 in
theorem metX7_tried : am_Met yX7_tried cX7_tried 6 (some .long) (4) (102) TX7_tried := by
  refine am_met (own := RX7) (by decide +kernel) rfl kX7_tried koX7_tried 300 (fun _ _ _ _ _ => none) (fun live as M Ret h => ?_) (fun _ _ _ _ _ _ _ _ hI => by cases hI)
  unfold TX7_tried at h
  split at h
  · next n p w v f y =>
    refine ⟨Nat.le_of_ble_eq_true rfl, ?_⟩
    change am_wp _ _ _ _ [(0, Value.ref n), (1, Value.int p), (2, Value.int w), (3, Value.int v), (4, Value.int f), (5, Value.int y)] _ _
    obtain ⟨⟨i1, i2, rfl⟩, rfl, hF, h⟩ := h
    obtain ⟨s1, s2, s3, s4, s5, s6, s7, s8, s9, w1, w2, w3, w4⟩ := hF
    by_cases hc : (0 ≤ p ∧ p < 5) ∧ am_isN w v ∧ (0 ≤ f ∧ f < 40) ∧ (0 ≤ y ∧ y < 40)
    ·
      have hn0 : ¬ (if (0 ≤ p ∧ p < 5) then (1 : Int32) else 0) = 0 := by rw [if_pos hc.1]; decide
      have hn1 : am_isNum w v := hc.2.1
      have hn2 : ¬ (if (0 ≤ f ∧ f < 40) then (1 : Int32) else 0) = 0 := by rw [if_pos hc.2.2.1]; decide
      have hn3 : ¬ (if (0 ≤ y ∧ y < 40) then (1 : Int32) else 0) = 0 := by rw [if_pos hc.2.2.2]; decide
      have e : a_tried p w v f y = _ := if_pos hc
      rw [e] at h
      repeat' (first | exact rfl | apply And.intro | (intro hx; exact absurd hx hn0) | (intro hx; exact absurd hx hn2) | (intro hx; exact absurd hx hn3) | (intro hx; exact absurd hn1 hx) | (intro hx; exact absurd hx (by decide)) | (intro hx; exact absurd (by decide) hx) | decide | intro hx | (refine Exists.intro _ (And.intro rfl ?_)))
      all_goals try first | (with_reducible change am_tI _ _) | (change Ret _ _) | (change Ret _ _ _) | (change Exists _)
      all_goals try dsimp only at *
      all_goals try exact absurd ‹(1000 : Int64) = 0› (by decide)
      all_goals first
        | exact h _ ‹am_ch _ _ _›
        | exact am_rJ (h _ ‹am_ch _ _ _›) (by first | rfl | (simp only [s1, s2, s3, s4, s5, s6]; done) | exact s1.symm | exact s3.symm | exact s5.symm | exact s6.symm)
        | exact ⟨i1, i2, rfl⟩
        | exact s1
        | (clear h; decide)
        | (clear h; omega)
    ·
      have e : a_tried p w v f y = _ := if_neg hc
      rw [e] at h
      repeat' (first | exact rfl | apply And.intro | (intro hx; exact absurd hx (by decide)) | (intro hx; exact absurd (by decide) hx) | decide | intro hx | (refine Exists.intro _ (And.intro rfl ?_)))
      all_goals try first | (with_reducible change am_tI _ _) | (change Ret _ _) | (change Ret _ _ _) | (change Exists _)
      all_goals try dsimp only at *
      all_goals try exact absurd ‹(1000 : Int64) = 0› (by decide)
      all_goals first
        | exact h _ am_ch.rf
        | exact ⟨i1, i2, rfl⟩
        | exact s1
        | (exfalso; clear h e; refine hc ?_; simp only [am_b0, Classical.not_not, am_isNum, am_isN] at *; simp only [*, and_self, true_and]; done)
  · exact h.elim
theorem wd_740 : Cond.methodLink "LearnLoans" 193 yX7_runEverybody ∈ am_ws := am_wsi (List.mem_of_getElem? (i := 740) (by decide +kernel)) (by decide +kernel)
theorem wd_742 : Cond.instanceMethod yX7_runEverybody ∈ am_ws := am_wsi (List.mem_of_getElem? (i := 742) (by decide +kernel)) (by decide +kernel)
theorem wd_23 : Cond.selects "LearnLoans" yX7_runEverybody yX7_runEverybody ∈ am_ws := am_wsi (List.mem_of_getElem? (i := 23) (by decide +kernel)) (by decide +kernel)
theorem wd_743 : Cond.code yX7_runEverybody cX7_runEverybody 4 none ∈ am_ws := am_wsi (List.mem_of_getElem? (i := 743) (by decide +kernel)) (by decide +kernel)
theorem wd_744 : Cond.methodLink "LearnLoans" 196 yX0_promised ∈ am_ws := am_wsi (List.mem_of_getElem? (i := 744) (by decide +kernel)) (by decide +kernel)
theorem wd_745 : Cond.instanceMethod yX0_promised ∈ am_ws := am_wsi (List.mem_of_getElem? (i := 745) (by decide +kernel)) (by decide +kernel)
theorem wd_746 : Cond.selects "LearnLoans$House" yX0_promised yX0_promised ∈ am_ws := am_wsi (List.mem_of_getElem? (i := 746) (by decide +kernel)) (by decide +kernel)
theorem wd_747 : Cond.code yX0_promised cX0_promised 6 (some .long) ∈ am_ws := am_wsi (List.mem_of_getElem? (i := 747) (by decide +kernel)) (by decide +kernel)
theorem wd_748 : Cond.methodLink "LearnLoans" 200 Lib.MathLoose.max_long.x ∈ am_ws := am_wsi (List.mem_of_getElem? (i := 748) (by decide +kernel)) (by decide +kernel)
theorem wd_608 : Cond.static Lib.MathLoose.max_long.x ∈ am_ws := am_wsi (List.mem_of_getElem? (i := 608) (by decide +kernel)) (by decide +kernel)
theorem wd_609 : Cond.code Lib.MathLoose.max_long.x Lib.MathLoose.max_long.code 4 (some .long) ∈ am_ws := am_wsi (List.mem_of_getElem? (i := 609) (by decide +kernel)) (by decide +kernel)
theorem dX7_book_0 : decode cX7_book 0 = .ok (.iload_n 1, 1) := by decide +kernel
theorem dX7_book_1 : decode cX7_book 1 = .ok (.iconst 0, 1) := by decide +kernel
theorem dX7_book_2 : decode cX7_book 2 = .ok (.iconst 3, 1) := by decide +kernel
theorem dX7_book_3 : decode cX7_book 3 = .ok (.invokestatic 55, 3) := by decide +kernel
theorem dX7_book_6 : decode cX7_book 6 = .ok (.ifCond .eq 27, 3) := by decide +kernel
theorem dX7_book_9 : decode cX7_book 9 = .ok (.iload_n 2, 1) := by decide +kernel
theorem dX7_book_10 : decode cX7_book 10 = .ok (.invokestatic 34, 3) := by decide +kernel
theorem dX7_book_13 : decode cX7_book 13 = .ok (.ifCond .eq 20, 3) := by decide +kernel
theorem dX7_book_16 : decode cX7_book 16 = .ok (.iload_n 3, 1) := by decide +kernel
theorem dX7_book_17 : decode cX7_book 17 = .ok (.invokestatic 34, 3) := by decide +kernel
theorem dX7_book_20 : decode cX7_book 20 = .ok (.ifCond .eq 13, 3) := by decide +kernel
theorem dX7_book_23 : decode cX7_book 23 = .ok (.iload 4, 2) := by decide +kernel
theorem dX7_book_25 : decode cX7_book 25 = .ok (.iconst 0, 1) := by decide +kernel
theorem dX7_book_26 : decode cX7_book 26 = .ok (.iconst 1, 1) := by decide +kernel
theorem dX7_book_27 : decode cX7_book 27 = .ok (.invokestatic 55, 3) := by decide +kernel
theorem dX7_book_30 : decode cX7_book 30 = .ok (.ifCond .ne 7, 3) := by decide +kernel
theorem dX7_book_33 : decode cX7_book 33 = .ok (.ldc2_w 149, 3) := by decide +kernel
theorem dX7_book_36 : decode cX7_book 36 = .ok (.lreturn, 1) := by decide +kernel
theorem dX7_book_37 : decode cX7_book 37 = .ok (.aload_n 0, 1) := by decide +kernel
theorem dX7_book_38 : decode cX7_book 38 = .ok (.iload_n 2, 1) := by decide +kernel
theorem dX7_book_39 : decode cX7_book 39 = .ok (.iload_n 3, 1) := by decide +kernel
theorem dX7_book_40 : decode cX7_book 40 = .ok (.invokevirtual 193, 3) := by decide +kernel
theorem dX7_book_43 : decode cX7_book 43 = .ok (.lconst 0, 1) := by decide +kernel
theorem dX7_book_44 : decode cX7_book 44 = .ok (.lstore 5, 2) := by decide +kernel
theorem dX7_book_46 : decode cX7_book 46 = .ok (.iconst 0, 1) := by decide +kernel
theorem dX7_book_47 : decode cX7_book 47 = .ok (.istore 7, 2) := by decide +kernel
theorem dX7_book_49 : decode cX7_book 49 = .ok (.iload 7, 2) := by decide +kernel
theorem dX7_book_51 : decode cX7_book 51 = .ok (.aload_n 0, 1) := by decide +kernel
theorem dX7_book_52 : decode cX7_book 52 = .ok (.getfield 27, 3) := by decide +kernel
theorem dX7_book_55 : decode cX7_book 55 = .ok (.getfield 122, 3) := by decide +kernel
theorem dX7_book_58 : decode cX7_book 58 = .ok (.getfield 108, 3) := by decide +kernel
theorem dX7_book_61 : decode cX7_book 61 = .ok (.if_icmp .ge 46, 3) := by decide +kernel
theorem dX7_book_64 : decode cX7_book 64 = .ok (.aload_n 0, 1) := by decide +kernel
theorem dX7_book_65 : decode cX7_book 65 = .ok (.getfield 27, 3) := by decide +kernel
theorem dX7_book_68 : decode cX7_book 68 = .ok (.getfield 122, 3) := by decide +kernel
theorem dX7_book_71 : decode cX7_book 71 = .ok (.iload 7, 2) := by decide +kernel
theorem dX7_book_73 : decode cX7_book 73 = .ok (.bipush 6, 2) := by decide +kernel
theorem dX7_book_75 : decode cX7_book 75 = .ok (.invokevirtual 138, 3) := by decide +kernel
theorem dX7_book_78 : decode cX7_book 78 = .ok (.iload_n 1, 1) := by decide +kernel
theorem dX7_book_79 : decode cX7_book 79 = .ok (.if_icmp .ne 22, 3) := by decide +kernel
theorem dX7_book_82 : decode cX7_book 82 = .ok (.lload 5, 2) := by decide +kernel
theorem dX7_book_84 : decode cX7_book 84 = .ok (.aload_n 0, 1) := by decide +kernel
theorem dX7_book_85 : decode cX7_book 85 = .ok (.getfield 20, 3) := by decide +kernel
theorem dX7_book_88 : decode cX7_book 88 = .ok (.getfield 158, 3) := by decide +kernel
theorem dX7_book_91 : decode cX7_book 91 = .ok (.sipush 150, 3) := by decide +kernel
theorem dX7_book_94 : decode cX7_book 94 = .ok (.iload 7, 2) := by decide +kernel
theorem dX7_book_96 : decode cX7_book 96 = .ok (.iadd, 1) := by decide +kernel
theorem dX7_book_97 : decode cX7_book 97 = .ok (.laload, 1) := by decide +kernel
theorem dX7_book_98 : decode cX7_book 98 = .ok (.ladd, 1) := by decide +kernel
theorem dX7_book_99 : decode cX7_book 99 = .ok (.lstore 5, 2) := by decide +kernel
theorem dX7_book_101 : decode cX7_book 101 = .ok (.iinc 7 1, 3) := by decide +kernel
theorem dX7_book_104 : decode cX7_book 104 = .ok (.goto (-55), 3) := by decide +kernel
theorem dX7_book_107 : decode cX7_book 107 = .ok (.iload 4, 2) := by decide +kernel
theorem dX7_book_109 : decode cX7_book 109 = .ok (.ifCond .ne 8, 3) := by decide +kernel
theorem dX7_book_112 : decode cX7_book 112 = .ok (.lload 5, 2) := by decide +kernel
theorem dX7_book_114 : decode cX7_book 114 = .ok (.goto 19, 3) := by decide +kernel
theorem dX7_book_117 : decode cX7_book 117 = .ok (.lconst 0, 1) := by decide +kernel
theorem dX7_book_118 : decode cX7_book 118 = .ok (.aload_n 0, 1) := by decide +kernel
theorem dX7_book_119 : decode cX7_book 119 = .ok (.getfield 27, 3) := by decide +kernel
theorem dX7_book_122 : decode cX7_book 122 = .ok (.iload_n 1, 1) := by decide +kernel
theorem dX7_book_123 : decode cX7_book 123 = .ok (.iload_n 2, 1) := by decide +kernel
theorem dX7_book_124 : decode cX7_book 124 = .ok (.invokevirtual 196, 3) := by decide +kernel
theorem dX7_book_127 : decode cX7_book 127 = .ok (.lload 5, 2) := by decide +kernel
theorem dX7_book_129 : decode cX7_book 129 = .ok (.lsub, 1) := by decide +kernel
theorem dX7_book_130 : decode cX7_book 130 = .ok (.invokestatic 200, 3) := by decide +kernel
theorem dX7_book_133 : decode cX7_book 133 = .ok (.lreturn, 1) := by decide +kernel
def kX7_book (live : am_E) (Ret : am_R) : am_code := [(0, am_iload 1 1), (1, am_const (.int 0) 2), (2, am_const (.int 3) 3), (3, am_callS live 3 TX7_within 6), (6, am_if1 (fun x => x = 0) 33 9), (9, am_iload 2 10), (10, am_callS live 1 TX7_isYear 13), (13, am_if1 (fun x => x = 0) 33 16), (16, am_iload 3 17), (17, am_callS live 1 TX7_isYear 20), (20, am_if1 (fun x => x = 0) 33 23), (23, am_iload 4 25), (25, am_const (.int 0) 26), (26, am_const (.int 1) 27), (27, am_callS live 3 TX7_within 30), (30, am_if1 (fun x => x = 0) 33 37), (33, am_const (.long (-2)) 36), (36, am_retL Ret), (37, am_aload 0 38), (38, am_iload 2 39), (39, am_iload 3 40), (40, am_callV live 7 2 TX7_runEverybody 43), (43, am_const (.long 0) 44), (44, am_lstore 5 8 46), (46, am_const (.int 0) 47), (47, am_istore 7 8 49), (49, am_iload 7 51), (51, am_aload 0 52), (52, am_getR live 7 0 55), (55, am_getR live 0 4 58), (58, am_getI live 3 2 61), (61, am_if2 (fun x y => y ≤ x) 107 64), (64, am_aload 0 65), (65, am_getR live 7 0 68), (68, am_getR live 0 4 71), (71, am_iload 7 73), (73, am_const (.int 6) 75), (75, am_callV live 3 2 TX3_at 78), (78, am_iload 1 79), (79, am_if2 (fun x y => x = y) 82 101), (82, am_lload 5 84), (84, am_aload 0 85), (85, am_getR live 7 2 88), (88, am_getR live 4 2 91), (91, am_const (.int 150) 94), (94, am_iload 7 96), (96, am_i2 (fun x y => x + y) 97), (97, am_lald live 1 98), (98, am_l2 (fun x y => x + y) 99), (99, am_lstore 5 8 101), (101, am_iinc 7 8 1 104), (104, am_goto 49), (107, am_iload 4 109), (109, am_if1 (fun x => x = 0) 112 117), (112, am_lload 5 114), (114, am_goto 133), (117, am_const (.long 0) 118), (118, am_aload 0 119), (119, am_getR live 7 0 122), (122, am_iload 1 123), (123, am_iload 2 124), (124, am_callV live 0 2 TX0_promised0 127), (127, am_lload 5 129), (129, am_l2 (fun x y => x - y) 130), (130, am_mathl (fun x y => if y < x then x else y) 47 133), (133, am_retL Ret)]
theorem koX7_book (live : am_E) (Ret : am_R) : ∀ q ∈ kX7_book live Ret, am_ok RX7 cX7_book 8 (some .long) 2 47 live Ret q.1 q.2 :=
  am_kc (ak_iload_n dX7_book_0 rfl rfl) <|
  am_kc (ak_iconst dX7_book_1 (by decide +kernel) rfl) <|
  am_kc (ak_iconst dX7_book_2 (by decide +kernel) rfl) <|
  am_kc (ak_callS metX7_within ⟨rfl, by decide +kernel, by decide +kernel, by decide +kernel⟩ (am_w4 wd_415 wd_416 wd_58 wd_417) (by decide) dX7_book_3 rfl) <|
  am_kc (ak_if_eq dX7_book_6 (by decide +kernel) rfl) <|
  am_kc (ak_iload_n dX7_book_9 rfl rfl) <|
  am_kc (ak_callS metX7_isYear ⟨rfl, by decide +kernel, by decide +kernel, by decide +kernel⟩ (am_w4 wd_404 wd_405 wd_58 wd_406) (by decide) dX7_book_10 rfl) <|
  am_kc (ak_if_eq dX7_book_13 (by decide +kernel) rfl) <|
  am_kc (ak_iload_n dX7_book_16 rfl rfl) <|
  am_kc (ak_callS metX7_isYear ⟨rfl, by decide +kernel, by decide +kernel, by decide +kernel⟩ (am_w4 wd_404 wd_405 wd_58 wd_406) (by decide) dX7_book_17 rfl) <|
  am_kc (ak_if_eq dX7_book_20 (by decide +kernel) rfl) <|
  am_kc (ak_iload dX7_book_23 rfl) <|
  am_kc (ak_iconst dX7_book_25 (by decide +kernel) rfl) <|
  am_kc (ak_iconst dX7_book_26 (by decide +kernel) rfl) <|
  am_kc (ak_callS metX7_within ⟨rfl, by decide +kernel, by decide +kernel, by decide +kernel⟩ (am_w4 wd_415 wd_416 wd_58 wd_417) (by decide) dX7_book_27 rfl) <|
  am_kc (ak_if_ne dX7_book_30 (by decide +kernel) rfl) <|
  am_kc (ak_ldc2 wd_542 dX7_book_33 rfl) <|
  am_kc (ak_retL dX7_book_36) <|
  am_kc (ak_aload_n dX7_book_37 rfl rfl) <|
  am_kc (ak_iload_n dX7_book_38 rfl rfl) <|
  am_kc (ak_iload_n dX7_book_39 rfl rfl) <|
  am_kc (ak_callV (C := RX7) (F := TX7) (N := 4) metX7_runEverybody rfl ⟨rfl, by decide +kernel, by decide +kernel, by decide +kernel⟩ (am_w5 wd_740 wd_742 wd_23 wd_58 wd_743) (by decide) dX7_book_40 rfl) <|
  am_kc (ak_lconst dX7_book_43 (by decide +kernel) rfl) <|
  am_kc (ak_lstore dX7_book_44 rfl) <|
  am_kc (ak_iconst dX7_book_46 (by decide +kernel) rfl) <|
  am_kc (ak_istore dX7_book_47 rfl) <|
  am_kc (ak_iload dX7_book_49 rfl) <|
  am_kc (ak_aload_n dX7_book_51 rfl rfl) <|
  am_kc (ak_getR (C := RX7) (T := TX7) (N := 4) rfl inX7w (by decide) rfl rfl rfl wd_387 dX7_book_52 rfl) <|
  am_kc (ak_getR (C := RX0) (T := TX0) (N := 13) rfl inX0w (by decide) rfl rfl rfl wd_207 dX7_book_55 rfl) <|
  am_kc (ak_getI (C := RX3) (T := TX3) (N := 3) rfl inX3w (by decide) rfl rfl rfl wd_152 dX7_book_58 rfl) <|
  am_kc (ak_icmp_ge dX7_book_61 (by decide +kernel) rfl) <|
  am_kc (ak_aload_n dX7_book_64 rfl rfl) <|
  am_kc (ak_getR (C := RX7) (T := TX7) (N := 4) rfl inX7w (by decide) rfl rfl rfl wd_387 dX7_book_65 rfl) <|
  am_kc (ak_getR (C := RX0) (T := TX0) (N := 13) rfl inX0w (by decide) rfl rfl rfl wd_207 dX7_book_68 rfl) <|
  am_kc (ak_iload dX7_book_71 rfl) <|
  am_kc (ak_bipush dX7_book_73 (by decide +kernel) rfl) <|
  am_kc (ak_callV (C := RX3) (F := TX3) (N := 3) metX3_at rfl ⟨rfl, by decide +kernel, by decide +kernel, by decide +kernel⟩ (am_w5 wd_521 wd_500 wd_501 wd_64 wd_502) (by decide) dX7_book_75 rfl) <|
  am_kc (ak_iload_n dX7_book_78 rfl rfl) <|
  am_kc (ak_icmp_ne dX7_book_79 (by decide +kernel) rfl) <|
  am_kc (ak_lload dX7_book_82 rfl) <|
  am_kc (ak_aload_n dX7_book_84 rfl rfl) <|
  am_kc (ak_getR (C := RX7) (T := TX7) (N := 4) rfl inX7w (by decide) rfl rfl rfl wd_389 dX7_book_85 rfl) <|
  am_kc (ak_getR (C := RX4) (T := TX4) (N := 18) rfl inX4w (by decide) rfl rfl rfl wd_298 dX7_book_88 rfl) <|
  am_kc (ak_sipush dX7_book_91 (by decide +kernel) rfl) <|
  am_kc (ak_iload dX7_book_94 rfl) <|
  am_kc (ak_iadd dX7_book_96 rfl) <|
  am_kc (ak_lald (t := 1) (fun _ => rfl) rfl dX7_book_97 rfl) <|
  am_kc (ak_ladd dX7_book_98 rfl) <|
  am_kc (ak_lstore dX7_book_99 rfl) <|
  am_kc (ak_iinc dX7_book_101 (by decide +kernel) rfl) <|
  am_kc (ak_goto dX7_book_104 (by decide +kernel)) <|
  am_kc (ak_iload dX7_book_107 rfl) <|
  am_kc (ak_if_ne dX7_book_109 (by decide +kernel) rfl) <|
  am_kc (ak_lload dX7_book_112 rfl) <|
  am_kc (ak_goto dX7_book_114 (by decide +kernel)) <|
  am_kc (ak_lconst dX7_book_117 (by decide +kernel) rfl) <|
  am_kc (ak_aload_n dX7_book_118 rfl rfl) <|
  am_kc (ak_getR (C := RX7) (T := TX7) (N := 4) rfl inX7w (by decide) rfl rfl rfl wd_387 dX7_book_119 rfl) <|
  am_kc (ak_iload_n dX7_book_122 rfl rfl) <|
  am_kc (ak_iload_n dX7_book_123 rfl rfl) <|
  am_kc (ak_callV (C := RX0) (F := TX0) (N := 13) metX0_promised0 rfl ⟨rfl, by decide +kernel, by decide +kernel, by decide +kernel⟩ (am_w5 wd_744 wd_745 wd_746 wd_61 wd_747) (by decide) dX7_book_124 rfl) <|
  am_kc (ak_lload dX7_book_127 rfl) <|
  am_kc (ak_lsub dX7_book_129 rfl) <|
  am_kc (ak_lmax (am_w4 wd_748 wd_608 wd_68 wd_609) (by decide) dX7_book_130 rfl) <|
  am_kc (ak_retL dX7_book_133) <| am_kn
def TX7_book : am_T := fun live as M R => match as with
  | [.ref n, .int b, .int y, .int k, .int w] => am_mn live ∧ n = 0 ∧ am_F7 M ∧ ∀ M', am_ch am_lo M M' → R (some (.long (a_book b y k w))) M'
  | _ => False
set_option maxRecDepth 100000 in
set_option maxHeartbeats 4000000 in
theorem metX7_book : am_Met yX7_book cX7_book 8 (some .long) (2) (47) TX7_book := by
  refine am_met (own := RX7) (by decide +kernel) rfl kX7_book koX7_book 300 (fun _ _ _ _ _ => none) (fun live as M Ret h => ?_) (fun _ _ _ _ _ _ _ _ hI => by cases hI)
  unfold TX7_book at h
  split at h
  · next n b y k w =>
    refine ⟨Nat.le_of_ble_eq_true rfl, ?_⟩
    change am_wp _ _ _ _ [(0, Value.ref n), (1, Value.int b), (2, Value.int y), (3, Value.int k), (4, Value.int w)] _ _
    obtain ⟨⟨i1, i2, rfl⟩, rfl, hF, h⟩ := h
    obtain ⟨s1, s2, s3, s4, s5, s6, s7, s8, s9, w1, w2, w3, w4⟩ := hF
    by_cases hc : (0 ≤ b ∧ b ≤ 3) ∧ (0 ≤ y ∧ y < 40) ∧ (0 ≤ k ∧ k < 40) ∧ (0 ≤ w ∧ w ≤ 1)
    ·
      have hn0 : ¬ (if (0 ≤ b ∧ b ≤ 3) then (1 : Int32) else 0) = 0 := by rw [if_pos hc.1]; decide
      have hn1 : ¬ (if (0 ≤ y ∧ y < 40) then (1 : Int32) else 0) = 0 := by rw [if_pos hc.2.1]; decide
      have hn2 : ¬ (if (0 ≤ k ∧ k < 40) then (1 : Int32) else 0) = 0 := by rw [if_pos hc.2.2.1]; decide
      have hn3 : ¬ (if (0 ≤ w ∧ w ≤ 1) then (1 : Int32) else 0) = 0 := by rw [if_pos hc.2.2.2]; decide
      have e : a_book b y k w = _ := if_pos hc
      rw [e] at h
      have hp1 : M.1 33 2 ≤ 0 := by rw [s2]; decide
      repeat' (first | exact rfl | apply And.intro | (intro hx; exact absurd hx hn0) | (intro hx; exact absurd hx hn1) | (intro hx; exact absurd hx hn2) | (intro hx; exact absurd hx hn3) | (intro hx; exact absurd hp1 hx) | intro hx | (refine Exists.intro _ (And.intro rfl ?_)))
      all_goals try first | (with_reducible change am_tI _ _) | (change Ret _ _) | (change Ret _ _ _) | (change Exists _)
      all_goals try dsimp only at *
      all_goals try exact absurd ‹(1000 : Int64) = 0› (by decide)
      all_goals first
        | exact h _ am_ch.rf
        | exact am_rJ (h _ am_ch.rf) (by first | rfl | (simp only [s1, s2, s3, s4, s5, s6]; done) | exact s1.symm | exact s3.symm | exact s5.symm | exact s6.symm)
        | exact ⟨i1, i2, rfl⟩
        | exact s1
        | exact s5
        | (clear h; decide)
        | (clear h; omega)
    ·
      have e : a_book b y k w = _ := if_neg hc
      rw [e] at h
      repeat' (first | exact rfl | apply And.intro | intro hx | (refine Exists.intro _ (And.intro rfl ?_)))
      all_goals try first | (with_reducible change am_tI _ _) | (change Ret _ _) | (change Ret _ _ _) | (change Exists _)
      all_goals try dsimp only at *
      all_goals try exact absurd ‹(1000 : Int64) = 0› (by decide)
      all_goals first
        | exact h _ am_ch.rf
        | exact ⟨i1, i2, rfl⟩
        | exact s1
        | exact s5
        | (exfalso; clear h e; refine hc ?_; simp only [am_b0, Classical.not_not, am_isNum, am_isN] at *; simp only [*, and_self, true_and]; done)
  · exact h.elim
theorem dX7_count_0 : decode cX7_count 0 = .ok (.iload_n 1, 1) := by decide +kernel
theorem dX7_count_1 : decode cX7_count 1 = .ok (.tableswitch 102 0 5 #[39, 50, 61, 72, 83, 94], 39) := by decide +kernel
theorem dX7_count_40 : decode cX7_count 40 = .ok (.aload_n 0, 1) := by decide +kernel
theorem dX7_count_41 : decode cX7_count 41 = .ok (.getfield 27, 3) := by decide +kernel
theorem dX7_count_44 : decode cX7_count 44 = .ok (.getfield 38, 3) := by decide +kernel
theorem dX7_count_47 : decode cX7_count 47 = .ok (.getfield 42, 3) := by decide +kernel
theorem dX7_count_50 : decode cX7_count 50 = .ok (.ireturn, 1) := by decide +kernel
theorem dX7_count_51 : decode cX7_count 51 = .ok (.aload_n 0, 1) := by decide +kernel
theorem dX7_count_52 : decode cX7_count 52 = .ok (.getfield 27, 3) := by decide +kernel
theorem dX7_count_55 : decode cX7_count 55 = .ok (.getfield 122, 3) := by decide +kernel
theorem dX7_count_58 : decode cX7_count 58 = .ok (.getfield 108, 3) := by decide +kernel
theorem dX7_count_61 : decode cX7_count 61 = .ok (.ireturn, 1) := by decide +kernel
theorem dX7_count_62 : decode cX7_count 62 = .ok (.aload_n 0, 1) := by decide +kernel
theorem dX7_count_63 : decode cX7_count 63 = .ok (.getfield 27, 3) := by decide +kernel
theorem dX7_count_66 : decode cX7_count 66 = .ok (.getfield 104, 3) := by decide +kernel
theorem dX7_count_69 : decode cX7_count 69 = .ok (.getfield 108, 3) := by decide +kernel
theorem dX7_count_72 : decode cX7_count 72 = .ok (.ireturn, 1) := by decide +kernel
theorem dX7_count_73 : decode cX7_count 73 = .ok (.aload_n 0, 1) := by decide +kernel
theorem dX7_count_74 : decode cX7_count 74 = .ok (.getfield 27, 3) := by decide +kernel
theorem dX7_count_77 : decode cX7_count 77 = .ok (.getfield 146, 3) := by decide +kernel
theorem dX7_count_80 : decode cX7_count 80 = .ok (.getfield 108, 3) := by decide +kernel
theorem dX7_count_83 : decode cX7_count 83 = .ok (.ireturn, 1) := by decide +kernel
theorem dX7_count_84 : decode cX7_count 84 = .ok (.aload_n 0, 1) := by decide +kernel
theorem dX7_count_85 : decode cX7_count 85 = .ok (.getfield 27, 3) := by decide +kernel
theorem dX7_count_88 : decode cX7_count 88 = .ok (.getfield 190, 3) := by decide +kernel
theorem dX7_count_91 : decode cX7_count 91 = .ok (.getfield 108, 3) := by decide +kernel
theorem dX7_count_94 : decode cX7_count 94 = .ok (.ireturn, 1) := by decide +kernel
theorem dX7_count_95 : decode cX7_count 95 = .ok (.aload_n 0, 1) := by decide +kernel
theorem dX7_count_96 : decode cX7_count 96 = .ok (.getfield 27, 3) := by decide +kernel
theorem dX7_count_99 : decode cX7_count 99 = .ok (.getfield 243, 3) := by decide +kernel
theorem dX7_count_102 : decode cX7_count 102 = .ok (.ireturn, 1) := by decide +kernel
theorem dX7_count_103 : decode cX7_count 103 = .ok (.bipush (-2), 2) := by decide +kernel
theorem dX7_count_105 : decode cX7_count 105 = .ok (.ireturn, 1) := by decide +kernel
def kX7_count (live : am_E) (Ret : am_R) : am_code := [(0, am_iload 1 1), (1, am_switch [(0, 40), (1, 51), (2, 62), (3, 73), (4, 84), (5, 95)] 103), (40, am_aload 0 41), (41, am_getR live 7 0 44), (44, am_getR live 0 0 47), (47, am_getI live 2 7 50), (50, am_retI Ret), (51, am_aload 0 52), (52, am_getR live 7 0 55), (55, am_getR live 0 4 58), (58, am_getI live 3 2 61), (61, am_retI Ret), (62, am_aload 0 63), (63, am_getR live 7 0 66), (66, am_getR live 0 3 69), (69, am_getI live 3 2 72), (72, am_retI Ret), (73, am_aload 0 74), (74, am_getR live 7 0 77), (77, am_getR live 0 5 80), (80, am_getI live 3 2 83), (83, am_retI Ret), (84, am_aload 0 85), (85, am_getR live 7 0 88), (88, am_getR live 0 8 91), (91, am_getI live 3 2 94), (94, am_retI Ret), (95, am_aload 0 96), (96, am_getR live 7 0 99), (99, am_getI live 0 12 102), (102, am_retI Ret), (103, am_const (.int (-2)) 105), (105, am_retI Ret)]
theorem koX7_count (live : am_E) (Ret : am_R) : ∀ q ∈ kX7_count live Ret, am_ok RX7 cX7_count 2 (some .int) 0 0 live Ret q.1 q.2 :=
  am_kc (ak_iload_n dX7_count_0 rfl rfl) <|
  am_kc (ak_tswitch dX7_count_1 (by decide +kernel) (by decide +kernel) (by decide +kernel) (by decide +kernel) (by decide +kernel) (by decide +kernel)) <|
  am_kc (ak_aload_n dX7_count_40 rfl rfl) <|
  am_kc (ak_getR (C := RX7) (T := TX7) (N := 4) rfl inX7w (by decide) rfl rfl rfl wd_387 dX7_count_41 rfl) <|
  am_kc (ak_getR (C := RX0) (T := TX0) (N := 13) rfl inX0w (by decide) rfl rfl rfl wd_194 dX7_count_44 rfl) <|
  am_kc (ak_getI (C := RX2) (T := TX2) (N := 8) rfl inX2w (by decide) rfl rfl rfl wd_121 dX7_count_47 rfl) <|
  am_kc (ak_retI dX7_count_50) <|
  am_kc (ak_aload_n dX7_count_51 rfl rfl) <|
  am_kc (ak_getR (C := RX7) (T := TX7) (N := 4) rfl inX7w (by decide) rfl rfl rfl wd_387 dX7_count_52 rfl) <|
  am_kc (ak_getR (C := RX0) (T := TX0) (N := 13) rfl inX0w (by decide) rfl rfl rfl wd_207 dX7_count_55 rfl) <|
  am_kc (ak_getI (C := RX3) (T := TX3) (N := 3) rfl inX3w (by decide) rfl rfl rfl wd_152 dX7_count_58 rfl) <|
  am_kc (ak_retI dX7_count_61) <|
  am_kc (ak_aload_n dX7_count_62 rfl rfl) <|
  am_kc (ak_getR (C := RX7) (T := TX7) (N := 4) rfl inX7w (by decide) rfl rfl rfl wd_387 dX7_count_63 rfl) <|
  am_kc (ak_getR (C := RX0) (T := TX0) (N := 13) rfl inX0w (by decide) rfl rfl rfl wd_204 dX7_count_66 rfl) <|
  am_kc (ak_getI (C := RX3) (T := TX3) (N := 3) rfl inX3w (by decide) rfl rfl rfl wd_152 dX7_count_69 rfl) <|
  am_kc (ak_retI dX7_count_72) <|
  am_kc (ak_aload_n dX7_count_73 rfl rfl) <|
  am_kc (ak_getR (C := RX7) (T := TX7) (N := 4) rfl inX7w (by decide) rfl rfl rfl wd_387 dX7_count_74 rfl) <|
  am_kc (ak_getR (C := RX0) (T := TX0) (N := 13) rfl inX0w (by decide) rfl rfl rfl wd_209 dX7_count_77 rfl) <|
  am_kc (ak_getI (C := RX3) (T := TX3) (N := 3) rfl inX3w (by decide) rfl rfl rfl wd_152 dX7_count_80 rfl) <|
  am_kc (ak_retI dX7_count_83) <|
  am_kc (ak_aload_n dX7_count_84 rfl rfl) <|
  am_kc (ak_getR (C := RX7) (T := TX7) (N := 4) rfl inX7w (by decide) rfl rfl rfl wd_387 dX7_count_85 rfl) <|
  am_kc (ak_getR (C := RX0) (T := TX0) (N := 13) rfl inX0w (by decide) rfl rfl rfl wd_217 dX7_count_88 rfl) <|
  am_kc (ak_getI (C := RX3) (T := TX3) (N := 3) rfl inX3w (by decide) rfl rfl rfl wd_152 dX7_count_91 rfl) <|
  am_kc (ak_retI dX7_count_94) <|
  am_kc (ak_aload_n dX7_count_95 rfl rfl) <|
  am_kc (ak_getR (C := RX7) (T := TX7) (N := 4) rfl inX7w (by decide) rfl rfl rfl wd_387 dX7_count_96 rfl) <|
  am_kc (ak_getI (C := RX0) (T := TX0) (N := 13) rfl inX0w (by decide) rfl rfl rfl wd_227 dX7_count_99 rfl) <|
  am_kc (ak_retI dX7_count_102) <|
  am_kc (ak_bipush dX7_count_103 (by decide +kernel) rfl) <|
  am_kc (ak_retI dX7_count_105) <| am_kn
def TX7_count : am_T := fun live as M R => match as with
  | [.ref n, .int w] => am_mn live ∧ n = 0 ∧ am_F7 M ∧ R (some (.int (a_count w))) M
  | _ => False
set_option maxRecDepth 100000 in
set_option maxHeartbeats 4000000 in
theorem metX7_count : am_Met yX7_count cX7_count 2 (some .int) (0) (0) TX7_count := by
  refine am_met (own := RX7) (by decide +kernel) rfl kX7_count koX7_count 300 (fun _ _ _ _ _ => none) (fun live as M Ret h => ?_) (fun _ _ _ _ _ _ _ _ hI => by cases hI)
  unfold TX7_count at h
  split at h
  · next n w =>
    refine ⟨Nat.le_of_ble_eq_true rfl, ?_⟩
    change am_wp _ _ _ _ [(0, Value.ref n), (1, Value.int w)] _ _
    obtain ⟨⟨i1, i2, rfl⟩, rfl, hF, h⟩ := h
    obtain ⟨s1, s2, s3, s4, s5, s6, s7, s8, s9, w1, w2, w3, w4⟩ := hF
    by_cases hc : 0 ≤ w ∧ w ≤ 5
    ·
      have e : a_count w = 0 := if_pos hc
      rw [e] at h
      have hs : w = 0 ∨ w = 1 ∨ w = 2 ∨ w = 3 ∨ w = 4 ∨ w = 5 := by
        simp only [i_le, i_eq, Int32.reduceToInt] at hc ⊢
        omega
      rcases hs with rfl | rfl | rfl | rfl | rfl | rfl
      all_goals
        repeat' (first | exact rfl | apply And.intro | (intro hx; exact absurd hx (by decide)) | (intro hx; exact absurd (by decide) hx) | decide | intro hx | (refine Exists.intro _ (And.intro rfl ?_)))
        all_goals try first | (with_reducible change am_tI _ _) | (change Ret _ _) | (change Ret _ _ _) | (change Exists _)
        all_goals try dsimp only at *
        all_goals try exact absurd ‹(1000 : Int64) = 0› (by decide)
        all_goals first
          | exact am_rI h s1.symm
          | exact am_rI h s2.symm
          | exact am_rI h s3.symm
          | exact am_rI h s4.symm
          | exact am_rI h s5.symm
          | exact am_rI h s6.symm
    ·
      have e : a_count w = -2 := if_neg hc
      rw [e] at h
      repeat' (first | exact rfl | apply And.intro | intro hx | (refine Exists.intro _ (And.intro rfl ?_)))
      all_goals try first | (with_reducible change am_tI _ _) | (change Ret _ _) | (change Ret _ _ _) | (change Exists _)
      all_goals try dsimp only at *
      all_goals try exact absurd ‹(1000 : Int64) = 0› (by decide)
      all_goals first
        | exact h
        | (exfalso; clear h e; subst_vars; exact hc (by decide))
  · exact h.elim
theorem wd_868 : Cond.constantLong "LearnLoans" 261 347 ∈ am_ws := am_wsi (List.mem_of_getElem? (i := 868) (by decide +kernel)) (by decide +kernel)
theorem wd_869 : Cond.constantLong "LearnLoans" 263 31 ∈ am_ws := am_wsi (List.mem_of_getElem? (i := 869) (by decide +kernel)) (by decide +kernel)
theorem wd_870 : Cond.methodLink "LearnLoans" 265 yX7_count ∈ am_ws := am_wsi (List.mem_of_getElem? (i := 870) (by decide +kernel)) (by decide +kernel)
theorem wd_861 : Cond.instanceMethod yX7_count ∈ am_ws := am_wsi (List.mem_of_getElem? (i := 861) (by decide +kernel)) (by decide +kernel)
theorem wd_862 : Cond.selects "LearnLoans" yX7_count yX7_count ∈ am_ws := am_wsi (List.mem_of_getElem? (i := 862) (by decide +kernel)) (by decide +kernel)
theorem wd_863 : Cond.code yX7_count cX7_count 2 (some .int) ∈ am_ws := am_wsi (List.mem_of_getElem? (i := 863) (by decide +kernel)) (by decide +kernel)
theorem wd_871 : Cond.methodLink "LearnLoans" 269 yX2_mixed ∈ am_ws := am_wsi (List.mem_of_getElem? (i := 871) (by decide +kernel)) (by decide +kernel)
theorem wd_872 : Cond.instanceMethod yX2_mixed ∈ am_ws := am_wsi (List.mem_of_getElem? (i := 872) (by decide +kernel)) (by decide +kernel)
theorem wd_873 : Cond.selects "LearnLoans$People" yX2_mixed yX2_mixed ∈ am_ws := am_wsi (List.mem_of_getElem? (i := 873) (by decide +kernel)) (by decide +kernel)
theorem wd_874 : Cond.code yX2_mixed cX2_mixed 5 (some .long) ∈ am_ws := am_wsi (List.mem_of_getElem? (i := 874) (by decide +kernel)) (by decide +kernel)
theorem wd_876 : Cond.methodLink "LearnLoans" 273 yX3_mixed ∈ am_ws := am_wsi (List.mem_of_getElem? (i := 876) (by decide +kernel)) (by decide +kernel)
theorem wd_877 : Cond.instanceMethod yX3_mixed ∈ am_ws := am_wsi (List.mem_of_getElem? (i := 877) (by decide +kernel)) (by decide +kernel)
theorem wd_878 : Cond.selects "LearnLoans$Rows" yX3_mixed yX3_mixed ∈ am_ws := am_wsi (List.mem_of_getElem? (i := 878) (by decide +kernel)) (by decide +kernel)
theorem wd_879 : Cond.code yX3_mixed cX3_mixed 5 (some .long) ∈ am_ws := am_wsi (List.mem_of_getElem? (i := 879) (by decide +kernel)) (by decide +kernel)
theorem wd_881 : Cond.methodLink "LearnLoans" 274 yX5_mixed ∈ am_ws := am_wsi (List.mem_of_getElem? (i := 881) (by decide +kernel)) (by decide +kernel)
theorem wd_882 : Cond.instanceMethod yX5_mixed ∈ am_ws := am_wsi (List.mem_of_getElem? (i := 882) (by decide +kernel)) (by decide +kernel)
theorem wd_883 : Cond.selects "LearnLoans$Text" yX5_mixed yX5_mixed ∈ am_ws := am_wsi (List.mem_of_getElem? (i := 883) (by decide +kernel)) (by decide +kernel)
theorem wd_884 : Cond.code yX5_mixed cX5_mixed 4 (some .long) ∈ am_ws := am_wsi (List.mem_of_getElem? (i := 884) (by decide +kernel)) (by decide +kernel)
theorem dX7_digest_0 : decode cX7_digest 0 = .ok (.ldc2_w 261, 3) := by decide +kernel
theorem dX7_digest_3 : decode cX7_digest 3 = .ok (.lstore_n 1, 1) := by decide +kernel
theorem dX7_digest_4 : decode cX7_digest 4 = .ok (.iconst 0, 1) := by decide +kernel
theorem dX7_digest_5 : decode cX7_digest 5 = .ok (.istore_n 3, 1) := by decide +kernel
theorem dX7_digest_6 : decode cX7_digest 6 = .ok (.iload_n 3, 1) := by decide +kernel
theorem dX7_digest_7 : decode cX7_digest 7 = .ok (.iconst 5, 1) := by decide +kernel
theorem dX7_digest_8 : decode cX7_digest 8 = .ok (.if_icmp .gt 22, 3) := by decide +kernel
theorem dX7_digest_11 : decode cX7_digest 11 = .ok (.ldc2_w 263, 3) := by decide +kernel
theorem dX7_digest_14 : decode cX7_digest 14 = .ok (.lload_n 1, 1) := by decide +kernel
theorem dX7_digest_15 : decode cX7_digest 15 = .ok (.lmul, 1) := by decide +kernel
theorem dX7_digest_16 : decode cX7_digest 16 = .ok (.aload_n 0, 1) := by decide +kernel
theorem dX7_digest_17 : decode cX7_digest 17 = .ok (.iload_n 3, 1) := by decide +kernel
theorem dX7_digest_18 : decode cX7_digest 18 = .ok (.invokevirtual 265, 3) := by decide +kernel
theorem dX7_digest_21 : decode cX7_digest 21 = .ok (.i2l, 1) := by decide +kernel
theorem dX7_digest_22 : decode cX7_digest 22 = .ok (.ladd, 1) := by decide +kernel
theorem dX7_digest_23 : decode cX7_digest 23 = .ok (.lstore_n 1, 1) := by decide +kernel
theorem dX7_digest_24 : decode cX7_digest 24 = .ok (.iinc 3 1, 3) := by decide +kernel
theorem dX7_digest_27 : decode cX7_digest 27 = .ok (.goto (-21), 3) := by decide +kernel
theorem dX7_digest_30 : decode cX7_digest 30 = .ok (.aload_n 0, 1) := by decide +kernel
theorem dX7_digest_31 : decode cX7_digest 31 = .ok (.getfield 27, 3) := by decide +kernel
theorem dX7_digest_34 : decode cX7_digest 34 = .ok (.getfield 38, 3) := by decide +kernel
theorem dX7_digest_37 : decode cX7_digest 37 = .ok (.lload_n 1, 1) := by decide +kernel
theorem dX7_digest_38 : decode cX7_digest 38 = .ok (.invokevirtual 269, 3) := by decide +kernel
theorem dX7_digest_41 : decode cX7_digest 41 = .ok (.lstore_n 1, 1) := by decide +kernel
theorem dX7_digest_42 : decode cX7_digest 42 = .ok (.aload_n 0, 1) := by decide +kernel
theorem dX7_digest_43 : decode cX7_digest 43 = .ok (.getfield 27, 3) := by decide +kernel
theorem dX7_digest_46 : decode cX7_digest 46 = .ok (.getfield 122, 3) := by decide +kernel
theorem dX7_digest_49 : decode cX7_digest 49 = .ok (.lload_n 1, 1) := by decide +kernel
theorem dX7_digest_50 : decode cX7_digest 50 = .ok (.invokevirtual 273, 3) := by decide +kernel
theorem dX7_digest_53 : decode cX7_digest 53 = .ok (.lstore_n 1, 1) := by decide +kernel
theorem dX7_digest_54 : decode cX7_digest 54 = .ok (.aload_n 0, 1) := by decide +kernel
theorem dX7_digest_55 : decode cX7_digest 55 = .ok (.getfield 27, 3) := by decide +kernel
theorem dX7_digest_58 : decode cX7_digest 58 = .ok (.getfield 104, 3) := by decide +kernel
theorem dX7_digest_61 : decode cX7_digest 61 = .ok (.lload_n 1, 1) := by decide +kernel
theorem dX7_digest_62 : decode cX7_digest 62 = .ok (.invokevirtual 273, 3) := by decide +kernel
theorem dX7_digest_65 : decode cX7_digest 65 = .ok (.lstore_n 1, 1) := by decide +kernel
theorem dX7_digest_66 : decode cX7_digest 66 = .ok (.aload_n 0, 1) := by decide +kernel
theorem dX7_digest_67 : decode cX7_digest 67 = .ok (.getfield 27, 3) := by decide +kernel
theorem dX7_digest_70 : decode cX7_digest 70 = .ok (.getfield 146, 3) := by decide +kernel
theorem dX7_digest_73 : decode cX7_digest 73 = .ok (.lload_n 1, 1) := by decide +kernel
theorem dX7_digest_74 : decode cX7_digest 74 = .ok (.invokevirtual 273, 3) := by decide +kernel
theorem dX7_digest_77 : decode cX7_digest 77 = .ok (.lstore_n 1, 1) := by decide +kernel
theorem dX7_digest_78 : decode cX7_digest 78 = .ok (.iconst 0, 1) := by decide +kernel
theorem dX7_digest_79 : decode cX7_digest 79 = .ok (.istore_n 3, 1) := by decide +kernel
theorem dX7_digest_80 : decode cX7_digest 80 = .ok (.iload_n 3, 1) := by decide +kernel
theorem dX7_digest_81 : decode cX7_digest 81 = .ok (.iconst 5, 1) := by decide +kernel
theorem dX7_digest_82 : decode cX7_digest 82 = .ok (.if_icmp .ge 23, 3) := by decide +kernel
theorem dX7_digest_85 : decode cX7_digest 85 = .ok (.aload_n 0, 1) := by decide +kernel
theorem dX7_digest_86 : decode cX7_digest 86 = .ok (.getfield 27, 3) := by decide +kernel
theorem dX7_digest_89 : decode cX7_digest 89 = .ok (.getfield 174, 3) := by decide +kernel
theorem dX7_digest_92 : decode cX7_digest 92 = .ok (.iload_n 3, 1) := by decide +kernel
theorem dX7_digest_93 : decode cX7_digest 93 = .ok (.aaload, 1) := by decide +kernel
theorem dX7_digest_94 : decode cX7_digest 94 = .ok (.lload_n 1, 1) := by decide +kernel
theorem dX7_digest_95 : decode cX7_digest 95 = .ok (.invokevirtual 274, 3) := by decide +kernel
theorem dX7_digest_98 : decode cX7_digest 98 = .ok (.lstore_n 1, 1) := by decide +kernel
theorem dX7_digest_99 : decode cX7_digest 99 = .ok (.iinc 3 1, 3) := by decide +kernel
theorem dX7_digest_102 : decode cX7_digest 102 = .ok (.goto (-22), 3) := by decide +kernel
theorem dX7_digest_105 : decode cX7_digest 105 = .ok (.aload_n 0, 1) := by decide +kernel
theorem dX7_digest_106 : decode cX7_digest 106 = .ok (.bipush 39, 2) := by decide +kernel
theorem dX7_digest_108 : decode cX7_digest 108 = .ok (.bipush 39, 2) := by decide +kernel
theorem dX7_digest_110 : decode cX7_digest 110 = .ok (.invokevirtual 193, 3) := by decide +kernel
theorem dX7_digest_113 : decode cX7_digest 113 = .ok (.iconst 0, 1) := by decide +kernel
theorem dX7_digest_114 : decode cX7_digest 114 = .ok (.istore_n 3, 1) := by decide +kernel
theorem dX7_digest_115 : decode cX7_digest 115 = .ok (.iload_n 3, 1) := by decide +kernel
theorem dX7_digest_116 : decode cX7_digest 116 = .ok (.aload_n 0, 1) := by decide +kernel
theorem dX7_digest_117 : decode cX7_digest 117 = .ok (.getfield 27, 3) := by decide +kernel
theorem dX7_digest_120 : decode cX7_digest 120 = .ok (.getfield 122, 3) := by decide +kernel
theorem dX7_digest_123 : decode cX7_digest 123 = .ok (.getfield 108, 3) := by decide +kernel
theorem dX7_digest_126 : decode cX7_digest 126 = .ok (.if_icmp .ge 46, 3) := by decide +kernel
theorem dX7_digest_129 : decode cX7_digest 129 = .ok (.ldc2_w 263, 3) := by decide +kernel
theorem dX7_digest_132 : decode cX7_digest 132 = .ok (.lload_n 1, 1) := by decide +kernel
theorem dX7_digest_133 : decode cX7_digest 133 = .ok (.lmul, 1) := by decide +kernel
theorem dX7_digest_134 : decode cX7_digest 134 = .ok (.aload_n 0, 1) := by decide +kernel
theorem dX7_digest_135 : decode cX7_digest 135 = .ok (.getfield 20, 3) := by decide +kernel
theorem dX7_digest_138 : decode cX7_digest 138 = .ok (.getfield 158, 3) := by decide +kernel
theorem dX7_digest_141 : decode cX7_digest 141 = .ok (.iconst 0, 1) := by decide +kernel
theorem dX7_digest_142 : decode cX7_digest 142 = .ok (.iload_n 3, 1) := by decide +kernel
theorem dX7_digest_143 : decode cX7_digest 143 = .ok (.iadd, 1) := by decide +kernel
theorem dX7_digest_144 : decode cX7_digest 144 = .ok (.laload, 1) := by decide +kernel
theorem dX7_digest_145 : decode cX7_digest 145 = .ok (.ladd, 1) := by decide +kernel
theorem dX7_digest_146 : decode cX7_digest 146 = .ok (.lstore_n 1, 1) := by decide +kernel
theorem dX7_digest_147 : decode cX7_digest 147 = .ok (.ldc2_w 263, 3) := by decide +kernel
theorem dX7_digest_150 : decode cX7_digest 150 = .ok (.lload_n 1, 1) := by decide +kernel
theorem dX7_digest_151 : decode cX7_digest 151 = .ok (.lmul, 1) := by decide +kernel
theorem dX7_digest_152 : decode cX7_digest 152 = .ok (.aload_n 0, 1) := by decide +kernel
theorem dX7_digest_153 : decode cX7_digest 153 = .ok (.getfield 20, 3) := by decide +kernel
theorem dX7_digest_156 : decode cX7_digest 156 = .ok (.getfield 158, 3) := by decide +kernel
theorem dX7_digest_159 : decode cX7_digest 159 = .ok (.bipush 90, 2) := by decide +kernel
theorem dX7_digest_161 : decode cX7_digest 161 = .ok (.iload_n 3, 1) := by decide +kernel
theorem dX7_digest_162 : decode cX7_digest 162 = .ok (.iadd, 1) := by decide +kernel
theorem dX7_digest_163 : decode cX7_digest 163 = .ok (.laload, 1) := by decide +kernel
theorem dX7_digest_164 : decode cX7_digest 164 = .ok (.ladd, 1) := by decide +kernel
theorem dX7_digest_165 : decode cX7_digest 165 = .ok (.lstore_n 1, 1) := by decide +kernel
theorem dX7_digest_166 : decode cX7_digest 166 = .ok (.iinc 3 1, 3) := by decide +kernel
theorem dX7_digest_169 : decode cX7_digest 169 = .ok (.goto (-54), 3) := by decide +kernel
theorem dX7_digest_172 : decode cX7_digest 172 = .ok (.lload_n 1, 1) := by decide +kernel
theorem dX7_digest_173 : decode cX7_digest 173 = .ok (.lreturn, 1) := by decide +kernel
def kX7_digest (live : am_E) (Ret : am_R) : am_code := [(0, am_const (.long 347) 3), (3, am_lstore 1 4 4), (4, am_const (.int 0) 5), (5, am_istore 3 4 6), (6, am_iload 3 7), (7, am_const (.int 5) 8), (8, am_if2 (fun x y => y < x) 30 11), (11, am_const (.long 31) 14), (14, am_lload 1 15), (15, am_l2 (fun x y => x * y) 16), (16, am_aload 0 17), (17, am_iload 3 18), (18, am_callV live 7 1 TX7_count 21), (21, am_i2l 22), (22, am_l2 (fun x y => x + y) 23), (23, am_lstore 1 4 24), (24, am_iinc 3 4 1 27), (27, am_goto 6), (30, am_aload 0 31), (31, am_getR live 7 0 34), (34, am_getR live 0 0 37), (37, am_lload 1 38), (38, am_callV live 2 1 TX2_mixed 41), (41, am_lstore 1 4 42), (42, am_aload 0 43), (43, am_getR live 7 0 46), (46, am_getR live 0 4 49), (49, am_lload 1 50), (50, am_callV live 3 1 TX3_mixed0 53), (53, am_lstore 1 4 54), (54, am_aload 0 55), (55, am_getR live 7 0 58), (58, am_getR live 0 3 61), (61, am_lload 1 62), (62, am_callV live 3 1 TX3_mixed0 65), (65, am_lstore 1 4 66), (66, am_aload 0 67), (67, am_getR live 7 0 70), (70, am_getR live 0 5 73), (73, am_lload 1 74), (74, am_callV live 3 1 TX3_mixed0 77), (77, am_lstore 1 4 78), (78, am_const (.int 0) 79), (79, am_istore 3 4 80), (80, am_iload 3 81), (81, am_const (.int 5) 82), (82, am_if2 (fun x y => y ≤ x) 105 85), (85, am_aload 0 86), (86, am_getR live 7 0 89), (89, am_getR live 0 7 92), (92, am_iload 3 93), (93, am_aald live 3 94), (94, am_lload 1 95), (95, am_callV live 5 1 TX5_mixed0 98), (98, am_lstore 1 4 99), (99, am_iinc 3 4 1 102), (102, am_goto 80), (105, am_aload 0 106), (106, am_const (.int 39) 108), (108, am_const (.int 39) 110), (110, am_callV live 7 2 TX7_runEverybody 113), (113, am_const (.int 0) 114), (114, am_istore 3 4 115), (115, am_iload 3 116), (116, am_aload 0 117), (117, am_getR live 7 0 120), (120, am_getR live 0 4 123), (123, am_getI live 3 2 126), (126, am_if2 (fun x y => y ≤ x) 172 129), (129, am_const (.long 31) 132), (132, am_lload 1 133), (133, am_l2 (fun x y => x * y) 134), (134, am_aload 0 135), (135, am_getR live 7 2 138), (138, am_getR live 4 2 141), (141, am_const (.int 0) 142), (142, am_iload 3 143), (143, am_i2 (fun x y => x + y) 144), (144, am_lald live 1 145), (145, am_l2 (fun x y => x + y) 146), (146, am_lstore 1 4 147), (147, am_const (.long 31) 150), (150, am_lload 1 151), (151, am_l2 (fun x y => x * y) 152), (152, am_aload 0 153), (153, am_getR live 7 2 156), (156, am_getR live 4 2 159), (159, am_const (.int 90) 161), (161, am_iload 3 162), (162, am_i2 (fun x y => x + y) 163), (163, am_lald live 1 164), (164, am_l2 (fun x y => x + y) 165), (165, am_lstore 1 4 166), (166, am_iinc 3 4 1 169), (169, am_goto 115), (172, am_lload 1 173), (173, am_retL Ret)]
theorem koX7_digest (live : am_E) (Ret : am_R) : ∀ q ∈ kX7_digest live Ret, am_ok RX7 cX7_digest 4 (some .long) 2 47 live Ret q.1 q.2 :=
  am_kc (ak_ldc2 wd_868 dX7_digest_0 rfl) <|
  am_kc (ak_lstore_n dX7_digest_3 rfl rfl) <|
  am_kc (ak_iconst dX7_digest_4 (by decide +kernel) rfl) <|
  am_kc (ak_istore_n dX7_digest_5 rfl rfl) <|
  am_kc (ak_iload_n dX7_digest_6 rfl rfl) <|
  am_kc (ak_iconst dX7_digest_7 (by decide +kernel) rfl) <|
  am_kc (ak_icmp_gt dX7_digest_8 (by decide +kernel) rfl) <|
  am_kc (ak_ldc2 wd_869 dX7_digest_11 rfl) <|
  am_kc (ak_lload_n dX7_digest_14 rfl rfl) <|
  am_kc (ak_lmul dX7_digest_15 rfl) <|
  am_kc (ak_aload_n dX7_digest_16 rfl rfl) <|
  am_kc (ak_iload_n dX7_digest_17 rfl rfl) <|
  am_kc (ak_callV (C := RX7) (F := TX7) (N := 4) metX7_count rfl ⟨rfl, by decide +kernel, by decide +kernel, by decide +kernel⟩ (am_w5 wd_870 wd_861 wd_862 wd_58 wd_863) (by decide) dX7_digest_18 rfl) <|
  am_kc (ak_i2l dX7_digest_21 rfl) <|
  am_kc (ak_ladd dX7_digest_22 rfl) <|
  am_kc (ak_lstore_n dX7_digest_23 rfl rfl) <|
  am_kc (ak_iinc dX7_digest_24 (by decide +kernel) rfl) <|
  am_kc (ak_goto dX7_digest_27 (by decide +kernel)) <|
  am_kc (ak_aload_n dX7_digest_30 rfl rfl) <|
  am_kc (ak_getR (C := RX7) (T := TX7) (N := 4) rfl inX7w (by decide) rfl rfl rfl wd_387 dX7_digest_31 rfl) <|
  am_kc (ak_getR (C := RX0) (T := TX0) (N := 13) rfl inX0w (by decide) rfl rfl rfl wd_194 dX7_digest_34 rfl) <|
  am_kc (ak_lload_n dX7_digest_37 rfl rfl) <|
  am_kc (ak_callV (C := RX2) (F := TX2) (N := 8) metX2_mixed rfl ⟨rfl, by decide +kernel, by decide +kernel, by decide +kernel⟩ (am_w5 wd_871 wd_872 wd_873 wd_62 wd_874) (by decide) dX7_digest_38 rfl) <|
  am_kc (ak_lstore_n dX7_digest_41 rfl rfl) <|
  am_kc (ak_aload_n dX7_digest_42 rfl rfl) <|
  am_kc (ak_getR (C := RX7) (T := TX7) (N := 4) rfl inX7w (by decide) rfl rfl rfl wd_387 dX7_digest_43 rfl) <|
  am_kc (ak_getR (C := RX0) (T := TX0) (N := 13) rfl inX0w (by decide) rfl rfl rfl wd_207 dX7_digest_46 rfl) <|
  am_kc (ak_lload_n dX7_digest_49 rfl rfl) <|
  am_kc (ak_callV (C := RX3) (F := TX3) (N := 3) metX3_mixed0 rfl ⟨rfl, by decide +kernel, by decide +kernel, by decide +kernel⟩ (am_w5 wd_876 wd_877 wd_878 wd_64 wd_879) (by decide) dX7_digest_50 rfl) <|
  am_kc (ak_lstore_n dX7_digest_53 rfl rfl) <|
  am_kc (ak_aload_n dX7_digest_54 rfl rfl) <|
  am_kc (ak_getR (C := RX7) (T := TX7) (N := 4) rfl inX7w (by decide) rfl rfl rfl wd_387 dX7_digest_55 rfl) <|
  am_kc (ak_getR (C := RX0) (T := TX0) (N := 13) rfl inX0w (by decide) rfl rfl rfl wd_204 dX7_digest_58 rfl) <|
  am_kc (ak_lload_n dX7_digest_61 rfl rfl) <|
  am_kc (ak_callV (C := RX3) (F := TX3) (N := 3) metX3_mixed0 rfl ⟨rfl, by decide +kernel, by decide +kernel, by decide +kernel⟩ (am_w5 wd_876 wd_877 wd_878 wd_64 wd_879) (by decide) dX7_digest_62 rfl) <|
  am_kc (ak_lstore_n dX7_digest_65 rfl rfl) <|
  am_kc (ak_aload_n dX7_digest_66 rfl rfl) <|
  am_kc (ak_getR (C := RX7) (T := TX7) (N := 4) rfl inX7w (by decide) rfl rfl rfl wd_387 dX7_digest_67 rfl) <|
  am_kc (ak_getR (C := RX0) (T := TX0) (N := 13) rfl inX0w (by decide) rfl rfl rfl wd_209 dX7_digest_70 rfl) <|
  am_kc (ak_lload_n dX7_digest_73 rfl rfl) <|
  am_kc (ak_callV (C := RX3) (F := TX3) (N := 3) metX3_mixed0 rfl ⟨rfl, by decide +kernel, by decide +kernel, by decide +kernel⟩ (am_w5 wd_876 wd_877 wd_878 wd_64 wd_879) (by decide) dX7_digest_74 rfl) <|
  am_kc (ak_lstore_n dX7_digest_77 rfl rfl) <|
  am_kc (ak_iconst dX7_digest_78 (by decide +kernel) rfl) <|
  am_kc (ak_istore_n dX7_digest_79 rfl rfl) <|
  am_kc (ak_iload_n dX7_digest_80 rfl rfl) <|
  am_kc (ak_iconst dX7_digest_81 (by decide +kernel) rfl) <|
  am_kc (ak_icmp_ge dX7_digest_82 (by decide +kernel) rfl) <|
  am_kc (ak_aload_n dX7_digest_85 rfl rfl) <|
  am_kc (ak_getR (C := RX7) (T := TX7) (N := 4) rfl inX7w (by decide) rfl rfl rfl wd_387 dX7_digest_86 rfl) <|
  am_kc (ak_getR (C := RX0) (T := TX0) (N := 13) rfl inX0w (by decide) rfl rfl rfl wd_215 dX7_digest_89 rfl) <|
  am_kc (ak_iload_n dX7_digest_92 rfl rfl) <|
  am_kc (ak_aald (t := 3) (fun _ => rfl) rfl dX7_digest_93 rfl) <|
  am_kc (ak_lload_n dX7_digest_94 rfl rfl) <|
  am_kc (ak_callV (C := RX5) (F := TX5) (N := 7) metX5_mixed0 rfl ⟨rfl, by decide +kernel, by decide +kernel, by decide +kernel⟩ (am_w5 wd_881 wd_882 wd_883 wd_65 wd_884) (by decide) dX7_digest_95 rfl) <|
  am_kc (ak_lstore_n dX7_digest_98 rfl rfl) <|
  am_kc (ak_iinc dX7_digest_99 (by decide +kernel) rfl) <|
  am_kc (ak_goto dX7_digest_102 (by decide +kernel)) <|
  am_kc (ak_aload_n dX7_digest_105 rfl rfl) <|
  am_kc (ak_bipush dX7_digest_106 (by decide +kernel) rfl) <|
  am_kc (ak_bipush dX7_digest_108 (by decide +kernel) rfl) <|
  am_kc (ak_callV (C := RX7) (F := TX7) (N := 4) metX7_runEverybody rfl ⟨rfl, by decide +kernel, by decide +kernel, by decide +kernel⟩ (am_w5 wd_740 wd_742 wd_23 wd_58 wd_743) (by decide) dX7_digest_110 rfl) <|
  am_kc (ak_iconst dX7_digest_113 (by decide +kernel) rfl) <|
  am_kc (ak_istore_n dX7_digest_114 rfl rfl) <|
  am_kc (ak_iload_n dX7_digest_115 rfl rfl) <|
  am_kc (ak_aload_n dX7_digest_116 rfl rfl) <|
  am_kc (ak_getR (C := RX7) (T := TX7) (N := 4) rfl inX7w (by decide) rfl rfl rfl wd_387 dX7_digest_117 rfl) <|
  am_kc (ak_getR (C := RX0) (T := TX0) (N := 13) rfl inX0w (by decide) rfl rfl rfl wd_207 dX7_digest_120 rfl) <|
  am_kc (ak_getI (C := RX3) (T := TX3) (N := 3) rfl inX3w (by decide) rfl rfl rfl wd_152 dX7_digest_123 rfl) <|
  am_kc (ak_icmp_ge dX7_digest_126 (by decide +kernel) rfl) <|
  am_kc (ak_ldc2 wd_869 dX7_digest_129 rfl) <|
  am_kc (ak_lload_n dX7_digest_132 rfl rfl) <|
  am_kc (ak_lmul dX7_digest_133 rfl) <|
  am_kc (ak_aload_n dX7_digest_134 rfl rfl) <|
  am_kc (ak_getR (C := RX7) (T := TX7) (N := 4) rfl inX7w (by decide) rfl rfl rfl wd_389 dX7_digest_135 rfl) <|
  am_kc (ak_getR (C := RX4) (T := TX4) (N := 18) rfl inX4w (by decide) rfl rfl rfl wd_298 dX7_digest_138 rfl) <|
  am_kc (ak_iconst dX7_digest_141 (by decide +kernel) rfl) <|
  am_kc (ak_iload_n dX7_digest_142 rfl rfl) <|
  am_kc (ak_iadd dX7_digest_143 rfl) <|
  am_kc (ak_lald (t := 1) (fun _ => rfl) rfl dX7_digest_144 rfl) <|
  am_kc (ak_ladd dX7_digest_145 rfl) <|
  am_kc (ak_lstore_n dX7_digest_146 rfl rfl) <|
  am_kc (ak_ldc2 wd_869 dX7_digest_147 rfl) <|
  am_kc (ak_lload_n dX7_digest_150 rfl rfl) <|
  am_kc (ak_lmul dX7_digest_151 rfl) <|
  am_kc (ak_aload_n dX7_digest_152 rfl rfl) <|
  am_kc (ak_getR (C := RX7) (T := TX7) (N := 4) rfl inX7w (by decide) rfl rfl rfl wd_389 dX7_digest_153 rfl) <|
  am_kc (ak_getR (C := RX4) (T := TX4) (N := 18) rfl inX4w (by decide) rfl rfl rfl wd_298 dX7_digest_156 rfl) <|
  am_kc (ak_bipush dX7_digest_159 (by decide +kernel) rfl) <|
  am_kc (ak_iload_n dX7_digest_161 rfl rfl) <|
  am_kc (ak_iadd dX7_digest_162 rfl) <|
  am_kc (ak_lald (t := 1) (fun _ => rfl) rfl dX7_digest_163 rfl) <|
  am_kc (ak_ladd dX7_digest_164 rfl) <|
  am_kc (ak_lstore_n dX7_digest_165 rfl rfl) <|
  am_kc (ak_iinc dX7_digest_166 (by decide +kernel) rfl) <|
  am_kc (ak_goto dX7_digest_169 (by decide +kernel)) <|
  am_kc (ak_lload_n dX7_digest_172 rfl rfl) <|
  am_kc (ak_retL dX7_digest_173) <| am_kn
def TX7_digest : am_T := fun live as M R => match as with
  | [.ref n] => am_mn live ∧ n = 0 ∧ am_F7 M ∧ R (some (.long a_digest)) M
  | _ => False
set_option maxRecDepth 100000 in
set_option maxHeartbeats 4000000 in
theorem metX7_digest : am_Met yX7_digest cX7_digest 4 (some .long) (2) (47) TX7_digest := by
  refine am_met (own := RX7) (by decide +kernel) rfl kX7_digest koX7_digest 300 (fun _ _ _ _ _ => none) (fun live as M Ret h => ?_) (fun _ _ _ _ _ _ _ _ hI => by cases hI)
  unfold TX7_digest at h
  split at h
  · next n =>
    refine ⟨Nat.le_of_ble_eq_true rfl, ?_⟩
    change am_wp _ _ _ _ [(0, Value.ref n)] _ _
    obtain ⟨⟨i1, i2, rfl⟩, rfl, hF, h⟩ := h
    have hF0 := hF
    obtain ⟨s1, s2, s3, s4, s5, s6, s7, s8, s9, w1, w2, w3, w4⟩ := hF
    have hp1 : M.1 33 2 ≤ 0 := by rw [s2]; decide
    have t0 : M.1 39 5 = 0 := (s9 0 (by decide)).1
    have t1 : M.1 42 5 = 0 := (s9 1 (by decide)).1
    have t2 : M.1 45 5 = 0 := (s9 2 (by decide)).1
    have t3 : M.1 48 5 = 0 := (s9 3 (by decide)).1
    have t4 : M.1 51 5 = 0 := (s9 4 (by decide)).1
    repeat' (first | exact rfl | (with_reducible exact hF0) | (with_reducible exact s1) | (with_reducible exact s2) | (with_reducible exact s3) | (with_reducible exact s4) | (with_reducible exact t0) | (with_reducible exact t1) | (with_reducible exact t2) | (with_reducible exact t3) | (with_reducible exact t4) | apply And.intro | (intro hx; exact absurd hp1 hx) | (intro hx; exact absurd hx (by decide)) | (intro hx; exact absurd (by decide) hx) | decide | intro hx | (refine Exists.intro _ (And.intro rfl ?_)) | (refine Exists.intro _ (Exists.intro _ (And.intro rfl (And.intro rfl ?_)))))
    all_goals try first | (with_reducible change am_tI _ _) | (change Ret _ _) | (change Ret _ _ _) | (change Exists _)
    all_goals try dsimp only at *
    all_goals try exact absurd ‹(1000 : Int64) = 0› (by decide)
    all_goals first
      | exact ⟨i1, i2, rfl⟩
      | exact am_rJ h (by decide)
      | exact h
  · exact h.elim
