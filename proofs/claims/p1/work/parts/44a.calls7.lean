/-! p1: book, tried, count, digest of a new object -/
theorem wd_122 : Cond.fieldLink "LearnLoans$People" 45 "LearnLoans$People" "size" "I" ∈ am_ws := am_wsi (List.mem_of_getElem? (i := 122) (by decide +kernel)) (by decide +kernel)
theorem wd_878 : Cond.constantLong "LearnLoans$People" 49 31 ∈ am_ws := am_wsi (List.mem_of_getElem? (i := 878) (by decide +kernel)) (by decide +kernel)
theorem dX2_mixed_0 : decode cX2_mixed 0 = .ok (.iconst 0, 1) := by decide +kernel
theorem dX2_mixed_1 : decode cX2_mixed 1 = .ok (.istore_n 3, 1) := by decide +kernel
theorem dX2_mixed_2 : decode cX2_mixed 2 = .ok (.iload_n 3, 1) := by decide +kernel
theorem dX2_mixed_3 : decode cX2_mixed 3 = .ok (.aload_n 0, 1) := by decide +kernel
theorem dX2_mixed_4 : decode cX2_mixed 4 = .ok (.getfield 45, 3) := by decide +kernel
theorem dX2_mixed_7 : decode cX2_mixed 7 = .ok (.if_icmp .ge 79, 3) := by decide +kernel
theorem dX2_mixed_10 : decode cX2_mixed 10 = .ok (.iload_n 3, 1) := by decide +kernel
theorem dX2_mixed_11 : decode cX2_mixed 11 = .ok (.bipush 12, 2) := by decide +kernel
theorem dX2_mixed_13 : decode cX2_mixed 13 = .ok (.if_icmp .ge 73, 3) := by decide +kernel
theorem dX2_mixed_16 : decode cX2_mixed 16 = .ok (.ldc2_w 49, 3) := by decide +kernel
theorem dX2_mixed_19 : decode cX2_mixed 19 = .ok (.lload_n 1, 1) := by decide +kernel
theorem dX2_mixed_20 : decode cX2_mixed 20 = .ok (.lmul, 1) := by decide +kernel
theorem dX2_mixed_21 : decode cX2_mixed 21 = .ok (.aload_n 0, 1) := by decide +kernel
theorem dX2_mixed_22 : decode cX2_mixed 22 = .ok (.getfield 9, 3) := by decide +kernel
theorem dX2_mixed_25 : decode cX2_mixed 25 = .ok (.iload_n 3, 1) := by decide +kernel
theorem dX2_mixed_26 : decode cX2_mixed 26 = .ok (.iaload, 1) := by decide +kernel
theorem dX2_mixed_27 : decode cX2_mixed 27 = .ok (.i2l, 1) := by decide +kernel
theorem dX2_mixed_28 : decode cX2_mixed 28 = .ok (.ladd, 1) := by decide +kernel
theorem dX2_mixed_29 : decode cX2_mixed 29 = .ok (.lstore_n 1, 1) := by decide +kernel
theorem dX2_mixed_30 : decode cX2_mixed 30 = .ok (.ldc2_w 49, 3) := by decide +kernel
theorem dX2_mixed_33 : decode cX2_mixed 33 = .ok (.lload_n 1, 1) := by decide +kernel
theorem dX2_mixed_34 : decode cX2_mixed 34 = .ok (.lmul, 1) := by decide +kernel
theorem dX2_mixed_35 : decode cX2_mixed 35 = .ok (.aload_n 0, 1) := by decide +kernel
theorem dX2_mixed_36 : decode cX2_mixed 36 = .ok (.getfield 15, 3) := by decide +kernel
theorem dX2_mixed_39 : decode cX2_mixed 39 = .ok (.iload_n 3, 1) := by decide +kernel
theorem dX2_mixed_40 : decode cX2_mixed 40 = .ok (.iaload, 1) := by decide +kernel
theorem dX2_mixed_41 : decode cX2_mixed 41 = .ok (.i2l, 1) := by decide +kernel
theorem dX2_mixed_42 : decode cX2_mixed 42 = .ok (.ladd, 1) := by decide +kernel
theorem dX2_mixed_43 : decode cX2_mixed 43 = .ok (.lstore_n 1, 1) := by decide +kernel
theorem dX2_mixed_44 : decode cX2_mixed 44 = .ok (.iconst 0, 1) := by decide +kernel
theorem dX2_mixed_45 : decode cX2_mixed 45 = .ok (.istore 4, 2) := by decide +kernel
theorem dX2_mixed_47 : decode cX2_mixed 47 = .ok (.iload 4, 2) := by decide +kernel
theorem dX2_mixed_49 : decode cX2_mixed 49 = .ok (.bipush 40, 2) := by decide +kernel
theorem dX2_mixed_51 : decode cX2_mixed 51 = .ok (.if_icmp .ge 29, 3) := by decide +kernel
theorem dX2_mixed_54 : decode cX2_mixed 54 = .ok (.ldc2_w 49, 3) := by decide +kernel
theorem dX2_mixed_57 : decode cX2_mixed 57 = .ok (.lload_n 1, 1) := by decide +kernel
theorem dX2_mixed_58 : decode cX2_mixed 58 = .ok (.lmul, 1) := by decide +kernel
theorem dX2_mixed_59 : decode cX2_mixed 59 = .ok (.aload_n 0, 1) := by decide +kernel
theorem dX2_mixed_60 : decode cX2_mixed 60 = .ok (.getfield 18, 3) := by decide +kernel
theorem dX2_mixed_63 : decode cX2_mixed 63 = .ok (.iload_n 3, 1) := by decide +kernel
theorem dX2_mixed_64 : decode cX2_mixed 64 = .ok (.bipush 40, 2) := by decide +kernel
theorem dX2_mixed_66 : decode cX2_mixed 66 = .ok (.imul, 1) := by decide +kernel
theorem dX2_mixed_67 : decode cX2_mixed 67 = .ok (.iload 4, 2) := by decide +kernel
theorem dX2_mixed_69 : decode cX2_mixed 69 = .ok (.iadd, 1) := by decide +kernel
theorem dX2_mixed_70 : decode cX2_mixed 70 = .ok (.iaload, 1) := by decide +kernel
theorem dX2_mixed_71 : decode cX2_mixed 71 = .ok (.i2l, 1) := by decide +kernel
theorem dX2_mixed_72 : decode cX2_mixed 72 = .ok (.ladd, 1) := by decide +kernel
theorem dX2_mixed_73 : decode cX2_mixed 73 = .ok (.lstore_n 1, 1) := by decide +kernel
theorem dX2_mixed_74 : decode cX2_mixed 74 = .ok (.iinc 4 1, 3) := by decide +kernel
theorem dX2_mixed_77 : decode cX2_mixed 77 = .ok (.goto (-30), 3) := by decide +kernel
theorem dX2_mixed_80 : decode cX2_mixed 80 = .ok (.iinc 3 1, 3) := by decide +kernel
theorem dX2_mixed_83 : decode cX2_mixed 83 = .ok (.goto (-81), 3) := by decide +kernel
theorem dX2_mixed_86 : decode cX2_mixed 86 = .ok (.lload_n 1, 1) := by decide +kernel
theorem dX2_mixed_87 : decode cX2_mixed 87 = .ok (.lreturn, 1) := by decide +kernel
def kX2_mixed (live : am_E) (Ret : am_R) : am_code := [(0, am_const (.int 0) 1), (1, am_istore 3 5 2), (2, am_iload 3 3), (3, am_aload 0 4), (4, am_getI live 2 7 7), (7, am_if2 (fun x y => y ≤ x) 86 10), (10, am_iload 3 11), (11, am_const (.int 12) 13), (13, am_if2 (fun x y => y ≤ x) 86 16), (16, am_const (.long 31) 19), (19, am_lload 1 20), (20, am_l2 (fun x y => x * y) 21), (21, am_aload 0 22), (22, am_getR live 2 0 25), (25, am_iload 3 26), (26, am_ald live 0 27), (27, am_i2l 28), (28, am_l2 (fun x y => x + y) 29), (29, am_lstore 1 5 30), (30, am_const (.long 31) 33), (33, am_lload 1 34), (34, am_l2 (fun x y => x * y) 35), (35, am_aload 0 36), (36, am_getR live 2 1 39), (39, am_iload 3 40), (40, am_ald live 0 41), (41, am_i2l 42), (42, am_l2 (fun x y => x + y) 43), (43, am_lstore 1 5 44), (44, am_const (.int 0) 45), (45, am_istore 4 5 47), (47, am_iload 4 49), (49, am_const (.int 40) 51), (51, am_if2 (fun x y => y ≤ x) 80 54), (54, am_const (.long 31) 57), (57, am_lload 1 58), (58, am_l2 (fun x y => x * y) 59), (59, am_aload 0 60), (60, am_getR live 2 2 63), (63, am_iload 3 64), (64, am_const (.int 40) 66), (66, am_i2 (fun x y => x * y) 67), (67, am_iload 4 69), (69, am_i2 (fun x y => x + y) 70), (70, am_ald live 0 71), (71, am_i2l 72), (72, am_l2 (fun x y => x + y) 73), (73, am_lstore 1 5 74), (74, am_iinc 4 5 1 77), (77, am_goto 47), (80, am_iinc 3 5 1 83), (83, am_goto 2), (86, am_lload 1 87), (87, am_retL Ret)]
theorem koX2_mixed (live : am_E) (Ret : am_R) : ∀ q ∈ kX2_mixed live Ret, am_ok RX2 cX2_mixed 5 (some .long) 0 0 live Ret q.1 q.2 :=
  am_kc (ak_iconst dX2_mixed_0 (by decide +kernel) rfl) <|
  am_kc (ak_istore_n dX2_mixed_1 rfl rfl) <|
  am_kc (ak_iload_n dX2_mixed_2 rfl rfl) <|
  am_kc (ak_aload_n dX2_mixed_3 rfl rfl) <|
  am_kc (ak_getI (C := RX2) (T := TX2) (N := 8) rfl inX2w (by decide) rfl rfl rfl wd_122 dX2_mixed_4 rfl) <|
  am_kc (ak_icmp_ge dX2_mixed_7 (by decide +kernel) rfl) <|
  am_kc (ak_iload_n dX2_mixed_10 rfl rfl) <|
  am_kc (ak_bipush dX2_mixed_11 (by decide +kernel) rfl) <|
  am_kc (ak_icmp_ge dX2_mixed_13 (by decide +kernel) rfl) <|
  am_kc (ak_ldc2 wd_878 dX2_mixed_16 rfl) <|
  am_kc (ak_lload_n dX2_mixed_19 rfl rfl) <|
  am_kc (ak_lmul dX2_mixed_20 rfl) <|
  am_kc (ak_aload_n dX2_mixed_21 rfl rfl) <|
  am_kc (ak_getR (C := RX2) (T := TX2) (N := 8) rfl inX2w (by decide) rfl rfl rfl wd_105 dX2_mixed_22 rfl) <|
  am_kc (ak_iload_n dX2_mixed_25 rfl rfl) <|
  am_kc (ak_iald (t := 0) (fun _ => rfl) rfl dX2_mixed_26 rfl) <|
  am_kc (ak_i2l dX2_mixed_27 rfl) <|
  am_kc (ak_ladd dX2_mixed_28 rfl) <|
  am_kc (ak_lstore_n dX2_mixed_29 rfl rfl) <|
  am_kc (ak_ldc2 wd_878 dX2_mixed_30 rfl) <|
  am_kc (ak_lload_n dX2_mixed_33 rfl rfl) <|
  am_kc (ak_lmul dX2_mixed_34 rfl) <|
  am_kc (ak_aload_n dX2_mixed_35 rfl rfl) <|
  am_kc (ak_getR (C := RX2) (T := TX2) (N := 8) rfl inX2w (by decide) rfl rfl rfl wd_108 dX2_mixed_36 rfl) <|
  am_kc (ak_iload_n dX2_mixed_39 rfl rfl) <|
  am_kc (ak_iald (t := 0) (fun _ => rfl) rfl dX2_mixed_40 rfl) <|
  am_kc (ak_i2l dX2_mixed_41 rfl) <|
  am_kc (ak_ladd dX2_mixed_42 rfl) <|
  am_kc (ak_lstore_n dX2_mixed_43 rfl rfl) <|
  am_kc (ak_iconst dX2_mixed_44 (by decide +kernel) rfl) <|
  am_kc (ak_istore dX2_mixed_45 rfl) <|
  am_kc (ak_iload dX2_mixed_47 rfl) <|
  am_kc (ak_bipush dX2_mixed_49 (by decide +kernel) rfl) <|
  am_kc (ak_icmp_ge dX2_mixed_51 (by decide +kernel) rfl) <|
  am_kc (ak_ldc2 wd_878 dX2_mixed_54 rfl) <|
  am_kc (ak_lload_n dX2_mixed_57 rfl rfl) <|
  am_kc (ak_lmul dX2_mixed_58 rfl) <|
  am_kc (ak_aload_n dX2_mixed_59 rfl rfl) <|
  am_kc (ak_getR (C := RX2) (T := TX2) (N := 8) rfl inX2w (by decide) rfl rfl rfl wd_110 dX2_mixed_60 rfl) <|
  am_kc (ak_iload_n dX2_mixed_63 rfl rfl) <|
  am_kc (ak_bipush dX2_mixed_64 (by decide +kernel) rfl) <|
  am_kc (ak_imul dX2_mixed_66 rfl) <|
  am_kc (ak_iload dX2_mixed_67 rfl) <|
  am_kc (ak_iadd dX2_mixed_69 rfl) <|
  am_kc (ak_iald (t := 0) (fun _ => rfl) rfl dX2_mixed_70 rfl) <|
  am_kc (ak_i2l dX2_mixed_71 rfl) <|
  am_kc (ak_ladd dX2_mixed_72 rfl) <|
  am_kc (ak_lstore_n dX2_mixed_73 rfl rfl) <|
  am_kc (ak_iinc dX2_mixed_74 (by decide +kernel) rfl) <|
  am_kc (ak_goto dX2_mixed_77 (by decide +kernel)) <|
  am_kc (ak_iinc dX2_mixed_80 (by decide +kernel) rfl) <|
  am_kc (ak_goto dX2_mixed_83 (by decide +kernel)) <|
  am_kc (ak_lload_n dX2_mixed_86 rfl rfl) <|
  am_kc (ak_retL dX2_mixed_87) <| am_kn
def TX2_mixed : am_T := fun live as M R => match as with
  | [.ref n, .long x] => am_mn live ∧ n = 21 ∧ M.1 21 7 = 0 ∧ R (some (.long x)) M
  | _ => False
set_option maxRecDepth 100000 in
set_option maxHeartbeats 4000000 in
theorem metX2_mixed : am_Met yX2_mixed cX2_mixed 5 (some .long) (0) (0) TX2_mixed := by
  refine am_met (own := RX2) (by decide +kernel) rfl kX2_mixed koX2_mixed 100 (fun _ _ _ _ _ => none) (fun live as M Ret h => ?_) (fun _ _ _ _ _ _ _ _ hI => by cases hI)
  unfold TX2_mixed at h
  split at h
  · next n x =>
    refine ⟨Nat.le_of_ble_eq_true rfl, ?_⟩
    change am_wp _ _ _ _ [(0, Value.ref n), (1, Value.long x)] _ _
    obtain ⟨⟨i1, i2, rfl⟩, rfl, hs, h⟩ := h
    have hp : M.1 21 7 ≤ 0 := by rw [hs]; decide
    repeat' (first | apply And.intro | exact rfl | (intro hx; with_reducible exact absurd hp hx) | intro hx | (refine Exists.intro _ (And.intro rfl ?_)))
    all_goals try first | (with_reducible change am_tI _ _) | (change Ret _ _) | (change Ret _ _ _) | (change Exists _)
    all_goals try dsimp only at *
    all_goals try exact absurd ‹(1000 : Int64) = 0› (by decide)
    all_goals exact h
  · exact h.elim
