theorem wd_743 : Cond.methodLink "LearnLoans" 193 yX7_runEverybody ∈ am_ws := am_wsi (List.mem_of_getElem? (i := 743) (by decide +kernel)) (by decide +kernel)
theorem wd_745 : Cond.instanceMethod yX7_runEverybody ∈ am_ws := am_wsi (List.mem_of_getElem? (i := 745) (by decide +kernel)) (by decide +kernel)
theorem wd_23 : Cond.selects "LearnLoans" yX7_runEverybody yX7_runEverybody ∈ am_ws := am_wsi (List.mem_of_getElem? (i := 23) (by decide +kernel)) (by decide +kernel)
theorem wd_746 : Cond.code yX7_runEverybody cX7_runEverybody 4 none ∈ am_ws := am_wsi (List.mem_of_getElem? (i := 746) (by decide +kernel)) (by decide +kernel)
theorem wd_747 : Cond.methodLink "LearnLoans" 196 yX0_promised ∈ am_ws := am_wsi (List.mem_of_getElem? (i := 747) (by decide +kernel)) (by decide +kernel)
theorem wd_748 : Cond.instanceMethod yX0_promised ∈ am_ws := am_wsi (List.mem_of_getElem? (i := 748) (by decide +kernel)) (by decide +kernel)
theorem wd_749 : Cond.selects "LearnLoans$House" yX0_promised yX0_promised ∈ am_ws := am_wsi (List.mem_of_getElem? (i := 749) (by decide +kernel)) (by decide +kernel)
theorem wd_750 : Cond.code yX0_promised cX0_promised 6 (some .long) ∈ am_ws := am_wsi (List.mem_of_getElem? (i := 750) (by decide +kernel)) (by decide +kernel)
theorem wd_751 : Cond.methodLink "LearnLoans" 200 Lib.MathLoose.max_long.x ∈ am_ws := am_wsi (List.mem_of_getElem? (i := 751) (by decide +kernel)) (by decide +kernel)
theorem wd_611 : Cond.static Lib.MathLoose.max_long.x ∈ am_ws := am_wsi (List.mem_of_getElem? (i := 611) (by decide +kernel)) (by decide +kernel)
theorem wd_612 : Cond.code Lib.MathLoose.max_long.x Lib.MathLoose.max_long.code 4 (some .long) ∈ am_ws := am_wsi (List.mem_of_getElem? (i := 612) (by decide +kernel)) (by decide +kernel)
theorem dX7_book_0 : decode cX7_book 0 = .ok (.iload_n 1, 1) := by decide +kernel
theorem dX7_book_1 : decode cX7_book 1 = .ok (.iconst 0, 1) := by decide +kernel
theorem dX7_book_2 : decode cX7_book 2 = .ok (.iconst 3, 1) := by decide +kernel
theorem dX7_book_3 : decode cX7_book 3 = .ok (.invokestatic 55, 3) := by decide +kernel
theorem dX7_book_6 : decode cX7_book 6 = .ok (.ifCond .eq 27, 3) := by decide +kernel
theorem dX7_book_9 : decode cX7_book 9 = .ok (.iload_n 2, 1) := by decide +kernel
theorem dX7_book_10 : decode cX7_book 10 = .ok (.invokestatic 34, 3) := by decide +kernel
theorem dX7_book_13 : decode cX7_book 13 = .ok (.ifCond .eq 20, 3) := by decide +kernel
theorem dX7_book_16 : decode cX7_book 16 = .ok (.iload_n 3, 1) := by decide +kernel
theorem dX7_book_17 : decode cX7_book 17 = .ok (.invokestatic 34, 3) := by decide +kernel
theorem dX7_book_20 : decode cX7_book 20 = .ok (.ifCond .eq 13, 3) := by decide +kernel
theorem dX7_book_23 : decode cX7_book 23 = .ok (.iload 4, 2) := by decide +kernel
theorem dX7_book_25 : decode cX7_book 25 = .ok (.iconst 0, 1) := by decide +kernel
theorem dX7_book_26 : decode cX7_book 26 = .ok (.iconst 1, 1) := by decide +kernel
theorem dX7_book_27 : decode cX7_book 27 = .ok (.invokestatic 55, 3) := by decide +kernel
theorem dX7_book_30 : decode cX7_book 30 = .ok (.ifCond .ne 7, 3) := by decide +kernel
theorem dX7_book_33 : decode cX7_book 33 = .ok (.ldc2_w 149, 3) := by decide +kernel
theorem dX7_book_36 : decode cX7_book 36 = .ok (.lreturn, 1) := by decide +kernel
theorem dX7_book_37 : decode cX7_book 37 = .ok (.aload_n 0, 1) := by decide +kernel
theorem dX7_book_38 : decode cX7_book 38 = .ok (.iload_n 2, 1) := by decide +kernel
theorem dX7_book_39 : decode cX7_book 39 = .ok (.iload_n 3, 1) := by decide +kernel
theorem dX7_book_40 : decode cX7_book 40 = .ok (.invokevirtual 193, 3) := by decide +kernel
theorem dX7_book_43 : decode cX7_book 43 = .ok (.lconst 0, 1) := by decide +kernel
theorem dX7_book_44 : decode cX7_book 44 = .ok (.lstore 5, 2) := by decide +kernel
theorem dX7_book_46 : decode cX7_book 46 = .ok (.iconst 0, 1) := by decide +kernel
theorem dX7_book_47 : decode cX7_book 47 = .ok (.istore 7, 2) := by decide +kernel
theorem dX7_book_49 : decode cX7_book 49 = .ok (.iload 7, 2) := by decide +kernel
theorem dX7_book_51 : decode cX7_book 51 = .ok (.aload_n 0, 1) := by decide +kernel
theorem dX7_book_52 : decode cX7_book 52 = .ok (.getfield 27, 3) := by decide +kernel
theorem dX7_book_55 : decode cX7_book 55 = .ok (.getfield 122, 3) := by decide +kernel
theorem dX7_book_58 : decode cX7_book 58 = .ok (.getfield 108, 3) := by decide +kernel
theorem dX7_book_61 : decode cX7_book 61 = .ok (.if_icmp .ge 46, 3) := by decide +kernel
theorem dX7_book_64 : decode cX7_book 64 = .ok (.aload_n 0, 1) := by decide +kernel
theorem dX7_book_65 : decode cX7_book 65 = .ok (.getfield 27, 3) := by decide +kernel
theorem dX7_book_68 : decode cX7_book 68 = .ok (.getfield 122, 3) := by decide +kernel
theorem dX7_book_71 : decode cX7_book 71 = .ok (.iload 7, 2) := by decide +kernel
theorem dX7_book_73 : decode cX7_book 73 = .ok (.bipush 6, 2) := by decide +kernel
theorem dX7_book_75 : decode cX7_book 75 = .ok (.invokevirtual 138, 3) := by decide +kernel
theorem dX7_book_78 : decode cX7_book 78 = .ok (.iload_n 1, 1) := by decide +kernel
theorem dX7_book_79 : decode cX7_book 79 = .ok (.if_icmp .ne 22, 3) := by decide +kernel
theorem dX7_book_82 : decode cX7_book 82 = .ok (.lload 5, 2) := by decide +kernel
theorem dX7_book_84 : decode cX7_book 84 = .ok (.aload_n 0, 1) := by decide +kernel
theorem dX7_book_85 : decode cX7_book 85 = .ok (.getfield 20, 3) := by decide +kernel
theorem dX7_book_88 : decode cX7_book 88 = .ok (.getfield 158, 3) := by decide +kernel
theorem dX7_book_91 : decode cX7_book 91 = .ok (.sipush 150, 3) := by decide +kernel
theorem dX7_book_94 : decode cX7_book 94 = .ok (.iload 7, 2) := by decide +kernel
theorem dX7_book_96 : decode cX7_book 96 = .ok (.iadd, 1) := by decide +kernel
theorem dX7_book_97 : decode cX7_book 97 = .ok (.laload, 1) := by decide +kernel
theorem dX7_book_98 : decode cX7_book 98 = .ok (.ladd, 1) := by decide +kernel
theorem dX7_book_99 : decode cX7_book 99 = .ok (.lstore 5, 2) := by decide +kernel
theorem dX7_book_101 : decode cX7_book 101 = .ok (.iinc 7 1, 3) := by decide +kernel
theorem dX7_book_104 : decode cX7_book 104 = .ok (.goto (-55), 3) := by decide +kernel
theorem dX7_book_107 : decode cX7_book 107 = .ok (.iload 4, 2) := by decide +kernel
theorem dX7_book_109 : decode cX7_book 109 = .ok (.ifCond .ne 8, 3) := by decide +kernel
theorem dX7_book_112 : decode cX7_book 112 = .ok (.lload 5, 2) := by decide +kernel
theorem dX7_book_114 : decode cX7_book 114 = .ok (.goto 19, 3) := by decide +kernel
theorem dX7_book_117 : decode cX7_book 117 = .ok (.lconst 0, 1) := by decide +kernel
theorem dX7_book_118 : decode cX7_book 118 = .ok (.aload_n 0, 1) := by decide +kernel
theorem dX7_book_119 : decode cX7_book 119 = .ok (.getfield 27, 3) := by decide +kernel
theorem dX7_book_122 : decode cX7_book 122 = .ok (.iload_n 1, 1) := by decide +kernel
theorem dX7_book_123 : decode cX7_book 123 = .ok (.iload_n 2, 1) := by decide +kernel
theorem dX7_book_124 : decode cX7_book 124 = .ok (.invokevirtual 196, 3) := by decide +kernel
theorem dX7_book_127 : decode cX7_book 127 = .ok (.lload 5, 2) := by decide +kernel
theorem dX7_book_129 : decode cX7_book 129 = .ok (.lsub, 1) := by decide +kernel
theorem dX7_book_130 : decode cX7_book 130 = .ok (.invokestatic 200, 3) := by decide +kernel
theorem dX7_book_133 : decode cX7_book 133 = .ok (.lreturn, 1) := by decide +kernel
def kX7_book (live : am_E) (Ret : am_R) : am_code := [(0, am_iload 1 1), (1, am_const (.int 0) 2), (2, am_const (.int 3) 3), (3, am_callS live 3 TX7_within 6), (6, am_if1 (fun x => x = 0) 33 9), (9, am_iload 2 10), (10, am_callS live 1 TX7_isYear 13), (13, am_if1 (fun x => x = 0) 33 16), (16, am_iload 3 17), (17, am_callS live 1 TX7_isYear 20), (20, am_if1 (fun x => x = 0) 33 23), (23, am_iload 4 25), (25, am_const (.int 0) 26), (26, am_const (.int 1) 27), (27, am_callS live 3 TX7_within 30), (30, am_if1 (fun x => x = 0) 33 37), (33, am_const (.long (-2)) 36), (36, am_retL Ret), (37, am_aload 0 38), (38, am_iload 2 39), (39, am_iload 3 40), (40, am_callV live 7 2 TX7_runEverybody 43), (43, am_const (.long 0) 44), (44, am_lstore 5 8 46), (46, am_const (.int 0) 47), (47, am_istore 7 8 49), (49, am_iload 7 51), (51, am_aload 0 52), (52, am_getR live 7 0 55), (55, am_getR live 0 4 58), (58, am_getI live 3 2 61), (61, am_if2 (fun x y => y ≤ x) 107 64), (64, am_aload 0 65), (65, am_getR live 7 0 68), (68, am_getR live 0 4 71), (71, am_iload 7 73), (73, am_const (.int 6) 75), (75, am_callV live 3 2 TX3_at 78), (78, am_iload 1 79), (79, am_if2 (fun x y => x = y) 82 101), (82, am_lload 5 84), (84, am_aload 0 85), (85, am_getR live 7 2 88), (88, am_getR live 4 2 91), (91, am_const (.int 150) 94), (94, am_iload 7 96), (96, am_i2 (fun x y => x + y) 97), (97, am_lald live 1 98), (98, am_l2 (fun x y => x + y) 99), (99, am_lstore 5 8 101), (101, am_iinc 7 8 1 104), (104, am_goto 49), (107, am_iload 4 109), (109, am_if1 (fun x => x = 0) 112 117), (112, am_lload 5 114), (114, am_goto 133), (117, am_const (.long 0) 118), (118, am_aload 0 119), (119, am_getR live 7 0 122), (122, am_iload 1 123), (123, am_iload 2 124), (124, am_callV live 0 2 TX0_promised0 127), (127, am_lload 5 129), (129, am_l2 (fun x y => x - y) 130), (130, am_mathl (fun x y => if y < x then x else y) 200 133), (133, am_retL Ret)]
theorem koX7_book (live : am_E) (Ret : am_R) : ∀ q ∈ kX7_book live Ret, am_ok RX7 cX7_book 8 (some .long) 3 200 live Ret q.1 q.2 :=
  am_kc (ak_iload_n dX7_book_0 rfl rfl) <|
  am_kc (ak_iconst dX7_book_1 (by decide +kernel) rfl) <|
  am_kc (ak_iconst dX7_book_2 (by decide +kernel) rfl) <|
  am_kc (ak_callS metX7_within ⟨rfl, by decide +kernel, by decide +kernel, by decide +kernel⟩ (am_w4 wd_418 wd_419 wd_58 wd_420) (by decide) dX7_book_3 rfl) <|
  am_kc (ak_if_eq dX7_book_6 (by decide +kernel) rfl) <|
  am_kc (ak_iload_n dX7_book_9 rfl rfl) <|
  am_kc (ak_callS metX7_isYear ⟨rfl, by decide +kernel, by decide +kernel, by decide +kernel⟩ (am_w4 wd_407 wd_408 wd_58 wd_409) (by decide) dX7_book_10 rfl) <|
  am_kc (ak_if_eq dX7_book_13 (by decide +kernel) rfl) <|
  am_kc (ak_iload_n dX7_book_16 rfl rfl) <|
  am_kc (ak_callS metX7_isYear ⟨rfl, by decide +kernel, by decide +kernel, by decide +kernel⟩ (am_w4 wd_407 wd_408 wd_58 wd_409) (by decide) dX7_book_17 rfl) <|
  am_kc (ak_if_eq dX7_book_20 (by decide +kernel) rfl) <|
  am_kc (ak_iload dX7_book_23 rfl) <|
  am_kc (ak_iconst dX7_book_25 (by decide +kernel) rfl) <|
  am_kc (ak_iconst dX7_book_26 (by decide +kernel) rfl) <|
  am_kc (ak_callS metX7_within ⟨rfl, by decide +kernel, by decide +kernel, by decide +kernel⟩ (am_w4 wd_418 wd_419 wd_58 wd_420) (by decide) dX7_book_27 rfl) <|
  am_kc (ak_if_ne dX7_book_30 (by decide +kernel) rfl) <|
  am_kc (ak_ldc2 wd_545 dX7_book_33 rfl) <|
  am_kc (ak_retL dX7_book_36) <|
  am_kc (ak_aload_n dX7_book_37 rfl rfl) <|
  am_kc (ak_iload_n dX7_book_38 rfl rfl) <|
  am_kc (ak_iload_n dX7_book_39 rfl rfl) <|
  am_kc (ak_callV (C := RX7) (F := TX7) (N := 4) metX7_runEverybody rfl ⟨rfl, by decide +kernel, by decide +kernel, by decide +kernel⟩ (am_w5 wd_743 wd_745 wd_23 wd_58 wd_746) (by decide) dX7_book_40 rfl) <|
  am_kc (ak_lconst dX7_book_43 (by decide +kernel) rfl) <|
  am_kc (ak_lstore dX7_book_44 rfl) <|
  am_kc (ak_iconst dX7_book_46 (by decide +kernel) rfl) <|
  am_kc (ak_istore dX7_book_47 rfl) <|
  am_kc (ak_iload dX7_book_49 rfl) <|
  am_kc (ak_aload_n dX7_book_51 rfl rfl) <|
  am_kc (ak_getR (C := RX7) (T := TX7) (N := 4) rfl inX7w (by decide) rfl rfl rfl wd_390 dX7_book_52 rfl) <|
  am_kc (ak_getR (C := RX0) (T := TX0) (N := 13) rfl inX0w (by decide) rfl rfl rfl wd_207 dX7_book_55 rfl) <|
  am_kc (ak_getI (C := RX3) (T := TX3) (N := 3) rfl inX3w (by decide) rfl rfl rfl wd_152 dX7_book_58 rfl) <|
  am_kc (ak_icmp_ge dX7_book_61 (by decide +kernel) rfl) <|
  am_kc (ak_aload_n dX7_book_64 rfl rfl) <|
  am_kc (ak_getR (C := RX7) (T := TX7) (N := 4) rfl inX7w (by decide) rfl rfl rfl wd_390 dX7_book_65 rfl) <|
  am_kc (ak_getR (C := RX0) (T := TX0) (N := 13) rfl inX0w (by decide) rfl rfl rfl wd_207 dX7_book_68 rfl) <|
  am_kc (ak_iload dX7_book_71 rfl) <|
  am_kc (ak_bipush dX7_book_73 (by decide +kernel) rfl) <|
  am_kc (ak_callV (C := RX3) (F := TX3) (N := 3) metX3_at rfl ⟨rfl, by decide +kernel, by decide +kernel, by decide +kernel⟩ (am_w5 wd_524 wd_503 wd_504 wd_64 wd_505) (by decide) dX7_book_75 rfl) <|
  am_kc (ak_iload_n dX7_book_78 rfl rfl) <|
  am_kc (ak_icmp_ne dX7_book_79 (by decide +kernel) rfl) <|
  am_kc (ak_lload dX7_book_82 rfl) <|
  am_kc (ak_aload_n dX7_book_84 rfl rfl) <|
  am_kc (ak_getR (C := RX7) (T := TX7) (N := 4) rfl inX7w (by decide) rfl rfl rfl wd_392 dX7_book_85 rfl) <|
  am_kc (ak_getR (C := RX4) (T := TX4) (N := 19) rfl inX4w (by decide) rfl rfl rfl wd_298 dX7_book_88 rfl) <|
  am_kc (ak_sipush dX7_book_91 (by decide +kernel) rfl) <|
  am_kc (ak_iload dX7_book_94 rfl) <|
  am_kc (ak_iadd dX7_book_96 rfl) <|
  am_kc (ak_lald (t := 1) (fun _ => rfl) rfl dX7_book_97 rfl) <|
  am_kc (ak_ladd dX7_book_98 rfl) <|
  am_kc (ak_lstore dX7_book_99 rfl) <|
  am_kc (ak_iinc dX7_book_101 (by decide +kernel) rfl) <|
  am_kc (ak_goto dX7_book_104 (by decide +kernel)) <|
  am_kc (ak_iload dX7_book_107 rfl) <|
  am_kc (ak_if_ne dX7_book_109 (by decide +kernel) rfl) <|
  am_kc (ak_lload dX7_book_112 rfl) <|
  am_kc (ak_goto dX7_book_114 (by decide +kernel)) <|
  am_kc (ak_lconst dX7_book_117 (by decide +kernel) rfl) <|
  am_kc (ak_aload_n dX7_book_118 rfl rfl) <|
  am_kc (ak_getR (C := RX7) (T := TX7) (N := 4) rfl inX7w (by decide) rfl rfl rfl wd_390 dX7_book_119 rfl) <|
  am_kc (ak_iload_n dX7_book_122 rfl rfl) <|
  am_kc (ak_iload_n dX7_book_123 rfl rfl) <|
  am_kc (ak_callV (C := RX0) (F := TX0) (N := 13) metX0_promised0 rfl ⟨rfl, by decide +kernel, by decide +kernel, by decide +kernel⟩ (am_w5 wd_747 wd_748 wd_749 wd_61 wd_750) (by decide) dX7_book_124 rfl) <|
  am_kc (ak_lload dX7_book_127 rfl) <|
  am_kc (ak_lsub dX7_book_129 rfl) <|
  am_kc (ak_lmax (am_w4 wd_751 wd_611 wd_68 wd_612) (by decide) dX7_book_130 rfl) <|
  am_kc (ak_retL dX7_book_133) <| am_kn
def TX7_book : am_T := fun live as M R => match as with
  | [.ref n, .int b, .int y, .int k, .int w] => am_mn live ∧ n = 0 ∧ am_F7 M ∧ ∀ M', am_ch am_lo M M' → R (some (.long (a_book b y k w))) M'
  | _ => False
set_option maxRecDepth 100000 in
set_option maxHeartbeats 4000000 in
theorem metX7_book : am_Met yX7_book cX7_book 8 (some .long) (3) (200) TX7_book := by
  refine am_met (own := RX7) (by decide +kernel) rfl kX7_book koX7_book 300 (fun _ _ _ _ _ => none) (fun live as M Ret h => ?_) (fun _ _ _ _ _ _ _ _ hI => by cases hI)
  unfold TX7_book at h
  split at h
  · next n b y k w =>
    refine ⟨Nat.le_of_ble_eq_true rfl, ?_⟩
    change am_wp _ _ _ _ [(0, Value.ref n), (1, Value.int b), (2, Value.int y), (3, Value.int k), (4, Value.int w)] _ _
    obtain ⟨⟨i1, i2, rfl⟩, rfl, hF, h⟩ := h
    obtain ⟨s1, s2, s3, s4, s5, s6, s7, s8, s9, w1, w2, w3, w4⟩ := hF
    have hp1 : M.1 33 2 ≤ 0 := by rw [s2]; decide
    by_cases hc : (0 ≤ b ∧ b ≤ 3) ∧ (0 ≤ y ∧ y < 40) ∧ (0 ≤ k ∧ k < 40) ∧ (0 ≤ w ∧ w ≤ 1)
    ·
      have hn0 : ¬ (if (0 ≤ b ∧ b ≤ 3) then (1 : Int32) else 0) = 0 := by rw [if_pos hc.1]; decide
      have hn1 : ¬ (if (0 ≤ y ∧ y < 40) then (1 : Int32) else 0) = 0 := by rw [if_pos hc.2.1]; decide
      have hn2 : ¬ (if (0 ≤ k ∧ k < 40) then (1 : Int32) else 0) = 0 := by rw [if_pos hc.2.2.1]; decide
      have hn3 : ¬ (if (0 ≤ w ∧ w ≤ 1) then (1 : Int32) else 0) = 0 := by rw [if_pos hc.2.2.2]; decide
      have e : a_book b y k w = _ := if_pos hc
      rw [e] at h
      repeat' (first | apply And.intro | exact rfl | (intro hx; with_reducible exact absurd hx hn0) | (intro hx; with_reducible exact absurd hx hn1) | (intro hx; with_reducible exact absurd hx hn2) | (intro hx; with_reducible exact absurd hx hn3) | (intro hx; with_reducible exact absurd hp1 hx) | intro hx | (refine Exists.intro _ (And.intro rfl ?_)))
      all_goals try first | (with_reducible change am_tI _ _) | (change Ret _ _) | (change Ret _ _ _) | (change Exists _)
      all_goals try dsimp only at *
      all_goals try exact absurd ‹(1000 : Int64) = 0› (by decide)
      all_goals first
        | exact h _ am_ch.rf
        | exact am_rJ (h _ am_ch.rf) (by first | rfl | (simp only [s1, s2, s3, s4, s5, s6]; done) | exact s1.symm | exact s3.symm | exact s5.symm | exact s6.symm)
        | exact ⟨i1, i2, rfl⟩
        | exact s1
        | exact s5
        | (clear h; decide)
        | (clear h; omega)
    ·
      have e : a_book b y k w = _ := if_neg hc
      rw [e] at h
      repeat' (first | apply And.intro | exact rfl | (intro hx; with_reducible exact absurd hp1 hx) | intro hx | (refine Exists.intro _ (And.intro rfl ?_)))
      all_goals try first | (with_reducible change am_tI _ _) | (change Ret _ _) | (change Ret _ _ _) | (change Exists _)
      all_goals try dsimp only at *
      all_goals try exact absurd ‹(1000 : Int64) = 0› (by decide)
      all_goals first
        | exact h _ am_ch.rf
        | exact ⟨i1, i2, rfl⟩
        | exact s1
        | exact s5
        | (exfalso; clear h e; refine hc ?_; simp only [am_b0, Classical.not_not, am_isNum, am_isN] at *; first | (simp only [*, and_self, true_and]; done) | (simp only [*, and_self, true_and]; decide))
  · exact h.elim
