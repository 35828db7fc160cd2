/-! Ways: what is safe of them -/
set_option maxRecDepth 100000 in
theorem wd_361 : Cond.fieldLink "LearnLoans$Ways" 32 "LearnLoans$Ways" "mean" "J" ∈ am_ws := am_wsi (List.mem_of_getElem? (i := 361) (by rfl)) (by decide +kernel)
set_option maxRecDepth 100000 in
theorem wd_367 : Cond.fieldLink "LearnLoans$Ways" 36 "LearnLoans$Ways" "neve\x72" "J" ∈ am_ws := am_wsi (List.mem_of_getElem? (i := 367) (by rfl)) (by decide +kernel)
set_option maxRecDepth 100000 in
theorem wd_363 : Cond.fieldLink "LearnLoans$Ways" 41 "LearnLoans$Ways" "least" "J" ∈ am_ws := am_wsi (List.mem_of_getElem? (i := 363) (by rfl)) (by decide +kernel)
set_option maxRecDepth 100000 in
theorem wd_798 : Cond.methodLink "LearnLoans$Ways" 93 Lib.MathLoose.min_long.x ∈ am_ws := am_wsi (List.mem_of_getElem? (i := 798) (by rfl)) (by decide +kernel)
set_option maxRecDepth 100000 in
theorem wd_365 : Cond.fieldLink "LearnLoans$Ways" 44 "LearnLoans$Ways" "greatest" "J" ∈ am_ws := am_wsi (List.mem_of_getElem? (i := 365) (by rfl)) (by decide +kernel)
set_option maxRecDepth 100000 in
theorem wd_799 : Cond.methodLink "LearnLoans$Ways" 99 Lib.MathLoose.max_long.x ∈ am_ws := am_wsi (List.mem_of_getElem? (i := 799) (by rfl)) (by decide +kernel)
theorem dX6_end_0 : decode cX6_end 0 = .ok (.aload_n 0, 1) := by decide +kernel
theorem dX6_end_1 : decode cX6_end 1 = .ok (.dup, 1) := by decide +kernel
theorem dX6_end_2 : decode cX6_end 2 = .ok (.getfield 32, 3) := by decide +kernel
theorem dX6_end_5 : decode cX6_end 5 = .ok (.lload_n 1, 1) := by decide +kernel
theorem dX6_end_6 : decode cX6_end 6 = .ok (.lload_n 3, 1) := by decide +kernel
theorem dX6_end_7 : decode cX6_end 7 = .ok (.lmul, 1) := by decide +kernel
theorem dX6_end_8 : decode cX6_end 8 = .ok (.ladd, 1) := by decide +kernel
theorem dX6_end_9 : decode cX6_end 9 = .ok (.putfield 32, 3) := by decide +kernel
theorem dX6_end_12 : decode cX6_end 12 = .ok (.aload_n 0, 1) := by decide +kernel
theorem dX6_end_13 : decode cX6_end 13 = .ok (.dup, 1) := by decide +kernel
theorem dX6_end_14 : decode cX6_end 14 = .ok (.getfield 36, 3) := by decide +kernel
theorem dX6_end_17 : decode cX6_end 17 = .ok (.lload_n 1, 1) := by decide +kernel
theorem dX6_end_18 : decode cX6_end 18 = .ok (.lload 5, 2) := by decide +kernel
theorem dX6_end_20 : decode cX6_end 20 = .ok (.lmul, 1) := by decide +kernel
theorem dX6_end_21 : decode cX6_end 21 = .ok (.ladd, 1) := by decide +kernel
theorem dX6_end_22 : decode cX6_end 22 = .ok (.putfield 36, 3) := by decide +kernel
theorem dX6_end_25 : decode cX6_end 25 = .ok (.aload_n 0, 1) := by decide +kernel
theorem dX6_end_26 : decode cX6_end 26 = .ok (.aload_n 0, 1) := by decide +kernel
theorem dX6_end_27 : decode cX6_end 27 = .ok (.getfield 41, 3) := by decide +kernel
theorem dX6_end_30 : decode cX6_end 30 = .ok (.lload_n 3, 1) := by decide +kernel
theorem dX6_end_31 : decode cX6_end 31 = .ok (.invokestatic 93, 3) := by decide +kernel
theorem dX6_end_34 : decode cX6_end 34 = .ok (.putfield 41, 3) := by decide +kernel
theorem dX6_end_37 : decode cX6_end 37 = .ok (.aload_n 0, 1) := by decide +kernel
theorem dX6_end_38 : decode cX6_end 38 = .ok (.aload_n 0, 1) := by decide +kernel
theorem dX6_end_39 : decode cX6_end 39 = .ok (.getfield 44, 3) := by decide +kernel
theorem dX6_end_42 : decode cX6_end 42 = .ok (.lload_n 3, 1) := by decide +kernel
theorem dX6_end_43 : decode cX6_end 43 = .ok (.invokestatic 99, 3) := by decide +kernel
theorem dX6_end_46 : decode cX6_end 46 = .ok (.putfield 44, 3) := by decide +kernel
theorem dX6_end_49 : decode cX6_end 49 = .ok (.return_, 1) := by decide +kernel
def kX6_end (live : am_E) (Ret : am_R) : am_code := [(0, am_aload 0 1), (1, am_dup 2), (2, am_getJ live 6 5 5), (5, am_lload 1 6), (6, am_lload 3 7), (7, am_l2 (fun x y => x * y) 8), (8, am_l2 (fun x y => x + y) 9), (9, am_putJ live 6 5 12), (12, am_aload 0 13), (13, am_dup 14), (14, am_getJ live 6 8 17), (17, am_lload 1 18), (18, am_lload 5 20), (20, am_l2 (fun x y => x * y) 21), (21, am_l2 (fun x y => x + y) 22), (22, am_putJ live 6 8 25), (25, am_aload 0 26), (26, am_aload 0 27), (27, am_getJ live 6 6 30), (30, am_lload 3 31), (31, am_mathl (fun x y => if y < x then y else x) 23 34), (34, am_putJ live 6 6 37), (37, am_aload 0 38), (38, am_aload 0 39), (39, am_getJ live 6 7 42), (42, am_lload 3 43), (43, am_mathl (fun x y => if y < x then x else y) 23 46), (46, am_putJ live 6 7 49), (49, am_retV Ret)]
theorem koX6_end (live : am_E) (Ret : am_R) : ∀ q ∈ kX6_end live Ret, am_ok RX6 cX6_end 7 none 1 23 live Ret q.1 q.2 :=
  am_kc (ak_aload_n dX6_end_0 rfl rfl) <|
  am_kc (ak_dup dX6_end_1 rfl) <|
  am_kc (ak_getJ (C := RX6) (T := TX6) (N := 9) rfl inX6w (by decide) rfl rfl rfl wd_361 dX6_end_2 rfl) <|
  am_kc (ak_lload_n dX6_end_5 rfl rfl) <|
  am_kc (ak_lload_n dX6_end_6 rfl rfl) <|
  am_kc (ak_lmul dX6_end_7 rfl) <|
  am_kc (ak_ladd dX6_end_8 rfl) <|
  am_kc (ak_putJ (C := RX6) (T := TX6) (N := 9) rfl inX6w tyX6_ok nmX6 (by decide) rfl rfl rfl rfl (by decide +kernel) wd_361 dX6_end_9 rfl) <|
  am_kc (ak_aload_n dX6_end_12 rfl rfl) <|
  am_kc (ak_dup dX6_end_13 rfl) <|
  am_kc (ak_getJ (C := RX6) (T := TX6) (N := 9) rfl inX6w (by decide) rfl rfl rfl wd_367 dX6_end_14 rfl) <|
  am_kc (ak_lload_n dX6_end_17 rfl rfl) <|
  am_kc (ak_lload dX6_end_18 rfl) <|
  am_kc (ak_lmul dX6_end_20 rfl) <|
  am_kc (ak_ladd dX6_end_21 rfl) <|
  am_kc (ak_putJ (C := RX6) (T := TX6) (N := 9) rfl inX6w tyX6_ok nmX6 (by decide) rfl rfl rfl rfl (by decide +kernel) wd_367 dX6_end_22 rfl) <|
  am_kc (ak_aload_n dX6_end_25 rfl rfl) <|
  am_kc (ak_aload_n dX6_end_26 rfl rfl) <|
  am_kc (ak_getJ (C := RX6) (T := TX6) (N := 9) rfl inX6w (by decide) rfl rfl rfl wd_363 dX6_end_27 rfl) <|
  am_kc (ak_lload_n dX6_end_30 rfl rfl) <|
  am_kc (ak_lmin (am_w4 wd_798 wd_608 wd_68 wd_609) (by decide) dX6_end_31 rfl) <|
  am_kc (ak_putJ (C := RX6) (T := TX6) (N := 9) rfl inX6w tyX6_ok nmX6 (by decide) rfl rfl rfl rfl (by decide +kernel) wd_363 dX6_end_34 rfl) <|
  am_kc (ak_aload_n dX6_end_37 rfl rfl) <|
  am_kc (ak_aload_n dX6_end_38 rfl rfl) <|
  am_kc (ak_getJ (C := RX6) (T := TX6) (N := 9) rfl inX6w (by decide) rfl rfl rfl wd_365 dX6_end_39 rfl) <|
  am_kc (ak_lload_n dX6_end_42 rfl rfl) <|
  am_kc (ak_lmax (am_w4 wd_799 wd_611 wd_68 wd_612) (by decide) dX6_end_43 rfl) <|
  am_kc (ak_putJ (C := RX6) (T := TX6) (N := 9) rfl inX6w tyX6_ok nmX6 (by decide) rfl rfl rfl rfl (by decide +kernel) wd_365 dX6_end_46 rfl) <|
  am_kc (ak_retV dX6_end_49) <| am_kn
def TX6_end : am_T := fun live as M R => match as with
  | [.ref n, .long c, .long t, .long l] => am_mn live ∧ n = 2 ∧ ∀ M', g_we M M' → R none M'
  | _ => False
theorem g_we.rf {M : am_M} : g_we M M := ⟨(), rfl, fun _ _ _ => rfl⟩
theorem g_we.w {M M' : am_M} {k : Nat} {v : Int64} (h : g_we M M') : g_we M (am_wJ M' 2 k v) := by
  obtain ⟨-, h1, h2⟩ := h
  refine ⟨(), h1, fun a b z => ?_⟩
  rw [am_wJ_1, if_neg (fun q => z q.1)]
  exact h2 a b z
set_option maxRecDepth 100000 in
set_option maxHeartbeats 4000000 in
theorem metX6_end : am_Met yX6_end cX6_end 7 none (1) (23) TX6_end := by
  refine am_met (own := RX6) (by decide +kernel) rfl kX6_end koX6_end 100 (fun _ _ _ _ _ => none) (fun live as M Ret h => ?_) (fun _ _ _ _ _ _ _ _ hI => by cases hI)
  unfold TX6_end at h
  split at h
  · next n c t l =>
    refine ⟨Nat.le_of_ble_eq_true rfl, ?_⟩
    change am_wp _ _ _ _ [(0, Value.ref n), (1, Value.long c), (3, Value.long t), (5, Value.long l)] _ _
    obtain ⟨⟨i1, i2, rfl⟩, rfl, h⟩ := h
    repeat' (first | apply And.intro | exact rfl | intro hx | (refine Exists.intro _ (And.intro rfl ?_)))
    all_goals try first | (with_reducible change am_tI _ _) | (change Ret _ _) | (change Ret _ _ _) | (change Exists _)
    all_goals try dsimp only at *
    all_goals try exact absurd ‹(1000 : Int64) = 0› (by decide)
    exact h _ (g_we.rf.w.w.w.w)
  · exact h.elim
set_option maxRecDepth 100000 in
theorem wd_355 : Cond.fieldLink "LearnLoans$Ways" 12 "LearnLoans$Ways" "run" "LLearnLoans$Run;" ∈ am_ws := am_wsi (List.mem_of_getElem? (i := 355) (by rfl)) (by decide +kernel)
set_option maxRecDepth 100000 in
theorem wd_357 : Cond.fieldLink "LearnLoans$Ways" 18 "LearnLoans$Ways" "owedAhead" "[J" ∈ am_ws := am_wsi (List.mem_of_getElem? (i := 357) (by rfl)) (by decide +kernel)
set_option maxRecDepth 100000 in
theorem wd_297 : Cond.fieldLink "LearnLoans$Ways" 55 "LearnLoans$Run" "sums" "[J" ∈ am_ws := am_wsi (List.mem_of_getElem? (i := 297) (by rfl)) (by decide +kernel)
set_option maxRecDepth 100000 in
theorem wd_787 : Cond.methodLink "LearnLoans$Ways" 58 arraycopyName ∈ am_ws := am_wsi (List.mem_of_getElem? (i := 787) (by rfl)) (by decide +kernel)
set_option maxRecDepth 100000 in
theorem wd_360 : Cond.fieldLink "LearnLoans$Ways" 29 "LearnLoans$Ways" "pence" "I" ∈ am_ws := am_wsi (List.mem_of_getElem? (i := 360) (by rfl)) (by decide +kernel)
set_option maxRecDepth 100000 in
theorem wd_791 : Cond.methodLink "LearnLoans$Ways" 68 yX4_suppose ∈ am_ws := am_wsi (List.mem_of_getElem? (i := 791) (by rfl)) (by decide +kernel)
set_option maxRecDepth 100000 in
theorem wd_358 : Cond.fieldLink "LearnLoans$Ways" 22 "LearnLoans$Ways" "yea\x72" "I" ∈ am_ws := am_wsi (List.mem_of_getElem? (i := 358) (by rfl)) (by decide +kernel)
set_option maxRecDepth 100000 in
theorem wd_792 : Cond.methodLink "LearnLoans$Ways" 72 yX4_turn ∈ am_ws := am_wsi (List.mem_of_getElem? (i := 792) (by rfl)) (by decide +kernel)
set_option maxRecDepth 100000 in
theorem wd_793 : Cond.methodLink "LearnLoans$Ways" 75 yX4_together ∈ am_ws := am_wsi (List.mem_of_getElem? (i := 793) (by rfl)) (by decide +kernel)
set_option maxRecDepth 100000 in
theorem wd_650 : Cond.instanceMethod yX4_together ∈ am_ws := am_wsi (List.mem_of_getElem? (i := 650) (by rfl)) (by decide +kernel)
set_option maxRecDepth 100000 in
theorem wd_651 : Cond.selects "LearnLoans$Run" yX4_together yX4_together ∈ am_ws := am_wsi (List.mem_of_getElem? (i := 651) (by rfl)) (by decide +kernel)
set_option maxRecDepth 100000 in
theorem wd_652 : Cond.code yX4_together cX4_together 5 (some .long) ∈ am_ws := am_wsi (List.mem_of_getElem? (i := 652) (by rfl)) (by decide +kernel)
set_option maxRecDepth 100000 in
theorem wd_359 : Cond.fieldLink "LearnLoans$Ways" 26 "LearnLoans$Ways" "years" "I" ∈ am_ws := am_wsi (List.mem_of_getElem? (i := 359) (by rfl)) (by decide +kernel)
set_option maxRecDepth 100000 in
theorem wd_794 : Cond.methodLink "LearnLoans$Ways" 79 yX6_end ∈ am_ws := am_wsi (List.mem_of_getElem? (i := 794) (by rfl)) (by decide +kernel)
set_option maxRecDepth 100000 in
theorem wd_796 : Cond.instanceMethod yX6_end ∈ am_ws := am_wsi (List.mem_of_getElem? (i := 796) (by rfl)) (by decide +kernel)
set_option maxRecDepth 100000 in
theorem wd_25 : Cond.selects "LearnLoans$Ways" yX6_end yX6_end ∈ am_ws := am_wsi (List.mem_of_getElem? (i := 25) (by rfl)) (by decide +kernel)
set_option maxRecDepth 100000 in
theorem wd_59 : Cond.initialized "LearnLoans$Ways" ∈ am_ws := am_wsi (List.mem_of_getElem? (i := 59) (by rfl)) (by decide +kernel)
set_option maxRecDepth 100000 in
theorem wd_797 : Cond.code yX6_end cX6_end 7 none ∈ am_ws := am_wsi (List.mem_of_getElem? (i := 797) (by rfl)) (by decide +kernel)
set_option maxRecDepth 100000 in
theorem wd_293 : Cond.fieldLink "LearnLoans$Ways" 83 "LearnLoans$Run" "house" "LLearnLoans$House;" ∈ am_ws := am_wsi (List.mem_of_getElem? (i := 293) (by rfl)) (by decide +kernel)
set_option maxRecDepth 100000 in
theorem wd_222 : Cond.fieldLink "LearnLoans$Ways" 87 "LearnLoans$House" "chances" "[I" ∈ am_ws := am_wsi (List.mem_of_getElem? (i := 222) (by rfl)) (by decide +kernel)
set_option maxRecDepth 100000 in
theorem wd_788 : Cond.methodLink "LearnLoans$Ways" 64 yX6_walk ∈ am_ws := am_wsi (List.mem_of_getElem? (i := 788) (by rfl)) (by decide +kernel)
set_option maxRecDepth 100000 in
theorem wd_789 : Cond.static yX6_walk ∈ am_ws := am_wsi (List.mem_of_getElem? (i := 789) (by rfl)) (by decide +kernel)
set_option maxRecDepth 100000 in
theorem wd_790 : Cond.code yX6_walk cX6_walk 14 none ∈ am_ws := am_wsi (List.mem_of_getElem? (i := 790) (by rfl)) (by decide +kernel)
theorem dX6_walk_0 : decode cX6_walk 0 = .ok (.iload_n 1, 1) := by decide +kernel
theorem dX6_walk_1 : decode cX6_walk 1 = .ok (.iconst 5, 1) := by decide +kernel
theorem dX6_walk_2 : decode cX6_walk 2 = .ok (.if_icmp .lt 4, 3) := by decide +kernel
theorem dX6_walk_5 : decode cX6_walk 5 = .ok (.return_, 1) := by decide +kernel
theorem dX6_walk_6 : decode cX6_walk 6 = .ok (.aload_n 0, 1) := by decide +kernel
theorem dX6_walk_7 : decode cX6_walk 7 = .ok (.getfield 12, 3) := by decide +kernel
theorem dX6_walk_10 : decode cX6_walk 10 = .ok (.astore 9, 2) := by decide +kernel
theorem dX6_walk_12 : decode cX6_walk 12 = .ok (.aload_n 0, 1) := by decide +kernel
theorem dX6_walk_13 : decode cX6_walk 13 = .ok (.getfield 18, 3) := by decide +kernel
theorem dX6_walk_16 : decode cX6_walk 16 = .ok (.iload_n 1, 1) := by decide +kernel
theorem dX6_walk_17 : decode cX6_walk 17 = .ok (.bipush 30, 2) := by decide +kernel
theorem dX6_walk_19 : decode cX6_walk 19 = .ok (.imul, 1) := by decide +kernel
theorem dX6_walk_20 : decode cX6_walk 20 = .ok (.aload 9, 2) := by decide +kernel
theorem dX6_walk_22 : decode cX6_walk 22 = .ok (.getfield 55, 3) := by decide +kernel
theorem dX6_walk_25 : decode cX6_walk 25 = .ok (.iconst 0, 1) := by decide +kernel
theorem dX6_walk_26 : decode cX6_walk 26 = .ok (.bipush 30, 2) := by decide +kernel
theorem dX6_walk_28 : decode cX6_walk 28 = .ok (.invokestatic 58, 3) := by decide +kernel
theorem dX6_walk_31 : decode cX6_walk 31 = .ok (.iload_n 2, 1) := by decide +kernel
theorem dX6_walk_32 : decode cX6_walk 32 = .ok (.ifCond .ne 10, 3) := by decide +kernel
theorem dX6_walk_35 : decode cX6_walk 35 = .ok (.aload_n 0, 1) := by decide +kernel
theorem dX6_walk_36 : decode cX6_walk 36 = .ok (.getfield 29, 3) := by decide +kernel
theorem dX6_walk_39 : decode cX6_walk 39 = .ok (.goto 13, 3) := by decide +kernel
theorem dX6_walk_42 : decode cX6_walk 42 = .ok (.iload_n 2, 1) := by decide +kernel
theorem dX6_walk_43 : decode cX6_walk 43 = .ok (.iconst 1, 1) := by decide +kernel
theorem dX6_walk_44 : decode cX6_walk 44 = .ok (.if_icmp .ne 7, 3) := by decide +kernel
theorem dX6_walk_47 : decode cX6_walk 47 = .ok (.iconst 0, 1) := by decide +kernel
theorem dX6_walk_48 : decode cX6_walk 48 = .ok (.goto 4, 3) := by decide +kernel
theorem dX6_walk_51 : decode cX6_walk 51 = .ok (.iconst (-1), 1) := by decide +kernel
theorem dX6_walk_52 : decode cX6_walk 52 = .ok (.istore 10, 2) := by decide +kernel
theorem dX6_walk_54 : decode cX6_walk 54 = .ok (.aload 9, 2) := by decide +kernel
theorem dX6_walk_56 : decode cX6_walk 56 = .ok (.iload 10, 2) := by decide +kernel
theorem dX6_walk_58 : decode cX6_walk 58 = .ok (.iload_n 2, 1) := by decide +kernel
theorem dX6_walk_59 : decode cX6_walk 59 = .ok (.iconst 2, 1) := by decide +kernel
theorem dX6_walk_60 : decode cX6_walk 60 = .ok (.if_icmp .ne 7, 3) := by decide +kernel
theorem dX6_walk_63 : decode cX6_walk 63 = .ok (.iconst 1, 1) := by decide +kernel
theorem dX6_walk_64 : decode cX6_walk 64 = .ok (.goto 4, 3) := by decide +kernel
theorem dX6_walk_67 : decode cX6_walk 67 = .ok (.iconst 0, 1) := by decide +kernel
theorem dX6_walk_68 : decode cX6_walk 68 = .ok (.iload_n 2, 1) := by decide +kernel
theorem dX6_walk_69 : decode cX6_walk 69 = .ok (.iconst 3, 1) := by decide +kernel
theorem dX6_walk_70 : decode cX6_walk 70 = .ok (.if_icmp .ne 7, 3) := by decide +kernel
theorem dX6_walk_73 : decode cX6_walk 73 = .ok (.iconst 1, 1) := by decide +kernel
theorem dX6_walk_74 : decode cX6_walk 74 = .ok (.goto 4, 3) := by decide +kernel
theorem dX6_walk_77 : decode cX6_walk 77 = .ok (.iconst 0, 1) := by decide +kernel
theorem dX6_walk_78 : decode cX6_walk 78 = .ok (.invokevirtual 68, 3) := by decide +kernel
theorem dX6_walk_81 : decode cX6_walk 81 = .ok (.aload 9, 2) := by decide +kernel
theorem dX6_walk_83 : decode cX6_walk 83 = .ok (.aload_n 0, 1) := by decide +kernel
theorem dX6_walk_84 : decode cX6_walk 84 = .ok (.getfield 22, 3) := by decide +kernel
theorem dX6_walk_87 : decode cX6_walk 87 = .ok (.iload_n 1, 1) := by decide +kernel
theorem dX6_walk_88 : decode cX6_walk 88 = .ok (.iadd, 1) := by decide +kernel
theorem dX6_walk_89 : decode cX6_walk 89 = .ok (.invokevirtual 72, 3) := by decide +kernel
theorem dX6_walk_92 : decode cX6_walk 92 = .ok (.lload 5, 2) := by decide +kernel
theorem dX6_walk_94 : decode cX6_walk 94 = .ok (.aload 9, 2) := by decide +kernel
theorem dX6_walk_96 : decode cX6_walk 96 = .ok (.iconst 1, 1) := by decide +kernel
theorem dX6_walk_97 : decode cX6_walk 97 = .ok (.invokevirtual 75, 3) := by decide +kernel
theorem dX6_walk_100 : decode cX6_walk 100 = .ok (.ladd, 1) := by decide +kernel
theorem dX6_walk_101 : decode cX6_walk 101 = .ok (.lstore 5, 2) := by decide +kernel
theorem dX6_walk_103 : decode cX6_walk 103 = .ok (.lload 7, 2) := by decide +kernel
theorem dX6_walk_105 : decode cX6_walk 105 = .ok (.aload 9, 2) := by decide +kernel
theorem dX6_walk_107 : decode cX6_walk 107 = .ok (.iconst 2, 1) := by decide +kernel
theorem dX6_walk_108 : decode cX6_walk 108 = .ok (.invokevirtual 75, 3) := by decide +kernel
theorem dX6_walk_111 : decode cX6_walk 111 = .ok (.ladd, 1) := by decide +kernel
theorem dX6_walk_112 : decode cX6_walk 112 = .ok (.lstore 7, 2) := by decide +kernel
theorem dX6_walk_114 : decode cX6_walk 114 = .ok (.iload_n 1, 1) := by decide +kernel
theorem dX6_walk_115 : decode cX6_walk 115 = .ok (.iconst 1, 1) := by decide +kernel
theorem dX6_walk_116 : decode cX6_walk 116 = .ok (.iadd, 1) := by decide +kernel
theorem dX6_walk_117 : decode cX6_walk 117 = .ok (.istore 11, 2) := by decide +kernel
theorem dX6_walk_119 : decode cX6_walk 119 = .ok (.iload 11, 2) := by decide +kernel
theorem dX6_walk_121 : decode cX6_walk 121 = .ok (.aload_n 0, 1) := by decide +kernel
theorem dX6_walk_122 : decode cX6_walk 122 = .ok (.getfield 26, 3) := by decide +kernel
theorem dX6_walk_125 : decode cX6_walk 125 = .ok (.if_icmp .ge 9, 3) := by decide +kernel
theorem dX6_walk_128 : decode cX6_walk 128 = .ok (.iload 11, 2) := by decide +kernel
theorem dX6_walk_130 : decode cX6_walk 130 = .ok (.iconst 5, 1) := by decide +kernel
theorem dX6_walk_131 : decode cX6_walk 131 = .ok (.if_icmp .lt 20, 3) := by decide +kernel
theorem dX6_walk_134 : decode cX6_walk 134 = .ok (.aload_n 0, 1) := by decide +kernel
theorem dX6_walk_135 : decode cX6_walk 135 = .ok (.lload_n 3, 1) := by decide +kernel
theorem dX6_walk_136 : decode cX6_walk 136 = .ok (.lload 5, 2) := by decide +kernel
theorem dX6_walk_138 : decode cX6_walk 138 = .ok (.lload 7, 2) := by decide +kernel
theorem dX6_walk_140 : decode cX6_walk 140 = .ok (.aload 9, 2) := by decide +kernel
theorem dX6_walk_142 : decode cX6_walk 142 = .ok (.iconst 0, 1) := by decide +kernel
theorem dX6_walk_143 : decode cX6_walk 143 = .ok (.invokevirtual 75, 3) := by decide +kernel
theorem dX6_walk_146 : decode cX6_walk 146 = .ok (.ladd, 1) := by decide +kernel
theorem dX6_walk_147 : decode cX6_walk 147 = .ok (.invokevirtual 79, 3) := by decide +kernel
theorem dX6_walk_150 : decode cX6_walk 150 = .ok (.return_, 1) := by decide +kernel
theorem dX6_walk_151 : decode cX6_walk 151 = .ok (.aload 9, 2) := by decide +kernel
theorem dX6_walk_153 : decode cX6_walk 153 = .ok (.getfield 55, 3) := by decide +kernel
theorem dX6_walk_156 : decode cX6_walk 156 = .ok (.iconst 0, 1) := by decide +kernel
theorem dX6_walk_157 : decode cX6_walk 157 = .ok (.aload_n 0, 1) := by decide +kernel
theorem dX6_walk_158 : decode cX6_walk 158 = .ok (.getfield 18, 3) := by decide +kernel
theorem dX6_walk_161 : decode cX6_walk 161 = .ok (.iload 11, 2) := by decide +kernel
theorem dX6_walk_163 : decode cX6_walk 163 = .ok (.bipush 30, 2) := by decide +kernel
theorem dX6_walk_165 : decode cX6_walk 165 = .ok (.imul, 1) := by decide +kernel
theorem dX6_walk_166 : decode cX6_walk 166 = .ok (.bipush 30, 2) := by decide +kernel
theorem dX6_walk_168 : decode cX6_walk 168 = .ok (.invokestatic 58, 3) := by decide +kernel
theorem dX6_walk_171 : decode cX6_walk 171 = .ok (.iconst 0, 1) := by decide +kernel
theorem dX6_walk_172 : decode cX6_walk 172 = .ok (.istore 12, 2) := by decide +kernel
theorem dX6_walk_174 : decode cX6_walk 174 = .ok (.iload 12, 2) := by decide +kernel
theorem dX6_walk_176 : decode cX6_walk 176 = .ok (.iconst 4, 1) := by decide +kernel
theorem dX6_walk_177 : decode cX6_walk 177 = .ok (.if_icmp .ge 48, 3) := by decide +kernel
theorem dX6_walk_180 : decode cX6_walk 180 = .ok (.aload 9, 2) := by decide +kernel
theorem dX6_walk_182 : decode cX6_walk 182 = .ok (.getfield 83, 3) := by decide +kernel
theorem dX6_walk_185 : decode cX6_walk 185 = .ok (.getfield 87, 3) := by decide +kernel
theorem dX6_walk_188 : decode cX6_walk 188 = .ok (.iload_n 2, 1) := by decide +kernel
theorem dX6_walk_189 : decode cX6_walk 189 = .ok (.iconst 4, 1) := by decide +kernel
theorem dX6_walk_190 : decode cX6_walk 190 = .ok (.imul, 1) := by decide +kernel
theorem dX6_walk_191 : decode cX6_walk 191 = .ok (.iload 12, 2) := by decide +kernel
theorem dX6_walk_193 : decode cX6_walk 193 = .ok (.iadd, 1) := by decide +kernel
theorem dX6_walk_194 : decode cX6_walk 194 = .ok (.iaload, 1) := by decide +kernel
theorem dX6_walk_195 : decode cX6_walk 195 = .ok (.istore 13, 2) := by decide +kernel
theorem dX6_walk_197 : decode cX6_walk 197 = .ok (.iload 13, 2) := by decide +kernel
theorem dX6_walk_199 : decode cX6_walk 199 = .ok (.ifCond .le 20, 3) := by decide +kernel
theorem dX6_walk_202 : decode cX6_walk 202 = .ok (.aload_n 0, 1) := by decide +kernel
theorem dX6_walk_203 : decode cX6_walk 203 = .ok (.iload 11, 2) := by decide +kernel
theorem dX6_walk_205 : decode cX6_walk 205 = .ok (.iload 12, 2) := by decide +kernel
theorem dX6_walk_207 : decode cX6_walk 207 = .ok (.lload_n 3, 1) := by decide +kernel
theorem dX6_walk_208 : decode cX6_walk 208 = .ok (.iload 13, 2) := by decide +kernel
theorem dX6_walk_210 : decode cX6_walk 210 = .ok (.i2l, 1) := by decide +kernel
theorem dX6_walk_211 : decode cX6_walk 211 = .ok (.lmul, 1) := by decide +kernel
theorem dX6_walk_212 : decode cX6_walk 212 = .ok (.lload 5, 2) := by decide +kernel
theorem dX6_walk_214 : decode cX6_walk 214 = .ok (.lload 7, 2) := by decide +kernel
theorem dX6_walk_216 : decode cX6_walk 216 = .ok (.invokestatic 64, 3) := by decide +kernel
theorem dX6_walk_219 : decode cX6_walk 219 = .ok (.iinc 12 1, 3) := by decide +kernel
theorem dX6_walk_222 : decode cX6_walk 222 = .ok (.goto (-48), 3) := by decide +kernel
theorem dX6_walk_225 : decode cX6_walk 225 = .ok (.return_, 1) := by decide +kernel
def kX6_walk (d rw lw : Nat) (Tw : am_T) (live : am_E) (Ret : am_R) : am_code := [(0, am_iload 1 1), (1, am_const (.int 5) 2), (2, am_if2 (fun x y => x < y) 6 5), (5, am_retV Ret), (6, am_aload 0 7), (7, am_getR live 6 0 10), (10, am_astore 9 14 12), (12, am_aload 0 13), (13, am_getR live 6 1 16), (16, am_iload 1 17), (17, am_const (.int 30) 19), (19, am_i2 (fun x y => x * y) 20), (20, am_aload 9 22), (22, am_getR live 4 2 25), (25, am_const (.int 0) 26), (26, am_const (.int 30) 28), (28, am_copyJ live (40 * d + 110) 31), (31, am_iload 2 32), (32, am_if1 (fun x => x = 0) 35 42), (35, am_aload 0 36), (36, am_getI live 6 4 39), (39, am_goto 52), (42, am_iload 2 43), (43, am_const (.int 1) 44), (44, am_if2 (fun x y => x = y) 47 51), (47, am_const (.int 0) 48), (48, am_goto 52), (51, am_const (.int (-1)) 52), (52, am_istore 10 14 54), (54, am_aload 9 56), (56, am_iload 10 58), (58, am_iload 2 59), (59, am_const (.int 2) 60), (60, am_if2 (fun x y => x = y) 63 67), (63, am_const (.int 1) 64), (64, am_goto 68), (67, am_const (.int 0) 68), (68, am_iload 2 69), (69, am_const (.int 3) 70), (70, am_if2 (fun x y => x = y) 73 77), (73, am_const (.int 1) 74), (74, am_goto 78), (77, am_const (.int 0) 78), (78, am_callV live 4 3 TX4_suppose 81), (81, am_aload 9 83), (83, am_aload 0 84), (84, am_getI live 6 2 87), (87, am_iload 1 88), (88, am_i2 (fun x y => x + y) 89), (89, am_callV live 4 1 TX4_turn 92), (92, am_lload 5 94), (94, am_aload 9 96), (96, am_const (.int 1) 97), (97, am_callV live 4 1 TX4_together 100), (100, am_l2 (fun x y => x + y) 101), (101, am_lstore 5 14 103), (103, am_lload 7 105), (105, am_aload 9 107), (107, am_const (.int 2) 108), (108, am_callV live 4 1 TX4_together 111), (111, am_l2 (fun x y => x + y) 112), (112, am_lstore 7 14 114), (114, am_iload 1 115), (115, am_const (.int 1) 116), (116, am_i2 (fun x y => x + y) 117), (117, am_istore 11 14 119), (119, am_iload 11 121), (121, am_aload 0 122), (122, am_getI live 6 3 125), (125, am_if2 (fun x y => y ≤ x) 134 128), (128, am_iload 11 130), (130, am_const (.int 5) 131), (131, am_if2 (fun x y => x < y) 151 134), (134, am_aload 0 135), (135, am_lload 3 136), (136, am_lload 5 138), (138, am_lload 7 140), (140, am_aload 9 142), (142, am_const (.int 0) 143), (143, am_callV live 4 1 TX4_together 146), (146, am_l2 (fun x y => x + y) 147), (147, am_callV live 6 3 TX6_end 150), (150, am_retV Ret), (151, am_aload 9 153), (153, am_getR live 4 2 156), (156, am_const (.int 0) 157), (157, am_aload 0 158), (158, am_getR live 6 1 161), (161, am_iload 11 163), (163, am_const (.int 30) 165), (165, am_i2 (fun x y => x * y) 166), (166, am_const (.int 30) 168), (168, am_copyJ live (40 * d + 110) 171), (171, am_const (.int 0) 172), (172, am_istore 12 14 174), (174, am_iload 12 176), (176, am_const (.int 4) 177), (177, am_if2 (fun x y => y ≤ x) 225 180), (180, am_aload 9 182), (182, am_getR live 4 0 185), (185, am_getR live 0 10 188), (188, am_iload 2 189), (189, am_const (.int 4) 190), (190, am_i2 (fun x y => x * y) 191), (191, am_iload 12 193), (193, am_i2 (fun x y => x + y) 194), (194, am_ald live 0 195), (195, am_istore 13 14 197), (197, am_iload 13 199), (199, am_if1 (fun x => x ≤ 0) 219 202), (202, am_aload 0 203), (203, am_iload 11 205), (205, am_iload 12 207), (207, am_lload 3 208), (208, am_iload 13 210), (210, am_i2l 211), (211, am_l2 (fun x y => x * y) 212), (212, am_lload 5 214), (214, am_lload 7 216), (216, am_callS live 6 Tw 219), (219, am_iinc 12 14 1 222), (222, am_goto 174), (225, am_retV Ret)]
theorem koX6_walk (d rw lw : Nat) (Tw : am_T) (hW : am_Met yX6_walk cX6_walk 14 none rw lw Tw) (hrc : rw + 1 ≤ d + 4 ∧ lw + 33 ≤ 40 * d + 110) (live : am_E) (Ret : am_R) : ∀ q ∈ kX6_walk d rw lw Tw live Ret, am_ok RX6 cX6_walk 14 none (d + 4) (40 * d + 110) live Ret q.1 q.2 :=
  am_kc (ak_iload_n dX6_walk_0 rfl rfl) <|
  am_kc (ak_iconst dX6_walk_1 (by decide +kernel) rfl) <|
  am_kc (ak_icmp_lt dX6_walk_2 (by decide +kernel) rfl) <|
  am_kc (ak_retV dX6_walk_5) <|
  am_kc (ak_aload_n dX6_walk_6 rfl rfl) <|
  am_kc (ak_getR (C := RX6) (T := TX6) (N := 9) rfl inX6w (by decide) rfl rfl rfl wd_355 dX6_walk_7 rfl) <|
  am_kc (ak_astore dX6_walk_10 rfl) <|
  am_kc (ak_aload_n dX6_walk_12 rfl rfl) <|
  am_kc (ak_getR (C := RX6) (T := TX6) (N := 9) rfl inX6w (by decide) rfl rfl rfl wd_357 dX6_walk_13 rfl) <|
  am_kc (ak_iload_n dX6_walk_16 rfl rfl) <|
  am_kc (ak_bipush dX6_walk_17 (by decide +kernel) rfl) <|
  am_kc (ak_imul dX6_walk_19 rfl) <|
  am_kc (ak_aload dX6_walk_20 rfl) <|
  am_kc (ak_getR (C := RX4) (T := TX4) (N := 19) rfl inX4w (by decide) rfl rfl rfl wd_297 dX6_walk_22 rfl) <|
  am_kc (ak_iconst dX6_walk_25 (by decide +kernel) rfl) <|
  am_kc (ak_bipush dX6_walk_26 (by decide +kernel) rfl) <|
  am_kc (ak_copyJ (am_w4 wd_787 wd_501 wd_500 wd_69) (by omega) dX6_walk_28 rfl) <|
  am_kc (ak_iload_n dX6_walk_31 rfl rfl) <|
  am_kc (ak_if_ne dX6_walk_32 (by decide +kernel) rfl) <|
  am_kc (ak_aload_n dX6_walk_35 rfl rfl) <|
  am_kc (ak_getI (C := RX6) (T := TX6) (N := 9) rfl inX6w (by decide) rfl rfl rfl wd_360 dX6_walk_36 rfl) <|
  am_kc (ak_goto dX6_walk_39 (by decide +kernel)) <|
  am_kc (ak_iload_n dX6_walk_42 rfl rfl) <|
  am_kc (ak_iconst dX6_walk_43 (by decide +kernel) rfl) <|
  am_kc (ak_icmp_ne dX6_walk_44 (by decide +kernel) rfl) <|
  am_kc (ak_iconst dX6_walk_47 (by decide +kernel) rfl) <|
  am_kc (ak_goto dX6_walk_48 (by decide +kernel)) <|
  am_kc (ak_iconst dX6_walk_51 (by decide +kernel) rfl) <|
  am_kc (ak_istore dX6_walk_52 rfl) <|
  am_kc (ak_aload dX6_walk_54 rfl) <|
  am_kc (ak_iload dX6_walk_56 rfl) <|
  am_kc (ak_iload_n dX6_walk_58 rfl rfl) <|
  am_kc (ak_iconst dX6_walk_59 (by decide +kernel) rfl) <|
  am_kc (ak_icmp_ne dX6_walk_60 (by decide +kernel) rfl) <|
  am_kc (ak_iconst dX6_walk_63 (by decide +kernel) rfl) <|
  am_kc (ak_goto dX6_walk_64 (by decide +kernel)) <|
  am_kc (ak_iconst dX6_walk_67 (by decide +kernel) rfl) <|
  am_kc (ak_iload_n dX6_walk_68 rfl rfl) <|
  am_kc (ak_iconst dX6_walk_69 (by decide +kernel) rfl) <|
  am_kc (ak_icmp_ne dX6_walk_70 (by decide +kernel) rfl) <|
  am_kc (ak_iconst dX6_walk_73 (by decide +kernel) rfl) <|
  am_kc (ak_goto dX6_walk_74 (by decide +kernel)) <|
  am_kc (ak_iconst dX6_walk_77 (by decide +kernel) rfl) <|
  am_kc (ak_callV (C := RX4) (F := TX4) (N := 19) metX4_suppose rfl ⟨rfl, by decide +kernel, by decide +kernel, by decide +kernel⟩ (am_w5 wd_791 wd_568 wd_569 wd_60 wd_570) (by omega) dX6_walk_78 rfl) <|
  am_kc (ak_aload dX6_walk_81 rfl) <|
  am_kc (ak_aload_n dX6_walk_83 rfl rfl) <|
  am_kc (ak_getI (C := RX6) (T := TX6) (N := 9) rfl inX6w (by decide) rfl rfl rfl wd_358 dX6_walk_84 rfl) <|
  am_kc (ak_iload_n dX6_walk_87 rfl rfl) <|
  am_kc (ak_iadd dX6_walk_88 rfl) <|
  am_kc (ak_callV (C := RX4) (F := TX4) (N := 19) metX4_turn rfl ⟨rfl, by decide +kernel, by decide +kernel, by decide +kernel⟩ (am_w5 wd_792 wd_573 wd_574 wd_60 wd_575) (by omega) dX6_walk_89 rfl) <|
  am_kc (ak_lload dX6_walk_92 rfl) <|
  am_kc (ak_aload dX6_walk_94 rfl) <|
  am_kc (ak_iconst dX6_walk_96 (by decide +kernel) rfl) <|
  am_kc (ak_callV (C := RX4) (F := TX4) (N := 19) metX4_together rfl ⟨rfl, by decide +kernel, by decide +kernel, by decide +kernel⟩ (am_w5 wd_793 wd_650 wd_651 wd_60 wd_652) (by omega) dX6_walk_97 rfl) <|
  am_kc (ak_ladd dX6_walk_100 rfl) <|
  am_kc (ak_lstore dX6_walk_101 rfl) <|
  am_kc (ak_lload dX6_walk_103 rfl) <|
  am_kc (ak_aload dX6_walk_105 rfl) <|
  am_kc (ak_iconst dX6_walk_107 (by decide +kernel) rfl) <|
  am_kc (ak_callV (C := RX4) (F := TX4) (N := 19) metX4_together rfl ⟨rfl, by decide +kernel, by decide +kernel, by decide +kernel⟩ (am_w5 wd_793 wd_650 wd_651 wd_60 wd_652) (by omega) dX6_walk_108 rfl) <|
  am_kc (ak_ladd dX6_walk_111 rfl) <|
  am_kc (ak_lstore dX6_walk_112 rfl) <|
  am_kc (ak_iload_n dX6_walk_114 rfl rfl) <|
  am_kc (ak_iconst dX6_walk_115 (by decide +kernel) rfl) <|
  am_kc (ak_iadd dX6_walk_116 rfl) <|
  am_kc (ak_istore dX6_walk_117 rfl) <|
  am_kc (ak_iload dX6_walk_119 rfl) <|
  am_kc (ak_aload_n dX6_walk_121 rfl rfl) <|
  am_kc (ak_getI (C := RX6) (T := TX6) (N := 9) rfl inX6w (by decide) rfl rfl rfl wd_359 dX6_walk_122 rfl) <|
  am_kc (ak_icmp_ge dX6_walk_125 (by decide +kernel) rfl) <|
  am_kc (ak_iload dX6_walk_128 rfl) <|
  am_kc (ak_iconst dX6_walk_130 (by decide +kernel) rfl) <|
  am_kc (ak_icmp_lt dX6_walk_131 (by decide +kernel) rfl) <|
  am_kc (ak_aload_n dX6_walk_134 rfl rfl) <|
  am_kc (ak_lload_n dX6_walk_135 rfl rfl) <|
  am_kc (ak_lload dX6_walk_136 rfl) <|
  am_kc (ak_lload dX6_walk_138 rfl) <|
  am_kc (ak_aload dX6_walk_140 rfl) <|
  am_kc (ak_iconst dX6_walk_142 (by decide +kernel) rfl) <|
  am_kc (ak_callV (C := RX4) (F := TX4) (N := 19) metX4_together rfl ⟨rfl, by decide +kernel, by decide +kernel, by decide +kernel⟩ (am_w5 wd_793 wd_650 wd_651 wd_60 wd_652) (by omega) dX6_walk_143 rfl) <|
  am_kc (ak_ladd dX6_walk_146 rfl) <|
  am_kc (ak_callV (C := RX6) (F := TX6) (N := 9) metX6_end rfl ⟨rfl, by decide +kernel, by decide +kernel, by decide +kernel⟩ (am_w5 wd_794 wd_796 wd_25 wd_59 wd_797) (by omega) dX6_walk_147 rfl) <|
  am_kc (ak_retV dX6_walk_150) <|
  am_kc (ak_aload dX6_walk_151 rfl) <|
  am_kc (ak_getR (C := RX4) (T := TX4) (N := 19) rfl inX4w (by decide) rfl rfl rfl wd_297 dX6_walk_153 rfl) <|
  am_kc (ak_iconst dX6_walk_156 (by decide +kernel) rfl) <|
  am_kc (ak_aload_n dX6_walk_157 rfl rfl) <|
  am_kc (ak_getR (C := RX6) (T := TX6) (N := 9) rfl inX6w (by decide) rfl rfl rfl wd_357 dX6_walk_158 rfl) <|
  am_kc (ak_iload dX6_walk_161 rfl) <|
  am_kc (ak_bipush dX6_walk_163 (by decide +kernel) rfl) <|
  am_kc (ak_imul dX6_walk_165 rfl) <|
  am_kc (ak_bipush dX6_walk_166 (by decide +kernel) rfl) <|
  am_kc (ak_copyJ (am_w4 wd_787 wd_501 wd_500 wd_69) (by omega) dX6_walk_168 rfl) <|
  am_kc (ak_iconst dX6_walk_171 (by decide +kernel) rfl) <|
  am_kc (ak_istore dX6_walk_172 rfl) <|
  am_kc (ak_iload dX6_walk_174 rfl) <|
  am_kc (ak_iconst dX6_walk_176 (by decide +kernel) rfl) <|
  am_kc (ak_icmp_ge dX6_walk_177 (by decide +kernel) rfl) <|
  am_kc (ak_aload dX6_walk_180 rfl) <|
  am_kc (ak_getR (C := RX4) (T := TX4) (N := 19) rfl inX4w (by decide) rfl rfl rfl wd_293 dX6_walk_182 rfl) <|
  am_kc (ak_getR (C := RX0) (T := TX0) (N := 13) rfl inX0w (by decide) rfl rfl rfl wd_222 dX6_walk_185 rfl) <|
  am_kc (ak_iload_n dX6_walk_188 rfl rfl) <|
  am_kc (ak_iconst dX6_walk_189 (by decide +kernel) rfl) <|
  am_kc (ak_imul dX6_walk_190 rfl) <|
  am_kc (ak_iload dX6_walk_191 rfl) <|
  am_kc (ak_iadd dX6_walk_193 rfl) <|
  am_kc (ak_iald (t := 0) (fun _ => rfl) rfl dX6_walk_194 rfl) <|
  am_kc (ak_istore dX6_walk_195 rfl) <|
  am_kc (ak_iload dX6_walk_197 rfl) <|
  am_kc (ak_if_le dX6_walk_199 (by decide +kernel) rfl) <|
  am_kc (ak_aload_n dX6_walk_202 rfl rfl) <|
  am_kc (ak_iload dX6_walk_203 rfl) <|
  am_kc (ak_iload dX6_walk_205 rfl) <|
  am_kc (ak_lload_n dX6_walk_207 rfl rfl) <|
  am_kc (ak_iload dX6_walk_208 rfl) <|
  am_kc (ak_i2l dX6_walk_210 rfl) <|
  am_kc (ak_lmul dX6_walk_211 rfl) <|
  am_kc (ak_lload dX6_walk_212 rfl) <|
  am_kc (ak_lload dX6_walk_214 rfl) <|
  am_kc (ak_callS hW ⟨rfl, by decide +kernel, by decide +kernel, by decide +kernel⟩ (am_w4 wd_788 wd_789 wd_59 wd_790) (by omega) dX6_walk_216 rfl) <|
  am_kc (ak_iinc dX6_walk_219 (by decide +kernel) rfl) <|
  am_kc (ak_goto dX6_walk_222 (by decide +kernel)) <|
  am_kc (ak_retV dX6_walk_225) <| am_kn
def TX6_walk (d : Nat) : am_T := fun live as M R => match as with
  | [.ref n, .int p, .int s, .long c, .long t, .long u] => am_mn live ∧ n = 2 ∧ am_in s 4 ∧ g_wI M p ∧ 5 ≤ p.toInt + (d : Int) ∧ g_rI M ∧ ∀ M', g_sw M M' → g_rI M' → R none M'
  | _ => False
def JX6_walk : am_E → List Value → am_M → am_R → am_inv := fun live as M0 _ pc => match as with
  | [.ref n, .int p, .int s, .long c, .long t, .long u] => (match pc with
    | 174 => some ([0, 2, 3, 5, 7, 9, 11, 12], fun k L st M => ∃ (t u : Int64) (o : Int32), L = [(0, .ref 2), (2, .int s), (3, .long c), (5, .long t), (7, .long u), (9, .ref 4), (11, .int (p + 1)), (12, .int o)] ∧ st = [] ∧ k = ((5 - o.toInt).toNat, 0) ∧ 0 ≤ o.toInt ∧ g_wI M (p + 1) ∧ g_sw M0 M ∧ g_rI M)
    | _ => none)
  | _ => none
theorem g_yr {M : am_M} {p : Int32} (h : g_wI M p) : am_in (M.1 2 2 + p) 40 := by
  obtain ⟨-, ⟨h1, h5⟩, h2, h3, h4⟩ := h
  have e := i_add (x := M.1 2 2) (y := p) (by omega) (by omega)
  exact ⟨by omega, by omega⟩
theorem g_wI.p {M : am_M} {p : Int32} (h : g_wI M p) : 0 ≤ p.toInt ∧ p.toInt < 5 := by
  obtain ⟨-, ⟨h1, h5⟩, h2, h3, h4⟩ := h
  exact ⟨h1, by omega⟩
theorem g_wI.nx {M M' : am_M} {p : Int32} (h : g_wI M p) (c : g_sw M M') (hn : ¬ M'.1 2 3 ≤ p + 1) : g_wI M' (p + 1) := by
  have h2 := h.sw c
  obtain ⟨-, ⟨h1, h5⟩, h2, h3, h4⟩ := h2
  have e := i_inc (x := p) (by omega) (by omega)
  simp only [i_le] at hn
  exact ⟨(), ⟨by omega, by omega⟩, h2, h3, h4⟩
set_option maxRecDepth 100000 in
set_option maxHeartbeats 16000000 in
theorem metX6_walkG (d rw lw : Nat) (Tw : am_T) (hW : am_Met yX6_walk cX6_walk 14 none rw lw Tw) (hrc : rw + 1 ≤ d + 4 ∧ lw + 33 ≤ 40 * d + 110)
    (hT : ∀ (live : am_E) (p s : Int32) (c t u : Int64) (M : am_M) (R : am_R), am_mn live → am_in s 4 → g_wI M (p + 1) → 5 ≤ p.toInt + (d : Int) → g_rI M → (∀ M', g_sw M M' → g_rI M' → R none M') → Tw live [.ref 2, .int (p + 1), .int s, .long c, .long t, .long u] M R) :
    am_Met yX6_walk cX6_walk 14 none (d + 4) (40 * d + 110) (TX6_walk d) := by
  refine am_met (own := RX6) (by decide +kernel) rfl (kX6_walk d rw lw Tw) (koX6_walk d rw lw Tw hW hrc) 200 JX6_walk ?_ ?_
  · intro live as M Ret h
    unfold TX6_walk at h
    split at h
    · next n p s c t u =>
      refine ⟨Nat.le_of_ble_eq_true rfl, ?_⟩
      change am_wp _ _ _ _ [(0, Value.ref n), (1, Value.int p), (2, Value.int s), (3, Value.long c), (5, Value.long t), (7, Value.long u)] _ _
      obtain ⟨hmn, rfl, hs, hw, hd, hr, h⟩ := h
      have hmn2 := hmn
      obtain ⟨i1, i2, rfl⟩ := hmn2
      have hy := g_yr hw
      have hp := hw.p
      have hp1 := hp.1
      have hp2 := hp.2
      have hrl : ∀ k, Nat.ble k 110 = true → Nat.ble k (40 * d + 110) = true := fun k hk => Nat.ble_eq.mpr (by have := Nat.le_of_ble_eq_true hk; omega)
      have hrl2 := hrl 23 rfl
      have e30 := i_mul (x := p) (y := 30) (by simp only [Int32.reduceToInt]; omega) (by simp only [Int32.reduceToInt]; omega)
      simp only [Int32.reduceToInt] at e30
      have hi := i_inc (x := p) (by omega) (by omega)
      have e31 := i_mul (x := p + 1) (y := 30) (by simp only [Int32.reduceToInt]; omega) (by simp only [Int32.reduceToInt]; omega)
      simp only [Int32.reduceToInt] at e31
      have l3 : am_len 3 = 150 := rfl
      have l6 : am_len 6 = 180 := rfl
      have w0 : am_in (0 : Int32) 6 := ⟨by decide, by decide⟩
      have w1 : am_in (1 : Int32) 6 := ⟨by decide, by decide⟩
      have w2 : am_in (2 : Int32) 6 := ⟨by decide, by decide⟩
      have hz5 : ¬ (5 : Int32) ≤ p := by simp only [i_le, Int32.reduceToInt]; omega
      have hlt5 : p < 5 := by simp only [i_lt, Int32.reduceToInt]; omega
      have hc4 : s = 0 ∨ s = 1 ∨ s = 2 ∨ s = 3 := by
        have h1 := hs.1
        have h2 := hs.2
        simp only [i_eq, Int32.reduceToInt]
        omega
      rcases hc4 with rfl | rfl | rfl | rfl
      · skip
        repeat' (first | (with_reducible exact hmn) | (with_reducible exact hy) | (with_reducible exact hw) | (with_reducible exact w0) | (with_reducible exact w1) | (with_reducible exact w2) | (with_reducible exact hrl2) | apply And.intro | exact rfl | (intro hx; with_reducible exact absurd hx hz5) | (intro hx; with_reducible exact absurd hlt5 hx) | ((with_reducible change g_rI _); (with_reducible assumption)) | (intro hx; exact absurd hx (by decide)) | (intro hx; exact absurd (by decide) hx) | decide | intro hx | (refine Exists.intro _ (And.intro rfl ?_)) | ((with_reducible change _ = true); simp only [hrl2, Bool.true_and]; rfl))
        all_goals try first | (with_reducible change am_tI _ _) | (change Ret _ _) | (change Ret _ _ _) | (change Exists _)
        all_goals try dsimp only at *
        all_goals try exact absurd ‹(1000 : Int64) = 0› (by decide)
        all_goals first
          | omega
          | (simp only [l3, e30, e31, Int32.reduceToInt]; omega)
          | (have q := hx; simp only [i_lt, hi, Int32.reduceToInt] at q; simp only [l3, e31, hi, Int32.reduceToInt]; omega)
          | exact hy.1
          | exact hy.2
          | (left; rfl)
          | (right; rfl)
          | (change g_rI _; exact g_rI.wF (g_rI.w417 (g_rI.wF (g_rI.cJ hr) rfl) ⟨by decide, by decide⟩) rfl)
          | exact h _ (by (repeat' (first | (with_reducible exact g_sw.rf) | (with_reducible assumption) | ((with_reducible change g_sw _ (am_wI _ _ _ _)); refine g_sw.wI ?_ rfl) | ((with_reducible change g_sw _ (am_wJ _ _ _ _)); refine g_sw.wJ ?_ rfl) | ((with_reducible change g_sw _ (am_cJ _ _ _)); refine g_sw.cJ ?_ rfl) | (refine g_sw.tr ?_ (by with_reducible assumption)) | (refine g_sw.sc ?_ (by with_reducible assumption)) | (refine g_sw.we ?_ (by with_reducible assumption))))) (by (repeat' (first | (with_reducible assumption) | ((with_reducible change g_rI (am_wJ _ _ _ _)); refine g_rI.wJ ?_) | ((with_reducible change g_rI (am_cJ _ _ _)); refine g_rI.cJ ?_) | ((with_reducible change g_rI (am_wI _ 5 _ _)); refine g_rI.w5 ?_) | ((with_reducible change g_rI (am_wI _ _ _ _)); refine g_rI.wF ?_ rfl) | (refine g_rI.st ?_ (by with_reducible assumption)) | (refine g_rI.we ?_ (by with_reducible assumption)))))
          | (have hw2 := hw.nx (M' := ‹am_M›) (by (repeat' (first | (with_reducible exact g_sw.rf) | (with_reducible assumption) | ((with_reducible change g_sw _ (am_wI _ _ _ _)); refine g_sw.wI ?_ rfl) | ((with_reducible change g_sw _ (am_wJ _ _ _ _)); refine g_sw.wJ ?_ rfl) | ((with_reducible change g_sw _ (am_cJ _ _ _)); refine g_sw.cJ ?_ rfl) | (refine g_sw.tr ?_ (by with_reducible assumption)) | (refine g_sw.sc ?_ (by with_reducible assumption)) | (refine g_sw.we ?_ (by with_reducible assumption))))) (by with_reducible assumption)
             exact ⟨_, _, _, _, rfl, rfl, rfl, by decide, hw2.sw (by (repeat' (first | (with_reducible exact g_sw.rf) | (with_reducible assumption) | ((with_reducible change g_sw _ (am_wI _ _ _ _)); refine g_sw.wI ?_ rfl) | ((with_reducible change g_sw _ (am_wJ _ _ _ _)); refine g_sw.wJ ?_ rfl) | ((with_reducible change g_sw _ (am_cJ _ _ _)); refine g_sw.cJ ?_ rfl) | (refine g_sw.tr ?_ (by with_reducible assumption)) | (refine g_sw.sc ?_ (by with_reducible assumption)) | (refine g_sw.we ?_ (by with_reducible assumption))))), by (repeat' (first | (with_reducible exact g_sw.rf) | (with_reducible assumption) | ((with_reducible change g_sw _ (am_wI _ _ _ _)); refine g_sw.wI ?_ rfl) | ((with_reducible change g_sw _ (am_wJ _ _ _ _)); refine g_sw.wJ ?_ rfl) | ((with_reducible change g_sw _ (am_cJ _ _ _)); refine g_sw.cJ ?_ rfl) | (refine g_sw.tr ?_ (by with_reducible assumption)) | (refine g_sw.sc ?_ (by with_reducible assumption)) | (refine g_sw.we ?_ (by with_reducible assumption)))), by (repeat' (first | (with_reducible assumption) | ((with_reducible change g_rI (am_wJ _ _ _ _)); refine g_rI.wJ ?_) | ((with_reducible change g_rI (am_cJ _ _ _)); refine g_rI.cJ ?_) | ((with_reducible change g_rI (am_wI _ 5 _ _)); refine g_rI.w5 ?_) | ((with_reducible change g_rI (am_wI _ _ _ _)); refine g_rI.wF ?_ rfl) | (refine g_rI.st ?_ (by with_reducible assumption)) | (refine g_rI.we ?_ (by with_reducible assumption))))⟩)
          | skip
      · skip
        repeat' (first | (with_reducible exact hmn) | (with_reducible exact hy) | (with_reducible exact hw) | (with_reducible exact w0) | (with_reducible exact w1) | (with_reducible exact w2) | (with_reducible exact hrl2) | apply And.intro | exact rfl | (intro hx; with_reducible exact absurd hx hz5) | (intro hx; with_reducible exact absurd hlt5 hx) | ((with_reducible change g_rI _); (with_reducible assumption)) | (intro hx; exact absurd hx (by decide)) | (intro hx; exact absurd (by decide) hx) | decide | intro hx | (refine Exists.intro _ (And.intro rfl ?_)) | ((with_reducible change _ = true); simp only [hrl2, Bool.true_and]; rfl))
        all_goals try first | (with_reducible change am_tI _ _) | (change Ret _ _) | (change Ret _ _ _) | (change Exists _)
        all_goals try dsimp only at *
        all_goals try exact absurd ‹(1000 : Int64) = 0› (by decide)
        all_goals first
          | omega
          | (simp only [l3, e30, e31, Int32.reduceToInt]; omega)
          | (have q := hx; simp only [i_lt, hi, Int32.reduceToInt] at q; simp only [l3, e31, hi, Int32.reduceToInt]; omega)
          | exact hy.1
          | exact hy.2
          | (left; rfl)
          | (right; rfl)
          | (change g_rI _; exact g_rI.wF (g_rI.w417 (g_rI.wF (g_rI.cJ hr) rfl) ⟨by decide, by decide⟩) rfl)
          | exact h _ (by (repeat' (first | (with_reducible exact g_sw.rf) | (with_reducible assumption) | ((with_reducible change g_sw _ (am_wI _ _ _ _)); refine g_sw.wI ?_ rfl) | ((with_reducible change g_sw _ (am_wJ _ _ _ _)); refine g_sw.wJ ?_ rfl) | ((with_reducible change g_sw _ (am_cJ _ _ _)); refine g_sw.cJ ?_ rfl) | (refine g_sw.tr ?_ (by with_reducible assumption)) | (refine g_sw.sc ?_ (by with_reducible assumption)) | (refine g_sw.we ?_ (by with_reducible assumption))))) (by (repeat' (first | (with_reducible assumption) | ((with_reducible change g_rI (am_wJ _ _ _ _)); refine g_rI.wJ ?_) | ((with_reducible change g_rI (am_cJ _ _ _)); refine g_rI.cJ ?_) | ((with_reducible change g_rI (am_wI _ 5 _ _)); refine g_rI.w5 ?_) | ((with_reducible change g_rI (am_wI _ _ _ _)); refine g_rI.wF ?_ rfl) | (refine g_rI.st ?_ (by with_reducible assumption)) | (refine g_rI.we ?_ (by with_reducible assumption)))))
          | (have hw2 := hw.nx (M' := ‹am_M›) (by (repeat' (first | (with_reducible exact g_sw.rf) | (with_reducible assumption) | ((with_reducible change g_sw _ (am_wI _ _ _ _)); refine g_sw.wI ?_ rfl) | ((with_reducible change g_sw _ (am_wJ _ _ _ _)); refine g_sw.wJ ?_ rfl) | ((with_reducible change g_sw _ (am_cJ _ _ _)); refine g_sw.cJ ?_ rfl) | (refine g_sw.tr ?_ (by with_reducible assumption)) | (refine g_sw.sc ?_ (by with_reducible assumption)) | (refine g_sw.we ?_ (by with_reducible assumption))))) (by with_reducible assumption)
             exact ⟨_, _, _, _, rfl, rfl, rfl, by decide, hw2.sw (by (repeat' (first | (with_reducible exact g_sw.rf) | (with_reducible assumption) | ((with_reducible change g_sw _ (am_wI _ _ _ _)); refine g_sw.wI ?_ rfl) | ((with_reducible change g_sw _ (am_wJ _ _ _ _)); refine g_sw.wJ ?_ rfl) | ((with_reducible change g_sw _ (am_cJ _ _ _)); refine g_sw.cJ ?_ rfl) | (refine g_sw.tr ?_ (by with_reducible assumption)) | (refine g_sw.sc ?_ (by with_reducible assumption)) | (refine g_sw.we ?_ (by with_reducible assumption))))), by (repeat' (first | (with_reducible exact g_sw.rf) | (with_reducible assumption) | ((with_reducible change g_sw _ (am_wI _ _ _ _)); refine g_sw.wI ?_ rfl) | ((with_reducible change g_sw _ (am_wJ _ _ _ _)); refine g_sw.wJ ?_ rfl) | ((with_reducible change g_sw _ (am_cJ _ _ _)); refine g_sw.cJ ?_ rfl) | (refine g_sw.tr ?_ (by with_reducible assumption)) | (refine g_sw.sc ?_ (by with_reducible assumption)) | (refine g_sw.we ?_ (by with_reducible assumption)))), by (repeat' (first | (with_reducible assumption) | ((with_reducible change g_rI (am_wJ _ _ _ _)); refine g_rI.wJ ?_) | ((with_reducible change g_rI (am_cJ _ _ _)); refine g_rI.cJ ?_) | ((with_reducible change g_rI (am_wI _ 5 _ _)); refine g_rI.w5 ?_) | ((with_reducible change g_rI (am_wI _ _ _ _)); refine g_rI.wF ?_ rfl) | (refine g_rI.st ?_ (by with_reducible assumption)) | (refine g_rI.we ?_ (by with_reducible assumption))))⟩)
          | skip
      · skip
        repeat' (first | (with_reducible exact hmn) | (with_reducible exact hy) | (with_reducible exact hw) | (with_reducible exact w0) | (with_reducible exact w1) | (with_reducible exact w2) | (with_reducible exact hrl2) | apply And.intro | exact rfl | (intro hx; with_reducible exact absurd hx hz5) | (intro hx; with_reducible exact absurd hlt5 hx) | ((with_reducible change g_rI _); (with_reducible assumption)) | (intro hx; exact absurd hx (by decide)) | (intro hx; exact absurd (by decide) hx) | decide | intro hx | (refine Exists.intro _ (And.intro rfl ?_)) | ((with_reducible change _ = true); simp only [hrl2, Bool.true_and]; rfl))
        all_goals try first | (with_reducible change am_tI _ _) | (change Ret _ _) | (change Ret _ _ _) | (change Exists _)
        all_goals try dsimp only at *
        all_goals try exact absurd ‹(1000 : Int64) = 0› (by decide)
        all_goals first
          | omega
          | (simp only [l3, e30, e31, Int32.reduceToInt]; omega)
          | (have q := hx; simp only [i_lt, hi, Int32.reduceToInt] at q; simp only [l3, e31, hi, Int32.reduceToInt]; omega)
          | exact hy.1
          | exact hy.2
          | (left; rfl)
          | (right; rfl)
          | (change g_rI _; exact g_rI.wF (g_rI.w417 (g_rI.wF (g_rI.cJ hr) rfl) ⟨by decide, by decide⟩) rfl)
          | exact h _ (by (repeat' (first | (with_reducible exact g_sw.rf) | (with_reducible assumption) | ((with_reducible change g_sw _ (am_wI _ _ _ _)); refine g_sw.wI ?_ rfl) | ((with_reducible change g_sw _ (am_wJ _ _ _ _)); refine g_sw.wJ ?_ rfl) | ((with_reducible change g_sw _ (am_cJ _ _ _)); refine g_sw.cJ ?_ rfl) | (refine g_sw.tr ?_ (by with_reducible assumption)) | (refine g_sw.sc ?_ (by with_reducible assumption)) | (refine g_sw.we ?_ (by with_reducible assumption))))) (by (repeat' (first | (with_reducible assumption) | ((with_reducible change g_rI (am_wJ _ _ _ _)); refine g_rI.wJ ?_) | ((with_reducible change g_rI (am_cJ _ _ _)); refine g_rI.cJ ?_) | ((with_reducible change g_rI (am_wI _ 5 _ _)); refine g_rI.w5 ?_) | ((with_reducible change g_rI (am_wI _ _ _ _)); refine g_rI.wF ?_ rfl) | (refine g_rI.st ?_ (by with_reducible assumption)) | (refine g_rI.we ?_ (by with_reducible assumption)))))
          | (have hw2 := hw.nx (M' := ‹am_M›) (by (repeat' (first | (with_reducible exact g_sw.rf) | (with_reducible assumption) | ((with_reducible change g_sw _ (am_wI _ _ _ _)); refine g_sw.wI ?_ rfl) | ((with_reducible change g_sw _ (am_wJ _ _ _ _)); refine g_sw.wJ ?_ rfl) | ((with_reducible change g_sw _ (am_cJ _ _ _)); refine g_sw.cJ ?_ rfl) | (refine g_sw.tr ?_ (by with_reducible assumption)) | (refine g_sw.sc ?_ (by with_reducible assumption)) | (refine g_sw.we ?_ (by with_reducible assumption))))) (by with_reducible assumption)
             exact ⟨_, _, _, _, rfl, rfl, rfl, by decide, hw2.sw (by (repeat' (first | (with_reducible exact g_sw.rf) | (with_reducible assumption) | ((with_reducible change g_sw _ (am_wI _ _ _ _)); refine g_sw.wI ?_ rfl) | ((with_reducible change g_sw _ (am_wJ _ _ _ _)); refine g_sw.wJ ?_ rfl) | ((with_reducible change g_sw _ (am_cJ _ _ _)); refine g_sw.cJ ?_ rfl) | (refine g_sw.tr ?_ (by with_reducible assumption)) | (refine g_sw.sc ?_ (by with_reducible assumption)) | (refine g_sw.we ?_ (by with_reducible assumption))))), by (repeat' (first | (with_reducible exact g_sw.rf) | (with_reducible assumption) | ((with_reducible change g_sw _ (am_wI _ _ _ _)); refine g_sw.wI ?_ rfl) | ((with_reducible change g_sw _ (am_wJ _ _ _ _)); refine g_sw.wJ ?_ rfl) | ((with_reducible change g_sw _ (am_cJ _ _ _)); refine g_sw.cJ ?_ rfl) | (refine g_sw.tr ?_ (by with_reducible assumption)) | (refine g_sw.sc ?_ (by with_reducible assumption)) | (refine g_sw.we ?_ (by with_reducible assumption)))), by (repeat' (first | (with_reducible assumption) | ((with_reducible change g_rI (am_wJ _ _ _ _)); refine g_rI.wJ ?_) | ((with_reducible change g_rI (am_cJ _ _ _)); refine g_rI.cJ ?_) | ((with_reducible change g_rI (am_wI _ 5 _ _)); refine g_rI.w5 ?_) | ((with_reducible change g_rI (am_wI _ _ _ _)); refine g_rI.wF ?_ rfl) | (refine g_rI.st ?_ (by with_reducible assumption)) | (refine g_rI.we ?_ (by with_reducible assumption))))⟩)
          | skip
      · skip
        repeat' (first | (with_reducible exact hmn) | (with_reducible exact hy) | (with_reducible exact hw) | (with_reducible exact w0) | (with_reducible exact w1) | (with_reducible exact w2) | (with_reducible exact hrl2) | apply And.intro | exact rfl | (intro hx; with_reducible exact absurd hx hz5) | (intro hx; with_reducible exact absurd hlt5 hx) | ((with_reducible change g_rI _); (with_reducible assumption)) | (intro hx; exact absurd hx (by decide)) | (intro hx; exact absurd (by decide) hx) | decide | intro hx | (refine Exists.intro _ (And.intro rfl ?_)) | ((with_reducible change _ = true); simp only [hrl2, Bool.true_and]; rfl))
        all_goals try first | (with_reducible change am_tI _ _) | (change Ret _ _) | (change Ret _ _ _) | (change Exists _)
        all_goals try dsimp only at *
        all_goals try exact absurd ‹(1000 : Int64) = 0› (by decide)
        all_goals first
          | omega
          | (simp only [l3, e30, e31, Int32.reduceToInt]; omega)
          | (have q := hx; simp only [i_lt, hi, Int32.reduceToInt] at q; simp only [l3, e31, hi, Int32.reduceToInt]; omega)
          | exact hy.1
          | exact hy.2
          | (left; rfl)
          | (right; rfl)
          | (change g_rI _; exact g_rI.wF (g_rI.w417 (g_rI.wF (g_rI.cJ hr) rfl) ⟨by decide, by decide⟩) rfl)
          | exact h _ (by (repeat' (first | (with_reducible exact g_sw.rf) | (with_reducible assumption) | ((with_reducible change g_sw _ (am_wI _ _ _ _)); refine g_sw.wI ?_ rfl) | ((with_reducible change g_sw _ (am_wJ _ _ _ _)); refine g_sw.wJ ?_ rfl) | ((with_reducible change g_sw _ (am_cJ _ _ _)); refine g_sw.cJ ?_ rfl) | (refine g_sw.tr ?_ (by with_reducible assumption)) | (refine g_sw.sc ?_ (by with_reducible assumption)) | (refine g_sw.we ?_ (by with_reducible assumption))))) (by (repeat' (first | (with_reducible assumption) | ((with_reducible change g_rI (am_wJ _ _ _ _)); refine g_rI.wJ ?_) | ((with_reducible change g_rI (am_cJ _ _ _)); refine g_rI.cJ ?_) | ((with_reducible change g_rI (am_wI _ 5 _ _)); refine g_rI.w5 ?_) | ((with_reducible change g_rI (am_wI _ _ _ _)); refine g_rI.wF ?_ rfl) | (refine g_rI.st ?_ (by with_reducible assumption)) | (refine g_rI.we ?_ (by with_reducible assumption)))))
          | (have hw2 := hw.nx (M' := ‹am_M›) (by (repeat' (first | (with_reducible exact g_sw.rf) | (with_reducible assumption) | ((with_reducible change g_sw _ (am_wI _ _ _ _)); refine g_sw.wI ?_ rfl) | ((with_reducible change g_sw _ (am_wJ _ _ _ _)); refine g_sw.wJ ?_ rfl) | ((with_reducible change g_sw _ (am_cJ _ _ _)); refine g_sw.cJ ?_ rfl) | (refine g_sw.tr ?_ (by with_reducible assumption)) | (refine g_sw.sc ?_ (by with_reducible assumption)) | (refine g_sw.we ?_ (by with_reducible assumption))))) (by with_reducible assumption)
             exact ⟨_, _, _, _, rfl, rfl, rfl, by decide, hw2.sw (by (repeat' (first | (with_reducible exact g_sw.rf) | (with_reducible assumption) | ((with_reducible change g_sw _ (am_wI _ _ _ _)); refine g_sw.wI ?_ rfl) | ((with_reducible change g_sw _ (am_wJ _ _ _ _)); refine g_sw.wJ ?_ rfl) | ((with_reducible change g_sw _ (am_cJ _ _ _)); refine g_sw.cJ ?_ rfl) | (refine g_sw.tr ?_ (by with_reducible assumption)) | (refine g_sw.sc ?_ (by with_reducible assumption)) | (refine g_sw.we ?_ (by with_reducible assumption))))), by (repeat' (first | (with_reducible exact g_sw.rf) | (with_reducible assumption) | ((with_reducible change g_sw _ (am_wI _ _ _ _)); refine g_sw.wI ?_ rfl) | ((with_reducible change g_sw _ (am_wJ _ _ _ _)); refine g_sw.wJ ?_ rfl) | ((with_reducible change g_sw _ (am_cJ _ _ _)); refine g_sw.cJ ?_ rfl) | (refine g_sw.tr ?_ (by with_reducible assumption)) | (refine g_sw.sc ?_ (by with_reducible assumption)) | (refine g_sw.we ?_ (by with_reducible assumption)))), by (repeat' (first | (with_reducible assumption) | ((with_reducible change g_rI (am_wJ _ _ _ _)); refine g_rI.wJ ?_) | ((with_reducible change g_rI (am_cJ _ _ _)); refine g_rI.cJ ?_) | ((with_reducible change g_rI (am_wI _ 5 _ _)); refine g_rI.w5 ?_) | ((with_reducible change g_rI (am_wI _ _ _ _)); refine g_rI.wF ?_ rfl) | (refine g_rI.st ?_ (by with_reducible assumption)) | (refine g_rI.we ?_ (by with_reducible assumption))))⟩)
          | skip
    · exact h.elim
  · intro live as M0 Ret h k pc I hI L st M hi
    unfold TX6_walk at h
    split at h
    · next n p s c t u =>
      obtain ⟨hmn, rfl, hs, hw, hd, hr, h⟩ := h
      have hmn2 := hmn
      obtain ⟨i1, i2, rfl⟩ := hmn2
      change (match pc with | 174 => _ | _ => none) = _ at hI
      split at hI
      · cases hI
        obtain ⟨t, u, o, rfl, rfl, rfl, e1, e4, e2, e3⟩ := hi
        have hs1 := hs.1
        have hs2 := hs.2
        by_cases hz : (4 : Int32) ≤ o
        · skip
          repeat' (first | apply And.intro | exact rfl | (intro hx; with_reducible exact absurd hz hx) | intro hx | (refine Exists.intro _ (And.intro rfl ?_)))
          all_goals try first | (with_reducible change am_tI _ _) | (change Ret _ _) | (change Ret _ _ _) | (change Exists _)
          all_goals try dsimp only at *
          all_goals try exact absurd ‹(1000 : Int64) = 0› (by decide)
          exact h _ e2 e3
        · have hz2 := hz
          simp only [i_le, Int32.reduceToInt] at hz2
          have ho := i_inc (x := o) (by omega) (by omega)
          have ho4 : am_in o 4 := ⟨e1, by omega⟩
          have e40 := i_mul (x := s) (y := 4) (by simp only [Int32.reduceToInt]; omega) (by simp only [Int32.reduceToInt]; omega)
          simp only [Int32.reduceToInt] at e40
          have e := i_add (x := s * 4) (y := o) (by rw [e40]; omega) (by rw [e40]; omega)
          have l57 : am_len 57 = 16 := rfl
          have hp := hw.p
          repeat' (first | (with_reducible exact hmn) | (with_reducible exact hw) | (with_reducible exact ho4) | (with_reducible exact e4) | (with_reducible exact e3) | apply And.intro | exact rfl | (intro hx; with_reducible exact absurd hx hz) | ((with_reducible change g_rI _); (with_reducible assumption)) | intro hx | (refine Exists.intro _ (And.intro rfl ?_)) | (refine hT _ _ _ _ _ _ _ _ hmn ho4 e4 hd e3 (fun M1 c1 r1 => ?_)))
          all_goals try first | (with_reducible change am_tI _ _) | (change Ret _ _) | (change Ret _ _ _) | (change Exists _)
          all_goals try dsimp only at *
          all_goals try exact absurd ‹(1000 : Int64) = 0› (by decide)
          all_goals first
            | omega
            | (simp only [l57, e, e40]; omega)
            | exact ⟨_, am_lt_l (by omega), _, _, _, rfl, rfl, rfl, by omega, e4, e2, e3⟩
            | exact ⟨_, am_lt_l (by omega), _, _, _, rfl, rfl, rfl, by omega, e4.sw ‹g_sw M _›, e2.tr ‹g_sw M _›, ‹g_rI _›⟩
            | skip
      · cases hI
    · exact h.elim
theorem am_MetF2 (y : MethodName) (cc : ByteArray) (nL : Nat) (rt : Option FieldType) (rf rl : Nat) : am_Met y cc nL rt rf rl (fun _ _ _ _ => False) := fun _ _ _ _ _ _ _ _ _ h => h.elim
theorem metX6_walk : ∀ d : Nat, am_Met yX6_walk cX6_walk 14 none (d + 4) (40 * d + 110) (TX6_walk d)
  | 0 => metX6_walkG 0 0 0 _ (am_MetF2 _ _ _ _ _ _) (by omega) (fun live p s c t u M R h1 h2 h3 h4 h5 h6 => by
      exfalso
      have := h3.p
      by_cases z : p.toInt < 2000000000
      · by_cases z2 : -1 ≤ p.toInt
        · have e := i_inc (x := p) z2 z
          omega
        · omega
      · have h := i_hi p
        by_cases z3 : p.toInt < 2147483647
        · have e := i_add (x := p) (y := 1) (by simp only [Int32.reduceToInt]; omega) (by simp only [Int32.reduceToInt]; omega)
          simp only [Int32.reduceToInt] at e
          omega
        · have e : p = 2147483647 := (i_eq _ _).mpr (by simp only [Int32.reduceToInt]; omega)
          rw [e] at this
          exact absurd this.1 (by decide))
  | d + 1 => metX6_walkG (d + 1) (d + 4) (40 * d + 110) _ (metX6_walk d) (by omega) (fun live p s c t u M R h1 h2 h3 h4 h5 h6 => ⟨h1, rfl, h2, h3, (by
      have := h3.p
      have h := i_hi p
      have h' := i_lo p
      by_cases z3 : p.toInt < 2147483647
      · have e := i_add (x := p) (y := 1) (by simp only [Int32.reduceToInt]; omega) (by simp only [Int32.reduceToInt]; omega)
        simp only [Int32.reduceToInt] at e
        omega
      · have e : p = 2147483647 := (i_eq _ _).mpr (by simp only [Int32.reduceToInt]; omega)
        rw [e] at this
        exact absurd this.1 (by decide)), h5, h6⟩)
set_option maxRecDepth 100000 in
theorem wd_784 : Cond.constantLong "LearnLoans$Ways" 39 1000000000000000000 ∈ am_ws := am_wsi (List.mem_of_getElem? (i := 784) (by rfl)) (by decide +kernel)
set_option maxRecDepth 100000 in
theorem wd_785 : Cond.methodLink "LearnLoans$Ways" 47 yX4_begin ∈ am_ws := am_wsi (List.mem_of_getElem? (i := 785) (by rfl)) (by decide +kernel)
set_option maxRecDepth 100000 in
theorem wd_547 : Cond.instanceMethod yX4_begin ∈ am_ws := am_wsi (List.mem_of_getElem? (i := 547) (by rfl)) (by decide +kernel)
set_option maxRecDepth 100000 in
theorem wd_548 : Cond.selects "LearnLoans$Run" yX4_begin yX4_begin ∈ am_ws := am_wsi (List.mem_of_getElem? (i := 548) (by rfl)) (by decide +kernel)
set_option maxRecDepth 100000 in
theorem wd_549 : Cond.code yX4_begin cX4_begin 5 none ∈ am_ws := am_wsi (List.mem_of_getElem? (i := 549) (by rfl)) (by decide +kernel)
set_option maxRecDepth 100000 in
theorem wd_786 : Cond.methodLink "LearnLoans$Ways" 51 yX4_go ∈ am_ws := am_wsi (List.mem_of_getElem? (i := 786) (by rfl)) (by decide +kernel)
set_option maxRecDepth 100000 in
theorem wd_560 : Cond.instanceMethod yX4_go ∈ am_ws := am_wsi (List.mem_of_getElem? (i := 560) (by rfl)) (by decide +kernel)
set_option maxRecDepth 100000 in
theorem wd_561 : Cond.selects "LearnLoans$Run" yX4_go yX4_go ∈ am_ws := am_wsi (List.mem_of_getElem? (i := 561) (by rfl)) (by decide +kernel)
set_option maxRecDepth 100000 in
theorem wd_562 : Cond.code yX4_go cX4_go 3 none ∈ am_ws := am_wsi (List.mem_of_getElem? (i := 562) (by rfl)) (by decide +kernel)
theorem dX6_follow_0 : decode cX6_follow 0 = .ok (.aload_n 0, 1) := by decide +kernel
theorem dX6_follow_1 : decode cX6_follow 1 = .ok (.iload 4, 2) := by decide +kernel
theorem dX6_follow_3 : decode cX6_follow 3 = .ok (.putfield 22, 3) := by decide +kernel
theorem dX6_follow_6 : decode cX6_follow 6 = .ok (.aload_n 0, 1) := by decide +kernel
theorem dX6_follow_7 : decode cX6_follow 7 = .ok (.iload 5, 2) := by decide +kernel
theorem dX6_follow_9 : decode cX6_follow 9 = .ok (.putfield 26, 3) := by decide +kernel
theorem dX6_follow_12 : decode cX6_follow 12 = .ok (.aload_n 0, 1) := by decide +kernel
theorem dX6_follow_13 : decode cX6_follow 13 = .ok (.iload_n 3, 1) := by decide +kernel
theorem dX6_follow_14 : decode cX6_follow 14 = .ok (.putfield 29, 3) := by decide +kernel
theorem dX6_follow_17 : decode cX6_follow 17 = .ok (.aload_n 0, 1) := by decide +kernel
theorem dX6_follow_18 : decode cX6_follow 18 = .ok (.lconst 0, 1) := by decide +kernel
theorem dX6_follow_19 : decode cX6_follow 19 = .ok (.putfield 32, 3) := by decide +kernel
theorem dX6_follow_22 : decode cX6_follow 22 = .ok (.aload_n 0, 1) := by decide +kernel
theorem dX6_follow_23 : decode cX6_follow 23 = .ok (.lconst 0, 1) := by decide +kernel
theorem dX6_follow_24 : decode cX6_follow 24 = .ok (.putfield 36, 3) := by decide +kernel
theorem dX6_follow_27 : decode cX6_follow 27 = .ok (.aload_n 0, 1) := by decide +kernel
theorem dX6_follow_28 : decode cX6_follow 28 = .ok (.ldc2_w 39, 3) := by decide +kernel
theorem dX6_follow_31 : decode cX6_follow 31 = .ok (.putfield 41, 3) := by decide +kernel
theorem dX6_follow_34 : decode cX6_follow 34 = .ok (.aload_n 0, 1) := by decide +kernel
theorem dX6_follow_35 : decode cX6_follow 35 = .ok (.lconst 0, 1) := by decide +kernel
theorem dX6_follow_36 : decode cX6_follow 36 = .ok (.putfield 44, 3) := by decide +kernel
theorem dX6_follow_39 : decode cX6_follow 39 = .ok (.aload_n 0, 1) := by decide +kernel
theorem dX6_follow_40 : decode cX6_follow 40 = .ok (.getfield 12, 3) := by decide +kernel
theorem dX6_follow_43 : decode cX6_follow 43 = .ok (.iload_n 1, 1) := by decide +kernel
theorem dX6_follow_44 : decode cX6_follow 44 = .ok (.bipush 39, 2) := by decide +kernel
theorem dX6_follow_46 : decode cX6_follow 46 = .ok (.invokevirtual 47, 3) := by decide +kernel
theorem dX6_follow_49 : decode cX6_follow 49 = .ok (.aload_n 0, 1) := by decide +kernel
theorem dX6_follow_50 : decode cX6_follow 50 = .ok (.getfield 12, 3) := by decide +kernel
theorem dX6_follow_53 : decode cX6_follow 53 = .ok (.iload 4, 2) := by decide +kernel
theorem dX6_follow_55 : decode cX6_follow 55 = .ok (.iconst 1, 1) := by decide +kernel
theorem dX6_follow_56 : decode cX6_follow 56 = .ok (.isub, 1) := by decide +kernel
theorem dX6_follow_57 : decode cX6_follow 57 = .ok (.invokevirtual 51, 3) := by decide +kernel
theorem dX6_follow_60 : decode cX6_follow 60 = .ok (.aload_n 0, 1) := by decide +kernel
theorem dX6_follow_61 : decode cX6_follow 61 = .ok (.getfield 12, 3) := by decide +kernel
theorem dX6_follow_64 : decode cX6_follow 64 = .ok (.getfield 55, 3) := by decide +kernel
theorem dX6_follow_67 : decode cX6_follow 67 = .ok (.iconst 0, 1) := by decide +kernel
theorem dX6_follow_68 : decode cX6_follow 68 = .ok (.aload_n 0, 1) := by decide +kernel
theorem dX6_follow_69 : decode cX6_follow 69 = .ok (.getfield 18, 3) := by decide +kernel
theorem dX6_follow_72 : decode cX6_follow 72 = .ok (.iconst 0, 1) := by decide +kernel
theorem dX6_follow_73 : decode cX6_follow 73 = .ok (.bipush 30, 2) := by decide +kernel
theorem dX6_follow_75 : decode cX6_follow 75 = .ok (.invokestatic 58, 3) := by decide +kernel
theorem dX6_follow_78 : decode cX6_follow 78 = .ok (.aload_n 0, 1) := by decide +kernel
theorem dX6_follow_79 : decode cX6_follow 79 = .ok (.iconst 0, 1) := by decide +kernel
theorem dX6_follow_80 : decode cX6_follow 80 = .ok (.iload_n 2, 1) := by decide +kernel
theorem dX6_follow_81 : decode cX6_follow 81 = .ok (.lconst 1, 1) := by decide +kernel
theorem dX6_follow_82 : decode cX6_follow 82 = .ok (.lconst 0, 1) := by decide +kernel
theorem dX6_follow_83 : decode cX6_follow 83 = .ok (.lconst 0, 1) := by decide +kernel
theorem dX6_follow_84 : decode cX6_follow 84 = .ok (.invokestatic 64, 3) := by decide +kernel
theorem dX6_follow_87 : decode cX6_follow 87 = .ok (.return_, 1) := by decide +kernel
def kX6_follow (live : am_E) (Ret : am_R) : am_code := [(0, am_aload 0 1), (1, am_iload 4 3), (3, am_putI live 6 2 6), (6, am_aload 0 7), (7, am_iload 5 9), (9, am_putI live 6 3 12), (12, am_aload 0 13), (13, am_iload 3 14), (14, am_putI live 6 4 17), (17, am_aload 0 18), (18, am_const (.long 0) 19), (19, am_putJ live 6 5 22), (22, am_aload 0 23), (23, am_const (.long 0) 24), (24, am_putJ live 6 8 27), (27, am_aload 0 28), (28, am_const (.long 1000000000000000000) 31), (31, am_putJ live 6 6 34), (34, am_aload 0 35), (35, am_const (.long 0) 36), (36, am_putJ live 6 7 39), (39, am_aload 0 40), (40, am_getR live 6 0 43), (43, am_iload 1 44), (44, am_const (.int 39) 46), (46, am_callV live 4 2 TX4_begin 49), (49, am_aload 0 50), (50, am_getR live 6 0 53), (53, am_iload 4 55), (55, am_const (.int 1) 56), (56, am_i2 (fun x y => x - y) 57), (57, am_callV live 4 1 TX4_go 60), (60, am_aload 0 61), (61, am_getR live 6 0 64), (64, am_getR live 4 2 67), (67, am_const (.int 0) 68), (68, am_aload 0 69), (69, am_getR live 6 1 72), (72, am_const (.int 0) 73), (73, am_const (.int 30) 75), (75, am_copyJ live 343 78), (78, am_aload 0 79), (79, am_const (.int 0) 80), (80, am_iload 2 81), (81, am_const (.long 1) 82), (82, am_const (.long 0) 83), (83, am_const (.long 0) 84), (84, am_callS live 6 (TX6_walk 5) 87), (87, am_retV Ret)]
theorem koX6_follow (live : am_E) (Ret : am_R) : ∀ q ∈ kX6_follow live Ret, am_ok RX6 cX6_follow 6 none 10 343 live Ret q.1 q.2 :=
  am_kc (ak_aload_n dX6_follow_0 rfl rfl) <|
  am_kc (ak_iload dX6_follow_1 rfl) <|
  am_kc (ak_putI (C := RX6) (T := TX6) (N := 9) rfl inX6w tyX6_ok nmX6 (by decide) rfl rfl rfl rfl (by decide +kernel) wd_358 dX6_follow_3 rfl) <|
  am_kc (ak_aload_n dX6_follow_6 rfl rfl) <|
  am_kc (ak_iload dX6_follow_7 rfl) <|
  am_kc (ak_putI (C := RX6) (T := TX6) (N := 9) rfl inX6w tyX6_ok nmX6 (by decide) rfl rfl rfl rfl (by decide +kernel) wd_359 dX6_follow_9 rfl) <|
  am_kc (ak_aload_n dX6_follow_12 rfl rfl) <|
  am_kc (ak_iload_n dX6_follow_13 rfl rfl) <|
  am_kc (ak_putI (C := RX6) (T := TX6) (N := 9) rfl inX6w tyX6_ok nmX6 (by decide) rfl rfl rfl rfl (by decide +kernel) wd_360 dX6_follow_14 rfl) <|
  am_kc (ak_aload_n dX6_follow_17 rfl rfl) <|
  am_kc (ak_lconst dX6_follow_18 (by decide +kernel) rfl) <|
  am_kc (ak_putJ (C := RX6) (T := TX6) (N := 9) rfl inX6w tyX6_ok nmX6 (by decide) rfl rfl rfl rfl (by decide +kernel) wd_361 dX6_follow_19 rfl) <|
  am_kc (ak_aload_n dX6_follow_22 rfl rfl) <|
  am_kc (ak_lconst dX6_follow_23 (by decide +kernel) rfl) <|
  am_kc (ak_putJ (C := RX6) (T := TX6) (N := 9) rfl inX6w tyX6_ok nmX6 (by decide) rfl rfl rfl rfl (by decide +kernel) wd_367 dX6_follow_24 rfl) <|
  am_kc (ak_aload_n dX6_follow_27 rfl rfl) <|
  am_kc (ak_ldc2 wd_784 dX6_follow_28 rfl) <|
  am_kc (ak_putJ (C := RX6) (T := TX6) (N := 9) rfl inX6w tyX6_ok nmX6 (by decide) rfl rfl rfl rfl (by decide +kernel) wd_363 dX6_follow_31 rfl) <|
  am_kc (ak_aload_n dX6_follow_34 rfl rfl) <|
  am_kc (ak_lconst dX6_follow_35 (by decide +kernel) rfl) <|
  am_kc (ak_putJ (C := RX6) (T := TX6) (N := 9) rfl inX6w tyX6_ok nmX6 (by decide) rfl rfl rfl rfl (by decide +kernel) wd_365 dX6_follow_36 rfl) <|
  am_kc (ak_aload_n dX6_follow_39 rfl rfl) <|
  am_kc (ak_getR (C := RX6) (T := TX6) (N := 9) rfl inX6w (by decide) rfl rfl rfl wd_355 dX6_follow_40 rfl) <|
  am_kc (ak_iload_n dX6_follow_43 rfl rfl) <|
  am_kc (ak_bipush dX6_follow_44 (by decide +kernel) rfl) <|
  am_kc (ak_callV (C := RX4) (F := TX4) (N := 19) metX4_begin rfl ⟨rfl, by decide +kernel, by decide +kernel, by decide +kernel⟩ (am_w5 wd_785 wd_547 wd_548 wd_60 wd_549) (by decide) dX6_follow_46 rfl) <|
  am_kc (ak_aload_n dX6_follow_49 rfl rfl) <|
  am_kc (ak_getR (C := RX6) (T := TX6) (N := 9) rfl inX6w (by decide) rfl rfl rfl wd_355 dX6_follow_50 rfl) <|
  am_kc (ak_iload dX6_follow_53 rfl) <|
  am_kc (ak_iconst dX6_follow_55 (by decide +kernel) rfl) <|
  am_kc (ak_isub dX6_follow_56 rfl) <|
  am_kc (ak_callV (C := RX4) (F := TX4) (N := 19) metX4_go rfl ⟨rfl, by decide +kernel, by decide +kernel, by decide +kernel⟩ (am_w5 wd_786 wd_560 wd_561 wd_60 wd_562) (by decide) dX6_follow_57 rfl) <|
  am_kc (ak_aload_n dX6_follow_60 rfl rfl) <|
  am_kc (ak_getR (C := RX6) (T := TX6) (N := 9) rfl inX6w (by decide) rfl rfl rfl wd_355 dX6_follow_61 rfl) <|
  am_kc (ak_getR (C := RX4) (T := TX4) (N := 19) rfl inX4w (by decide) rfl rfl rfl wd_297 dX6_follow_64 rfl) <|
  am_kc (ak_iconst dX6_follow_67 (by decide +kernel) rfl) <|
  am_kc (ak_aload_n dX6_follow_68 rfl rfl) <|
  am_kc (ak_getR (C := RX6) (T := TX6) (N := 9) rfl inX6w (by decide) rfl rfl rfl wd_357 dX6_follow_69 rfl) <|
  am_kc (ak_iconst dX6_follow_72 (by decide +kernel) rfl) <|
  am_kc (ak_bipush dX6_follow_73 (by decide +kernel) rfl) <|
  am_kc (ak_copyJ (am_w4 wd_787 wd_501 wd_500 wd_69) (by decide) dX6_follow_75 rfl) <|
  am_kc (ak_aload_n dX6_follow_78 rfl rfl) <|
  am_kc (ak_iconst dX6_follow_79 (by decide +kernel) rfl) <|
  am_kc (ak_iload_n dX6_follow_80 rfl rfl) <|
  am_kc (ak_lconst dX6_follow_81 (by decide +kernel) rfl) <|
  am_kc (ak_lconst dX6_follow_82 (by decide +kernel) rfl) <|
  am_kc (ak_lconst dX6_follow_83 (by decide +kernel) rfl) <|
  am_kc (ak_callS (metX6_walk 5) ⟨rfl, by decide +kernel, by decide +kernel, by decide +kernel⟩ (am_w4 wd_788 wd_789 wd_59 wd_790) (by decide) dX6_follow_84 rfl) <|
  am_kc (ak_retV dX6_follow_87) <| am_kn
def TX6_follow : am_T := fun live as M R => match as with
  | [.ref n, .int p, .int s, .int c, .int y, .int w] => am_mn live ∧ n = 2 ∧ am_in p 12 ∧ am_in s 4 ∧ (0 ≤ y.toInt ∧ 1 ≤ w.toInt ∧ w.toInt ≤ 5 ∧ y.toInt + w.toInt ≤ 40) ∧ g_rI M ∧ ∀ M', g_sv M M' → g_rI M' → R none M'
  | _ => False
set_option maxRecDepth 100000 in
set_option maxHeartbeats 4000000 in
theorem metX6_follow : am_Met yX6_follow cX6_follow 6 none (10) (343) TX6_follow := by
  refine am_met (own := RX6) (by decide +kernel) rfl kX6_follow koX6_follow 150 (fun _ _ _ _ _ => none) (fun live as M Ret h => ?_) (fun _ _ _ _ _ _ _ _ hI => by cases hI)
  unfold TX6_follow at h
  split at h
  · next n p s c y w =>
    refine ⟨Nat.le_of_ble_eq_true rfl, ?_⟩
    change am_wp _ _ _ _ [(0, Value.ref n), (1, Value.int p), (2, Value.int s), (3, Value.int c), (4, Value.int y), (5, Value.int w)] _ _
    obtain ⟨hmn, rfl, hp, hs, ⟨y1, w1, w2, w3⟩, hr, h⟩ := h
    have hmn2 := hmn
    obtain ⟨i1, i2, rfl⟩ := hmn2
    have hv : g_sv M (am_wJ (am_wJ (am_wJ (am_wJ (am_wI (am_wI (am_wI M 2 2 y) 2 3 w) 2 4 c) 2 5 0) 2 8 0) 2 6 1000000000000000000) 2 7 0) := g_sv.rf.w2.w2.w2.w2J.w2J.w2J.w2J
    have hr2 : g_rI (am_wJ (am_wJ (am_wJ (am_wJ (am_wI (am_wI (am_wI M 2 2 y) 2 3 w) 2 4 c) 2 5 0) 2 8 0) 2 6 1000000000000000000) 2 7 0) := hr.w2.w2.w2.wJ.wJ.wJ.wJ
    have hw2 : g_wI (am_wJ (am_wJ (am_wJ (am_wJ (am_wI (am_wI (am_wI M 2 2 y) 2 3 w) 2 4 c) 2 5 0) 2 8 0) 2 6 1000000000000000000) 2 7 0) 0 := ⟨(), ⟨by decide, w1⟩, w2, y1, w3⟩
    have l3 : am_len 3 = 150 := rfl
    have l6 : am_len 6 = 180 := rfl
    repeat' (first | (with_reducible exact hmn) | (with_reducible exact hp) | (with_reducible exact hs) | (with_reducible exact hr2) | apply And.intro | exact rfl | ((with_reducible change g_rI _); (with_reducible assumption)) | intro hx | (refine Exists.intro _ (And.intro rfl ?_)))
    all_goals try first | (with_reducible change am_tI _ _) | (change Ret _ _) | (change Ret _ _ _) | (change Exists _)
    all_goals try dsimp only at *
    all_goals try exact absurd ‹(1000 : Int64) = 0› (by decide)
    all_goals first
      | decide
      | (simp only [l3, l6, Int32.reduceToInt]; omega)
      | exact g_wI.sw hw2 (by (repeat' (first | (with_reducible exact g_sw.rf) | (with_reducible assumption) | ((with_reducible change g_sw _ (am_wI _ _ _ _)); refine g_sw.wI ?_ rfl) | ((with_reducible change g_sw _ (am_wJ _ _ _ _)); refine g_sw.wJ ?_ rfl) | ((with_reducible change g_sw _ (am_cJ _ _ _)); refine g_sw.cJ ?_ rfl) | (refine g_sw.tr ?_ (by with_reducible assumption)) | (refine g_sw.sc ?_ (by with_reducible assumption)) | (refine g_sw.we ?_ (by with_reducible assumption)))))
      | (change g_rI _; (repeat' (first | (with_reducible assumption) | ((with_reducible change g_rI (am_wJ _ _ _ _)); refine g_rI.wJ ?_) | ((with_reducible change g_rI (am_cJ _ _ _)); refine g_rI.cJ ?_) | ((with_reducible change g_rI (am_wI _ 5 _ _)); refine g_rI.w5 ?_) | ((with_reducible change g_rI (am_wI _ _ _ _)); refine g_rI.wF ?_ rfl) | (refine g_rI.st ?_ (by with_reducible assumption)) | (refine g_rI.we ?_ (by with_reducible assumption)))))
      | (exact h _ (hv.tr (g_sw.v (by (repeat' (first | (with_reducible exact g_sw.rf) | (with_reducible assumption) | ((with_reducible change g_sw _ (am_wI _ _ _ _)); refine g_sw.wI ?_ rfl) | ((with_reducible change g_sw _ (am_wJ _ _ _ _)); refine g_sw.wJ ?_ rfl) | ((with_reducible change g_sw _ (am_cJ _ _ _)); refine g_sw.cJ ?_ rfl) | (refine g_sw.tr ?_ (by with_reducible assumption)) | (refine g_sw.sc ?_ (by with_reducible assumption)) | (refine g_sw.we ?_ (by with_reducible assumption))))))) (by with_reducible assumption))
  · exact h.elim
