/-! p1: the reference, what is refused on a new object -/
theorem wd_993 : Cond.methodLink "LearnLoansModel" 76 yX8_isPerson ∈ am_ws := am_wsi (List.mem_of_getElem? (i := 993) (by decide +kernel)) (by decide +kernel)
theorem wd_995 : Cond.instanceMethod yX8_isPerson ∈ am_ws := am_wsi (List.mem_of_getElem? (i := 995) (by decide +kernel)) (by decide +kernel)
theorem wd_27 : Cond.selects "LearnLoansModel" yX8_isPerson yX8_isPerson ∈ am_ws := am_wsi (List.mem_of_getElem? (i := 27) (by decide +kernel)) (by decide +kernel)
theorem wd_996 : Cond.code yX8_isPerson cX8_isPerson 2 (some .boolean) ∈ am_ws := am_wsi (List.mem_of_getElem? (i := 996) (by decide +kernel)) (by decide +kernel)
theorem wd_982 : Cond.methodLink "LearnLoansModel" 72 yX8_isYear ∈ am_ws := am_wsi (List.mem_of_getElem? (i := 982) (by decide +kernel)) (by decide +kernel)
theorem wd_983 : Cond.static yX8_isYear ∈ am_ws := am_wsi (List.mem_of_getElem? (i := 983) (by decide +kernel)) (by decide +kernel)
theorem wd_984 : Cond.code yX8_isYear cX8_isYear 1 (some .boolean) ∈ am_ws := am_wsi (List.mem_of_getElem? (i := 984) (by decide +kernel)) (by decide +kernel)
theorem dX8_land_0 : decode cX8_land 0 = .ok (.aload_n 0, 1) := by decide +kernel
theorem dX8_land_1 : decode cX8_land 1 = .ok (.iload_n 1, 1) := by decide +kernel
theorem dX8_land_2 : decode cX8_land 2 = .ok (.invokevirtual 76, 3) := by decide +kernel
theorem dX8_land_5 : decode cX8_land 5 = .ok (.ifCond .eq 36, 3) := by decide +kernel
theorem dX8_land_8 : decode cX8_land 8 = .ok (.iload_n 2, 1) := by decide +kernel
theorem dX8_land_9 : decode cX8_land 9 = .ok (.i2l, 1) := by decide +kernel
theorem dX8_land_10 : decode cX8_land 10 = .ok (.lconst 0, 1) := by decide +kernel
theorem dX8_land_11 : decode cX8_land 11 = .ok (.ldc2_w 79, 3) := by decide +kernel
theorem dX8_land_14 : decode cX8_land 14 = .ok (.invokestatic 66, 3) := by decide +kernel
theorem dX8_land_17 : decode cX8_land 17 = .ok (.ifCond .eq 24, 3) := by decide +kernel
theorem dX8_land_20 : decode cX8_land 20 = .ok (.iload_n 3, 1) := by decide +kernel
theorem dX8_land_21 : decode cX8_land 21 = .ok (.invokestatic 72, 3) := by decide +kernel
theorem dX8_land_24 : decode cX8_land 24 = .ok (.ifCond .eq 17, 3) := by decide +kernel
theorem dX8_land_27 : decode cX8_land 27 = .ok (.iload 4, 2) := by decide +kernel
theorem dX8_land_29 : decode cX8_land 29 = .ok (.invokestatic 72, 3) := by decide +kernel
theorem dX8_land_32 : decode cX8_land 32 = .ok (.ifCond .eq 9, 3) := by decide +kernel
theorem dX8_land_35 : decode cX8_land 35 = .ok (.iload_n 3, 1) := by decide +kernel
theorem dX8_land_36 : decode cX8_land 36 = .ok (.iload 4, 2) := by decide +kernel
theorem dX8_land_38 : decode cX8_land 38 = .ok (.if_icmp .le 6, 3) := by decide +kernel
theorem dX8_land_41 : decode cX8_land 41 = .ok (.bipush (-2), 2) := by decide +kernel
theorem dX8_land_43 : decode cX8_land 43 = .ok (.ireturn, 1) := by decide +kernel
theorem dX8_land_44 : decode cX8_land 44 = .ok (.iload_n 3, 1) := by decide +kernel
theorem dX8_land_45 : decode cX8_land 45 = .ok (.istore 5, 2) := by decide +kernel
theorem dX8_land_47 : decode cX8_land 47 = .ok (.iload 5, 2) := by decide +kernel
theorem dX8_land_49 : decode cX8_land 49 = .ok (.iload 4, 2) := by decide +kernel
theorem dX8_land_51 : decode cX8_land 51 = .ok (.if_icmp .gt 25, 3) := by decide +kernel
theorem dX8_land_54 : decode cX8_land 54 = .ok (.aload_n 0, 1) := by decide +kernel
theorem dX8_land_55 : decode cX8_land 55 = .ok (.getfield 7, 3) := by decide +kernel
theorem dX8_land_58 : decode cX8_land 58 = .ok (.bipush 34, 2) := by decide +kernel
theorem dX8_land_60 : decode cX8_land 60 = .ok (.bipush 40, 2) := by decide +kernel
theorem dX8_land_62 : decode cX8_land 62 = .ok (.iload_n 1, 1) := by decide +kernel
theorem dX8_land_63 : decode cX8_land 63 = .ok (.imul, 1) := by decide +kernel
theorem dX8_land_64 : decode cX8_land 64 = .ok (.iadd, 1) := by decide +kernel
theorem dX8_land_65 : decode cX8_land 65 = .ok (.iload 5, 2) := by decide +kernel
theorem dX8_land_67 : decode cX8_land 67 = .ok (.iadd, 1) := by decide +kernel
theorem dX8_land_68 : decode cX8_land 68 = .ok (.iload_n 2, 1) := by decide +kernel
theorem dX8_land_69 : decode cX8_land 69 = .ok (.iastore, 1) := by decide +kernel
theorem dX8_land_70 : decode cX8_land 70 = .ok (.iinc 5 1, 3) := by decide +kernel
theorem dX8_land_73 : decode cX8_land 73 = .ok (.goto (-26), 3) := by decide +kernel
theorem dX8_land_76 : decode cX8_land 76 = .ok (.iconst 1, 1) := by decide +kernel
theorem dX8_land_77 : decode cX8_land 77 = .ok (.ireturn, 1) := by decide +kernel
def kX8_land (live : am_E) (Ret : am_R) : am_code := [(0, am_aload 0 1), (1, am_iload 1 2), (2, am_callV live 8 1 TX8_isPerson 5), (5, am_if1 (fun x => x = 0) 41 8), (8, am_iload 2 9), (9, am_i2l 10), (10, am_const (.long 0) 11), (11, am_const (.long 3) 14), (14, am_callS live 3 TX8_in 17), (17, am_if1 (fun x => x = 0) 41 20), (20, am_iload 3 21), (21, am_callS live 1 TX8_isYear 24), (24, am_if1 (fun x => x = 0) 41 27), (27, am_iload 4 29), (29, am_callS live 1 TX8_isYear 32), (32, am_if1 (fun x => x = 0) 41 35), (35, am_iload 3 36), (36, am_iload 4 38), (38, am_if2 (fun x y => x ≤ y) 44 41), (41, am_const (.int (-2)) 43), (43, am_retI Ret), (44, am_iload 3 45), (45, am_istore 5 6 47), (47, am_iload 5 49), (49, am_iload 4 51), (51, am_if2 (fun x y => y < x) 76 54), (54, am_aload 0 55), (55, am_getR live 8 0 58), (58, am_const (.int 34) 60), (60, am_const (.int 40) 62), (62, am_iload 1 63), (63, am_i2 (fun x y => x * y) 64), (64, am_i2 (fun x y => x + y) 65), (65, am_iload 5 67), (67, am_i2 (fun x y => x + y) 68), (68, am_iload 2 69), (69, am_ast live 0 70), (70, am_iinc 5 6 1 73), (73, am_goto 47), (76, am_const (.int 1) 77), (77, am_retI Ret)]
theorem koX8_land (live : am_E) (Ret : am_R) : ∀ q ∈ kX8_land live Ret, am_ok RX8 cX8_land 6 (some .int) 2 46 live Ret q.1 q.2 :=
  am_kc (ak_aload_n dX8_land_0 rfl rfl) <|
  am_kc (ak_iload_n dX8_land_1 rfl rfl) <|
  am_kc (ak_callV (C := RX8) (F := TX8) (N := 27) metX8_isPerson rfl ⟨rfl, by decide +kernel, by decide +kernel, by decide +kernel⟩ (am_w5 wd_993 wd_995 wd_27 wd_67 wd_996) (by decide) dX8_land_2 rfl) <|
  am_kc (ak_if_eq dX8_land_5 (by decide +kernel) rfl) <|
  am_kc (ak_iload_n dX8_land_8 rfl rfl) <|
  am_kc (ak_i2l dX8_land_9 rfl) <|
  am_kc (ak_lconst dX8_land_10 (by decide +kernel) rfl) <|
  am_kc (ak_ldc2 wd_997 dX8_land_11 rfl) <|
  am_kc (ak_callS metX8_in ⟨rfl, by decide +kernel, by decide +kernel, by decide +kernel⟩ (am_w4 wd_986 wd_987 wd_67 wd_988) (by decide) dX8_land_14 rfl) <|
  am_kc (ak_if_eq dX8_land_17 (by decide +kernel) rfl) <|
  am_kc (ak_iload_n dX8_land_20 rfl rfl) <|
  am_kc (ak_callS metX8_isYear ⟨rfl, by decide +kernel, by decide +kernel, by decide +kernel⟩ (am_w4 wd_982 wd_983 wd_67 wd_984) (by decide) dX8_land_21 rfl) <|
  am_kc (ak_if_eq dX8_land_24 (by decide +kernel) rfl) <|
  am_kc (ak_iload dX8_land_27 rfl) <|
  am_kc (ak_callS metX8_isYear ⟨rfl, by decide +kernel, by decide +kernel, by decide +kernel⟩ (am_w4 wd_982 wd_983 wd_67 wd_984) (by decide) dX8_land_29 rfl) <|
  am_kc (ak_if_eq dX8_land_32 (by decide +kernel) rfl) <|
  am_kc (ak_iload_n dX8_land_35 rfl rfl) <|
  am_kc (ak_iload dX8_land_36 rfl) <|
  am_kc (ak_icmp_le dX8_land_38 (by decide +kernel) rfl) <|
  am_kc (ak_bipush dX8_land_41 (by decide +kernel) rfl) <|
  am_kc (ak_retI dX8_land_43) <|
  am_kc (ak_iload_n dX8_land_44 rfl rfl) <|
  am_kc (ak_istore dX8_land_45 rfl) <|
  am_kc (ak_iload dX8_land_47 rfl) <|
  am_kc (ak_iload dX8_land_49 rfl) <|
  am_kc (ak_icmp_gt dX8_land_51 (by decide +kernel) rfl) <|
  am_kc (ak_aload_n dX8_land_54 rfl rfl) <|
  am_kc (ak_getR (C := RX8) (T := TX8) (N := 27) rfl inX8w (by decide) rfl rfl rfl wd_895 dX8_land_55 rfl) <|
  am_kc (ak_bipush dX8_land_58 (by decide +kernel) rfl) <|
  am_kc (ak_bipush dX8_land_60 (by decide +kernel) rfl) <|
  am_kc (ak_iload_n dX8_land_62 rfl rfl) <|
  am_kc (ak_imul dX8_land_63 rfl) <|
  am_kc (ak_iadd dX8_land_64 rfl) <|
  am_kc (ak_iload dX8_land_65 rfl) <|
  am_kc (ak_iadd dX8_land_67 rfl) <|
  am_kc (ak_iload_n dX8_land_68 rfl rfl) <|
  am_kc (ak_iast (t := 0) (fun _ => rfl) rfl dX8_land_69 rfl) <|
  am_kc (ak_iinc dX8_land_70 (by decide +kernel) rfl) <|
  am_kc (ak_goto dX8_land_73 (by decide +kernel)) <|
  am_kc (ak_iconst dX8_land_76 (by decide +kernel) rfl) <|
  am_kc (ak_retI dX8_land_77) <| am_kn
def TX8_land : am_T := fun live as M R => match as with
  | [.ref n, .int p, .int l, .int f, .int t] => am_mn live ∧ n = 200 ∧ am_F8 M ∧ R (some (.int (-2))) M
  | _ => False
set_option maxRecDepth 100000 in
set_option maxHeartbeats 4000000 in
theorem metX8_land : am_Met yX8_land cX8_land 6 (some .int) (2) (46) TX8_land := by
  refine am_met (own := RX8) (by decide +kernel) rfl kX8_land koX8_land 300 (fun _ _ _ _ _ => none) (fun live as M Ret h => ?_) (fun _ _ _ _ _ _ _ _ hI => by cases hI)
  unfold TX8_land at h
  split at h
  · next n p l f t =>
    refine ⟨Nat.le_of_ble_eq_true rfl, ?_⟩
    change am_wp _ _ _ _ [(0, Value.ref n), (1, Value.int p), (2, Value.int l), (3, Value.int f), (4, Value.int t)] _ _
    obtain ⟨⟨i1, i2, rfl⟩, rfl, hF, h⟩ := h
    have q0 : M.1 201 0 = 0 := hF.1 0 (by decide)
    have q1 : M.1 201 1 = 0 := hF.1 1 (by decide)
    repeat' (first | (with_reducible exact q0) | (with_reducible exact q1) | apply And.intro | exact rfl | (intro hx; exact absurd hx (by decide)) | (intro hx; exact absurd (by decide) hx) | decide | intro hx | (refine Exists.intro _ (And.intro rfl ?_)))
    all_goals try first | (with_reducible change am_tI _ _) | (change Ret _ _) | (change Ret _ _ _) | (change Exists _)
    all_goals try dsimp only at *
    all_goals try exact absurd ‹(1000 : Int64) = 0› (by decide)
    all_goals first | exact h | exact q0 | exact q1 | (left; exact ⟨i1, i2, rfl⟩) | exact ⟨i1, i2, rfl⟩
  · exact h.elim
theorem dX8_dies_0 : decode cX8_dies 0 = .ok (.aload_n 0, 1) := by decide +kernel
theorem dX8_dies_1 : decode cX8_dies 1 = .ok (.iload_n 1, 1) := by decide +kernel
theorem dX8_dies_2 : decode cX8_dies 2 = .ok (.invokevirtual 76, 3) := by decide +kernel
theorem dX8_dies_5 : decode cX8_dies 5 = .ok (.ifCond .eq 10, 3) := by decide +kernel
theorem dX8_dies_8 : decode cX8_dies 8 = .ok (.iload_n 2, 1) := by decide +kernel
theorem dX8_dies_9 : decode cX8_dies 9 = .ok (.invokestatic 72, 3) := by decide +kernel
theorem dX8_dies_12 : decode cX8_dies 12 = .ok (.ifCond .ne 6, 3) := by decide +kernel
theorem dX8_dies_15 : decode cX8_dies 15 = .ok (.bipush (-2), 2) := by decide +kernel
theorem dX8_dies_17 : decode cX8_dies 17 = .ok (.ireturn, 1) := by decide +kernel
theorem dX8_dies_18 : decode cX8_dies 18 = .ok (.aload_n 0, 1) := by decide +kernel
theorem dX8_dies_19 : decode cX8_dies 19 = .ok (.getfield 7, 3) := by decide +kernel
theorem dX8_dies_22 : decode cX8_dies 22 = .ok (.bipush 22, 2) := by decide +kernel
theorem dX8_dies_24 : decode cX8_dies 24 = .ok (.iload_n 1, 1) := by decide +kernel
theorem dX8_dies_25 : decode cX8_dies 25 = .ok (.iadd, 1) := by decide +kernel
theorem dX8_dies_26 : decode cX8_dies 26 = .ok (.iaload, 1) := by decide +kernel
theorem dX8_dies_27 : decode cX8_dies 27 = .ok (.ifCond .lt 6, 3) := by decide +kernel
theorem dX8_dies_30 : decode cX8_dies 30 = .ok (.bipush (-3), 2) := by decide +kernel
theorem dX8_dies_32 : decode cX8_dies 32 = .ok (.ireturn, 1) := by decide +kernel
theorem dX8_dies_33 : decode cX8_dies 33 = .ok (.aload_n 0, 1) := by decide +kernel
theorem dX8_dies_34 : decode cX8_dies 34 = .ok (.getfield 7, 3) := by decide +kernel
theorem dX8_dies_37 : decode cX8_dies 37 = .ok (.bipush 22, 2) := by decide +kernel
theorem dX8_dies_39 : decode cX8_dies 39 = .ok (.iload_n 1, 1) := by decide +kernel
theorem dX8_dies_40 : decode cX8_dies 40 = .ok (.iadd, 1) := by decide +kernel
theorem dX8_dies_41 : decode cX8_dies 41 = .ok (.iload_n 2, 1) := by decide +kernel
theorem dX8_dies_42 : decode cX8_dies 42 = .ok (.iastore, 1) := by decide +kernel
theorem dX8_dies_43 : decode cX8_dies 43 = .ok (.iconst 1, 1) := by decide +kernel
theorem dX8_dies_44 : decode cX8_dies 44 = .ok (.ireturn, 1) := by decide +kernel
def kX8_dies (live : am_E) (Ret : am_R) : am_code := [(0, am_aload 0 1), (1, am_iload 1 2), (2, am_callV live 8 1 TX8_isPerson 5), (5, am_if1 (fun x => x = 0) 15 8), (8, am_iload 2 9), (9, am_callS live 1 TX8_isYear 12), (12, am_if1 (fun x => x = 0) 15 18), (15, am_const (.int (-2)) 17), (17, am_retI Ret), (18, am_aload 0 19), (19, am_getR live 8 0 22), (22, am_const (.int 22) 24), (24, am_iload 1 25), (25, am_i2 (fun x y => x + y) 26), (26, am_ald live 0 27), (27, am_if1 (fun x => x < 0) 33 30), (30, am_const (.int (-3)) 32), (32, am_retI Ret), (33, am_aload 0 34), (34, am_getR live 8 0 37), (37, am_const (.int 22) 39), (39, am_iload 1 40), (40, am_i2 (fun x y => x + y) 41), (41, am_iload 2 42), (42, am_ast live 0 43), (43, am_const (.int 1) 44), (44, am_retI Ret)]
theorem koX8_dies (live : am_E) (Ret : am_R) : ∀ q ∈ kX8_dies live Ret, am_ok RX8 cX8_dies 3 (some .int) 2 46 live Ret q.1 q.2 :=
  am_kc (ak_aload_n dX8_dies_0 rfl rfl) <|
  am_kc (ak_iload_n dX8_dies_1 rfl rfl) <|
  am_kc (ak_callV (C := RX8) (F := TX8) (N := 27) metX8_isPerson rfl ⟨rfl, by decide +kernel, by decide +kernel, by decide +kernel⟩ (am_w5 wd_993 wd_995 wd_27 wd_67 wd_996) (by decide) dX8_dies_2 rfl) <|
  am_kc (ak_if_eq dX8_dies_5 (by decide +kernel) rfl) <|
  am_kc (ak_iload_n dX8_dies_8 rfl rfl) <|
  am_kc (ak_callS metX8_isYear ⟨rfl, by decide +kernel, by decide +kernel, by decide +kernel⟩ (am_w4 wd_982 wd_983 wd_67 wd_984) (by decide) dX8_dies_9 rfl) <|
  am_kc (ak_if_ne dX8_dies_12 (by decide +kernel) rfl) <|
  am_kc (ak_bipush dX8_dies_15 (by decide +kernel) rfl) <|
  am_kc (ak_retI dX8_dies_17) <|
  am_kc (ak_aload_n dX8_dies_18 rfl rfl) <|
  am_kc (ak_getR (C := RX8) (T := TX8) (N := 27) rfl inX8w (by decide) rfl rfl rfl wd_895 dX8_dies_19 rfl) <|
  am_kc (ak_bipush dX8_dies_22 (by decide +kernel) rfl) <|
  am_kc (ak_iload_n dX8_dies_24 rfl rfl) <|
  am_kc (ak_iadd dX8_dies_25 rfl) <|
  am_kc (ak_iald (t := 0) (fun _ => rfl) rfl dX8_dies_26 rfl) <|
  am_kc (ak_if_lt dX8_dies_27 (by decide +kernel) rfl) <|
  am_kc (ak_bipush dX8_dies_30 (by decide +kernel) rfl) <|
  am_kc (ak_retI dX8_dies_32) <|
  am_kc (ak_aload_n dX8_dies_33 rfl rfl) <|
  am_kc (ak_getR (C := RX8) (T := TX8) (N := 27) rfl inX8w (by decide) rfl rfl rfl wd_895 dX8_dies_34 rfl) <|
  am_kc (ak_bipush dX8_dies_37 (by decide +kernel) rfl) <|
  am_kc (ak_iload_n dX8_dies_39 rfl rfl) <|
  am_kc (ak_iadd dX8_dies_40 rfl) <|
  am_kc (ak_iload_n dX8_dies_41 rfl rfl) <|
  am_kc (ak_iast (t := 0) (fun _ => rfl) rfl dX8_dies_42 rfl) <|
  am_kc (ak_iconst dX8_dies_43 (by decide +kernel) rfl) <|
  am_kc (ak_retI dX8_dies_44) <| am_kn
def TX8_dies : am_T := fun live as M R => match as with
  | [.ref n, .int p, .int y] => am_mn live ∧ n = 200 ∧ am_F8 M ∧ R (some (.int (-2))) M
  | _ => False
set_option maxRecDepth 100000 in
set_option maxHeartbeats 4000000 in
theorem metX8_dies : am_Met yX8_dies cX8_dies 3 (some .int) (2) (46) TX8_dies := by
  refine am_met (own := RX8) (by decide +kernel) rfl kX8_dies koX8_dies 300 (fun _ _ _ _ _ => none) (fun live as M Ret h => ?_) (fun _ _ _ _ _ _ _ _ hI => by cases hI)
  unfold TX8_dies at h
  split at h
  · next n p y =>
    refine ⟨Nat.le_of_ble_eq_true rfl, ?_⟩
    change am_wp _ _ _ _ [(0, Value.ref n), (1, Value.int p), (2, Value.int y)] _ _
    obtain ⟨⟨i1, i2, rfl⟩, rfl, hF, h⟩ := h
    have q0 : M.1 201 0 = 0 := hF.1 0 (by decide)
    have q1 : M.1 201 1 = 0 := hF.1 1 (by decide)
    repeat' (first | (with_reducible exact q0) | (with_reducible exact q1) | apply And.intro | exact rfl | (intro hx; exact absurd hx (by decide)) | (intro hx; exact absurd (by decide) hx) | decide | intro hx | (refine Exists.intro _ (And.intro rfl ?_)))
    all_goals try first | (with_reducible change am_tI _ _) | (change Ret _ _) | (change Ret _ _ _) | (change Exists _)
    all_goals try dsimp only at *
    all_goals try exact absurd ‹(1000 : Int64) = 0› (by decide)
    all_goals first | exact h | exact q0 | exact q1 | (left; exact ⟨i1, i2, rfl⟩) | exact ⟨i1, i2, rfl⟩
  · exact h.elim
theorem dX8_earn_0 : decode cX8_earn 0 = .ok (.aload_n 0, 1) := by decide +kernel
theorem dX8_earn_1 : decode cX8_earn 1 = .ok (.iload_n 1, 1) := by decide +kernel
theorem dX8_earn_2 : decode cX8_earn 2 = .ok (.invokevirtual 76, 3) := by decide +kernel
theorem dX8_earn_5 : decode cX8_earn 5 = .ok (.ifCond .eq 36, 3) := by decide +kernel
theorem dX8_earn_8 : decode cX8_earn 8 = .ok (.iload_n 2, 1) := by decide +kernel
theorem dX8_earn_9 : decode cX8_earn 9 = .ok (.invokestatic 72, 3) := by decide +kernel
theorem dX8_earn_12 : decode cX8_earn 12 = .ok (.ifCond .eq 29, 3) := by decide +kernel
theorem dX8_earn_15 : decode cX8_earn 15 = .ok (.iload_n 3, 1) := by decide +kernel
theorem dX8_earn_16 : decode cX8_earn 16 = .ok (.i2l, 1) := by decide +kernel
theorem dX8_earn_17 : decode cX8_earn 17 = .ok (.lconst 0, 1) := by decide +kernel
theorem dX8_earn_18 : decode cX8_earn 18 = .ok (.ldc2_w 87, 3) := by decide +kernel
theorem dX8_earn_21 : decode cX8_earn 21 = .ok (.invokestatic 66, 3) := by decide +kernel
theorem dX8_earn_24 : decode cX8_earn 24 = .ok (.ifCond .eq 17, 3) := by decide +kernel
theorem dX8_earn_27 : decode cX8_earn 27 = .ok (.iload 4, 2) := by decide +kernel
theorem dX8_earn_29 : decode cX8_earn 29 = .ok (.i2l, 1) := by decide +kernel
theorem dX8_earn_30 : decode cX8_earn 30 = .ok (.iload_n 2, 1) := by decide +kernel
theorem dX8_earn_31 : decode cX8_earn 31 = .ok (.i2l, 1) := by decide +kernel
theorem dX8_earn_32 : decode cX8_earn 32 = .ok (.ldc2_w 64, 3) := by decide +kernel
theorem dX8_earn_35 : decode cX8_earn 35 = .ok (.invokestatic 66, 3) := by decide +kernel
theorem dX8_earn_38 : decode cX8_earn 38 = .ok (.ifCond .ne 6, 3) := by decide +kernel
theorem dX8_earn_41 : decode cX8_earn 41 = .ok (.bipush (-2), 2) := by decide +kernel
theorem dX8_earn_43 : decode cX8_earn 43 = .ok (.ireturn, 1) := by decide +kernel
theorem dX8_earn_44 : decode cX8_earn 44 = .ok (.bipush 40, 2) := by decide +kernel
theorem dX8_earn_46 : decode cX8_earn 46 = .ok (.iload_n 1, 1) := by decide +kernel
theorem dX8_earn_47 : decode cX8_earn 47 = .ok (.imul, 1) := by decide +kernel
theorem dX8_earn_48 : decode cX8_earn 48 = .ok (.iload_n 2, 1) := by decide +kernel
theorem dX8_earn_49 : decode cX8_earn 49 = .ok (.iadd, 1) := by decide +kernel
theorem dX8_earn_50 : decode cX8_earn 50 = .ok (.istore 5, 2) := by decide +kernel
theorem dX8_earn_52 : decode cX8_earn 52 = .ok (.aload_n 0, 1) := by decide +kernel
theorem dX8_earn_53 : decode cX8_earn 53 = .ok (.getfield 7, 3) := by decide +kernel
theorem dX8_earn_56 : decode cX8_earn 56 = .ok (.sipush 1038, 3) := by decide +kernel
theorem dX8_earn_59 : decode cX8_earn 59 = .ok (.iload 5, 2) := by decide +kernel
theorem dX8_earn_61 : decode cX8_earn 61 = .ok (.iadd, 1) := by decide +kernel
theorem dX8_earn_62 : decode cX8_earn 62 = .ok (.iaload, 1) := by decide +kernel
theorem dX8_earn_63 : decode cX8_earn 63 = .ok (.ifCond .lt 6, 3) := by decide +kernel
theorem dX8_earn_66 : decode cX8_earn 66 = .ok (.bipush (-3), 2) := by decide +kernel
theorem dX8_earn_68 : decode cX8_earn 68 = .ok (.ireturn, 1) := by decide +kernel
theorem dX8_earn_69 : decode cX8_earn 69 = .ok (.aload_n 0, 1) := by decide +kernel
theorem dX8_earn_70 : decode cX8_earn 70 = .ok (.getfield 7, 3) := by decide +kernel
theorem dX8_earn_73 : decode cX8_earn 73 = .ok (.sipush 558, 3) := by decide +kernel
theorem dX8_earn_76 : decode cX8_earn 76 = .ok (.iload 5, 2) := by decide +kernel
theorem dX8_earn_78 : decode cX8_earn 78 = .ok (.iadd, 1) := by decide +kernel
theorem dX8_earn_79 : decode cX8_earn 79 = .ok (.iload_n 3, 1) := by decide +kernel
theorem dX8_earn_80 : decode cX8_earn 80 = .ok (.iastore, 1) := by decide +kernel
theorem dX8_earn_81 : decode cX8_earn 81 = .ok (.aload_n 0, 1) := by decide +kernel
theorem dX8_earn_82 : decode cX8_earn 82 = .ok (.getfield 7, 3) := by decide +kernel
theorem dX8_earn_85 : decode cX8_earn 85 = .ok (.sipush 1038, 3) := by decide +kernel
theorem dX8_earn_88 : decode cX8_earn 88 = .ok (.iload 5, 2) := by decide +kernel
theorem dX8_earn_90 : decode cX8_earn 90 = .ok (.iadd, 1) := by decide +kernel
theorem dX8_earn_91 : decode cX8_earn 91 = .ok (.iload 4, 2) := by decide +kernel
theorem dX8_earn_93 : decode cX8_earn 93 = .ok (.iastore, 1) := by decide +kernel
theorem dX8_earn_94 : decode cX8_earn 94 = .ok (.iconst 1, 1) := by decide +kernel
theorem dX8_earn_95 : decode cX8_earn 95 = .ok (.ireturn, 1) := by decide +kernel
def kX8_earn (live : am_E) (Ret : am_R) : am_code := [(0, am_aload 0 1), (1, am_iload 1 2), (2, am_callV live 8 1 TX8_isPerson 5), (5, am_if1 (fun x => x = 0) 41 8), (8, am_iload 2 9), (9, am_callS live 1 TX8_isYear 12), (12, am_if1 (fun x => x = 0) 41 15), (15, am_iload 3 16), (16, am_i2l 17), (17, am_const (.long 0) 18), (18, am_const (.long 10000000) 21), (21, am_callS live 3 TX8_in 24), (24, am_if1 (fun x => x = 0) 41 27), (27, am_iload 4 29), (29, am_i2l 30), (30, am_iload 2 31), (31, am_i2l 32), (32, am_const (.long 39) 35), (35, am_callS live 3 TX8_in 38), (38, am_if1 (fun x => x = 0) 41 44), (41, am_const (.int (-2)) 43), (43, am_retI Ret), (44, am_const (.int 40) 46), (46, am_iload 1 47), (47, am_i2 (fun x y => x * y) 48), (48, am_iload 2 49), (49, am_i2 (fun x y => x + y) 50), (50, am_istore 5 6 52), (52, am_aload 0 53), (53, am_getR live 8 0 56), (56, am_const (.int 1038) 59), (59, am_iload 5 61), (61, am_i2 (fun x y => x + y) 62), (62, am_ald live 0 63), (63, am_if1 (fun x => x < 0) 69 66), (66, am_const (.int (-3)) 68), (68, am_retI Ret), (69, am_aload 0 70), (70, am_getR live 8 0 73), (73, am_const (.int 558) 76), (76, am_iload 5 78), (78, am_i2 (fun x y => x + y) 79), (79, am_iload 3 80), (80, am_ast live 0 81), (81, am_aload 0 82), (82, am_getR live 8 0 85), (85, am_const (.int 1038) 88), (88, am_iload 5 90), (90, am_i2 (fun x y => x + y) 91), (91, am_iload 4 93), (93, am_ast live 0 94), (94, am_const (.int 1) 95), (95, am_retI Ret)]
theorem koX8_earn (live : am_E) (Ret : am_R) : ∀ q ∈ kX8_earn live Ret, am_ok RX8 cX8_earn 6 (some .int) 2 46 live Ret q.1 q.2 :=
  am_kc (ak_aload_n dX8_earn_0 rfl rfl) <|
  am_kc (ak_iload_n dX8_earn_1 rfl rfl) <|
  am_kc (ak_callV (C := RX8) (F := TX8) (N := 27) metX8_isPerson rfl ⟨rfl, by decide +kernel, by decide +kernel, by decide +kernel⟩ (am_w5 wd_993 wd_995 wd_27 wd_67 wd_996) (by decide) dX8_earn_2 rfl) <|
  am_kc (ak_if_eq dX8_earn_5 (by decide +kernel) rfl) <|
  am_kc (ak_iload_n dX8_earn_8 rfl rfl) <|
  am_kc (ak_callS metX8_isYear ⟨rfl, by decide +kernel, by decide +kernel, by decide +kernel⟩ (am_w4 wd_982 wd_983 wd_67 wd_984) (by decide) dX8_earn_9 rfl) <|
  am_kc (ak_if_eq dX8_earn_12 (by decide +kernel) rfl) <|
  am_kc (ak_iload_n dX8_earn_15 rfl rfl) <|
  am_kc (ak_i2l dX8_earn_16 rfl) <|
  am_kc (ak_lconst dX8_earn_17 (by decide +kernel) rfl) <|
  am_kc (ak_ldc2 wd_1017 dX8_earn_18 rfl) <|
  am_kc (ak_callS metX8_in ⟨rfl, by decide +kernel, by decide +kernel, by decide +kernel⟩ (am_w4 wd_986 wd_987 wd_67 wd_988) (by decide) dX8_earn_21 rfl) <|
  am_kc (ak_if_eq dX8_earn_24 (by decide +kernel) rfl) <|
  am_kc (ak_iload dX8_earn_27 rfl) <|
  am_kc (ak_i2l dX8_earn_29 rfl) <|
  am_kc (ak_iload_n dX8_earn_30 rfl rfl) <|
  am_kc (ak_i2l dX8_earn_31 rfl) <|
  am_kc (ak_ldc2 wd_985 dX8_earn_32 rfl) <|
  am_kc (ak_callS metX8_in ⟨rfl, by decide +kernel, by decide +kernel, by decide +kernel⟩ (am_w4 wd_986 wd_987 wd_67 wd_988) (by decide) dX8_earn_35 rfl) <|
  am_kc (ak_if_ne dX8_earn_38 (by decide +kernel) rfl) <|
  am_kc (ak_bipush dX8_earn_41 (by decide +kernel) rfl) <|
  am_kc (ak_retI dX8_earn_43) <|
  am_kc (ak_bipush dX8_earn_44 (by decide +kernel) rfl) <|
  am_kc (ak_iload_n dX8_earn_46 rfl rfl) <|
  am_kc (ak_imul dX8_earn_47 rfl) <|
  am_kc (ak_iload_n dX8_earn_48 rfl rfl) <|
  am_kc (ak_iadd dX8_earn_49 rfl) <|
  am_kc (ak_istore dX8_earn_50 rfl) <|
  am_kc (ak_aload_n dX8_earn_52 rfl rfl) <|
  am_kc (ak_getR (C := RX8) (T := TX8) (N := 27) rfl inX8w (by decide) rfl rfl rfl wd_895 dX8_earn_53 rfl) <|
  am_kc (ak_sipush dX8_earn_56 (by decide +kernel) rfl) <|
  am_kc (ak_iload dX8_earn_59 rfl) <|
  am_kc (ak_iadd dX8_earn_61 rfl) <|
  am_kc (ak_iald (t := 0) (fun _ => rfl) rfl dX8_earn_62 rfl) <|
  am_kc (ak_if_lt dX8_earn_63 (by decide +kernel) rfl) <|
  am_kc (ak_bipush dX8_earn_66 (by decide +kernel) rfl) <|
  am_kc (ak_retI dX8_earn_68) <|
  am_kc (ak_aload_n dX8_earn_69 rfl rfl) <|
  am_kc (ak_getR (C := RX8) (T := TX8) (N := 27) rfl inX8w (by decide) rfl rfl rfl wd_895 dX8_earn_70 rfl) <|
  am_kc (ak_sipush dX8_earn_73 (by decide +kernel) rfl) <|
  am_kc (ak_iload dX8_earn_76 rfl) <|
  am_kc (ak_iadd dX8_earn_78 rfl) <|
  am_kc (ak_iload_n dX8_earn_79 rfl rfl) <|
  am_kc (ak_iast (t := 0) (fun _ => rfl) rfl dX8_earn_80 rfl) <|
  am_kc (ak_aload_n dX8_earn_81 rfl rfl) <|
  am_kc (ak_getR (C := RX8) (T := TX8) (N := 27) rfl inX8w (by decide) rfl rfl rfl wd_895 dX8_earn_82 rfl) <|
  am_kc (ak_sipush dX8_earn_85 (by decide +kernel) rfl) <|
  am_kc (ak_iload dX8_earn_88 rfl) <|
  am_kc (ak_iadd dX8_earn_90 rfl) <|
  am_kc (ak_iload dX8_earn_91 rfl) <|
  am_kc (ak_iast (t := 0) (fun _ => rfl) rfl dX8_earn_93 rfl) <|
  am_kc (ak_iconst dX8_earn_94 (by decide +kernel) rfl) <|
  am_kc (ak_retI dX8_earn_95) <| am_kn
def TX8_earn : am_T := fun live as M R => match as with
  | [.ref n, .int p, .int y, .int e, .int k] => am_mn live ∧ n = 200 ∧ am_F8 M ∧ R (some (.int (-2))) M
  | _ => False
set_option maxRecDepth 100000 in
set_option maxHeartbeats 4000000 in
theorem metX8_earn : am_Met yX8_earn cX8_earn 6 (some .int) (2) (46) TX8_earn := by
  refine am_met (own := RX8) (by decide +kernel) rfl kX8_earn koX8_earn 300 (fun _ _ _ _ _ => none) (fun live as M Ret h => ?_) (fun _ _ _ _ _ _ _ _ hI => by cases hI)
  unfold TX8_earn at h
  split at h
  · next n p y e k =>
    refine ⟨Nat.le_of_ble_eq_true rfl, ?_⟩
    change am_wp _ _ _ _ [(0, Value.ref n), (1, Value.int p), (2, Value.int y), (3, Value.int e), (4, Value.int k)] _ _
    obtain ⟨⟨i1, i2, rfl⟩, rfl, hF, h⟩ := h
    have q0 : M.1 201 0 = 0 := hF.1 0 (by decide)
    have q1 : M.1 201 1 = 0 := hF.1 1 (by decide)
    repeat' (first | (with_reducible exact q0) | (with_reducible exact q1) | apply And.intro | exact rfl | (intro hx; exact absurd hx (by decide)) | (intro hx; exact absurd (by decide) hx) | decide | intro hx | (refine Exists.intro _ (And.intro rfl ?_)))
    all_goals try first | (with_reducible change am_tI _ _) | (change Ret _ _) | (change Ret _ _ _) | (change Exists _)
    all_goals try dsimp only at *
    all_goals try exact absurd ‹(1000 : Int64) = 0› (by decide)
    all_goals first | exact h | exact q0 | exact q1 | (left; exact ⟨i1, i2, rfl⟩) | exact ⟨i1, i2, rfl⟩
  · exact h.elim
theorem dX8_right_0 : decode cX8_right 0 = .ok (.aload_n 0, 1) := by decide +kernel
theorem dX8_right_1 : decode cX8_right 1 = .ok (.iload_n 1, 1) := by decide +kernel
theorem dX8_right_2 : decode cX8_right 2 = .ok (.invokevirtual 76, 3) := by decide +kernel
theorem dX8_right_5 : decode cX8_right 5 = .ok (.ifCond .eq 30, 3) := by decide +kernel
theorem dX8_right_8 : decode cX8_right 8 = .ok (.iload_n 2, 1) := by decide +kernel
theorem dX8_right_9 : decode cX8_right 9 = .ok (.invokestatic 72, 3) := by decide +kernel
theorem dX8_right_12 : decode cX8_right 12 = .ok (.ifCond .eq 23, 3) := by decide +kernel
theorem dX8_right_15 : decode cX8_right 15 = .ok (.iload_n 3, 1) := by decide +kernel
theorem dX8_right_16 : decode cX8_right 16 = .ok (.i2l, 1) := by decide +kernel
theorem dX8_right_17 : decode cX8_right 17 = .ok (.lconst 0, 1) := by decide +kernel
theorem dX8_right_18 : decode cX8_right 18 = .ok (.ldc2_w 87, 3) := by decide +kernel
theorem dX8_right_21 : decode cX8_right 21 = .ok (.invokestatic 66, 3) := by decide +kernel
theorem dX8_right_24 : decode cX8_right 24 = .ok (.ifCond .eq 11, 3) := by decide +kernel
theorem dX8_right_27 : decode cX8_right 27 = .ok (.iload 4, 2) := by decide +kernel
theorem dX8_right_29 : decode cX8_right 29 = .ok (.invokestatic 72, 3) := by decide +kernel
theorem dX8_right_32 : decode cX8_right 32 = .ok (.ifCond .ne 6, 3) := by decide +kernel
theorem dX8_right_35 : decode cX8_right 35 = .ok (.bipush (-2), 2) := by decide +kernel
theorem dX8_right_37 : decode cX8_right 37 = .ok (.ireturn, 1) := by decide +kernel
theorem dX8_right_38 : decode cX8_right 38 = .ok (.bipush 40, 2) := by decide +kernel
theorem dX8_right_40 : decode cX8_right 40 = .ok (.iload_n 1, 1) := by decide +kernel
theorem dX8_right_41 : decode cX8_right 41 = .ok (.imul, 1) := by decide +kernel
theorem dX8_right_42 : decode cX8_right 42 = .ok (.iload_n 2, 1) := by decide +kernel
theorem dX8_right_43 : decode cX8_right 43 = .ok (.iadd, 1) := by decide +kernel
theorem dX8_right_44 : decode cX8_right 44 = .ok (.istore 5, 2) := by decide +kernel
theorem dX8_right_46 : decode cX8_right 46 = .ok (.aload_n 0, 1) := by decide +kernel
theorem dX8_right_47 : decode cX8_right 47 = .ok (.getfield 7, 3) := by decide +kernel
theorem dX8_right_50 : decode cX8_right 50 = .ok (.sipush 1038, 3) := by decide +kernel
theorem dX8_right_53 : decode cX8_right 53 = .ok (.iload 5, 2) := by decide +kernel
theorem dX8_right_55 : decode cX8_right 55 = .ok (.iadd, 1) := by decide +kernel
theorem dX8_right_56 : decode cX8_right 56 = .ok (.iaload, 1) := by decide +kernel
theorem dX8_right_57 : decode cX8_right 57 = .ok (.istore 6, 2) := by decide +kernel
theorem dX8_right_59 : decode cX8_right 59 = .ok (.iload 6, 2) := by decide +kernel
theorem dX8_right_61 : decode cX8_right 61 = .ok (.ifCond .lt 13, 3) := by decide +kernel
theorem dX8_right_64 : decode cX8_right 64 = .ok (.iload 4, 2) := by decide +kernel
theorem dX8_right_66 : decode cX8_right 66 = .ok (.iload 6, 2) := by decide +kernel
theorem dX8_right_68 : decode cX8_right 68 = .ok (.if_icmp .ge 6, 3) := by decide +kernel
theorem dX8_right_71 : decode cX8_right 71 = .ok (.bipush (-2), 2) := by decide +kernel
theorem dX8_right_73 : decode cX8_right 73 = .ok (.ireturn, 1) := by decide +kernel
theorem dX8_right_74 : decode cX8_right 74 = .ok (.iload 6, 2) := by decide +kernel
theorem dX8_right_76 : decode cX8_right 76 = .ok (.ifCond .lt 17, 3) := by decide +kernel
theorem dX8_right_79 : decode cX8_right 79 = .ok (.aload_n 0, 1) := by decide +kernel
theorem dX8_right_80 : decode cX8_right 80 = .ok (.getfield 7, 3) := by decide +kernel
theorem dX8_right_83 : decode cX8_right 83 = .ok (.sipush 1998, 3) := by decide +kernel
theorem dX8_right_86 : decode cX8_right 86 = .ok (.iload 5, 2) := by decide +kernel
theorem dX8_right_88 : decode cX8_right 88 = .ok (.iadd, 1) := by decide +kernel
theorem dX8_right_89 : decode cX8_right 89 = .ok (.iaload, 1) := by decide +kernel
theorem dX8_right_90 : decode cX8_right 90 = .ok (.ifCond .lt 6, 3) := by decide +kernel
theorem dX8_right_93 : decode cX8_right 93 = .ok (.bipush (-3), 2) := by decide +kernel
theorem dX8_right_95 : decode cX8_right 95 = .ok (.ireturn, 1) := by decide +kernel
theorem dX8_right_96 : decode cX8_right 96 = .ok (.aload_n 0, 1) := by decide +kernel
theorem dX8_right_97 : decode cX8_right 97 = .ok (.getfield 7, 3) := by decide +kernel
theorem dX8_right_100 : decode cX8_right 100 = .ok (.sipush 1518, 3) := by decide +kernel
theorem dX8_right_103 : decode cX8_right 103 = .ok (.iload 5, 2) := by decide +kernel
theorem dX8_right_105 : decode cX8_right 105 = .ok (.iadd, 1) := by decide +kernel
theorem dX8_right_106 : decode cX8_right 106 = .ok (.iload_n 3, 1) := by decide +kernel
theorem dX8_right_107 : decode cX8_right 107 = .ok (.iastore, 1) := by decide +kernel
theorem dX8_right_108 : decode cX8_right 108 = .ok (.aload_n 0, 1) := by decide +kernel
theorem dX8_right_109 : decode cX8_right 109 = .ok (.getfield 7, 3) := by decide +kernel
theorem dX8_right_112 : decode cX8_right 112 = .ok (.sipush 1998, 3) := by decide +kernel
theorem dX8_right_115 : decode cX8_right 115 = .ok (.iload 5, 2) := by decide +kernel
theorem dX8_right_117 : decode cX8_right 117 = .ok (.iadd, 1) := by decide +kernel
theorem dX8_right_118 : decode cX8_right 118 = .ok (.iload 4, 2) := by decide +kernel
theorem dX8_right_120 : decode cX8_right 120 = .ok (.iastore, 1) := by decide +kernel
theorem dX8_right_121 : decode cX8_right 121 = .ok (.iconst 1, 1) := by decide +kernel
theorem dX8_right_122 : decode cX8_right 122 = .ok (.ireturn, 1) := by decide +kernel
def kX8_right (live : am_E) (Ret : am_R) : am_code := [(0, am_aload 0 1), (1, am_iload 1 2), (2, am_callV live 8 1 TX8_isPerson 5), (5, am_if1 (fun x => x = 0) 35 8), (8, am_iload 2 9), (9, am_callS live 1 TX8_isYear 12), (12, am_if1 (fun x => x = 0) 35 15), (15, am_iload 3 16), (16, am_i2l 17), (17, am_const (.long 0) 18), (18, am_const (.long 10000000) 21), (21, am_callS live 3 TX8_in 24), (24, am_if1 (fun x => x = 0) 35 27), (27, am_iload 4 29), (29, am_callS live 1 TX8_isYear 32), (32, am_if1 (fun x => x = 0) 35 38), (35, am_const (.int (-2)) 37), (37, am_retI Ret), (38, am_const (.int 40) 40), (40, am_iload 1 41), (41, am_i2 (fun x y => x * y) 42), (42, am_iload 2 43), (43, am_i2 (fun x y => x + y) 44), (44, am_istore 5 7 46), (46, am_aload 0 47), (47, am_getR live 8 0 50), (50, am_const (.int 1038) 53), (53, am_iload 5 55), (55, am_i2 (fun x y => x + y) 56), (56, am_ald live 0 57), (57, am_istore 6 7 59), (59, am_iload 6 61), (61, am_if1 (fun x => x < 0) 74 64), (64, am_iload 4 66), (66, am_iload 6 68), (68, am_if2 (fun x y => y ≤ x) 74 71), (71, am_const (.int (-2)) 73), (73, am_retI Ret), (74, am_iload 6 76), (76, am_if1 (fun x => x < 0) 93 79), (79, am_aload 0 80), (80, am_getR live 8 0 83), (83, am_const (.int 1998) 86), (86, am_iload 5 88), (88, am_i2 (fun x y => x + y) 89), (89, am_ald live 0 90), (90, am_if1 (fun x => x < 0) 96 93), (93, am_const (.int (-3)) 95), (95, am_retI Ret), (96, am_aload 0 97), (97, am_getR live 8 0 100), (100, am_const (.int 1518) 103), (103, am_iload 5 105), (105, am_i2 (fun x y => x + y) 106), (106, am_iload 3 107), (107, am_ast live 0 108), (108, am_aload 0 109), (109, am_getR live 8 0 112), (112, am_const (.int 1998) 115), (115, am_iload 5 117), (117, am_i2 (fun x y => x + y) 118), (118, am_iload 4 120), (120, am_ast live 0 121), (121, am_const (.int 1) 122), (122, am_retI Ret)]
theorem koX8_right (live : am_E) (Ret : am_R) : ∀ q ∈ kX8_right live Ret, am_ok RX8 cX8_right 7 (some .int) 2 46 live Ret q.1 q.2 :=
  am_kc (ak_aload_n dX8_right_0 rfl rfl) <|
  am_kc (ak_iload_n dX8_right_1 rfl rfl) <|
  am_kc (ak_callV (C := RX8) (F := TX8) (N := 27) metX8_isPerson rfl ⟨rfl, by decide +kernel, by decide +kernel, by decide +kernel⟩ (am_w5 wd_993 wd_995 wd_27 wd_67 wd_996) (by decide) dX8_right_2 rfl) <|
  am_kc (ak_if_eq dX8_right_5 (by decide +kernel) rfl) <|
  am_kc (ak_iload_n dX8_right_8 rfl rfl) <|
  am_kc (ak_callS metX8_isYear ⟨rfl, by decide +kernel, by decide +kernel, by decide +kernel⟩ (am_w4 wd_982 wd_983 wd_67 wd_984) (by decide) dX8_right_9 rfl) <|
  am_kc (ak_if_eq dX8_right_12 (by decide +kernel) rfl) <|
  am_kc (ak_iload_n dX8_right_15 rfl rfl) <|
  am_kc (ak_i2l dX8_right_16 rfl) <|
  am_kc (ak_lconst dX8_right_17 (by decide +kernel) rfl) <|
  am_kc (ak_ldc2 wd_1017 dX8_right_18 rfl) <|
  am_kc (ak_callS metX8_in ⟨rfl, by decide +kernel, by decide +kernel, by decide +kernel⟩ (am_w4 wd_986 wd_987 wd_67 wd_988) (by decide) dX8_right_21 rfl) <|
  am_kc (ak_if_eq dX8_right_24 (by decide +kernel) rfl) <|
  am_kc (ak_iload dX8_right_27 rfl) <|
  am_kc (ak_callS metX8_isYear ⟨rfl, by decide +kernel, by decide +kernel, by decide +kernel⟩ (am_w4 wd_982 wd_983 wd_67 wd_984) (by decide) dX8_right_29 rfl) <|
  am_kc (ak_if_ne dX8_right_32 (by decide +kernel) rfl) <|
  am_kc (ak_bipush dX8_right_35 (by decide +kernel) rfl) <|
  am_kc (ak_retI dX8_right_37) <|
  am_kc (ak_bipush dX8_right_38 (by decide +kernel) rfl) <|
  am_kc (ak_iload_n dX8_right_40 rfl rfl) <|
  am_kc (ak_imul dX8_right_41 rfl) <|
  am_kc (ak_iload_n dX8_right_42 rfl rfl) <|
  am_kc (ak_iadd dX8_right_43 rfl) <|
  am_kc (ak_istore dX8_right_44 rfl) <|
  am_kc (ak_aload_n dX8_right_46 rfl rfl) <|
  am_kc (ak_getR (C := RX8) (T := TX8) (N := 27) rfl inX8w (by decide) rfl rfl rfl wd_895 dX8_right_47 rfl) <|
  am_kc (ak_sipush dX8_right_50 (by decide +kernel) rfl) <|
  am_kc (ak_iload dX8_right_53 rfl) <|
  am_kc (ak_iadd dX8_right_55 rfl) <|
  am_kc (ak_iald (t := 0) (fun _ => rfl) rfl dX8_right_56 rfl) <|
  am_kc (ak_istore dX8_right_57 rfl) <|
  am_kc (ak_iload dX8_right_59 rfl) <|
  am_kc (ak_if_lt dX8_right_61 (by decide +kernel) rfl) <|
  am_kc (ak_iload dX8_right_64 rfl) <|
  am_kc (ak_iload dX8_right_66 rfl) <|
  am_kc (ak_icmp_ge dX8_right_68 (by decide +kernel) rfl) <|
  am_kc (ak_bipush dX8_right_71 (by decide +kernel) rfl) <|
  am_kc (ak_retI dX8_right_73) <|
  am_kc (ak_iload dX8_right_74 rfl) <|
  am_kc (ak_if_lt dX8_right_76 (by decide +kernel) rfl) <|
  am_kc (ak_aload_n dX8_right_79 rfl rfl) <|
  am_kc (ak_getR (C := RX8) (T := TX8) (N := 27) rfl inX8w (by decide) rfl rfl rfl wd_895 dX8_right_80 rfl) <|
  am_kc (ak_sipush dX8_right_83 (by decide +kernel) rfl) <|
  am_kc (ak_iload dX8_right_86 rfl) <|
  am_kc (ak_iadd dX8_right_88 rfl) <|
  am_kc (ak_iald (t := 0) (fun _ => rfl) rfl dX8_right_89 rfl) <|
  am_kc (ak_if_lt dX8_right_90 (by decide +kernel) rfl) <|
  am_kc (ak_bipush dX8_right_93 (by decide +kernel) rfl) <|
  am_kc (ak_retI dX8_right_95) <|
  am_kc (ak_aload_n dX8_right_96 rfl rfl) <|
  am_kc (ak_getR (C := RX8) (T := TX8) (N := 27) rfl inX8w (by decide) rfl rfl rfl wd_895 dX8_right_97 rfl) <|
  am_kc (ak_sipush dX8_right_100 (by decide +kernel) rfl) <|
  am_kc (ak_iload dX8_right_103 rfl) <|
  am_kc (ak_iadd dX8_right_105 rfl) <|
  am_kc (ak_iload_n dX8_right_106 rfl rfl) <|
  am_kc (ak_iast (t := 0) (fun _ => rfl) rfl dX8_right_107 rfl) <|
  am_kc (ak_aload_n dX8_right_108 rfl rfl) <|
  am_kc (ak_getR (C := RX8) (T := TX8) (N := 27) rfl inX8w (by decide) rfl rfl rfl wd_895 dX8_right_109 rfl) <|
  am_kc (ak_sipush dX8_right_112 (by decide +kernel) rfl) <|
  am_kc (ak_iload dX8_right_115 rfl) <|
  am_kc (ak_iadd dX8_right_117 rfl) <|
  am_kc (ak_iload dX8_right_118 rfl) <|
  am_kc (ak_iast (t := 0) (fun _ => rfl) rfl dX8_right_120 rfl) <|
  am_kc (ak_iconst dX8_right_121 (by decide +kernel) rfl) <|
  am_kc (ak_retI dX8_right_122) <| am_kn
def TX8_right : am_T := fun live as M R => match as with
  | [.ref n, .int p, .int y, .int e, .int k] => am_mn live ∧ n = 200 ∧ am_F8 M ∧ R (some (.int (-2))) M
  | _ => False
set_option maxRecDepth 100000 in
set_option maxHeartbeats 4000000 in
theorem metX8_right : am_Met yX8_right cX8_right 7 (some .int) (2) (46) TX8_right := by
  refine am_met (own := RX8) (by decide +kernel) rfl kX8_right koX8_right 300 (fun _ _ _ _ _ => none) (fun live as M Ret h => ?_) (fun _ _ _ _ _ _ _ _ hI => by cases hI)
  unfold TX8_right at h
  split at h
  · next n p y e k =>
    refine ⟨Nat.le_of_ble_eq_true rfl, ?_⟩
    change am_wp _ _ _ _ [(0, Value.ref n), (1, Value.int p), (2, Value.int y), (3, Value.int e), (4, Value.int k)] _ _
    obtain ⟨⟨i1, i2, rfl⟩, rfl, hF, h⟩ := h
    have q0 : M.1 201 0 = 0 := hF.1 0 (by decide)
    have q1 : M.1 201 1 = 0 := hF.1 1 (by decide)
    repeat' (first | (with_reducible exact q0) | (with_reducible exact q1) | apply And.intro | exact rfl | (intro hx; exact absurd hx (by decide)) | (intro hx; exact absurd (by decide) hx) | decide | intro hx | (refine Exists.intro _ (And.intro rfl ?_)))
    all_goals try first | (with_reducible change am_tI _ _) | (change Ret _ _) | (change Ret _ _ _) | (change Exists _)
    all_goals try dsimp only at *
    all_goals try exact absurd ‹(1000 : Int64) = 0› (by decide)
    all_goals first | exact h | exact q0 | exact q1 | (left; exact ⟨i1, i2, rfl⟩) | exact ⟨i1, i2, rfl⟩
  · exact h.elim
theorem wd_1026 : Cond.methodLink "LearnLoansModel" 89 yX8_earningsOf ∈ am_ws := am_wsi (List.mem_of_getElem? (i := 1026) (by decide +kernel)) (by decide +kernel)
theorem wd_1028 : Cond.instanceMethod yX8_earningsOf ∈ am_ws := am_wsi (List.mem_of_getElem? (i := 1028) (by decide +kernel)) (by decide +kernel)
theorem wd_28 : Cond.selects "LearnLoansModel" yX8_earningsOf yX8_earningsOf ∈ am_ws := am_wsi (List.mem_of_getElem? (i := 28) (by decide +kernel)) (by decide +kernel)
theorem wd_1029 : Cond.code yX8_earningsOf cX8_earningsOf 5 (some .int) ∈ am_ws := am_wsi (List.mem_of_getElem? (i := 1029) (by decide +kernel)) (by decide +kernel)
theorem dX8_earnings_0 : decode cX8_earnings 0 = .ok (.aload_n 0, 1) := by decide +kernel
theorem dX8_earnings_1 : decode cX8_earnings 1 = .ok (.iload_n 1, 1) := by decide +kernel
theorem dX8_earnings_2 : decode cX8_earnings 2 = .ok (.invokevirtual 76, 3) := by decide +kernel
theorem dX8_earnings_5 : decode cX8_earnings 5 = .ok (.ifCond .eq 27, 3) := by decide +kernel
theorem dX8_earnings_8 : decode cX8_earnings 8 = .ok (.iload_n 2, 1) := by decide +kernel
theorem dX8_earnings_9 : decode cX8_earnings 9 = .ok (.invokestatic 72, 3) := by decide +kernel
theorem dX8_earnings_12 : decode cX8_earnings 12 = .ok (.ifCond .eq 20, 3) := by decide +kernel
theorem dX8_earnings_15 : decode cX8_earnings 15 = .ok (.iload_n 3, 1) := by decide +kernel
theorem dX8_earnings_16 : decode cX8_earnings 16 = .ok (.invokestatic 72, 3) := by decide +kernel
theorem dX8_earnings_19 : decode cX8_earnings 19 = .ok (.ifCond .eq 13, 3) := by decide +kernel
theorem dX8_earnings_22 : decode cX8_earnings 22 = .ok (.aload_n 0, 1) := by decide +kernel
theorem dX8_earnings_23 : decode cX8_earnings 23 = .ok (.iload_n 1, 1) := by decide +kernel
theorem dX8_earnings_24 : decode cX8_earnings 24 = .ok (.iload_n 2, 1) := by decide +kernel
theorem dX8_earnings_25 : decode cX8_earnings 25 = .ok (.iload_n 3, 1) := by decide +kernel
theorem dX8_earnings_26 : decode cX8_earnings 26 = .ok (.invokevirtual 89, 3) := by decide +kernel
theorem dX8_earnings_29 : decode cX8_earnings 29 = .ok (.goto 5, 3) := by decide +kernel
theorem dX8_earnings_32 : decode cX8_earnings 32 = .ok (.bipush (-2), 2) := by decide +kernel
theorem dX8_earnings_34 : decode cX8_earnings 34 = .ok (.ireturn, 1) := by decide +kernel
def kX8_earnings (live : am_E) (Ret : am_R) : am_code := [(0, am_aload 0 1), (1, am_iload 1 2), (2, am_callV live 8 1 TX8_isPerson 5), (5, am_if1 (fun x => x = 0) 32 8), (8, am_iload 2 9), (9, am_callS live 1 TX8_isYear 12), (12, am_if1 (fun x => x = 0) 32 15), (15, am_iload 3 16), (16, am_callS live 1 TX8_isYear 19), (19, am_if1 (fun x => x = 0) 32 22), (22, am_aload 0 23), (23, am_iload 1 24), (24, am_iload 2 25), (25, am_iload 3 26), (26, am_callV live 8 3 am_TF 29), (29, am_goto 34), (32, am_const (.int (-2)) 34), (34, am_retI Ret)]
theorem koX8_earnings (live : am_E) (Ret : am_R) : ∀ q ∈ kX8_earnings live Ret, am_ok RX8 cX8_earnings 4 (some .int) 2 46 live Ret q.1 q.2 :=
  am_kc (ak_aload_n dX8_earnings_0 rfl rfl) <|
  am_kc (ak_iload_n dX8_earnings_1 rfl rfl) <|
  am_kc (ak_callV (C := RX8) (F := TX8) (N := 27) metX8_isPerson rfl ⟨rfl, by decide +kernel, by decide +kernel, by decide +kernel⟩ (am_w5 wd_993 wd_995 wd_27 wd_67 wd_996) (by decide) dX8_earnings_2 rfl) <|
  am_kc (ak_if_eq dX8_earnings_5 (by decide +kernel) rfl) <|
  am_kc (ak_iload_n dX8_earnings_8 rfl rfl) <|
  am_kc (ak_callS metX8_isYear ⟨rfl, by decide +kernel, by decide +kernel, by decide +kernel⟩ (am_w4 wd_982 wd_983 wd_67 wd_984) (by decide) dX8_earnings_9 rfl) <|
  am_kc (ak_if_eq dX8_earnings_12 (by decide +kernel) rfl) <|
  am_kc (ak_iload_n dX8_earnings_15 rfl rfl) <|
  am_kc (ak_callS metX8_isYear ⟨rfl, by decide +kernel, by decide +kernel, by decide +kernel⟩ (am_w4 wd_982 wd_983 wd_67 wd_984) (by decide) dX8_earnings_16 rfl) <|
  am_kc (ak_if_eq dX8_earnings_19 (by decide +kernel) rfl) <|
  am_kc (ak_aload_n dX8_earnings_22 rfl rfl) <|
  am_kc (ak_iload_n dX8_earnings_23 rfl rfl) <|
  am_kc (ak_iload_n dX8_earnings_24 rfl rfl) <|
  am_kc (ak_iload_n dX8_earnings_25 rfl rfl) <|
  am_kc (ak_callV (C := RX8) (F := TX8) (N := 27) (am_metF _ _ _ _) rfl ⟨rfl, by decide +kernel, by decide +kernel, by decide +kernel⟩ (am_w5 wd_1026 wd_1028 wd_28 wd_67 wd_1029) (by decide) dX8_earnings_26 rfl) <|
  am_kc (ak_goto dX8_earnings_29 (by decide +kernel)) <|
  am_kc (ak_bipush dX8_earnings_32 (by decide +kernel) rfl) <|
  am_kc (ak_retI dX8_earnings_34) <| am_kn
def TX8_earnings : am_T := fun live as M R => match as with
  | [.ref n, .int p, .int y, .int k] => am_mn live ∧ n = 200 ∧ am_F8 M ∧ R (some (.int (-2))) M
  | _ => False
set_option maxRecDepth 100000 in
set_option maxHeartbeats 4000000 in
theorem metX8_earnings : am_Met yX8_earnings cX8_earnings 4 (some .int) (2) (46) TX8_earnings := by
  refine am_met (own := RX8) (by decide +kernel) rfl kX8_earnings koX8_earnings 300 (fun _ _ _ _ _ => none) (fun live as M Ret h => ?_) (fun _ _ _ _ _ _ _ _ hI => by cases hI)
  unfold TX8_earnings at h
  split at h
  · next n p y k =>
    refine ⟨Nat.le_of_ble_eq_true rfl, ?_⟩
    change am_wp _ _ _ _ [(0, Value.ref n), (1, Value.int p), (2, Value.int y), (3, Value.int k)] _ _
    obtain ⟨⟨i1, i2, rfl⟩, rfl, hF, h⟩ := h
    have q0 : M.1 201 0 = 0 := hF.1 0 (by decide)
    have q1 : M.1 201 1 = 0 := hF.1 1 (by decide)
    repeat' (first | (with_reducible exact q0) | (with_reducible exact q1) | apply And.intro | exact rfl | (intro hx; exact absurd hx (by decide)) | (intro hx; exact absurd (by decide) hx) | decide | intro hx | (refine Exists.intro _ (And.intro rfl ?_)))
    all_goals try first | (with_reducible change am_tI _ _) | (change Ret _ _) | (change Ret _ _ _) | (change Exists _)
    all_goals try dsimp only at *
    all_goals try exact absurd ‹(1000 : Int64) = 0› (by decide)
    all_goals first | exact h | exact q0 | exact q1 | (left; exact ⟨i1, i2, rfl⟩) | exact ⟨i1, i2, rfl⟩
  · exact h.elim
theorem wd_1034 : Cond.methodLink "LearnLoansModel" 104 yX8_isPlan ∈ am_ws := am_wsi (List.mem_of_getElem? (i := 1034) (by decide +kernel)) (by decide +kernel)
theorem wd_1035 : Cond.static yX8_isPlan ∈ am_ws := am_wsi (List.mem_of_getElem? (i := 1035) (by decide +kernel)) (by decide +kernel)
theorem wd_1036 : Cond.code yX8_isPlan cX8_isPlan 1 (some .boolean) ∈ am_ws := am_wsi (List.mem_of_getElem? (i := 1036) (by decide +kernel)) (by decide +kernel)
theorem wd_1038 : Cond.methodLink "LearnLoansModel" 107 yX8_isWhat ∈ am_ws := am_wsi (List.mem_of_getElem? (i := 1038) (by decide +kernel)) (by decide +kernel)
theorem wd_1039 : Cond.static yX8_isWhat ∈ am_ws := am_wsi (List.mem_of_getElem? (i := 1039) (by decide +kernel)) (by decide +kernel)
theorem wd_1040 : Cond.code yX8_isWhat cX8_isWhat 1 (some .boolean) ∈ am_ws := am_wsi (List.mem_of_getElem? (i := 1040) (by decide +kernel)) (by decide +kernel)
theorem wd_1053 : Cond.methodLink "LearnLoansModel" 127 yX8_inForce ∈ am_ws := am_wsi (List.mem_of_getElem? (i := 1053) (by decide +kernel)) (by decide +kernel)
theorem wd_1055 : Cond.instanceMethod yX8_inForce ∈ am_ws := am_wsi (List.mem_of_getElem? (i := 1055) (by decide +kernel)) (by decide +kernel)
theorem wd_29 : Cond.selects "LearnLoansModel" yX8_inForce yX8_inForce ∈ am_ws := am_wsi (List.mem_of_getElem? (i := 29) (by decide +kernel)) (by decide +kernel)
theorem wd_1056 : Cond.code yX8_inForce cX8_inForce 9 (some .int) ∈ am_ws := am_wsi (List.mem_of_getElem? (i := 1056) (by decide +kernel)) (by decide +kernel)
theorem dX8_force_0 : decode cX8_force 0 = .ok (.iload_n 1, 1) := by decide +kernel
theorem dX8_force_1 : decode cX8_force 1 = .ok (.invokestatic 104, 3) := by decide +kernel
theorem dX8_force_4 : decode cX8_force 4 = .ok (.ifCond .eq 38, 3) := by decide +kernel
theorem dX8_force_7 : decode cX8_force 7 = .ok (.iload_n 2, 1) := by decide +kernel
theorem dX8_force_8 : decode cX8_force 8 = .ok (.invokestatic 107, 3) := by decide +kernel
theorem dX8_force_11 : decode cX8_force 11 = .ok (.ifCond .eq 31, 3) := by decide +kernel
theorem dX8_force_14 : decode cX8_force 14 = .ok (.aload_n 0, 1) := by decide +kernel
theorem dX8_force_15 : decode cX8_force 15 = .ok (.iload_n 3, 1) := by decide +kernel
theorem dX8_force_16 : decode cX8_force 16 = .ok (.invokevirtual 76, 3) := by decide +kernel
theorem dX8_force_19 : decode cX8_force 19 = .ok (.ifCond .eq 23, 3) := by decide +kernel
theorem dX8_force_22 : decode cX8_force 22 = .ok (.iload 4, 2) := by decide +kernel
theorem dX8_force_24 : decode cX8_force 24 = .ok (.invokestatic 72, 3) := by decide +kernel
theorem dX8_force_27 : decode cX8_force 27 = .ok (.ifCond .eq 15, 3) := by decide +kernel
theorem dX8_force_30 : decode cX8_force 30 = .ok (.aload_n 0, 1) := by decide +kernel
theorem dX8_force_31 : decode cX8_force 31 = .ok (.iload_n 1, 1) := by decide +kernel
theorem dX8_force_32 : decode cX8_force 32 = .ok (.iload_n 2, 1) := by decide +kernel
theorem dX8_force_33 : decode cX8_force 33 = .ok (.iload_n 3, 1) := by decide +kernel
theorem dX8_force_34 : decode cX8_force 34 = .ok (.iload 4, 2) := by decide +kernel
theorem dX8_force_36 : decode cX8_force 36 = .ok (.invokevirtual 127, 3) := by decide +kernel
theorem dX8_force_39 : decode cX8_force 39 = .ok (.goto 5, 3) := by decide +kernel
theorem dX8_force_42 : decode cX8_force 42 = .ok (.bipush (-2), 2) := by decide +kernel
theorem dX8_force_44 : decode cX8_force 44 = .ok (.ireturn, 1) := by decide +kernel
def kX8_force (live : am_E) (Ret : am_R) : am_code := [(0, am_iload 1 1), (1, am_callS live 1 TX8_isPlan 4), (4, am_if1 (fun x => x = 0) 42 7), (7, am_iload 2 8), (8, am_callS live 1 TX8_isWhat 11), (11, am_if1 (fun x => x = 0) 42 14), (14, am_aload 0 15), (15, am_iload 3 16), (16, am_callV live 8 1 TX8_isPerson 19), (19, am_if1 (fun x => x = 0) 42 22), (22, am_iload 4 24), (24, am_callS live 1 TX8_isYear 27), (27, am_if1 (fun x => x = 0) 42 30), (30, am_aload 0 31), (31, am_iload 1 32), (32, am_iload 2 33), (33, am_iload 3 34), (34, am_iload 4 36), (36, am_callV live 8 4 am_TF 39), (39, am_goto 44), (42, am_const (.int (-2)) 44), (44, am_retI Ret)]
theorem koX8_force (live : am_E) (Ret : am_R) : ∀ q ∈ kX8_force live Ret, am_ok RX8 cX8_force 5 (some .int) 2 46 live Ret q.1 q.2 :=
  am_kc (ak_iload_n dX8_force_0 rfl rfl) <|
  am_kc (ak_callS metX8_isPlan ⟨rfl, by decide +kernel, by decide +kernel, by decide +kernel⟩ (am_w4 wd_1034 wd_1035 wd_67 wd_1036) (by decide) dX8_force_1 rfl) <|
  am_kc (ak_if_eq dX8_force_4 (by decide +kernel) rfl) <|
  am_kc (ak_iload_n dX8_force_7 rfl rfl) <|
  am_kc (ak_callS metX8_isWhat ⟨rfl, by decide +kernel, by decide +kernel, by decide +kernel⟩ (am_w4 wd_1038 wd_1039 wd_67 wd_1040) (by decide) dX8_force_8 rfl) <|
  am_kc (ak_if_eq dX8_force_11 (by decide +kernel) rfl) <|
  am_kc (ak_aload_n dX8_force_14 rfl rfl) <|
  am_kc (ak_iload_n dX8_force_15 rfl rfl) <|
  am_kc (ak_callV (C := RX8) (F := TX8) (N := 27) metX8_isPerson rfl ⟨rfl, by decide +kernel, by decide +kernel, by decide +kernel⟩ (am_w5 wd_993 wd_995 wd_27 wd_67 wd_996) (by decide) dX8_force_16 rfl) <|
  am_kc (ak_if_eq dX8_force_19 (by decide +kernel) rfl) <|
  am_kc (ak_iload dX8_force_22 rfl) <|
  am_kc (ak_callS metX8_isYear ⟨rfl, by decide +kernel, by decide +kernel, by decide +kernel⟩ (am_w4 wd_982 wd_983 wd_67 wd_984) (by decide) dX8_force_24 rfl) <|
  am_kc (ak_if_eq dX8_force_27 (by decide +kernel) rfl) <|
  am_kc (ak_aload_n dX8_force_30 rfl rfl) <|
  am_kc (ak_iload_n dX8_force_31 rfl rfl) <|
  am_kc (ak_iload_n dX8_force_32 rfl rfl) <|
  am_kc (ak_iload_n dX8_force_33 rfl rfl) <|
  am_kc (ak_iload dX8_force_34 rfl) <|
  am_kc (ak_callV (C := RX8) (F := TX8) (N := 27) (am_metF _ _ _ _) rfl ⟨rfl, by decide +kernel, by decide +kernel, by decide +kernel⟩ (am_w5 wd_1053 wd_1055 wd_29 wd_67 wd_1056) (by decide) dX8_force_36 rfl) <|
  am_kc (ak_goto dX8_force_39 (by decide +kernel)) <|
  am_kc (ak_bipush dX8_force_42 (by decide +kernel) rfl) <|
  am_kc (ak_retI dX8_force_44) <| am_kn
def TX8_force : am_T := fun live as M R => match as with
  | [.ref n, .int l, .int w, .int p, .int y] => am_mn live ∧ n = 200 ∧ am_F8 M ∧ R (some (.int (-2))) M
  | _ => False
set_option maxRecDepth 100000 in
set_option maxHeartbeats 4000000 in
theorem metX8_force : am_Met yX8_force cX8_force 5 (some .int) (2) (46) TX8_force := by
  refine am_met (own := RX8) (by decide +kernel) rfl kX8_force koX8_force 300 (fun _ _ _ _ _ => none) (fun live as M Ret h => ?_) (fun _ _ _ _ _ _ _ _ hI => by cases hI)
  unfold TX8_force at h
  split at h
  · next n l w p y =>
    refine ⟨Nat.le_of_ble_eq_true rfl, ?_⟩
    change am_wp _ _ _ _ [(0, Value.ref n), (1, Value.int l), (2, Value.int w), (3, Value.int p), (4, Value.int y)] _ _
    obtain ⟨⟨i1, i2, rfl⟩, rfl, hF, h⟩ := h
    have q0 : M.1 201 0 = 0 := hF.1 0 (by decide)
    have q1 : M.1 201 1 = 0 := hF.1 1 (by decide)
    repeat' (first | (with_reducible exact q0) | (with_reducible exact q1) | apply And.intro | exact rfl | (intro hx; exact absurd hx (by decide)) | (intro hx; exact absurd (by decide) hx) | decide | intro hx | (refine Exists.intro _ (And.intro rfl ?_)))
    all_goals try first | (with_reducible change am_tI _ _) | (change Ret _ _) | (change Ret _ _ _) | (change Exists _)
    all_goals try dsimp only at *
    all_goals try exact absurd ‹(1000 : Int64) = 0› (by decide)
    all_goals first | exact h | exact q0 | exact q1 | (left; exact ⟨i1, i2, rfl⟩) | exact ⟨i1, i2, rfl⟩
  · exact h.elim
theorem dX8_loan_0 : decode cX8_loan 0 = .ok (.aload_n 0, 1) := by decide +kernel
theorem dX8_loan_1 : decode cX8_loan 1 = .ok (.iload_n 1, 1) := by decide +kernel
theorem dX8_loan_2 : decode cX8_loan 2 = .ok (.invokevirtual 76, 3) := by decide +kernel
theorem dX8_loan_5 : decode cX8_loan 5 = .ok (.ifCond .eq 30, 3) := by decide +kernel
theorem dX8_loan_8 : decode cX8_loan 8 = .ok (.iload_n 2, 1) := by decide +kernel
theorem dX8_loan_9 : decode cX8_loan 9 = .ok (.invokestatic 104, 3) := by decide +kernel
theorem dX8_loan_12 : decode cX8_loan 12 = .ok (.ifCond .eq 23, 3) := by decide +kernel
theorem dX8_loan_15 : decode cX8_loan 15 = .ok (.iload_n 3, 1) := by decide +kernel
theorem dX8_loan_16 : decode cX8_loan 16 = .ok (.invokestatic 72, 3) := by decide +kernel
theorem dX8_loan_19 : decode cX8_loan 19 = .ok (.ifCond .eq 16, 3) := by decide +kernel
theorem dX8_loan_22 : decode cX8_loan 22 = .ok (.iload 4, 2) := by decide +kernel
theorem dX8_loan_24 : decode cX8_loan 24 = .ok (.i2l, 1) := by decide +kernel
theorem dX8_loan_25 : decode cX8_loan 25 = .ok (.lconst 1, 1) := by decide +kernel
theorem dX8_loan_26 : decode cX8_loan 26 = .ok (.ldc2_w 87, 3) := by decide +kernel
theorem dX8_loan_29 : decode cX8_loan 29 = .ok (.invokestatic 66, 3) := by decide +kernel
theorem dX8_loan_32 : decode cX8_loan 32 = .ok (.ifCond .ne 6, 3) := by decide +kernel
theorem dX8_loan_35 : decode cX8_loan 35 = .ok (.bipush (-2), 2) := by decide +kernel
theorem dX8_loan_37 : decode cX8_loan 37 = .ok (.ireturn, 1) := by decide +kernel
theorem dX8_loan_38 : decode cX8_loan 38 = .ok (.aload_n 0, 1) := by decide +kernel
theorem dX8_loan_39 : decode cX8_loan 39 = .ok (.getfield 7, 3) := by decide +kernel
theorem dX8_loan_42 : decode cX8_loan 42 = .ok (.iconst 1, 1) := by decide +kernel
theorem dX8_loan_43 : decode cX8_loan 43 = .ok (.iaload, 1) := by decide +kernel
theorem dX8_loan_44 : decode cX8_loan 44 = .ok (.bipush 30, 2) := by decide +kernel
theorem dX8_loan_46 : decode cX8_loan 46 = .ok (.if_icmp .ne 6, 3) := by decide +kernel
theorem dX8_loan_49 : decode cX8_loan 49 = .ok (.bipush (-4), 2) := by decide +kernel
theorem dX8_loan_51 : decode cX8_loan 51 = .ok (.ireturn, 1) := by decide +kernel
theorem dX8_loan_52 : decode cX8_loan 52 = .ok (.sipush 2838, 3) := by decide +kernel
theorem dX8_loan_55 : decode cX8_loan 55 = .ok (.bipush 8, 2) := by decide +kernel
theorem dX8_loan_57 : decode cX8_loan 57 = .ok (.aload_n 0, 1) := by decide +kernel
theorem dX8_loan_58 : decode cX8_loan 58 = .ok (.getfield 7, 3) := by decide +kernel
theorem dX8_loan_61 : decode cX8_loan 61 = .ok (.iconst 1, 1) := by decide +kernel
theorem dX8_loan_62 : decode cX8_loan 62 = .ok (.iaload, 1) := by decide +kernel
theorem dX8_loan_63 : decode cX8_loan 63 = .ok (.imul, 1) := by decide +kernel
theorem dX8_loan_64 : decode cX8_loan 64 = .ok (.iadd, 1) := by decide +kernel
theorem dX8_loan_65 : decode cX8_loan 65 = .ok (.istore 6, 2) := by decide +kernel
theorem dX8_loan_67 : decode cX8_loan 67 = .ok (.aload_n 0, 1) := by decide +kernel
theorem dX8_loan_68 : decode cX8_loan 68 = .ok (.getfield 7, 3) := by decide +kernel
theorem dX8_loan_71 : decode cX8_loan 71 = .ok (.iload 6, 2) := by decide +kernel
theorem dX8_loan_73 : decode cX8_loan 73 = .ok (.iload_n 1, 1) := by decide +kernel
theorem dX8_loan_74 : decode cX8_loan 74 = .ok (.iastore, 1) := by decide +kernel
theorem dX8_loan_75 : decode cX8_loan 75 = .ok (.aload_n 0, 1) := by decide +kernel
theorem dX8_loan_76 : decode cX8_loan 76 = .ok (.getfield 7, 3) := by decide +kernel
theorem dX8_loan_79 : decode cX8_loan 79 = .ok (.iload 6, 2) := by decide +kernel
theorem dX8_loan_81 : decode cX8_loan 81 = .ok (.iconst 1, 1) := by decide +kernel
theorem dX8_loan_82 : decode cX8_loan 82 = .ok (.iadd, 1) := by decide +kernel
theorem dX8_loan_83 : decode cX8_loan 83 = .ok (.iload_n 2, 1) := by decide +kernel
theorem dX8_loan_84 : decode cX8_loan 84 = .ok (.iastore, 1) := by decide +kernel
theorem dX8_loan_85 : decode cX8_loan 85 = .ok (.aload_n 0, 1) := by decide +kernel
theorem dX8_loan_86 : decode cX8_loan 86 = .ok (.getfield 7, 3) := by decide +kernel
theorem dX8_loan_89 : decode cX8_loan 89 = .ok (.iload 6, 2) := by decide +kernel
theorem dX8_loan_91 : decode cX8_loan 91 = .ok (.iconst 2, 1) := by decide +kernel
theorem dX8_loan_92 : decode cX8_loan 92 = .ok (.iadd, 1) := by decide +kernel
theorem dX8_loan_93 : decode cX8_loan 93 = .ok (.iload_n 3, 1) := by decide +kernel
theorem dX8_loan_94 : decode cX8_loan 94 = .ok (.iastore, 1) := by decide +kernel
theorem dX8_loan_95 : decode cX8_loan 95 = .ok (.aload_n 0, 1) := by decide +kernel
theorem dX8_loan_96 : decode cX8_loan 96 = .ok (.getfield 7, 3) := by decide +kernel
theorem dX8_loan_99 : decode cX8_loan 99 = .ok (.iload 6, 2) := by decide +kernel
theorem dX8_loan_101 : decode cX8_loan 101 = .ok (.iconst 3, 1) := by decide +kernel
theorem dX8_loan_102 : decode cX8_loan 102 = .ok (.iadd, 1) := by decide +kernel
theorem dX8_loan_103 : decode cX8_loan 103 = .ok (.iload 4, 2) := by decide +kernel
theorem dX8_loan_105 : decode cX8_loan 105 = .ok (.iastore, 1) := by decide +kernel
theorem dX8_loan_106 : decode cX8_loan 106 = .ok (.aload_n 0, 1) := by decide +kernel
theorem dX8_loan_107 : decode cX8_loan 107 = .ok (.getfield 7, 3) := by decide +kernel
theorem dX8_loan_110 : decode cX8_loan 110 = .ok (.iload 6, 2) := by decide +kernel
theorem dX8_loan_112 : decode cX8_loan 112 = .ok (.iconst 4, 1) := by decide +kernel
theorem dX8_loan_113 : decode cX8_loan 113 = .ok (.iadd, 1) := by decide +kernel
theorem dX8_loan_114 : decode cX8_loan 114 = .ok (.iload 5, 2) := by decide +kernel
theorem dX8_loan_116 : decode cX8_loan 116 = .ok (.ifCond .eq 7, 3) := by decide +kernel
theorem dX8_loan_119 : decode cX8_loan 119 = .ok (.iconst 1, 1) := by decide +kernel
theorem dX8_loan_120 : decode cX8_loan 120 = .ok (.goto 4, 3) := by decide +kernel
theorem dX8_loan_123 : decode cX8_loan 123 = .ok (.iconst 0, 1) := by decide +kernel
theorem dX8_loan_124 : decode cX8_loan 124 = .ok (.iastore, 1) := by decide +kernel
theorem dX8_loan_125 : decode cX8_loan 125 = .ok (.aload_n 0, 1) := by decide +kernel
theorem dX8_loan_126 : decode cX8_loan 126 = .ok (.getfield 7, 3) := by decide +kernel
theorem dX8_loan_129 : decode cX8_loan 129 = .ok (.iload 6, 2) := by decide +kernel
theorem dX8_loan_131 : decode cX8_loan 131 = .ok (.iconst 5, 1) := by decide +kernel
theorem dX8_loan_132 : decode cX8_loan 132 = .ok (.iadd, 1) := by decide +kernel
theorem dX8_loan_133 : decode cX8_loan 133 = .ok (.iconst (-1), 1) := by decide +kernel
theorem dX8_loan_134 : decode cX8_loan 134 = .ok (.iastore, 1) := by decide +kernel
theorem dX8_loan_135 : decode cX8_loan 135 = .ok (.aload_n 0, 1) := by decide +kernel
theorem dX8_loan_136 : decode cX8_loan 136 = .ok (.getfield 7, 3) := by decide +kernel
theorem dX8_loan_139 : decode cX8_loan 139 = .ok (.iload 6, 2) := by decide +kernel
theorem dX8_loan_141 : decode cX8_loan 141 = .ok (.bipush 6, 2) := by decide +kernel
theorem dX8_loan_143 : decode cX8_loan 143 = .ok (.iadd, 1) := by decide +kernel
theorem dX8_loan_144 : decode cX8_loan 144 = .ok (.iconst (-1), 1) := by decide +kernel
theorem dX8_loan_145 : decode cX8_loan 145 = .ok (.iastore, 1) := by decide +kernel
theorem dX8_loan_146 : decode cX8_loan 146 = .ok (.aload_n 0, 1) := by decide +kernel
theorem dX8_loan_147 : decode cX8_loan 147 = .ok (.getfield 7, 3) := by decide +kernel
theorem dX8_loan_150 : decode cX8_loan 150 = .ok (.iload 6, 2) := by decide +kernel
theorem dX8_loan_152 : decode cX8_loan 152 = .ok (.bipush 7, 2) := by decide +kernel
theorem dX8_loan_154 : decode cX8_loan 154 = .ok (.iadd, 1) := by decide +kernel
theorem dX8_loan_155 : decode cX8_loan 155 = .ok (.iconst (-1), 1) := by decide +kernel
theorem dX8_loan_156 : decode cX8_loan 156 = .ok (.iastore, 1) := by decide +kernel
theorem dX8_loan_157 : decode cX8_loan 157 = .ok (.aload_n 0, 1) := by decide +kernel
theorem dX8_loan_158 : decode cX8_loan 158 = .ok (.getfield 7, 3) := by decide +kernel
theorem dX8_loan_161 : decode cX8_loan 161 = .ok (.iconst 1, 1) := by decide +kernel
theorem dX8_loan_162 : decode cX8_loan 162 = .ok (.dup2, 1) := by decide +kernel
theorem dX8_loan_163 : decode cX8_loan 163 = .ok (.iaload, 1) := by decide +kernel
theorem dX8_loan_164 : decode cX8_loan 164 = .ok (.iconst 1, 1) := by decide +kernel
theorem dX8_loan_165 : decode cX8_loan 165 = .ok (.iadd, 1) := by decide +kernel
theorem dX8_loan_166 : decode cX8_loan 166 = .ok (.iastore, 1) := by decide +kernel
theorem dX8_loan_167 : decode cX8_loan 167 = .ok (.aload_n 0, 1) := by decide +kernel
theorem dX8_loan_168 : decode cX8_loan 168 = .ok (.getfield 7, 3) := by decide +kernel
theorem dX8_loan_171 : decode cX8_loan 171 = .ok (.iconst 1, 1) := by decide +kernel
theorem dX8_loan_172 : decode cX8_loan 172 = .ok (.iaload, 1) := by decide +kernel
theorem dX8_loan_173 : decode cX8_loan 173 = .ok (.iconst 1, 1) := by decide +kernel
theorem dX8_loan_174 : decode cX8_loan 174 = .ok (.isub, 1) := by decide +kernel
theorem dX8_loan_175 : decode cX8_loan 175 = .ok (.ireturn, 1) := by decide +kernel
def kX8_loan (live : am_E) (Ret : am_R) : am_code := [(0, am_aload 0 1), (1, am_iload 1 2), (2, am_callV live 8 1 TX8_isPerson 5), (5, am_if1 (fun x => x = 0) 35 8), (8, am_iload 2 9), (9, am_callS live 1 TX8_isPlan 12), (12, am_if1 (fun x => x = 0) 35 15), (15, am_iload 3 16), (16, am_callS live 1 TX8_isYear 19), (19, am_if1 (fun x => x = 0) 35 22), (22, am_iload 4 24), (24, am_i2l 25), (25, am_const (.long 1) 26), (26, am_const (.long 10000000) 29), (29, am_callS live 3 TX8_in 32), (32, am_if1 (fun x => x = 0) 35 38), (35, am_const (.int (-2)) 37), (37, am_retI Ret), (38, am_aload 0 39), (39, am_getR live 8 0 42), (42, am_const (.int 1) 43), (43, am_ald live 0 44), (44, am_const (.int 30) 46), (46, am_if2 (fun x y => x = y) 49 52), (49, am_const (.int (-4)) 51), (51, am_retI Ret), (52, am_const (.int 2838) 55), (55, am_const (.int 8) 57), (57, am_aload 0 58), (58, am_getR live 8 0 61), (61, am_const (.int 1) 62), (62, am_ald live 0 63), (63, am_i2 (fun x y => x * y) 64), (64, am_i2 (fun x y => x + y) 65), (65, am_istore 6 7 67), (67, am_aload 0 68), (68, am_getR live 8 0 71), (71, am_iload 6 73), (73, am_iload 1 74), (74, am_ast live 0 75), (75, am_aload 0 76), (76, am_getR live 8 0 79), (79, am_iload 6 81), (81, am_const (.int 1) 82), (82, am_i2 (fun x y => x + y) 83), (83, am_iload 2 84), (84, am_ast live 0 85), (85, am_aload 0 86), (86, am_getR live 8 0 89), (89, am_iload 6 91), (91, am_const (.int 2) 92), (92, am_i2 (fun x y => x + y) 93), (93, am_iload 3 94), (94, am_ast live 0 95), (95, am_aload 0 96), (96, am_getR live 8 0 99), (99, am_iload 6 101), (101, am_const (.int 3) 102), (102, am_i2 (fun x y => x + y) 103), (103, am_iload 4 105), (105, am_ast live 0 106), (106, am_aload 0 107), (107, am_getR live 8 0 110), (110, am_iload 6 112), (112, am_const (.int 4) 113), (113, am_i2 (fun x y => x + y) 114), (114, am_iload 5 116), (116, am_if1 (fun x => x = 0) 123 119), (119, am_const (.int 1) 120), (120, am_goto 124), (123, am_const (.int 0) 124), (124, am_ast live 0 125), (125, am_aload 0 126), (126, am_getR live 8 0 129), (129, am_iload 6 131), (131, am_const (.int 5) 132), (132, am_i2 (fun x y => x + y) 133), (133, am_const (.int (-1)) 134), (134, am_ast live 0 135), (135, am_aload 0 136), (136, am_getR live 8 0 139), (139, am_iload 6 141), (141, am_const (.int 6) 143), (143, am_i2 (fun x y => x + y) 144), (144, am_const (.int (-1)) 145), (145, am_ast live 0 146), (146, am_aload 0 147), (147, am_getR live 8 0 150), (150, am_iload 6 152), (152, am_const (.int 7) 154), (154, am_i2 (fun x y => x + y) 155), (155, am_const (.int (-1)) 156), (156, am_ast live 0 157), (157, am_aload 0 158), (158, am_getR live 8 0 161), (161, am_const (.int 1) 162), (162, am_dup2 163), (163, am_ald live 0 164), (164, am_const (.int 1) 165), (165, am_i2 (fun x y => x + y) 166), (166, am_ast live 0 167), (167, am_aload 0 168), (168, am_getR live 8 0 171), (171, am_const (.int 1) 172), (172, am_ald live 0 173), (173, am_const (.int 1) 174), (174, am_i2 (fun x y => x - y) 175), (175, am_retI Ret)]
theorem koX8_loan (live : am_E) (Ret : am_R) : ∀ q ∈ kX8_loan live Ret, am_ok RX8 cX8_loan 7 (some .int) 2 46 live Ret q.1 q.2 :=
  am_kc (ak_aload_n dX8_loan_0 rfl rfl) <|
  am_kc (ak_iload_n dX8_loan_1 rfl rfl) <|
  am_kc (ak_callV (C := RX8) (F := TX8) (N := 27) metX8_isPerson rfl ⟨rfl, by decide +kernel, by decide +kernel, by decide +kernel⟩ (am_w5 wd_993 wd_995 wd_27 wd_67 wd_996) (by decide) dX8_loan_2 rfl) <|
  am_kc (ak_if_eq dX8_loan_5 (by decide +kernel) rfl) <|
  am_kc (ak_iload_n dX8_loan_8 rfl rfl) <|
  am_kc (ak_callS metX8_isPlan ⟨rfl, by decide +kernel, by decide +kernel, by decide +kernel⟩ (am_w4 wd_1034 wd_1035 wd_67 wd_1036) (by decide) dX8_loan_9 rfl) <|
  am_kc (ak_if_eq dX8_loan_12 (by decide +kernel) rfl) <|
  am_kc (ak_iload_n dX8_loan_15 rfl rfl) <|
  am_kc (ak_callS metX8_isYear ⟨rfl, by decide +kernel, by decide +kernel, by decide +kernel⟩ (am_w4 wd_982 wd_983 wd_67 wd_984) (by decide) dX8_loan_16 rfl) <|
  am_kc (ak_if_eq dX8_loan_19 (by decide +kernel) rfl) <|
  am_kc (ak_iload dX8_loan_22 rfl) <|
  am_kc (ak_i2l dX8_loan_24 rfl) <|
  am_kc (ak_lconst dX8_loan_25 (by decide +kernel) rfl) <|
  am_kc (ak_ldc2 wd_1017 dX8_loan_26 rfl) <|
  am_kc (ak_callS metX8_in ⟨rfl, by decide +kernel, by decide +kernel, by decide +kernel⟩ (am_w4 wd_986 wd_987 wd_67 wd_988) (by decide) dX8_loan_29 rfl) <|
  am_kc (ak_if_ne dX8_loan_32 (by decide +kernel) rfl) <|
  am_kc (ak_bipush dX8_loan_35 (by decide +kernel) rfl) <|
  am_kc (ak_retI dX8_loan_37) <|
  am_kc (ak_aload_n dX8_loan_38 rfl rfl) <|
  am_kc (ak_getR (C := RX8) (T := TX8) (N := 27) rfl inX8w (by decide) rfl rfl rfl wd_895 dX8_loan_39 rfl) <|
  am_kc (ak_iconst dX8_loan_42 (by decide +kernel) rfl) <|
  am_kc (ak_iald (t := 0) (fun _ => rfl) rfl dX8_loan_43 rfl) <|
  am_kc (ak_bipush dX8_loan_44 (by decide +kernel) rfl) <|
  am_kc (ak_icmp_ne dX8_loan_46 (by decide +kernel) rfl) <|
  am_kc (ak_bipush dX8_loan_49 (by decide +kernel) rfl) <|
  am_kc (ak_retI dX8_loan_51) <|
  am_kc (ak_sipush dX8_loan_52 (by decide +kernel) rfl) <|
  am_kc (ak_bipush dX8_loan_55 (by decide +kernel) rfl) <|
  am_kc (ak_aload_n dX8_loan_57 rfl rfl) <|
  am_kc (ak_getR (C := RX8) (T := TX8) (N := 27) rfl inX8w (by decide) rfl rfl rfl wd_895 dX8_loan_58 rfl) <|
  am_kc (ak_iconst dX8_loan_61 (by decide +kernel) rfl) <|
  am_kc (ak_iald (t := 0) (fun _ => rfl) rfl dX8_loan_62 rfl) <|
  am_kc (ak_imul dX8_loan_63 rfl) <|
  am_kc (ak_iadd dX8_loan_64 rfl) <|
  am_kc (ak_istore dX8_loan_65 rfl) <|
  am_kc (ak_aload_n dX8_loan_67 rfl rfl) <|
  am_kc (ak_getR (C := RX8) (T := TX8) (N := 27) rfl inX8w (by decide) rfl rfl rfl wd_895 dX8_loan_68 rfl) <|
  am_kc (ak_iload dX8_loan_71 rfl) <|
  am_kc (ak_iload_n dX8_loan_73 rfl rfl) <|
  am_kc (ak_iast (t := 0) (fun _ => rfl) rfl dX8_loan_74 rfl) <|
  am_kc (ak_aload_n dX8_loan_75 rfl rfl) <|
  am_kc (ak_getR (C := RX8) (T := TX8) (N := 27) rfl inX8w (by decide) rfl rfl rfl wd_895 dX8_loan_76 rfl) <|
  am_kc (ak_iload dX8_loan_79 rfl) <|
  am_kc (ak_iconst dX8_loan_81 (by decide +kernel) rfl) <|
  am_kc (ak_iadd dX8_loan_82 rfl) <|
  am_kc (ak_iload_n dX8_loan_83 rfl rfl) <|
  am_kc (ak_iast (t := 0) (fun _ => rfl) rfl dX8_loan_84 rfl) <|
  am_kc (ak_aload_n dX8_loan_85 rfl rfl) <|
  am_kc (ak_getR (C := RX8) (T := TX8) (N := 27) rfl inX8w (by decide) rfl rfl rfl wd_895 dX8_loan_86 rfl) <|
  am_kc (ak_iload dX8_loan_89 rfl) <|
  am_kc (ak_iconst dX8_loan_91 (by decide +kernel) rfl) <|
  am_kc (ak_iadd dX8_loan_92 rfl) <|
  am_kc (ak_iload_n dX8_loan_93 rfl rfl) <|
  am_kc (ak_iast (t := 0) (fun _ => rfl) rfl dX8_loan_94 rfl) <|
  am_kc (ak_aload_n dX8_loan_95 rfl rfl) <|
  am_kc (ak_getR (C := RX8) (T := TX8) (N := 27) rfl inX8w (by decide) rfl rfl rfl wd_895 dX8_loan_96 rfl) <|
  am_kc (ak_iload dX8_loan_99 rfl) <|
  am_kc (ak_iconst dX8_loan_101 (by decide +kernel) rfl) <|
  am_kc (ak_iadd dX8_loan_102 rfl) <|
  am_kc (ak_iload dX8_loan_103 rfl) <|
  am_kc (ak_iast (t := 0) (fun _ => rfl) rfl dX8_loan_105 rfl) <|
  am_kc (ak_aload_n dX8_loan_106 rfl rfl) <|
  am_kc (ak_getR (C := RX8) (T := TX8) (N := 27) rfl inX8w (by decide) rfl rfl rfl wd_895 dX8_loan_107 rfl) <|
  am_kc (ak_iload dX8_loan_110 rfl) <|
  am_kc (ak_iconst dX8_loan_112 (by decide +kernel) rfl) <|
  am_kc (ak_iadd dX8_loan_113 rfl) <|
  am_kc (ak_iload dX8_loan_114 rfl) <|
  am_kc (ak_if_eq dX8_loan_116 (by decide +kernel) rfl) <|
  am_kc (ak_iconst dX8_loan_119 (by decide +kernel) rfl) <|
  am_kc (ak_goto dX8_loan_120 (by decide +kernel)) <|
  am_kc (ak_iconst dX8_loan_123 (by decide +kernel) rfl) <|
  am_kc (ak_iast (t := 0) (fun _ => rfl) rfl dX8_loan_124 rfl) <|
  am_kc (ak_aload_n dX8_loan_125 rfl rfl) <|
  am_kc (ak_getR (C := RX8) (T := TX8) (N := 27) rfl inX8w (by decide) rfl rfl rfl wd_895 dX8_loan_126 rfl) <|
  am_kc (ak_iload dX8_loan_129 rfl) <|
  am_kc (ak_iconst dX8_loan_131 (by decide +kernel) rfl) <|
  am_kc (ak_iadd dX8_loan_132 rfl) <|
  am_kc (ak_iconst dX8_loan_133 (by decide +kernel) rfl) <|
  am_kc (ak_iast (t := 0) (fun _ => rfl) rfl dX8_loan_134 rfl) <|
  am_kc (ak_aload_n dX8_loan_135 rfl rfl) <|
  am_kc (ak_getR (C := RX8) (T := TX8) (N := 27) rfl inX8w (by decide) rfl rfl rfl wd_895 dX8_loan_136 rfl) <|
  am_kc (ak_iload dX8_loan_139 rfl) <|
  am_kc (ak_bipush dX8_loan_141 (by decide +kernel) rfl) <|
  am_kc (ak_iadd dX8_loan_143 rfl) <|
  am_kc (ak_iconst dX8_loan_144 (by decide +kernel) rfl) <|
  am_kc (ak_iast (t := 0) (fun _ => rfl) rfl dX8_loan_145 rfl) <|
  am_kc (ak_aload_n dX8_loan_146 rfl rfl) <|
  am_kc (ak_getR (C := RX8) (T := TX8) (N := 27) rfl inX8w (by decide) rfl rfl rfl wd_895 dX8_loan_147 rfl) <|
  am_kc (ak_iload dX8_loan_150 rfl) <|
  am_kc (ak_bipush dX8_loan_152 (by decide +kernel) rfl) <|
  am_kc (ak_iadd dX8_loan_154 rfl) <|
  am_kc (ak_iconst dX8_loan_155 (by decide +kernel) rfl) <|
  am_kc (ak_iast (t := 0) (fun _ => rfl) rfl dX8_loan_156 rfl) <|
  am_kc (ak_aload_n dX8_loan_157 rfl rfl) <|
  am_kc (ak_getR (C := RX8) (T := TX8) (N := 27) rfl inX8w (by decide) rfl rfl rfl wd_895 dX8_loan_158 rfl) <|
  am_kc (ak_iconst dX8_loan_161 (by decide +kernel) rfl) <|
  am_kc (ak_dup2 dX8_loan_162 rfl) <|
  am_kc (ak_iald (t := 0) (fun _ => rfl) rfl dX8_loan_163 rfl) <|
  am_kc (ak_iconst dX8_loan_164 (by decide +kernel) rfl) <|
  am_kc (ak_iadd dX8_loan_165 rfl) <|
  am_kc (ak_iast (t := 0) (fun _ => rfl) rfl dX8_loan_166 rfl) <|
  am_kc (ak_aload_n dX8_loan_167 rfl rfl) <|
  am_kc (ak_getR (C := RX8) (T := TX8) (N := 27) rfl inX8w (by decide) rfl rfl rfl wd_895 dX8_loan_168 rfl) <|
  am_kc (ak_iconst dX8_loan_171 (by decide +kernel) rfl) <|
  am_kc (ak_iald (t := 0) (fun _ => rfl) rfl dX8_loan_172 rfl) <|
  am_kc (ak_iconst dX8_loan_173 (by decide +kernel) rfl) <|
  am_kc (ak_isub dX8_loan_174 rfl) <|
  am_kc (ak_retI dX8_loan_175) <| am_kn
def TX8_loan : am_T := fun live as M R => match as with
  | [.ref n, .int p, .int l, .int y, .int s, .int e] => am_mn live ∧ n = 200 ∧ am_F8 M ∧ R (some (.int (-2))) M
  | _ => False
set_option maxRecDepth 100000 in
set_option maxHeartbeats 4000000 in
theorem metX8_loan : am_Met yX8_loan cX8_loan 7 (some .int) (2) (46) TX8_loan := by
  refine am_met (own := RX8) (by decide +kernel) rfl kX8_loan koX8_loan 300 (fun _ _ _ _ _ => none) (fun live as M Ret h => ?_) (fun _ _ _ _ _ _ _ _ hI => by cases hI)
  unfold TX8_loan at h
  split at h
  · next n p l y s e =>
    refine ⟨Nat.le_of_ble_eq_true rfl, ?_⟩
    change am_wp _ _ _ _ [(0, Value.ref n), (1, Value.int p), (2, Value.int l), (3, Value.int y), (4, Value.int s), (5, Value.int e)] _ _
    obtain ⟨⟨i1, i2, rfl⟩, rfl, hF, h⟩ := h
    have q0 : M.1 201 0 = 0 := hF.1 0 (by decide)
    have q1 : M.1 201 1 = 0 := hF.1 1 (by decide)
    repeat' (first | (with_reducible exact q0) | (with_reducible exact q1) | apply And.intro | exact rfl | (intro hx; exact absurd hx (by decide)) | (intro hx; exact absurd (by decide) hx) | decide | intro hx | (refine Exists.intro _ (And.intro rfl ?_)))
    all_goals try first | (with_reducible change am_tI _ _) | (change Ret _ _) | (change Ret _ _ _) | (change Exists _)
    all_goals try dsimp only at *
    all_goals try exact absurd ‹(1000 : Int64) = 0› (by decide)
    all_goals first | exact h | exact q0 | exact q1 | (left; exact ⟨i1, i2, rfl⟩) | exact ⟨i1, i2, rfl⟩
  · exact h.elim
theorem wd_1069 : Cond.methodLink "LearnLoansModel" 131 yX8_isLoan ∈ am_ws := am_wsi (List.mem_of_getElem? (i := 1069) (by decide +kernel)) (by decide +kernel)
theorem wd_1071 : Cond.instanceMethod yX8_isLoan ∈ am_ws := am_wsi (List.mem_of_getElem? (i := 1071) (by decide +kernel)) (by decide +kernel)
theorem wd_30 : Cond.selects "LearnLoansModel" yX8_isLoan yX8_isLoan ∈ am_ws := am_wsi (List.mem_of_getElem? (i := 30) (by decide +kernel)) (by decide +kernel)
theorem wd_1072 : Cond.code yX8_isLoan cX8_isLoan 2 (some .boolean) ∈ am_ws := am_wsi (List.mem_of_getElem? (i := 1072) (by decide +kernel)) (by decide +kernel)
theorem wd_1073 : Cond.methodLink "LearnLoansModel" 134 yX8_given ∈ am_ws := am_wsi (List.mem_of_getElem? (i := 1073) (by decide +kernel)) (by decide +kernel)
theorem wd_1075 : Cond.instanceMethod yX8_given ∈ am_ws := am_wsi (List.mem_of_getElem? (i := 1075) (by decide +kernel)) (by decide +kernel)
theorem wd_31 : Cond.selects "LearnLoansModel" yX8_given yX8_given ∈ am_ws := am_wsi (List.mem_of_getElem? (i := 31) (by decide +kernel)) (by decide +kernel)
theorem wd_1076 : Cond.code yX8_given cX8_given 5 (some .int) ∈ am_ws := am_wsi (List.mem_of_getElem? (i := 1076) (by decide +kernel)) (by decide +kernel)
theorem dX8_leave_0 : decode cX8_leave 0 = .ok (.aload_n 0, 1) := by decide +kernel
theorem dX8_leave_1 : decode cX8_leave 1 = .ok (.iload_n 1, 1) := by decide +kernel
theorem dX8_leave_2 : decode cX8_leave 2 = .ok (.invokevirtual 131, 3) := by decide +kernel
theorem dX8_leave_5 : decode cX8_leave 5 = .ok (.ifCond .eq 47, 3) := by decide +kernel
theorem dX8_leave_8 : decode cX8_leave 8 = .ok (.iload_n 2, 1) := by decide +kernel
theorem dX8_leave_9 : decode cX8_leave 9 = .ok (.invokestatic 72, 3) := by decide +kernel
theorem dX8_leave_12 : decode cX8_leave 12 = .ok (.ifCond .eq 40, 3) := by decide +kernel
theorem dX8_leave_15 : decode cX8_leave 15 = .ok (.aload_n 0, 1) := by decide +kernel
theorem dX8_leave_16 : decode cX8_leave 16 = .ok (.getfield 7, 3) := by decide +kernel
theorem dX8_leave_19 : decode cX8_leave 19 = .ok (.sipush 2838, 3) := by decide +kernel
theorem dX8_leave_22 : decode cX8_leave 22 = .ok (.bipush 8, 2) := by decide +kernel
theorem dX8_leave_24 : decode cX8_leave 24 = .ok (.iload_n 1, 1) := by decide +kernel
theorem dX8_leave_25 : decode cX8_leave 25 = .ok (.imul, 1) := by decide +kernel
theorem dX8_leave_26 : decode cX8_leave 26 = .ok (.iadd, 1) := by decide +kernel
theorem dX8_leave_27 : decode cX8_leave 27 = .ok (.iconst 4, 1) := by decide +kernel
theorem dX8_leave_28 : decode cX8_leave 28 = .ok (.iadd, 1) := by decide +kernel
theorem dX8_leave_29 : decode cX8_leave 29 = .ok (.iaload, 1) := by decide +kernel
theorem dX8_leave_30 : decode cX8_leave 30 = .ok (.ifCond .eq 22, 3) := by decide +kernel
theorem dX8_leave_33 : decode cX8_leave 33 = .ok (.iload_n 2, 1) := by decide +kernel
theorem dX8_leave_34 : decode cX8_leave 34 = .ok (.aload_n 0, 1) := by decide +kernel
theorem dX8_leave_35 : decode cX8_leave 35 = .ok (.getfield 7, 3) := by decide +kernel
theorem dX8_leave_38 : decode cX8_leave 38 = .ok (.sipush 2838, 3) := by decide +kernel
theorem dX8_leave_41 : decode cX8_leave 41 = .ok (.bipush 8, 2) := by decide +kernel
theorem dX8_leave_43 : decode cX8_leave 43 = .ok (.iload_n 1, 1) := by decide +kernel
theorem dX8_leave_44 : decode cX8_leave 44 = .ok (.imul, 1) := by decide +kernel
theorem dX8_leave_45 : decode cX8_leave 45 = .ok (.iadd, 1) := by decide +kernel
theorem dX8_leave_46 : decode cX8_leave 46 = .ok (.iconst 2, 1) := by decide +kernel
theorem dX8_leave_47 : decode cX8_leave 47 = .ok (.iadd, 1) := by decide +kernel
theorem dX8_leave_48 : decode cX8_leave 48 = .ok (.iaload, 1) := by decide +kernel
theorem dX8_leave_49 : decode cX8_leave 49 = .ok (.if_icmp .ge 6, 3) := by decide +kernel
theorem dX8_leave_52 : decode cX8_leave 52 = .ok (.bipush (-2), 2) := by decide +kernel
theorem dX8_leave_54 : decode cX8_leave 54 = .ok (.ireturn, 1) := by decide +kernel
theorem dX8_leave_55 : decode cX8_leave 55 = .ok (.aload_n 0, 1) := by decide +kernel
theorem dX8_leave_56 : decode cX8_leave 56 = .ok (.getfield 7, 3) := by decide +kernel
theorem dX8_leave_59 : decode cX8_leave 59 = .ok (.sipush 2838, 3) := by decide +kernel
theorem dX8_leave_62 : decode cX8_leave 62 = .ok (.bipush 8, 2) := by decide +kernel
theorem dX8_leave_64 : decode cX8_leave 64 = .ok (.iload_n 1, 1) := by decide +kernel
theorem dX8_leave_65 : decode cX8_leave 65 = .ok (.imul, 1) := by decide +kernel
theorem dX8_leave_66 : decode cX8_leave 66 = .ok (.iadd, 1) := by decide +kernel
theorem dX8_leave_67 : decode cX8_leave 67 = .ok (.iconst 5, 1) := by decide +kernel
theorem dX8_leave_68 : decode cX8_leave 68 = .ok (.iadd, 1) := by decide +kernel
theorem dX8_leave_69 : decode cX8_leave 69 = .ok (.iaload, 1) := by decide +kernel
theorem dX8_leave_70 : decode cX8_leave 70 = .ok (.ifCond .lt 6, 3) := by decide +kernel
theorem dX8_leave_73 : decode cX8_leave 73 = .ok (.bipush (-3), 2) := by decide +kernel
theorem dX8_leave_75 : decode cX8_leave 75 = .ok (.ireturn, 1) := by decide +kernel
theorem dX8_leave_76 : decode cX8_leave 76 = .ok (.aload_n 0, 1) := by decide +kernel
theorem dX8_leave_77 : decode cX8_leave 77 = .ok (.getfield 7, 3) := by decide +kernel
theorem dX8_leave_80 : decode cX8_leave 80 = .ok (.sipush 2838, 3) := by decide +kernel
theorem dX8_leave_83 : decode cX8_leave 83 = .ok (.bipush 8, 2) := by decide +kernel
theorem dX8_leave_85 : decode cX8_leave 85 = .ok (.iload_n 1, 1) := by decide +kernel
theorem dX8_leave_86 : decode cX8_leave 86 = .ok (.imul, 1) := by decide +kernel
theorem dX8_leave_87 : decode cX8_leave 87 = .ok (.iadd, 1) := by decide +kernel
theorem dX8_leave_88 : decode cX8_leave 88 = .ok (.iconst 5, 1) := by decide +kernel
theorem dX8_leave_89 : decode cX8_leave 89 = .ok (.iadd, 1) := by decide +kernel
theorem dX8_leave_90 : decode cX8_leave 90 = .ok (.iload_n 2, 1) := by decide +kernel
theorem dX8_leave_91 : decode cX8_leave 91 = .ok (.iastore, 1) := by decide +kernel
theorem dX8_leave_92 : decode cX8_leave 92 = .ok (.aload_n 0, 1) := by decide +kernel
theorem dX8_leave_93 : decode cX8_leave 93 = .ok (.iload_n 1, 1) := by decide +kernel
theorem dX8_leave_94 : decode cX8_leave 94 = .ok (.iload_n 2, 1) := by decide +kernel
theorem dX8_leave_95 : decode cX8_leave 95 = .ok (.invokevirtual 134, 3) := by decide +kernel
theorem dX8_leave_98 : decode cX8_leave 98 = .ok (.ireturn, 1) := by decide +kernel
def kX8_leave (live : am_E) (Ret : am_R) : am_code := [(0, am_aload 0 1), (1, am_iload 1 2), (2, am_callV live 8 1 TX8_isLoan 5), (5, am_if1 (fun x => x = 0) 52 8), (8, am_iload 2 9), (9, am_callS live 1 TX8_isYear 12), (12, am_if1 (fun x => x = 0) 52 15), (15, am_aload 0 16), (16, am_getR live 8 0 19), (19, am_const (.int 2838) 22), (22, am_const (.int 8) 24), (24, am_iload 1 25), (25, am_i2 (fun x y => x * y) 26), (26, am_i2 (fun x y => x + y) 27), (27, am_const (.int 4) 28), (28, am_i2 (fun x y => x + y) 29), (29, am_ald live 0 30), (30, am_if1 (fun x => x = 0) 52 33), (33, am_iload 2 34), (34, am_aload 0 35), (35, am_getR live 8 0 38), (38, am_const (.int 2838) 41), (41, am_const (.int 8) 43), (43, am_iload 1 44), (44, am_i2 (fun x y => x * y) 45), (45, am_i2 (fun x y => x + y) 46), (46, am_const (.int 2) 47), (47, am_i2 (fun x y => x + y) 48), (48, am_ald live 0 49), (49, am_if2 (fun x y => y ≤ x) 55 52), (52, am_const (.int (-2)) 54), (54, am_retI Ret), (55, am_aload 0 56), (56, am_getR live 8 0 59), (59, am_const (.int 2838) 62), (62, am_const (.int 8) 64), (64, am_iload 1 65), (65, am_i2 (fun x y => x * y) 66), (66, am_i2 (fun x y => x + y) 67), (67, am_const (.int 5) 68), (68, am_i2 (fun x y => x + y) 69), (69, am_ald live 0 70), (70, am_if1 (fun x => x < 0) 76 73), (73, am_const (.int (-3)) 75), (75, am_retI Ret), (76, am_aload 0 77), (77, am_getR live 8 0 80), (80, am_const (.int 2838) 83), (83, am_const (.int 8) 85), (85, am_iload 1 86), (86, am_i2 (fun x y => x * y) 87), (87, am_i2 (fun x y => x + y) 88), (88, am_const (.int 5) 89), (89, am_i2 (fun x y => x + y) 90), (90, am_iload 2 91), (91, am_ast live 0 92), (92, am_aload 0 93), (93, am_iload 1 94), (94, am_iload 2 95), (95, am_callV live 8 2 am_TF 98), (98, am_retI Ret)]
theorem koX8_leave (live : am_E) (Ret : am_R) : ∀ q ∈ kX8_leave live Ret, am_ok RX8 cX8_leave 3 (some .int) 2 46 live Ret q.1 q.2 :=
  am_kc (ak_aload_n dX8_leave_0 rfl rfl) <|
  am_kc (ak_iload_n dX8_leave_1 rfl rfl) <|
  am_kc (ak_callV (C := RX8) (F := TX8) (N := 27) metX8_isLoan rfl ⟨rfl, by decide +kernel, by decide +kernel, by decide +kernel⟩ (am_w5 wd_1069 wd_1071 wd_30 wd_67 wd_1072) (by decide) dX8_leave_2 rfl) <|
  am_kc (ak_if_eq dX8_leave_5 (by decide +kernel) rfl) <|
  am_kc (ak_iload_n dX8_leave_8 rfl rfl) <|
  am_kc (ak_callS metX8_isYear ⟨rfl, by decide +kernel, by decide +kernel, by decide +kernel⟩ (am_w4 wd_982 wd_983 wd_67 wd_984) (by decide) dX8_leave_9 rfl) <|
  am_kc (ak_if_eq dX8_leave_12 (by decide +kernel) rfl) <|
  am_kc (ak_aload_n dX8_leave_15 rfl rfl) <|
  am_kc (ak_getR (C := RX8) (T := TX8) (N := 27) rfl inX8w (by decide) rfl rfl rfl wd_895 dX8_leave_16 rfl) <|
  am_kc (ak_sipush dX8_leave_19 (by decide +kernel) rfl) <|
  am_kc (ak_bipush dX8_leave_22 (by decide +kernel) rfl) <|
  am_kc (ak_iload_n dX8_leave_24 rfl rfl) <|
  am_kc (ak_imul dX8_leave_25 rfl) <|
  am_kc (ak_iadd dX8_leave_26 rfl) <|
  am_kc (ak_iconst dX8_leave_27 (by decide +kernel) rfl) <|
  am_kc (ak_iadd dX8_leave_28 rfl) <|
  am_kc (ak_iald (t := 0) (fun _ => rfl) rfl dX8_leave_29 rfl) <|
  am_kc (ak_if_eq dX8_leave_30 (by decide +kernel) rfl) <|
  am_kc (ak_iload_n dX8_leave_33 rfl rfl) <|
  am_kc (ak_aload_n dX8_leave_34 rfl rfl) <|
  am_kc (ak_getR (C := RX8) (T := TX8) (N := 27) rfl inX8w (by decide) rfl rfl rfl wd_895 dX8_leave_35 rfl) <|
  am_kc (ak_sipush dX8_leave_38 (by decide +kernel) rfl) <|
  am_kc (ak_bipush dX8_leave_41 (by decide +kernel) rfl) <|
  am_kc (ak_iload_n dX8_leave_43 rfl rfl) <|
  am_kc (ak_imul dX8_leave_44 rfl) <|
  am_kc (ak_iadd dX8_leave_45 rfl) <|
  am_kc (ak_iconst dX8_leave_46 (by decide +kernel) rfl) <|
  am_kc (ak_iadd dX8_leave_47 rfl) <|
  am_kc (ak_iald (t := 0) (fun _ => rfl) rfl dX8_leave_48 rfl) <|
  am_kc (ak_icmp_ge dX8_leave_49 (by decide +kernel) rfl) <|
  am_kc (ak_bipush dX8_leave_52 (by decide +kernel) rfl) <|
  am_kc (ak_retI dX8_leave_54) <|
  am_kc (ak_aload_n dX8_leave_55 rfl rfl) <|
  am_kc (ak_getR (C := RX8) (T := TX8) (N := 27) rfl inX8w (by decide) rfl rfl rfl wd_895 dX8_leave_56 rfl) <|
  am_kc (ak_sipush dX8_leave_59 (by decide +kernel) rfl) <|
  am_kc (ak_bipush dX8_leave_62 (by decide +kernel) rfl) <|
  am_kc (ak_iload_n dX8_leave_64 rfl rfl) <|
  am_kc (ak_imul dX8_leave_65 rfl) <|
  am_kc (ak_iadd dX8_leave_66 rfl) <|
  am_kc (ak_iconst dX8_leave_67 (by decide +kernel) rfl) <|
  am_kc (ak_iadd dX8_leave_68 rfl) <|
  am_kc (ak_iald (t := 0) (fun _ => rfl) rfl dX8_leave_69 rfl) <|
  am_kc (ak_if_lt dX8_leave_70 (by decide +kernel) rfl) <|
  am_kc (ak_bipush dX8_leave_73 (by decide +kernel) rfl) <|
  am_kc (ak_retI dX8_leave_75) <|
  am_kc (ak_aload_n dX8_leave_76 rfl rfl) <|
  am_kc (ak_getR (C := RX8) (T := TX8) (N := 27) rfl inX8w (by decide) rfl rfl rfl wd_895 dX8_leave_77 rfl) <|
  am_kc (ak_sipush dX8_leave_80 (by decide +kernel) rfl) <|
  am_kc (ak_bipush dX8_leave_83 (by decide +kernel) rfl) <|
  am_kc (ak_iload_n dX8_leave_85 rfl rfl) <|
  am_kc (ak_imul dX8_leave_86 rfl) <|
  am_kc (ak_iadd dX8_leave_87 rfl) <|
  am_kc (ak_iconst dX8_leave_88 (by decide +kernel) rfl) <|
  am_kc (ak_iadd dX8_leave_89 rfl) <|
  am_kc (ak_iload_n dX8_leave_90 rfl rfl) <|
  am_kc (ak_iast (t := 0) (fun _ => rfl) rfl dX8_leave_91 rfl) <|
  am_kc (ak_aload_n dX8_leave_92 rfl rfl) <|
  am_kc (ak_iload_n dX8_leave_93 rfl rfl) <|
  am_kc (ak_iload_n dX8_leave_94 rfl rfl) <|
  am_kc (ak_callV (C := RX8) (F := TX8) (N := 27) (am_metF _ _ _ _) rfl ⟨rfl, by decide +kernel, by decide +kernel, by decide +kernel⟩ (am_w5 wd_1073 wd_1075 wd_31 wd_67 wd_1076) (by decide) dX8_leave_95 rfl) <|
  am_kc (ak_retI dX8_leave_98) <| am_kn
def TX8_leave : am_T := fun live as M R => match as with
  | [.ref n, .int l, .int y] => am_mn live ∧ n = 200 ∧ am_F8 M ∧ R (some (.int (-2))) M
  | _ => False
set_option maxRecDepth 100000 in
set_option maxHeartbeats 4000000 in
theorem metX8_leave : am_Met yX8_leave cX8_leave 3 (some .int) (2) (46) TX8_leave := by
  refine am_met (own := RX8) (by decide +kernel) rfl kX8_leave koX8_leave 300 (fun _ _ _ _ _ => none) (fun live as M Ret h => ?_) (fun _ _ _ _ _ _ _ _ hI => by cases hI)
  unfold TX8_leave at h
  split at h
  · next n l y =>
    refine ⟨Nat.le_of_ble_eq_true rfl, ?_⟩
    change am_wp _ _ _ _ [(0, Value.ref n), (1, Value.int l), (2, Value.int y)] _ _
    obtain ⟨⟨i1, i2, rfl⟩, rfl, hF, h⟩ := h
    have q0 : M.1 201 0 = 0 := hF.1 0 (by decide)
    have q1 : M.1 201 1 = 0 := hF.1 1 (by decide)
    repeat' (first | (with_reducible exact q0) | (with_reducible exact q1) | apply And.intro | exact rfl | (intro hx; exact absurd hx (by decide)) | (intro hx; exact absurd (by decide) hx) | decide | intro hx | (refine Exists.intro _ (And.intro rfl ?_)))
    all_goals try first | (with_reducible change am_tI _ _) | (change Ret _ _) | (change Ret _ _ _) | (change Exists _)
    all_goals try dsimp only at *
    all_goals try exact absurd ‹(1000 : Int64) = 0› (by decide)
    all_goals first | exact h | exact q0 | exact q1 | (left; exact ⟨i1, i2, rfl⟩) | exact ⟨i1, i2, rfl⟩
  · exact h.elim
theorem dX8_move_0 : decode cX8_move 0 = .ok (.aload_n 0, 1) := by decide +kernel
theorem dX8_move_1 : decode cX8_move 1 = .ok (.iload_n 1, 1) := by decide +kernel
theorem dX8_move_2 : decode cX8_move 2 = .ok (.invokevirtual 131, 3) := by decide +kernel
theorem dX8_move_5 : decode cX8_move 5 = .ok (.ifCond .eq 17, 3) := by decide +kernel
theorem dX8_move_8 : decode cX8_move 8 = .ok (.iload_n 2, 1) := by decide +kernel
theorem dX8_move_9 : decode cX8_move 9 = .ok (.invokestatic 104, 3) := by decide +kernel
theorem dX8_move_12 : decode cX8_move 12 = .ok (.ifCond .eq 10, 3) := by decide +kernel
theorem dX8_move_15 : decode cX8_move 15 = .ok (.iload_n 3, 1) := by decide +kernel
theorem dX8_move_16 : decode cX8_move 16 = .ok (.invokestatic 72, 3) := by decide +kernel
theorem dX8_move_19 : decode cX8_move 19 = .ok (.ifCond .ne 6, 3) := by decide +kernel
theorem dX8_move_22 : decode cX8_move 22 = .ok (.bipush (-2), 2) := by decide +kernel
theorem dX8_move_24 : decode cX8_move 24 = .ok (.ireturn, 1) := by decide +kernel
theorem dX8_move_25 : decode cX8_move 25 = .ok (.aload_n 0, 1) := by decide +kernel
theorem dX8_move_26 : decode cX8_move 26 = .ok (.getfield 7, 3) := by decide +kernel
theorem dX8_move_29 : decode cX8_move 29 = .ok (.iconst 3, 1) := by decide +kernel
theorem dX8_move_30 : decode cX8_move 30 = .ok (.iaload, 1) := by decide +kernel
theorem dX8_move_31 : decode cX8_move 31 = .ok (.bipush 60, 2) := by decide +kernel
theorem dX8_move_33 : decode cX8_move 33 = .ok (.if_icmp .ne 6, 3) := by decide +kernel
theorem dX8_move_36 : decode cX8_move 36 = .ok (.bipush (-4), 2) := by decide +kernel
theorem dX8_move_38 : decode cX8_move 38 = .ok (.ireturn, 1) := by decide +kernel
theorem dX8_move_39 : decode cX8_move 39 = .ok (.sipush 3078, 3) := by decide +kernel
theorem dX8_move_42 : decode cX8_move 42 = .ok (.iconst 3, 1) := by decide +kernel
theorem dX8_move_43 : decode cX8_move 43 = .ok (.aload_n 0, 1) := by decide +kernel
theorem dX8_move_44 : decode cX8_move 44 = .ok (.getfield 7, 3) := by decide +kernel
theorem dX8_move_47 : decode cX8_move 47 = .ok (.iconst 3, 1) := by decide +kernel
theorem dX8_move_48 : decode cX8_move 48 = .ok (.iaload, 1) := by decide +kernel
theorem dX8_move_49 : decode cX8_move 49 = .ok (.imul, 1) := by decide +kernel
theorem dX8_move_50 : decode cX8_move 50 = .ok (.iadd, 1) := by decide +kernel
theorem dX8_move_51 : decode cX8_move 51 = .ok (.istore 4, 2) := by decide +kernel
theorem dX8_move_53 : decode cX8_move 53 = .ok (.aload_n 0, 1) := by decide +kernel
theorem dX8_move_54 : decode cX8_move 54 = .ok (.getfield 7, 3) := by decide +kernel
theorem dX8_move_57 : decode cX8_move 57 = .ok (.iload 4, 2) := by decide +kernel
theorem dX8_move_59 : decode cX8_move 59 = .ok (.iload_n 1, 1) := by decide +kernel
theorem dX8_move_60 : decode cX8_move 60 = .ok (.iastore, 1) := by decide +kernel
theorem dX8_move_61 : decode cX8_move 61 = .ok (.aload_n 0, 1) := by decide +kernel
theorem dX8_move_62 : decode cX8_move 62 = .ok (.getfield 7, 3) := by decide +kernel
theorem dX8_move_65 : decode cX8_move 65 = .ok (.iload 4, 2) := by decide +kernel
theorem dX8_move_67 : decode cX8_move 67 = .ok (.iconst 1, 1) := by decide +kernel
theorem dX8_move_68 : decode cX8_move 68 = .ok (.iadd, 1) := by decide +kernel
theorem dX8_move_69 : decode cX8_move 69 = .ok (.iload_n 2, 1) := by decide +kernel
theorem dX8_move_70 : decode cX8_move 70 = .ok (.iastore, 1) := by decide +kernel
theorem dX8_move_71 : decode cX8_move 71 = .ok (.aload_n 0, 1) := by decide +kernel
theorem dX8_move_72 : decode cX8_move 72 = .ok (.getfield 7, 3) := by decide +kernel
theorem dX8_move_75 : decode cX8_move 75 = .ok (.iload 4, 2) := by decide +kernel
theorem dX8_move_77 : decode cX8_move 77 = .ok (.iconst 2, 1) := by decide +kernel
theorem dX8_move_78 : decode cX8_move 78 = .ok (.iadd, 1) := by decide +kernel
theorem dX8_move_79 : decode cX8_move 79 = .ok (.iload_n 3, 1) := by decide +kernel
theorem dX8_move_80 : decode cX8_move 80 = .ok (.iastore, 1) := by decide +kernel
theorem dX8_move_81 : decode cX8_move 81 = .ok (.aload_n 0, 1) := by decide +kernel
theorem dX8_move_82 : decode cX8_move 82 = .ok (.getfield 7, 3) := by decide +kernel
theorem dX8_move_85 : decode cX8_move 85 = .ok (.iconst 3, 1) := by decide +kernel
theorem dX8_move_86 : decode cX8_move 86 = .ok (.dup2, 1) := by decide +kernel
theorem dX8_move_87 : decode cX8_move 87 = .ok (.iaload, 1) := by decide +kernel
theorem dX8_move_88 : decode cX8_move 88 = .ok (.iconst 1, 1) := by decide +kernel
theorem dX8_move_89 : decode cX8_move 89 = .ok (.iadd, 1) := by decide +kernel
theorem dX8_move_90 : decode cX8_move 90 = .ok (.iastore, 1) := by decide +kernel
theorem dX8_move_91 : decode cX8_move 91 = .ok (.iconst 1, 1) := by decide +kernel
theorem dX8_move_92 : decode cX8_move 92 = .ok (.ireturn, 1) := by decide +kernel
def kX8_move (live : am_E) (Ret : am_R) : am_code := [(0, am_aload 0 1), (1, am_iload 1 2), (2, am_callV live 8 1 TX8_isLoan 5), (5, am_if1 (fun x => x = 0) 22 8), (8, am_iload 2 9), (9, am_callS live 1 TX8_isPlan 12), (12, am_if1 (fun x => x = 0) 22 15), (15, am_iload 3 16), (16, am_callS live 1 TX8_isYear 19), (19, am_if1 (fun x => x = 0) 22 25), (22, am_const (.int (-2)) 24), (24, am_retI Ret), (25, am_aload 0 26), (26, am_getR live 8 0 29), (29, am_const (.int 3) 30), (30, am_ald live 0 31), (31, am_const (.int 60) 33), (33, am_if2 (fun x y => x = y) 36 39), (36, am_const (.int (-4)) 38), (38, am_retI Ret), (39, am_const (.int 3078) 42), (42, am_const (.int 3) 43), (43, am_aload 0 44), (44, am_getR live 8 0 47), (47, am_const (.int 3) 48), (48, am_ald live 0 49), (49, am_i2 (fun x y => x * y) 50), (50, am_i2 (fun x y => x + y) 51), (51, am_istore 4 5 53), (53, am_aload 0 54), (54, am_getR live 8 0 57), (57, am_iload 4 59), (59, am_iload 1 60), (60, am_ast live 0 61), (61, am_aload 0 62), (62, am_getR live 8 0 65), (65, am_iload 4 67), (67, am_const (.int 1) 68), (68, am_i2 (fun x y => x + y) 69), (69, am_iload 2 70), (70, am_ast live 0 71), (71, am_aload 0 72), (72, am_getR live 8 0 75), (75, am_iload 4 77), (77, am_const (.int 2) 78), (78, am_i2 (fun x y => x + y) 79), (79, am_iload 3 80), (80, am_ast live 0 81), (81, am_aload 0 82), (82, am_getR live 8 0 85), (85, am_const (.int 3) 86), (86, am_dup2 87), (87, am_ald live 0 88), (88, am_const (.int 1) 89), (89, am_i2 (fun x y => x + y) 90), (90, am_ast live 0 91), (91, am_const (.int 1) 92), (92, am_retI Ret)]
theorem koX8_move (live : am_E) (Ret : am_R) : ∀ q ∈ kX8_move live Ret, am_ok RX8 cX8_move 5 (some .int) 2 46 live Ret q.1 q.2 :=
  am_kc (ak_aload_n dX8_move_0 rfl rfl) <|
  am_kc (ak_iload_n dX8_move_1 rfl rfl) <|
  am_kc (ak_callV (C := RX8) (F := TX8) (N := 27) metX8_isLoan rfl ⟨rfl, by decide +kernel, by decide +kernel, by decide +kernel⟩ (am_w5 wd_1069 wd_1071 wd_30 wd_67 wd_1072) (by decide) dX8_move_2 rfl) <|
  am_kc (ak_if_eq dX8_move_5 (by decide +kernel) rfl) <|
  am_kc (ak_iload_n dX8_move_8 rfl rfl) <|
  am_kc (ak_callS metX8_isPlan ⟨rfl, by decide +kernel, by decide +kernel, by decide +kernel⟩ (am_w4 wd_1034 wd_1035 wd_67 wd_1036) (by decide) dX8_move_9 rfl) <|
  am_kc (ak_if_eq dX8_move_12 (by decide +kernel) rfl) <|
  am_kc (ak_iload_n dX8_move_15 rfl rfl) <|
  am_kc (ak_callS metX8_isYear ⟨rfl, by decide +kernel, by decide +kernel, by decide +kernel⟩ (am_w4 wd_982 wd_983 wd_67 wd_984) (by decide) dX8_move_16 rfl) <|
  am_kc (ak_if_ne dX8_move_19 (by decide +kernel) rfl) <|
  am_kc (ak_bipush dX8_move_22 (by decide +kernel) rfl) <|
  am_kc (ak_retI dX8_move_24) <|
  am_kc (ak_aload_n dX8_move_25 rfl rfl) <|
  am_kc (ak_getR (C := RX8) (T := TX8) (N := 27) rfl inX8w (by decide) rfl rfl rfl wd_895 dX8_move_26 rfl) <|
  am_kc (ak_iconst dX8_move_29 (by decide +kernel) rfl) <|
  am_kc (ak_iald (t := 0) (fun _ => rfl) rfl dX8_move_30 rfl) <|
  am_kc (ak_bipush dX8_move_31 (by decide +kernel) rfl) <|
  am_kc (ak_icmp_ne dX8_move_33 (by decide +kernel) rfl) <|
  am_kc (ak_bipush dX8_move_36 (by decide +kernel) rfl) <|
  am_kc (ak_retI dX8_move_38) <|
  am_kc (ak_sipush dX8_move_39 (by decide +kernel) rfl) <|
  am_kc (ak_iconst dX8_move_42 (by decide +kernel) rfl) <|
  am_kc (ak_aload_n dX8_move_43 rfl rfl) <|
  am_kc (ak_getR (C := RX8) (T := TX8) (N := 27) rfl inX8w (by decide) rfl rfl rfl wd_895 dX8_move_44 rfl) <|
  am_kc (ak_iconst dX8_move_47 (by decide +kernel) rfl) <|
  am_kc (ak_iald (t := 0) (fun _ => rfl) rfl dX8_move_48 rfl) <|
  am_kc (ak_imul dX8_move_49 rfl) <|
  am_kc (ak_iadd dX8_move_50 rfl) <|
  am_kc (ak_istore dX8_move_51 rfl) <|
  am_kc (ak_aload_n dX8_move_53 rfl rfl) <|
  am_kc (ak_getR (C := RX8) (T := TX8) (N := 27) rfl inX8w (by decide) rfl rfl rfl wd_895 dX8_move_54 rfl) <|
  am_kc (ak_iload dX8_move_57 rfl) <|
  am_kc (ak_iload_n dX8_move_59 rfl rfl) <|
  am_kc (ak_iast (t := 0) (fun _ => rfl) rfl dX8_move_60 rfl) <|
  am_kc (ak_aload_n dX8_move_61 rfl rfl) <|
  am_kc (ak_getR (C := RX8) (T := TX8) (N := 27) rfl inX8w (by decide) rfl rfl rfl wd_895 dX8_move_62 rfl) <|
  am_kc (ak_iload dX8_move_65 rfl) <|
  am_kc (ak_iconst dX8_move_67 (by decide +kernel) rfl) <|
  am_kc (ak_iadd dX8_move_68 rfl) <|
  am_kc (ak_iload_n dX8_move_69 rfl rfl) <|
  am_kc (ak_iast (t := 0) (fun _ => rfl) rfl dX8_move_70 rfl) <|
  am_kc (ak_aload_n dX8_move_71 rfl rfl) <|
  am_kc (ak_getR (C := RX8) (T := TX8) (N := 27) rfl inX8w (by decide) rfl rfl rfl wd_895 dX8_move_72 rfl) <|
  am_kc (ak_iload dX8_move_75 rfl) <|
  am_kc (ak_iconst dX8_move_77 (by decide +kernel) rfl) <|
  am_kc (ak_iadd dX8_move_78 rfl) <|
  am_kc (ak_iload_n dX8_move_79 rfl rfl) <|
  am_kc (ak_iast (t := 0) (fun _ => rfl) rfl dX8_move_80 rfl) <|
  am_kc (ak_aload_n dX8_move_81 rfl rfl) <|
  am_kc (ak_getR (C := RX8) (T := TX8) (N := 27) rfl inX8w (by decide) rfl rfl rfl wd_895 dX8_move_82 rfl) <|
  am_kc (ak_iconst dX8_move_85 (by decide +kernel) rfl) <|
  am_kc (ak_dup2 dX8_move_86 rfl) <|
  am_kc (ak_iald (t := 0) (fun _ => rfl) rfl dX8_move_87 rfl) <|
  am_kc (ak_iconst dX8_move_88 (by decide +kernel) rfl) <|
  am_kc (ak_iadd dX8_move_89 rfl) <|
  am_kc (ak_iast (t := 0) (fun _ => rfl) rfl dX8_move_90 rfl) <|
  am_kc (ak_iconst dX8_move_91 (by decide +kernel) rfl) <|
  am_kc (ak_retI dX8_move_92) <| am_kn
def TX8_move : am_T := fun live as M R => match as with
  | [.ref n, .int l, .int p, .int y] => am_mn live ∧ n = 200 ∧ am_F8 M ∧ R (some (.int (-2))) M
  | _ => False
set_option maxRecDepth 100000 in
set_option maxHeartbeats 4000000 in
theorem metX8_move : am_Met yX8_move cX8_move 5 (some .int) (2) (46) TX8_move := by
  refine am_met (own := RX8) (by decide +kernel) rfl kX8_move koX8_move 300 (fun _ _ _ _ _ => none) (fun live as M Ret h => ?_) (fun _ _ _ _ _ _ _ _ hI => by cases hI)
  unfold TX8_move at h
  split at h
  · next n l p y =>
    refine ⟨Nat.le_of_ble_eq_true rfl, ?_⟩
    change am_wp _ _ _ _ [(0, Value.ref n), (1, Value.int l), (2, Value.int p), (3, Value.int y)] _ _
    obtain ⟨⟨i1, i2, rfl⟩, rfl, hF, h⟩ := h
    have q0 : M.1 201 0 = 0 := hF.1 0 (by decide)
    have q1 : M.1 201 1 = 0 := hF.1 1 (by decide)
    repeat' (first | (with_reducible exact q0) | (with_reducible exact q1) | apply And.intro | exact rfl | (intro hx; exact absurd hx (by decide)) | (intro hx; exact absurd (by decide) hx) | decide | intro hx | (refine Exists.intro _ (And.intro rfl ?_)))
    all_goals try first | (with_reducible change am_tI _ _) | (change Ret _ _) | (change Ret _ _ _) | (change Exists _)
    all_goals try dsimp only at *
    all_goals try exact absurd ‹(1000 : Int64) = 0› (by decide)
    all_goals first | exact h | exact q0 | exact q1 | (left; exact ⟨i1, i2, rfl⟩) | exact ⟨i1, i2, rfl⟩
  · exact h.elim
theorem wd_1085 : Cond.methodLink "LearnLoansModel" 141 yX8_planAt ∈ am_ws := am_wsi (List.mem_of_getElem? (i := 1085) (by decide +kernel)) (by decide +kernel)
theorem wd_1087 : Cond.instanceMethod yX8_planAt ∈ am_ws := am_wsi (List.mem_of_getElem? (i := 1087) (by decide +kernel)) (by decide +kernel)
theorem wd_32 : Cond.selects "LearnLoansModel" yX8_planAt yX8_planAt ∈ am_ws := am_wsi (List.mem_of_getElem? (i := 32) (by decide +kernel)) (by decide +kernel)
theorem wd_1088 : Cond.code yX8_planAt cX8_planAt 5 (some .int) ∈ am_ws := am_wsi (List.mem_of_getElem? (i := 1088) (by decide +kernel)) (by decide +kernel)
theorem dX8_planOf_0 : decode cX8_planOf 0 = .ok (.aload_n 0, 1) := by decide +kernel
theorem dX8_planOf_1 : decode cX8_planOf 1 = .ok (.iload_n 1, 1) := by decide +kernel
theorem dX8_planOf_2 : decode cX8_planOf 2 = .ok (.invokevirtual 131, 3) := by decide +kernel
theorem dX8_planOf_5 : decode cX8_planOf 5 = .ok (.ifCond .eq 19, 3) := by decide +kernel
theorem dX8_planOf_8 : decode cX8_planOf 8 = .ok (.iload_n 2, 1) := by decide +kernel
theorem dX8_planOf_9 : decode cX8_planOf 9 = .ok (.invokestatic 72, 3) := by decide +kernel
theorem dX8_planOf_12 : decode cX8_planOf 12 = .ok (.ifCond .eq 12, 3) := by decide +kernel
theorem dX8_planOf_15 : decode cX8_planOf 15 = .ok (.aload_n 0, 1) := by decide +kernel
theorem dX8_planOf_16 : decode cX8_planOf 16 = .ok (.iload_n 1, 1) := by decide +kernel
theorem dX8_planOf_17 : decode cX8_planOf 17 = .ok (.iload_n 2, 1) := by decide +kernel
theorem dX8_planOf_18 : decode cX8_planOf 18 = .ok (.invokevirtual 141, 3) := by decide +kernel
theorem dX8_planOf_21 : decode cX8_planOf 21 = .ok (.goto 5, 3) := by decide +kernel
theorem dX8_planOf_24 : decode cX8_planOf 24 = .ok (.bipush (-2), 2) := by decide +kernel
theorem dX8_planOf_26 : decode cX8_planOf 26 = .ok (.ireturn, 1) := by decide +kernel
def kX8_planOf (live : am_E) (Ret : am_R) : am_code := [(0, am_aload 0 1), (1, am_iload 1 2), (2, am_callV live 8 1 TX8_isLoan 5), (5, am_if1 (fun x => x = 0) 24 8), (8, am_iload 2 9), (9, am_callS live 1 TX8_isYear 12), (12, am_if1 (fun x => x = 0) 24 15), (15, am_aload 0 16), (16, am_iload 1 17), (17, am_iload 2 18), (18, am_callV live 8 2 am_TF 21), (21, am_goto 26), (24, am_const (.int (-2)) 26), (26, am_retI Ret)]
theorem koX8_planOf (live : am_E) (Ret : am_R) : ∀ q ∈ kX8_planOf live Ret, am_ok RX8 cX8_planOf 3 (some .int) 2 46 live Ret q.1 q.2 :=
  am_kc (ak_aload_n dX8_planOf_0 rfl rfl) <|
  am_kc (ak_iload_n dX8_planOf_1 rfl rfl) <|
  am_kc (ak_callV (C := RX8) (F := TX8) (N := 27) metX8_isLoan rfl ⟨rfl, by decide +kernel, by decide +kernel, by decide +kernel⟩ (am_w5 wd_1069 wd_1071 wd_30 wd_67 wd_1072) (by decide) dX8_planOf_2 rfl) <|
  am_kc (ak_if_eq dX8_planOf_5 (by decide +kernel) rfl) <|
  am_kc (ak_iload_n dX8_planOf_8 rfl rfl) <|
  am_kc (ak_callS metX8_isYear ⟨rfl, by decide +kernel, by decide +kernel, by decide +kernel⟩ (am_w4 wd_982 wd_983 wd_67 wd_984) (by decide) dX8_planOf_9 rfl) <|
  am_kc (ak_if_eq dX8_planOf_12 (by decide +kernel) rfl) <|
  am_kc (ak_aload_n dX8_planOf_15 rfl rfl) <|
  am_kc (ak_iload_n dX8_planOf_16 rfl rfl) <|
  am_kc (ak_iload_n dX8_planOf_17 rfl rfl) <|
  am_kc (ak_callV (C := RX8) (F := TX8) (N := 27) (am_metF _ _ _ _) rfl ⟨rfl, by decide +kernel, by decide +kernel, by decide +kernel⟩ (am_w5 wd_1085 wd_1087 wd_32 wd_67 wd_1088) (by decide) dX8_planOf_18 rfl) <|
  am_kc (ak_goto dX8_planOf_21 (by decide +kernel)) <|
  am_kc (ak_bipush dX8_planOf_24 (by decide +kernel) rfl) <|
  am_kc (ak_retI dX8_planOf_26) <| am_kn
def TX8_planOf : am_T := fun live as M R => match as with
  | [.ref n, .int l, .int y] => am_mn live ∧ n = 200 ∧ am_F8 M ∧ R (some (.int (-2))) M
  | _ => False
set_option maxRecDepth 100000 in
set_option maxHeartbeats 4000000 in
theorem metX8_planOf : am_Met yX8_planOf cX8_planOf 3 (some .int) (2) (46) TX8_planOf := by
  refine am_met (own := RX8) (by decide +kernel) rfl kX8_planOf koX8_planOf 300 (fun _ _ _ _ _ => none) (fun live as M Ret h => ?_) (fun _ _ _ _ _ _ _ _ hI => by cases hI)
  unfold TX8_planOf at h
  split at h
  · next n l y =>
    refine ⟨Nat.le_of_ble_eq_true rfl, ?_⟩
    change am_wp _ _ _ _ [(0, Value.ref n), (1, Value.int l), (2, Value.int y)] _ _
    obtain ⟨⟨i1, i2, rfl⟩, rfl, hF, h⟩ := h
    have q0 : M.1 201 0 = 0 := hF.1 0 (by decide)
    have q1 : M.1 201 1 = 0 := hF.1 1 (by decide)
    repeat' (first | (with_reducible exact q0) | (with_reducible exact q1) | apply And.intro | exact rfl | (intro hx; exact absurd hx (by decide)) | (intro hx; exact absurd (by decide) hx) | decide | intro hx | (refine Exists.intro _ (And.intro rfl ?_)))
    all_goals try first | (with_reducible change am_tI _ _) | (change Ret _ _) | (change Ret _ _ _) | (change Exists _)
    all_goals try dsimp only at *
    all_goals try exact absurd ‹(1000 : Int64) = 0› (by decide)
    all_goals first | exact h | exact q0 | exact q1 | (left; exact ⟨i1, i2, rfl⟩) | exact ⟨i1, i2, rfl⟩
  · exact h.elim
theorem wd_1153 : Cond.constantLong "LearnLoansModel" 237 (-2) ∈ am_ws := am_wsi (List.mem_of_getElem? (i := 1153) (by decide +kernel)) (by decide +kernel)
theorem wd_1154 : Cond.methodLink "LearnLoansModel" 202 yX8_ofLoan ∈ am_ws := am_wsi (List.mem_of_getElem? (i := 1154) (by decide +kernel)) (by decide +kernel)
theorem wd_1156 : Cond.instanceMethod yX8_ofLoan ∈ am_ws := am_wsi (List.mem_of_getElem? (i := 1156) (by decide +kernel)) (by decide +kernel)
theorem wd_41 : Cond.selects "LearnLoansModel" yX8_ofLoan yX8_ofLoan ∈ am_ws := am_wsi (List.mem_of_getElem? (i := 41) (by decide +kernel)) (by decide +kernel)
theorem wd_1157 : Cond.code yX8_ofLoan cX8_ofLoan 3 (some .int) ∈ am_ws := am_wsi (List.mem_of_getElem? (i := 1157) (by decide +kernel)) (by decide +kernel)
theorem wd_1158 : Cond.methodLink "LearnLoansModel" 239 yX8_run ∈ am_ws := am_wsi (List.mem_of_getElem? (i := 1158) (by decide +kernel)) (by decide +kernel)
theorem wd_1160 : Cond.instanceMethod yX8_run ∈ am_ws := am_wsi (List.mem_of_getElem? (i := 1160) (by decide +kernel)) (by decide +kernel)
theorem wd_42 : Cond.selects "LearnLoansModel" yX8_run yX8_run ∈ am_ws := am_wsi (List.mem_of_getElem? (i := 42) (by decide +kernel)) (by decide +kernel)
theorem wd_1161 : Cond.code yX8_run cX8_run 6 none ∈ am_ws := am_wsi (List.mem_of_getElem? (i := 1161) (by decide +kernel)) (by decide +kernel)
theorem wd_1187 : Cond.methodLink "LearnLoansModel" 233 yX8_runOf ∈ am_ws := am_wsi (List.mem_of_getElem? (i := 1187) (by decide +kernel)) (by decide +kernel)
theorem wd_1189 : Cond.instanceMethod yX8_runOf ∈ am_ws := am_wsi (List.mem_of_getElem? (i := 1189) (by decide +kernel)) (by decide +kernel)
theorem wd_49 : Cond.selects "LearnLoansModel" yX8_runOf yX8_runOf ∈ am_ws := am_wsi (List.mem_of_getElem? (i := 49) (by decide +kernel)) (by decide +kernel)
theorem wd_1190 : Cond.code yX8_runOf cX8_runOf 3 (some .long) ∈ am_ws := am_wsi (List.mem_of_getElem? (i := 1190) (by decide +kernel)) (by decide +kernel)
theorem dX8_owes_0 : decode cX8_owes 0 = .ok (.aload_n 0, 1) := by decide +kernel
theorem dX8_owes_1 : decode cX8_owes 1 = .ok (.iload_n 1, 1) := by decide +kernel
theorem dX8_owes_2 : decode cX8_owes 2 = .ok (.invokevirtual 131, 3) := by decide +kernel
theorem dX8_owes_5 : decode cX8_owes 5 = .ok (.ifCond .eq 30, 3) := by decide +kernel
theorem dX8_owes_8 : decode cX8_owes 8 = .ok (.iload_n 2, 1) := by decide +kernel
theorem dX8_owes_9 : decode cX8_owes 9 = .ok (.invokestatic 72, 3) := by decide +kernel
theorem dX8_owes_12 : decode cX8_owes 12 = .ok (.ifCond .eq 23, 3) := by decide +kernel
theorem dX8_owes_15 : decode cX8_owes 15 = .ok (.iload_n 3, 1) := by decide +kernel
theorem dX8_owes_16 : decode cX8_owes 16 = .ok (.invokestatic 72, 3) := by decide +kernel
theorem dX8_owes_19 : decode cX8_owes 19 = .ok (.ifCond .eq 16, 3) := by decide +kernel
theorem dX8_owes_22 : decode cX8_owes 22 = .ok (.iload 4, 2) := by decide +kernel
theorem dX8_owes_24 : decode cX8_owes 24 = .ok (.i2l, 1) := by decide +kernel
theorem dX8_owes_25 : decode cX8_owes 25 = .ok (.lconst 0, 1) := by decide +kernel
theorem dX8_owes_26 : decode cX8_owes 26 = .ok (.ldc2_w 70, 3) := by decide +kernel
theorem dX8_owes_29 : decode cX8_owes 29 = .ok (.invokestatic 66, 3) := by decide +kernel
theorem dX8_owes_32 : decode cX8_owes 32 = .ok (.ifCond .ne 7, 3) := by decide +kernel
theorem dX8_owes_35 : decode cX8_owes 35 = .ok (.ldc2_w 237, 3) := by decide +kernel
theorem dX8_owes_38 : decode cX8_owes 38 = .ok (.lreturn, 1) := by decide +kernel
theorem dX8_owes_39 : decode cX8_owes 39 = .ok (.aload_n 0, 1) := by decide +kernel
theorem dX8_owes_40 : decode cX8_owes 40 = .ok (.aload_n 0, 1) := by decide +kernel
theorem dX8_owes_41 : decode cX8_owes 41 = .ok (.iload_n 1, 1) := by decide +kernel
theorem dX8_owes_42 : decode cX8_owes 42 = .ok (.iconst 0, 1) := by decide +kernel
theorem dX8_owes_43 : decode cX8_owes 43 = .ok (.invokevirtual 202, 3) := by decide +kernel
theorem dX8_owes_46 : decode cX8_owes 46 = .ok (.iload_n 2, 1) := by decide +kernel
theorem dX8_owes_47 : decode cX8_owes 47 = .ok (.iload_n 3, 1) := by decide +kernel
theorem dX8_owes_48 : decode cX8_owes 48 = .ok (.invokevirtual 239, 3) := by decide +kernel
theorem dX8_owes_51 : decode cX8_owes 51 = .ok (.aload_n 0, 1) := by decide +kernel
theorem dX8_owes_52 : decode cX8_owes 52 = .ok (.iload_n 1, 1) := by decide +kernel
theorem dX8_owes_53 : decode cX8_owes 53 = .ok (.iload 4, 2) := by decide +kernel
theorem dX8_owes_55 : decode cX8_owes 55 = .ok (.invokevirtual 233, 3) := by decide +kernel
theorem dX8_owes_58 : decode cX8_owes 58 = .ok (.lreturn, 1) := by decide +kernel
def kX8_owes (live : am_E) (Ret : am_R) : am_code := [(0, am_aload 0 1), (1, am_iload 1 2), (2, am_callV live 8 1 TX8_isLoan 5), (5, am_if1 (fun x => x = 0) 35 8), (8, am_iload 2 9), (9, am_callS live 1 TX8_isYear 12), (12, am_if1 (fun x => x = 0) 35 15), (15, am_iload 3 16), (16, am_callS live 1 TX8_isYear 19), (19, am_if1 (fun x => x = 0) 35 22), (22, am_iload 4 24), (24, am_i2l 25), (25, am_const (.long 0) 26), (26, am_const (.long 4) 29), (29, am_callS live 3 TX8_in 32), (32, am_if1 (fun x => x = 0) 35 39), (35, am_const (.long (-2)) 38), (38, am_retL Ret), (39, am_aload 0 40), (40, am_aload 0 41), (41, am_iload 1 42), (42, am_const (.int 0) 43), (43, am_callV live 8 2 am_TF 46), (46, am_iload 2 47), (47, am_iload 3 48), (48, am_callV live 8 3 am_TF 51), (51, am_aload 0 52), (52, am_iload 1 53), (53, am_iload 4 55), (55, am_callV live 8 2 am_TF 58), (58, am_retL Ret)]
theorem koX8_owes (live : am_E) (Ret : am_R) : ∀ q ∈ kX8_owes live Ret, am_ok RX8 cX8_owes 5 (some .long) 2 46 live Ret q.1 q.2 :=
  am_kc (ak_aload_n dX8_owes_0 rfl rfl) <|
  am_kc (ak_iload_n dX8_owes_1 rfl rfl) <|
  am_kc (ak_callV (C := RX8) (F := TX8) (N := 27) metX8_isLoan rfl ⟨rfl, by decide +kernel, by decide +kernel, by decide +kernel⟩ (am_w5 wd_1069 wd_1071 wd_30 wd_67 wd_1072) (by decide) dX8_owes_2 rfl) <|
  am_kc (ak_if_eq dX8_owes_5 (by decide +kernel) rfl) <|
  am_kc (ak_iload_n dX8_owes_8 rfl rfl) <|
  am_kc (ak_callS metX8_isYear ⟨rfl, by decide +kernel, by decide +kernel, by decide +kernel⟩ (am_w4 wd_982 wd_983 wd_67 wd_984) (by decide) dX8_owes_9 rfl) <|
  am_kc (ak_if_eq dX8_owes_12 (by decide +kernel) rfl) <|
  am_kc (ak_iload_n dX8_owes_15 rfl rfl) <|
  am_kc (ak_callS metX8_isYear ⟨rfl, by decide +kernel, by decide +kernel, by decide +kernel⟩ (am_w4 wd_982 wd_983 wd_67 wd_984) (by decide) dX8_owes_16 rfl) <|
  am_kc (ak_if_eq dX8_owes_19 (by decide +kernel) rfl) <|
  am_kc (ak_iload dX8_owes_22 rfl) <|
  am_kc (ak_i2l dX8_owes_24 rfl) <|
  am_kc (ak_lconst dX8_owes_25 (by decide +kernel) rfl) <|
  am_kc (ak_ldc2 wd_1037 dX8_owes_26 rfl) <|
  am_kc (ak_callS metX8_in ⟨rfl, by decide +kernel, by decide +kernel, by decide +kernel⟩ (am_w4 wd_986 wd_987 wd_67 wd_988) (by decide) dX8_owes_29 rfl) <|
  am_kc (ak_if_ne dX8_owes_32 (by decide +kernel) rfl) <|
  am_kc (ak_ldc2 wd_1153 dX8_owes_35 rfl) <|
  am_kc (ak_retL dX8_owes_38) <|
  am_kc (ak_aload_n dX8_owes_39 rfl rfl) <|
  am_kc (ak_aload_n dX8_owes_40 rfl rfl) <|
  am_kc (ak_iload_n dX8_owes_41 rfl rfl) <|
  am_kc (ak_iconst dX8_owes_42 (by decide +kernel) rfl) <|
  am_kc (ak_callV (C := RX8) (F := TX8) (N := 27) (am_metF _ _ _ _) rfl ⟨rfl, by decide +kernel, by decide +kernel, by decide +kernel⟩ (am_w5 wd_1154 wd_1156 wd_41 wd_67 wd_1157) (by decide) dX8_owes_43 rfl) <|
  am_kc (ak_iload_n dX8_owes_46 rfl rfl) <|
  am_kc (ak_iload_n dX8_owes_47 rfl rfl) <|
  am_kc (ak_callV (C := RX8) (F := TX8) (N := 27) (am_metF _ _ _ _) rfl ⟨rfl, by decide +kernel, by decide +kernel, by decide +kernel⟩ (am_w5 wd_1158 wd_1160 wd_42 wd_67 wd_1161) (by decide) dX8_owes_48 rfl) <|
  am_kc (ak_aload_n dX8_owes_51 rfl rfl) <|
  am_kc (ak_iload_n dX8_owes_52 rfl rfl) <|
  am_kc (ak_iload dX8_owes_53 rfl) <|
  am_kc (ak_callV (C := RX8) (F := TX8) (N := 27) (am_metF _ _ _ _) rfl ⟨rfl, by decide +kernel, by decide +kernel, by decide +kernel⟩ (am_w5 wd_1187 wd_1189 wd_49 wd_67 wd_1190) (by decide) dX8_owes_55 rfl) <|
  am_kc (ak_retL dX8_owes_58) <| am_kn
def TX8_owes : am_T := fun live as M R => match as with
  | [.ref n, .int l, .int y, .int k, .int w] => am_mn live ∧ n = 200 ∧ am_F8 M ∧ R (some (.long (-2))) M
  | _ => False
set_option maxRecDepth 100000 in
set_option maxHeartbeats 4000000 in
theorem metX8_owes : am_Met yX8_owes cX8_owes 5 (some .long) (2) (46) TX8_owes := by
  refine am_met (own := RX8) (by decide +kernel) rfl kX8_owes koX8_owes 300 (fun _ _ _ _ _ => none) (fun live as M Ret h => ?_) (fun _ _ _ _ _ _ _ _ hI => by cases hI)
  unfold TX8_owes at h
  split at h
  · next n l y k w =>
    refine ⟨Nat.le_of_ble_eq_true rfl, ?_⟩
    change am_wp _ _ _ _ [(0, Value.ref n), (1, Value.int l), (2, Value.int y), (3, Value.int k), (4, Value.int w)] _ _
    obtain ⟨⟨i1, i2, rfl⟩, rfl, hF, h⟩ := h
    have q0 : M.1 201 0 = 0 := hF.1 0 (by decide)
    have q1 : M.1 201 1 = 0 := hF.1 1 (by decide)
    repeat' (first | (with_reducible exact q0) | (with_reducible exact q1) | apply And.intro | exact rfl | (intro hx; exact absurd hx (by decide)) | (intro hx; exact absurd (by decide) hx) | decide | intro hx | (refine Exists.intro _ (And.intro rfl ?_)))
    all_goals try first | (with_reducible change am_tI _ _) | (change Ret _ _) | (change Ret _ _ _) | (change Exists _)
    all_goals try dsimp only at *
    all_goals try exact absurd ‹(1000 : Int64) = 0› (by decide)
    all_goals first | exact h | exact q0 | exact q1 | (left; exact ⟨i1, i2, rfl⟩) | exact ⟨i1, i2, rfl⟩
  · exact h.elim
theorem wd_1195 : Cond.methodLink "LearnLoansModel" 243 yX8_allOf ∈ am_ws := am_wsi (List.mem_of_getElem? (i := 1195) (by decide +kernel)) (by decide +kernel)
theorem wd_1197 : Cond.instanceMethod yX8_allOf ∈ am_ws := am_wsi (List.mem_of_getElem? (i := 1197) (by decide +kernel)) (by decide +kernel)
theorem wd_50 : Cond.selects "LearnLoansModel" yX8_allOf yX8_allOf ∈ am_ws := am_wsi (List.mem_of_getElem? (i := 50) (by decide +kernel)) (by decide +kernel)
theorem wd_1198 : Cond.code yX8_allOf cX8_allOf 6 (some .long) ∈ am_ws := am_wsi (List.mem_of_getElem? (i := 1198) (by decide +kernel)) (by decide +kernel)
theorem dX8_all_0 : decode cX8_all 0 = .ok (.aload_n 0, 1) := by decide +kernel
theorem dX8_all_1 : decode cX8_all 1 = .ok (.iload_n 1, 1) := by decide +kernel
theorem dX8_all_2 : decode cX8_all 2 = .ok (.invokevirtual 76, 3) := by decide +kernel
theorem dX8_all_5 : decode cX8_all 5 = .ok (.ifCond .eq 30, 3) := by decide +kernel
theorem dX8_all_8 : decode cX8_all 8 = .ok (.iload_n 2, 1) := by decide +kernel
theorem dX8_all_9 : decode cX8_all 9 = .ok (.invokestatic 72, 3) := by decide +kernel
theorem dX8_all_12 : decode cX8_all 12 = .ok (.ifCond .eq 23, 3) := by decide +kernel
theorem dX8_all_15 : decode cX8_all 15 = .ok (.iload_n 3, 1) := by decide +kernel
theorem dX8_all_16 : decode cX8_all 16 = .ok (.invokestatic 72, 3) := by decide +kernel
theorem dX8_all_19 : decode cX8_all 19 = .ok (.ifCond .eq 16, 3) := by decide +kernel
theorem dX8_all_22 : decode cX8_all 22 = .ok (.iload 4, 2) := by decide +kernel
theorem dX8_all_24 : decode cX8_all 24 = .ok (.i2l, 1) := by decide +kernel
theorem dX8_all_25 : decode cX8_all 25 = .ok (.lconst 0, 1) := by decide +kernel
theorem dX8_all_26 : decode cX8_all 26 = .ok (.ldc2_w 70, 3) := by decide +kernel
theorem dX8_all_29 : decode cX8_all 29 = .ok (.invokestatic 66, 3) := by decide +kernel
theorem dX8_all_32 : decode cX8_all 32 = .ok (.ifCond .ne 7, 3) := by decide +kernel
theorem dX8_all_35 : decode cX8_all 35 = .ok (.ldc2_w 237, 3) := by decide +kernel
theorem dX8_all_38 : decode cX8_all 38 = .ok (.lreturn, 1) := by decide +kernel
theorem dX8_all_39 : decode cX8_all 39 = .ok (.aload_n 0, 1) := by decide +kernel
theorem dX8_all_40 : decode cX8_all 40 = .ok (.iload_n 1, 1) := by decide +kernel
theorem dX8_all_41 : decode cX8_all 41 = .ok (.iload_n 2, 1) := by decide +kernel
theorem dX8_all_42 : decode cX8_all 42 = .ok (.iload_n 3, 1) := by decide +kernel
theorem dX8_all_43 : decode cX8_all 43 = .ok (.invokevirtual 239, 3) := by decide +kernel
theorem dX8_all_46 : decode cX8_all 46 = .ok (.aload_n 0, 1) := by decide +kernel
theorem dX8_all_47 : decode cX8_all 47 = .ok (.iload_n 1, 1) := by decide +kernel
theorem dX8_all_48 : decode cX8_all 48 = .ok (.iload 4, 2) := by decide +kernel
theorem dX8_all_50 : decode cX8_all 50 = .ok (.invokevirtual 243, 3) := by decide +kernel
theorem dX8_all_53 : decode cX8_all 53 = .ok (.lreturn, 1) := by decide +kernel
def kX8_all (live : am_E) (Ret : am_R) : am_code := [(0, am_aload 0 1), (1, am_iload 1 2), (2, am_callV live 8 1 TX8_isPerson 5), (5, am_if1 (fun x => x = 0) 35 8), (8, am_iload 2 9), (9, am_callS live 1 TX8_isYear 12), (12, am_if1 (fun x => x = 0) 35 15), (15, am_iload 3 16), (16, am_callS live 1 TX8_isYear 19), (19, am_if1 (fun x => x = 0) 35 22), (22, am_iload 4 24), (24, am_i2l 25), (25, am_const (.long 0) 26), (26, am_const (.long 4) 29), (29, am_callS live 3 TX8_in 32), (32, am_if1 (fun x => x = 0) 35 39), (35, am_const (.long (-2)) 38), (38, am_retL Ret), (39, am_aload 0 40), (40, am_iload 1 41), (41, am_iload 2 42), (42, am_iload 3 43), (43, am_callV live 8 3 am_TF 46), (46, am_aload 0 47), (47, am_iload 1 48), (48, am_iload 4 50), (50, am_callV live 8 2 am_TF 53), (53, am_retL Ret)]
theorem koX8_all (live : am_E) (Ret : am_R) : ∀ q ∈ kX8_all live Ret, am_ok RX8 cX8_all 5 (some .long) 2 46 live Ret q.1 q.2 :=
  am_kc (ak_aload_n dX8_all_0 rfl rfl) <|
  am_kc (ak_iload_n dX8_all_1 rfl rfl) <|
  am_kc (ak_callV (C := RX8) (F := TX8) (N := 27) metX8_isPerson rfl ⟨rfl, by decide +kernel, by decide +kernel, by decide +kernel⟩ (am_w5 wd_993 wd_995 wd_27 wd_67 wd_996) (by decide) dX8_all_2 rfl) <|
  am_kc (ak_if_eq dX8_all_5 (by decide +kernel) rfl) <|
  am_kc (ak_iload_n dX8_all_8 rfl rfl) <|
  am_kc (ak_callS metX8_isYear ⟨rfl, by decide +kernel, by decide +kernel, by decide +kernel⟩ (am_w4 wd_982 wd_983 wd_67 wd_984) (by decide) dX8_all_9 rfl) <|
  am_kc (ak_if_eq dX8_all_12 (by decide +kernel) rfl) <|
  am_kc (ak_iload_n dX8_all_15 rfl rfl) <|
  am_kc (ak_callS metX8_isYear ⟨rfl, by decide +kernel, by decide +kernel, by decide +kernel⟩ (am_w4 wd_982 wd_983 wd_67 wd_984) (by decide) dX8_all_16 rfl) <|
  am_kc (ak_if_eq dX8_all_19 (by decide +kernel) rfl) <|
  am_kc (ak_iload dX8_all_22 rfl) <|
  am_kc (ak_i2l dX8_all_24 rfl) <|
  am_kc (ak_lconst dX8_all_25 (by decide +kernel) rfl) <|
  am_kc (ak_ldc2 wd_1037 dX8_all_26 rfl) <|
  am_kc (ak_callS metX8_in ⟨rfl, by decide +kernel, by decide +kernel, by decide +kernel⟩ (am_w4 wd_986 wd_987 wd_67 wd_988) (by decide) dX8_all_29 rfl) <|
  am_kc (ak_if_ne dX8_all_32 (by decide +kernel) rfl) <|
  am_kc (ak_ldc2 wd_1153 dX8_all_35 rfl) <|
  am_kc (ak_retL dX8_all_38) <|
  am_kc (ak_aload_n dX8_all_39 rfl rfl) <|
  am_kc (ak_iload_n dX8_all_40 rfl rfl) <|
  am_kc (ak_iload_n dX8_all_41 rfl rfl) <|
  am_kc (ak_iload_n dX8_all_42 rfl rfl) <|
  am_kc (ak_callV (C := RX8) (F := TX8) (N := 27) (am_metF _ _ _ _) rfl ⟨rfl, by decide +kernel, by decide +kernel, by decide +kernel⟩ (am_w5 wd_1158 wd_1160 wd_42 wd_67 wd_1161) (by decide) dX8_all_43 rfl) <|
  am_kc (ak_aload_n dX8_all_46 rfl rfl) <|
  am_kc (ak_iload_n dX8_all_47 rfl rfl) <|
  am_kc (ak_iload dX8_all_48 rfl) <|
  am_kc (ak_callV (C := RX8) (F := TX8) (N := 27) (am_metF _ _ _ _) rfl ⟨rfl, by decide +kernel, by decide +kernel, by decide +kernel⟩ (am_w5 wd_1195 wd_1197 wd_50 wd_67 wd_1198) (by decide) dX8_all_50 rfl) <|
  am_kc (ak_retL dX8_all_53) <| am_kn
def TX8_all : am_T := fun live as M R => match as with
  | [.ref n, .int p, .int y, .int k, .int w] => am_mn live ∧ n = 200 ∧ am_F8 M ∧ R (some (.long (-2))) M
  | _ => False
set_option maxRecDepth 100000 in
set_option maxHeartbeats 4000000 in
theorem metX8_all : am_Met yX8_all cX8_all 5 (some .long) (2) (46) TX8_all := by
  refine am_met (own := RX8) (by decide +kernel) rfl kX8_all koX8_all 300 (fun _ _ _ _ _ => none) (fun live as M Ret h => ?_) (fun _ _ _ _ _ _ _ _ hI => by cases hI)
  unfold TX8_all at h
  split at h
  · next n p y k w =>
    refine ⟨Nat.le_of_ble_eq_true rfl, ?_⟩
    change am_wp _ _ _ _ [(0, Value.ref n), (1, Value.int p), (2, Value.int y), (3, Value.int k), (4, Value.int w)] _ _
    obtain ⟨⟨i1, i2, rfl⟩, rfl, hF, h⟩ := h
    have q0 : M.1 201 0 = 0 := hF.1 0 (by decide)
    have q1 : M.1 201 1 = 0 := hF.1 1 (by decide)
    repeat' (first | (with_reducible exact q0) | (with_reducible exact q1) | apply And.intro | exact rfl | (intro hx; exact absurd hx (by decide)) | (intro hx; exact absurd (by decide) hx) | decide | intro hx | (refine Exists.intro _ (And.intro rfl ?_)))
    all_goals try first | (with_reducible change am_tI _ _) | (change Ret _ _) | (change Ret _ _ _) | (change Exists _)
    all_goals try dsimp only at *
    all_goals try exact absurd ‹(1000 : Int64) = 0› (by decide)
    all_goals first | exact h | exact q0 | exact q1 | (left; exact ⟨i1, i2, rfl⟩) | exact ⟨i1, i2, rfl⟩
  · exact h.elim
theorem wd_1174 : Cond.methodLink "LearnLoansModel" 205 yX8_rateOf ∈ am_ws := am_wsi (List.mem_of_getElem? (i := 1174) (by decide +kernel)) (by decide +kernel)
theorem wd_1176 : Cond.instanceMethod yX8_rateOf ∈ am_ws := am_wsi (List.mem_of_getElem? (i := 1176) (by decide +kernel)) (by decide +kernel)
theorem wd_46 : Cond.selects "LearnLoansModel" yX8_rateOf yX8_rateOf ∈ am_ws := am_wsi (List.mem_of_getElem? (i := 46) (by decide +kernel)) (by decide +kernel)
theorem wd_1177 : Cond.code yX8_rateOf cX8_rateOf 8 (some .int) ∈ am_ws := am_wsi (List.mem_of_getElem? (i := 1177) (by decide +kernel)) (by decide +kernel)
theorem dX8_rate_0 : decode cX8_rate 0 = .ok (.aload_n 0, 1) := by decide +kernel
theorem dX8_rate_1 : decode cX8_rate 1 = .ok (.iload_n 1, 1) := by decide +kernel
theorem dX8_rate_2 : decode cX8_rate 2 = .ok (.invokevirtual 131, 3) := by decide +kernel
theorem dX8_rate_5 : decode cX8_rate 5 = .ok (.ifCond .eq 17, 3) := by decide +kernel
theorem dX8_rate_8 : decode cX8_rate 8 = .ok (.iload_n 2, 1) := by decide +kernel
theorem dX8_rate_9 : decode cX8_rate 9 = .ok (.invokestatic 72, 3) := by decide +kernel
theorem dX8_rate_12 : decode cX8_rate 12 = .ok (.ifCond .eq 10, 3) := by decide +kernel
theorem dX8_rate_15 : decode cX8_rate 15 = .ok (.iload_n 3, 1) := by decide +kernel
theorem dX8_rate_16 : decode cX8_rate 16 = .ok (.invokestatic 72, 3) := by decide +kernel
theorem dX8_rate_19 : decode cX8_rate 19 = .ok (.ifCond .ne 6, 3) := by decide +kernel
theorem dX8_rate_22 : decode cX8_rate 22 = .ok (.bipush (-2), 2) := by decide +kernel
theorem dX8_rate_24 : decode cX8_rate 24 = .ok (.ireturn, 1) := by decide +kernel
theorem dX8_rate_25 : decode cX8_rate 25 = .ok (.aload_n 0, 1) := by decide +kernel
theorem dX8_rate_26 : decode cX8_rate 26 = .ok (.iload_n 1, 1) := by decide +kernel
theorem dX8_rate_27 : decode cX8_rate 27 = .ok (.iconst 0, 1) := by decide +kernel
theorem dX8_rate_28 : decode cX8_rate 28 = .ok (.invokevirtual 202, 3) := by decide +kernel
theorem dX8_rate_31 : decode cX8_rate 31 = .ok (.istore 4, 2) := by decide +kernel
theorem dX8_rate_33 : decode cX8_rate 33 = .ok (.aload_n 0, 1) := by decide +kernel
theorem dX8_rate_34 : decode cX8_rate 34 = .ok (.iload 4, 2) := by decide +kernel
theorem dX8_rate_36 : decode cX8_rate 36 = .ok (.iload_n 2, 1) := by decide +kernel
theorem dX8_rate_37 : decode cX8_rate 37 = .ok (.iconst 1, 1) := by decide +kernel
theorem dX8_rate_38 : decode cX8_rate 38 = .ok (.isub, 1) := by decide +kernel
theorem dX8_rate_39 : decode cX8_rate 39 = .ok (.iload_n 3, 1) := by decide +kernel
theorem dX8_rate_40 : decode cX8_rate 40 = .ok (.invokevirtual 239, 3) := by decide +kernel
theorem dX8_rate_43 : decode cX8_rate 43 = .ok (.aload_n 0, 1) := by decide +kernel
theorem dX8_rate_44 : decode cX8_rate 44 = .ok (.iload_n 1, 1) := by decide +kernel
theorem dX8_rate_45 : decode cX8_rate 45 = .ok (.iload_n 2, 1) := by decide +kernel
theorem dX8_rate_46 : decode cX8_rate 46 = .ok (.aload_n 0, 1) := by decide +kernel
theorem dX8_rate_47 : decode cX8_rate 47 = .ok (.iload 4, 2) := by decide +kernel
theorem dX8_rate_49 : decode cX8_rate 49 = .ok (.iload_n 2, 1) := by decide +kernel
theorem dX8_rate_50 : decode cX8_rate 50 = .ok (.iload_n 3, 1) := by decide +kernel
theorem dX8_rate_51 : decode cX8_rate 51 = .ok (.invokevirtual 89, 3) := by decide +kernel
theorem dX8_rate_54 : decode cX8_rate 54 = .ok (.aload_n 0, 1) := by decide +kernel
theorem dX8_rate_55 : decode cX8_rate 55 = .ok (.getfield 7, 3) := by decide +kernel
theorem dX8_rate_58 : decode cX8_rate 58 = .ok (.bipush 34, 2) := by decide +kernel
theorem dX8_rate_60 : decode cX8_rate 60 = .ok (.bipush 40, 2) := by decide +kernel
theorem dX8_rate_62 : decode cX8_rate 62 = .ok (.iload 4, 2) := by decide +kernel
theorem dX8_rate_64 : decode cX8_rate 64 = .ok (.imul, 1) := by decide +kernel
theorem dX8_rate_65 : decode cX8_rate 65 = .ok (.iadd, 1) := by decide +kernel
theorem dX8_rate_66 : decode cX8_rate 66 = .ok (.iload_n 2, 1) := by decide +kernel
theorem dX8_rate_67 : decode cX8_rate 67 = .ok (.iadd, 1) := by decide +kernel
theorem dX8_rate_68 : decode cX8_rate 68 = .ok (.iaload, 1) := by decide +kernel
theorem dX8_rate_69 : decode cX8_rate 69 = .ok (.invokevirtual 205, 3) := by decide +kernel
theorem dX8_rate_72 : decode cX8_rate 72 = .ok (.ireturn, 1) := by decide +kernel
def kX8_rate (live : am_E) (Ret : am_R) : am_code := [(0, am_aload 0 1), (1, am_iload 1 2), (2, am_callV live 8 1 TX8_isLoan 5), (5, am_if1 (fun x => x = 0) 22 8), (8, am_iload 2 9), (9, am_callS live 1 TX8_isYear 12), (12, am_if1 (fun x => x = 0) 22 15), (15, am_iload 3 16), (16, am_callS live 1 TX8_isYear 19), (19, am_if1 (fun x => x = 0) 22 25), (22, am_const (.int (-2)) 24), (24, am_retI Ret), (25, am_aload 0 26), (26, am_iload 1 27), (27, am_const (.int 0) 28), (28, am_callV live 8 2 am_TF 31), (31, am_istore 4 5 33), (33, am_aload 0 34), (34, am_iload 4 36), (36, am_iload 2 37), (37, am_const (.int 1) 38), (38, am_i2 (fun x y => x - y) 39), (39, am_iload 3 40), (40, am_callV live 8 3 am_TF 43), (43, am_aload 0 44), (44, am_iload 1 45), (45, am_iload 2 46), (46, am_aload 0 47), (47, am_iload 4 49), (49, am_iload 2 50), (50, am_iload 3 51), (51, am_callV live 8 3 am_TF 54), (54, am_aload 0 55), (55, am_getR live 8 0 58), (58, am_const (.int 34) 60), (60, am_const (.int 40) 62), (62, am_iload 4 64), (64, am_i2 (fun x y => x * y) 65), (65, am_i2 (fun x y => x + y) 66), (66, am_iload 2 67), (67, am_i2 (fun x y => x + y) 68), (68, am_ald live 0 69), (69, am_callV live 8 4 am_TF 72), (72, am_retI Ret)]
theorem koX8_rate (live : am_E) (Ret : am_R) : ∀ q ∈ kX8_rate live Ret, am_ok RX8 cX8_rate 5 (some .int) 2 46 live Ret q.1 q.2 :=
  am_kc (ak_aload_n dX8_rate_0 rfl rfl) <|
  am_kc (ak_iload_n dX8_rate_1 rfl rfl) <|
  am_kc (ak_callV (C := RX8) (F := TX8) (N := 27) metX8_isLoan rfl ⟨rfl, by decide +kernel, by decide +kernel, by decide +kernel⟩ (am_w5 wd_1069 wd_1071 wd_30 wd_67 wd_1072) (by decide) dX8_rate_2 rfl) <|
  am_kc (ak_if_eq dX8_rate_5 (by decide +kernel) rfl) <|
  am_kc (ak_iload_n dX8_rate_8 rfl rfl) <|
  am_kc (ak_callS metX8_isYear ⟨rfl, by decide +kernel, by decide +kernel, by decide +kernel⟩ (am_w4 wd_982 wd_983 wd_67 wd_984) (by decide) dX8_rate_9 rfl) <|
  am_kc (ak_if_eq dX8_rate_12 (by decide +kernel) rfl) <|
  am_kc (ak_iload_n dX8_rate_15 rfl rfl) <|
  am_kc (ak_callS metX8_isYear ⟨rfl, by decide +kernel, by decide +kernel, by decide +kernel⟩ (am_w4 wd_982 wd_983 wd_67 wd_984) (by decide) dX8_rate_16 rfl) <|
  am_kc (ak_if_ne dX8_rate_19 (by decide +kernel) rfl) <|
  am_kc (ak_bipush dX8_rate_22 (by decide +kernel) rfl) <|
  am_kc (ak_retI dX8_rate_24) <|
  am_kc (ak_aload_n dX8_rate_25 rfl rfl) <|
  am_kc (ak_iload_n dX8_rate_26 rfl rfl) <|
  am_kc (ak_iconst dX8_rate_27 (by decide +kernel) rfl) <|
  am_kc (ak_callV (C := RX8) (F := TX8) (N := 27) (am_metF _ _ _ _) rfl ⟨rfl, by decide +kernel, by decide +kernel, by decide +kernel⟩ (am_w5 wd_1154 wd_1156 wd_41 wd_67 wd_1157) (by decide) dX8_rate_28 rfl) <|
  am_kc (ak_istore dX8_rate_31 rfl) <|
  am_kc (ak_aload_n dX8_rate_33 rfl rfl) <|
  am_kc (ak_iload dX8_rate_34 rfl) <|
  am_kc (ak_iload_n dX8_rate_36 rfl rfl) <|
  am_kc (ak_iconst dX8_rate_37 (by decide +kernel) rfl) <|
  am_kc (ak_isub dX8_rate_38 rfl) <|
  am_kc (ak_iload_n dX8_rate_39 rfl rfl) <|
  am_kc (ak_callV (C := RX8) (F := TX8) (N := 27) (am_metF _ _ _ _) rfl ⟨rfl, by decide +kernel, by decide +kernel, by decide +kernel⟩ (am_w5 wd_1158 wd_1160 wd_42 wd_67 wd_1161) (by decide) dX8_rate_40 rfl) <|
  am_kc (ak_aload_n dX8_rate_43 rfl rfl) <|
  am_kc (ak_iload_n dX8_rate_44 rfl rfl) <|
  am_kc (ak_iload_n dX8_rate_45 rfl rfl) <|
  am_kc (ak_aload_n dX8_rate_46 rfl rfl) <|
  am_kc (ak_iload dX8_rate_47 rfl) <|
  am_kc (ak_iload_n dX8_rate_49 rfl rfl) <|
  am_kc (ak_iload_n dX8_rate_50 rfl rfl) <|
  am_kc (ak_callV (C := RX8) (F := TX8) (N := 27) (am_metF _ _ _ _) rfl ⟨rfl, by decide +kernel, by decide +kernel, by decide +kernel⟩ (am_w5 wd_1026 wd_1028 wd_28 wd_67 wd_1029) (by decide) dX8_rate_51 rfl) <|
  am_kc (ak_aload_n dX8_rate_54 rfl rfl) <|
  am_kc (ak_getR (C := RX8) (T := TX8) (N := 27) rfl inX8w (by decide) rfl rfl rfl wd_895 dX8_rate_55 rfl) <|
  am_kc (ak_bipush dX8_rate_58 (by decide +kernel) rfl) <|
  am_kc (ak_bipush dX8_rate_60 (by decide +kernel) rfl) <|
  am_kc (ak_iload dX8_rate_62 rfl) <|
  am_kc (ak_imul dX8_rate_64 rfl) <|
  am_kc (ak_iadd dX8_rate_65 rfl) <|
  am_kc (ak_iload_n dX8_rate_66 rfl rfl) <|
  am_kc (ak_iadd dX8_rate_67 rfl) <|
  am_kc (ak_iald (t := 0) (fun _ => rfl) rfl dX8_rate_68 rfl) <|
  am_kc (ak_callV (C := RX8) (F := TX8) (N := 27) (am_metF _ _ _ _) rfl ⟨rfl, by decide +kernel, by decide +kernel, by decide +kernel⟩ (am_w5 wd_1174 wd_1176 wd_46 wd_67 wd_1177) (by decide) dX8_rate_69 rfl) <|
  am_kc (ak_retI dX8_rate_72) <| am_kn
def TX8_rate : am_T := fun live as M R => match as with
  | [.ref n, .int l, .int y, .int k] => am_mn live ∧ n = 200 ∧ am_F8 M ∧ R (some (.int (-2))) M
  | _ => False
set_option maxRecDepth 100000 in
set_option maxHeartbeats 4000000 in
theorem metX8_rate : am_Met yX8_rate cX8_rate 5 (some .int) (2) (46) TX8_rate := by
  refine am_met (own := RX8) (by decide +kernel) rfl kX8_rate koX8_rate 300 (fun _ _ _ _ _ => none) (fun live as M Ret h => ?_) (fun _ _ _ _ _ _ _ _ hI => by cases hI)
  unfold TX8_rate at h
  split at h
  · next n l y k =>
    refine ⟨Nat.le_of_ble_eq_true rfl, ?_⟩
    change am_wp _ _ _ _ [(0, Value.ref n), (1, Value.int l), (2, Value.int y), (3, Value.int k)] _ _
    obtain ⟨⟨i1, i2, rfl⟩, rfl, hF, h⟩ := h
    have q0 : M.1 201 0 = 0 := hF.1 0 (by decide)
    have q1 : M.1 201 1 = 0 := hF.1 1 (by decide)
    repeat' (first | (with_reducible exact q0) | (with_reducible exact q1) | apply And.intro | exact rfl | (intro hx; exact absurd hx (by decide)) | (intro hx; exact absurd (by decide) hx) | decide | intro hx | (refine Exists.intro _ (And.intro rfl ?_)))
    all_goals try first | (with_reducible change am_tI _ _) | (change Ret _ _) | (change Ret _ _ _) | (change Exists _)
    all_goals try dsimp only at *
    all_goals try exact absurd ‹(1000 : Int64) = 0› (by decide)
    all_goals first | exact h | exact q0 | exact q1 | (left; exact ⟨i1, i2, rfl⟩) | exact ⟨i1, i2, rfl⟩
  · exact h.elim
theorem wd_1207 : Cond.constantLong "LearnLoansModel" 246 (-1000000000000000) ∈ am_ws := am_wsi (List.mem_of_getElem? (i := 1207) (by decide +kernel)) (by decide +kernel)
theorem dX8_over_0 : decode cX8_over 0 = .ok (.aload_n 0, 1) := by decide +kernel
theorem dX8_over_1 : decode cX8_over 1 = .ok (.iload_n 1, 1) := by decide +kernel
theorem dX8_over_2 : decode cX8_over 2 = .ok (.invokevirtual 76, 3) := by decide +kernel
theorem dX8_over_5 : decode cX8_over 5 = .ok (.ifCond .eq 17, 3) := by decide +kernel
theorem dX8_over_8 : decode cX8_over 8 = .ok (.iload_n 2, 1) := by decide +kernel
theorem dX8_over_9 : decode cX8_over 9 = .ok (.invokestatic 72, 3) := by decide +kernel
theorem dX8_over_12 : decode cX8_over 12 = .ok (.ifCond .eq 10, 3) := by decide +kernel
theorem dX8_over_15 : decode cX8_over 15 = .ok (.iload_n 3, 1) := by decide +kernel
theorem dX8_over_16 : decode cX8_over 16 = .ok (.invokestatic 72, 3) := by decide +kernel
theorem dX8_over_19 : decode cX8_over 19 = .ok (.ifCond .ne 7, 3) := by decide +kernel
theorem dX8_over_22 : decode cX8_over 22 = .ok (.ldc2_w 246, 3) := by decide +kernel
theorem dX8_over_25 : decode cX8_over 25 = .ok (.lreturn, 1) := by decide +kernel
theorem dX8_over_26 : decode cX8_over 26 = .ok (.aload_n 0, 1) := by decide +kernel
theorem dX8_over_27 : decode cX8_over 27 = .ok (.iload_n 1, 1) := by decide +kernel
theorem dX8_over_28 : decode cX8_over 28 = .ok (.iload_n 2, 1) := by decide +kernel
theorem dX8_over_29 : decode cX8_over 29 = .ok (.iload_n 2, 1) := by decide +kernel
theorem dX8_over_30 : decode cX8_over 30 = .ok (.invokevirtual 239, 3) := by decide +kernel
theorem dX8_over_33 : decode cX8_over 33 = .ok (.aload_n 0, 1) := by decide +kernel
theorem dX8_over_34 : decode cX8_over 34 = .ok (.iload_n 1, 1) := by decide +kernel
theorem dX8_over_35 : decode cX8_over 35 = .ok (.iconst 1, 1) := by decide +kernel
theorem dX8_over_36 : decode cX8_over 36 = .ok (.invokevirtual 243, 3) := by decide +kernel
theorem dX8_over_39 : decode cX8_over 39 = .ok (.lstore 4, 2) := by decide +kernel
theorem dX8_over_41 : decode cX8_over 41 = .ok (.aload_n 0, 1) := by decide +kernel
theorem dX8_over_42 : decode cX8_over 42 = .ok (.iload_n 1, 1) := by decide +kernel
theorem dX8_over_43 : decode cX8_over 43 = .ok (.iload_n 2, 1) := by decide +kernel
theorem dX8_over_44 : decode cX8_over 44 = .ok (.iload_n 3, 1) := by decide +kernel
theorem dX8_over_45 : decode cX8_over 45 = .ok (.invokevirtual 239, 3) := by decide +kernel
theorem dX8_over_48 : decode cX8_over 48 = .ok (.lload 4, 2) := by decide +kernel
theorem dX8_over_50 : decode cX8_over 50 = .ok (.aload_n 0, 1) := by decide +kernel
theorem dX8_over_51 : decode cX8_over 51 = .ok (.iload_n 1, 1) := by decide +kernel
theorem dX8_over_52 : decode cX8_over 52 = .ok (.iconst 1, 1) := by decide +kernel
theorem dX8_over_53 : decode cX8_over 53 = .ok (.invokevirtual 243, 3) := by decide +kernel
theorem dX8_over_56 : decode cX8_over 56 = .ok (.lsub, 1) := by decide +kernel
theorem dX8_over_57 : decode cX8_over 57 = .ok (.lreturn, 1) := by decide +kernel
def kX8_over (live : am_E) (Ret : am_R) : am_code := [(0, am_aload 0 1), (1, am_iload 1 2), (2, am_callV live 8 1 TX8_isPerson 5), (5, am_if1 (fun x => x = 0) 22 8), (8, am_iload 2 9), (9, am_callS live 1 TX8_isYear 12), (12, am_if1 (fun x => x = 0) 22 15), (15, am_iload 3 16), (16, am_callS live 1 TX8_isYear 19), (19, am_if1 (fun x => x = 0) 22 26), (22, am_const (.long (-1000000000000000)) 25), (25, am_retL Ret), (26, am_aload 0 27), (27, am_iload 1 28), (28, am_iload 2 29), (29, am_iload 2 30), (30, am_callV live 8 3 am_TF 33), (33, am_aload 0 34), (34, am_iload 1 35), (35, am_const (.int 1) 36), (36, am_callV live 8 2 am_TF 39), (39, am_lstore 4 6 41), (41, am_aload 0 42), (42, am_iload 1 43), (43, am_iload 2 44), (44, am_iload 3 45), (45, am_callV live 8 3 am_TF 48), (48, am_lload 4 50), (50, am_aload 0 51), (51, am_iload 1 52), (52, am_const (.int 1) 53), (53, am_callV live 8 2 am_TF 56), (56, am_l2 (fun x y => x - y) 57), (57, am_retL Ret)]
theorem koX8_over (live : am_E) (Ret : am_R) : ∀ q ∈ kX8_over live Ret, am_ok RX8 cX8_over 6 (some .long) 2 46 live Ret q.1 q.2 :=
  am_kc (ak_aload_n dX8_over_0 rfl rfl) <|
  am_kc (ak_iload_n dX8_over_1 rfl rfl) <|
  am_kc (ak_callV (C := RX8) (F := TX8) (N := 27) metX8_isPerson rfl ⟨rfl, by decide +kernel, by decide +kernel, by decide +kernel⟩ (am_w5 wd_993 wd_995 wd_27 wd_67 wd_996) (by decide) dX8_over_2 rfl) <|
  am_kc (ak_if_eq dX8_over_5 (by decide +kernel) rfl) <|
  am_kc (ak_iload_n dX8_over_8 rfl rfl) <|
  am_kc (ak_callS metX8_isYear ⟨rfl, by decide +kernel, by decide +kernel, by decide +kernel⟩ (am_w4 wd_982 wd_983 wd_67 wd_984) (by decide) dX8_over_9 rfl) <|
  am_kc (ak_if_eq dX8_over_12 (by decide +kernel) rfl) <|
  am_kc (ak_iload_n dX8_over_15 rfl rfl) <|
  am_kc (ak_callS metX8_isYear ⟨rfl, by decide +kernel, by decide +kernel, by decide +kernel⟩ (am_w4 wd_982 wd_983 wd_67 wd_984) (by decide) dX8_over_16 rfl) <|
  am_kc (ak_if_ne dX8_over_19 (by decide +kernel) rfl) <|
  am_kc (ak_ldc2 wd_1207 dX8_over_22 rfl) <|
  am_kc (ak_retL dX8_over_25) <|
  am_kc (ak_aload_n dX8_over_26 rfl rfl) <|
  am_kc (ak_iload_n dX8_over_27 rfl rfl) <|
  am_kc (ak_iload_n dX8_over_28 rfl rfl) <|
  am_kc (ak_iload_n dX8_over_29 rfl rfl) <|
  am_kc (ak_callV (C := RX8) (F := TX8) (N := 27) (am_metF _ _ _ _) rfl ⟨rfl, by decide +kernel, by decide +kernel, by decide +kernel⟩ (am_w5 wd_1158 wd_1160 wd_42 wd_67 wd_1161) (by decide) dX8_over_30 rfl) <|
  am_kc (ak_aload_n dX8_over_33 rfl rfl) <|
  am_kc (ak_iload_n dX8_over_34 rfl rfl) <|
  am_kc (ak_iconst dX8_over_35 (by decide +kernel) rfl) <|
  am_kc (ak_callV (C := RX8) (F := TX8) (N := 27) (am_metF _ _ _ _) rfl ⟨rfl, by decide +kernel, by decide +kernel, by decide +kernel⟩ (am_w5 wd_1195 wd_1197 wd_50 wd_67 wd_1198) (by decide) dX8_over_36 rfl) <|
  am_kc (ak_lstore dX8_over_39 rfl) <|
  am_kc (ak_aload_n dX8_over_41 rfl rfl) <|
  am_kc (ak_iload_n dX8_over_42 rfl rfl) <|
  am_kc (ak_iload_n dX8_over_43 rfl rfl) <|
  am_kc (ak_iload_n dX8_over_44 rfl rfl) <|
  am_kc (ak_callV (C := RX8) (F := TX8) (N := 27) (am_metF _ _ _ _) rfl ⟨rfl, by decide +kernel, by decide +kernel, by decide +kernel⟩ (am_w5 wd_1158 wd_1160 wd_42 wd_67 wd_1161) (by decide) dX8_over_45 rfl) <|
  am_kc (ak_lload dX8_over_48 rfl) <|
  am_kc (ak_aload_n dX8_over_50 rfl rfl) <|
  am_kc (ak_iload_n dX8_over_51 rfl rfl) <|
  am_kc (ak_iconst dX8_over_52 (by decide +kernel) rfl) <|
  am_kc (ak_callV (C := RX8) (F := TX8) (N := 27) (am_metF _ _ _ _) rfl ⟨rfl, by decide +kernel, by decide +kernel, by decide +kernel⟩ (am_w5 wd_1195 wd_1197 wd_50 wd_67 wd_1198) (by decide) dX8_over_53 rfl) <|
  am_kc (ak_lsub dX8_over_56 rfl) <|
  am_kc (ak_retL dX8_over_57) <| am_kn
def TX8_over : am_T := fun live as M R => match as with
  | [.ref n, .int p, .int y, .int k] => am_mn live ∧ n = 200 ∧ am_F8 M ∧ R (some (.long (-1000000000000000))) M
  | _ => False
set_option maxRecDepth 100000 in
set_option maxHeartbeats 4000000 in
theorem metX8_over : am_Met yX8_over cX8_over 6 (some .long) (2) (46) TX8_over := by
  refine am_met (own := RX8) (by decide +kernel) rfl kX8_over koX8_over 300 (fun _ _ _ _ _ => none) (fun live as M Ret h => ?_) (fun _ _ _ _ _ _ _ _ hI => by cases hI)
  unfold TX8_over at h
  split at h
  · next n p y k =>
    refine ⟨Nat.le_of_ble_eq_true rfl, ?_⟩
    change am_wp _ _ _ _ [(0, Value.ref n), (1, Value.int p), (2, Value.int y), (3, Value.int k)] _ _
    obtain ⟨⟨i1, i2, rfl⟩, rfl, hF, h⟩ := h
    have q0 : M.1 201 0 = 0 := hF.1 0 (by decide)
    have q1 : M.1 201 1 = 0 := hF.1 1 (by decide)
    repeat' (first | (with_reducible exact q0) | (with_reducible exact q1) | apply And.intro | exact rfl | (intro hx; exact absurd hx (by decide)) | (intro hx; exact absurd (by decide) hx) | decide | intro hx | (refine Exists.intro _ (And.intro rfl ?_)))
    all_goals try first | (with_reducible change am_tI _ _) | (change Ret _ _) | (change Ret _ _ _) | (change Exists _)
    all_goals try dsimp only at *
    all_goals try exact absurd ‹(1000 : Int64) = 0› (by decide)
    all_goals first | exact h | exact q0 | exact q1 | (left; exact ⟨i1, i2, rfl⟩) | exact ⟨i1, i2, rfl⟩
  · exact h.elim
theorem dX8_sell_0 : decode cX8_sell 0 = .ok (.aload_n 0, 1) := by decide +kernel
theorem dX8_sell_1 : decode cX8_sell 1 = .ok (.iload_n 1, 1) := by decide +kernel
theorem dX8_sell_2 : decode cX8_sell 2 = .ok (.invokevirtual 131, 3) := by decide +kernel
theorem dX8_sell_5 : decode cX8_sell 5 = .ok (.ifCond .eq 22, 3) := by decide +kernel
theorem dX8_sell_8 : decode cX8_sell 8 = .ok (.iload_n 2, 1) := by decide +kernel
theorem dX8_sell_9 : decode cX8_sell 9 = .ok (.i2l, 1) := by decide +kernel
theorem dX8_sell_10 : decode cX8_sell 10 = .ok (.lconst 0, 1) := by decide +kernel
theorem dX8_sell_11 : decode cX8_sell 11 = .ok (.ldc2_w 79, 3) := by decide +kernel
theorem dX8_sell_14 : decode cX8_sell 14 = .ok (.invokestatic 66, 3) := by decide +kernel
theorem dX8_sell_17 : decode cX8_sell 17 = .ok (.ifCond .eq 10, 3) := by decide +kernel
theorem dX8_sell_20 : decode cX8_sell 20 = .ok (.iload_n 3, 1) := by decide +kernel
theorem dX8_sell_21 : decode cX8_sell 21 = .ok (.invokestatic 72, 3) := by decide +kernel
theorem dX8_sell_24 : decode cX8_sell 24 = .ok (.ifCond .ne 6, 3) := by decide +kernel
theorem dX8_sell_27 : decode cX8_sell 27 = .ok (.bipush (-2), 2) := by decide +kernel
theorem dX8_sell_29 : decode cX8_sell 29 = .ok (.ireturn, 1) := by decide +kernel
theorem dX8_sell_30 : decode cX8_sell 30 = .ok (.aload_n 0, 1) := by decide +kernel
theorem dX8_sell_31 : decode cX8_sell 31 = .ok (.iload_n 1, 1) := by decide +kernel
theorem dX8_sell_32 : decode cX8_sell 32 = .ok (.bipush 6, 2) := by decide +kernel
theorem dX8_sell_34 : decode cX8_sell 34 = .ok (.invokevirtual 202, 3) := by decide +kernel
theorem dX8_sell_37 : decode cX8_sell 37 = .ok (.ifCond .lt 6, 3) := by decide +kernel
theorem dX8_sell_40 : decode cX8_sell 40 = .ok (.bipush (-3), 2) := by decide +kernel
theorem dX8_sell_42 : decode cX8_sell 42 = .ok (.ireturn, 1) := by decide +kernel
theorem dX8_sell_43 : decode cX8_sell 43 = .ok (.aload_n 0, 1) := by decide +kernel
theorem dX8_sell_44 : decode cX8_sell 44 = .ok (.getfield 7, 3) := by decide +kernel
theorem dX8_sell_47 : decode cX8_sell 47 = .ok (.sipush 2838, 3) := by decide +kernel
theorem dX8_sell_50 : decode cX8_sell 50 = .ok (.bipush 8, 2) := by decide +kernel
theorem dX8_sell_52 : decode cX8_sell 52 = .ok (.iload_n 1, 1) := by decide +kernel
theorem dX8_sell_53 : decode cX8_sell 53 = .ok (.imul, 1) := by decide +kernel
theorem dX8_sell_54 : decode cX8_sell 54 = .ok (.iadd, 1) := by decide +kernel
theorem dX8_sell_55 : decode cX8_sell 55 = .ok (.bipush 6, 2) := by decide +kernel
theorem dX8_sell_57 : decode cX8_sell 57 = .ok (.iadd, 1) := by decide +kernel
theorem dX8_sell_58 : decode cX8_sell 58 = .ok (.iload_n 2, 1) := by decide +kernel
theorem dX8_sell_59 : decode cX8_sell 59 = .ok (.iastore, 1) := by decide +kernel
theorem dX8_sell_60 : decode cX8_sell 60 = .ok (.aload_n 0, 1) := by decide +kernel
theorem dX8_sell_61 : decode cX8_sell 61 = .ok (.getfield 7, 3) := by decide +kernel
theorem dX8_sell_64 : decode cX8_sell 64 = .ok (.sipush 2838, 3) := by decide +kernel
theorem dX8_sell_67 : decode cX8_sell 67 = .ok (.bipush 8, 2) := by decide +kernel
theorem dX8_sell_69 : decode cX8_sell 69 = .ok (.iload_n 1, 1) := by decide +kernel
theorem dX8_sell_70 : decode cX8_sell 70 = .ok (.imul, 1) := by decide +kernel
theorem dX8_sell_71 : decode cX8_sell 71 = .ok (.iadd, 1) := by decide +kernel
theorem dX8_sell_72 : decode cX8_sell 72 = .ok (.bipush 7, 2) := by decide +kernel
theorem dX8_sell_74 : decode cX8_sell 74 = .ok (.iadd, 1) := by decide +kernel
theorem dX8_sell_75 : decode cX8_sell 75 = .ok (.iload_n 3, 1) := by decide +kernel
theorem dX8_sell_76 : decode cX8_sell 76 = .ok (.iastore, 1) := by decide +kernel
theorem dX8_sell_77 : decode cX8_sell 77 = .ok (.iconst 1, 1) := by decide +kernel
theorem dX8_sell_78 : decode cX8_sell 78 = .ok (.ireturn, 1) := by decide +kernel
def kX8_sell (live : am_E) (Ret : am_R) : am_code := [(0, am_aload 0 1), (1, am_iload 1 2), (2, am_callV live 8 1 TX8_isLoan 5), (5, am_if1 (fun x => x = 0) 27 8), (8, am_iload 2 9), (9, am_i2l 10), (10, am_const (.long 0) 11), (11, am_const (.long 3) 14), (14, am_callS live 3 TX8_in 17), (17, am_if1 (fun x => x = 0) 27 20), (20, am_iload 3 21), (21, am_callS live 1 TX8_isYear 24), (24, am_if1 (fun x => x = 0) 27 30), (27, am_const (.int (-2)) 29), (29, am_retI Ret), (30, am_aload 0 31), (31, am_iload 1 32), (32, am_const (.int 6) 34), (34, am_callV live 8 2 am_TF 37), (37, am_if1 (fun x => x < 0) 43 40), (40, am_const (.int (-3)) 42), (42, am_retI Ret), (43, am_aload 0 44), (44, am_getR live 8 0 47), (47, am_const (.int 2838) 50), (50, am_const (.int 8) 52), (52, am_iload 1 53), (53, am_i2 (fun x y => x * y) 54), (54, am_i2 (fun x y => x + y) 55), (55, am_const (.int 6) 57), (57, am_i2 (fun x y => x + y) 58), (58, am_iload 2 59), (59, am_ast live 0 60), (60, am_aload 0 61), (61, am_getR live 8 0 64), (64, am_const (.int 2838) 67), (67, am_const (.int 8) 69), (69, am_iload 1 70), (70, am_i2 (fun x y => x * y) 71), (71, am_i2 (fun x y => x + y) 72), (72, am_const (.int 7) 74), (74, am_i2 (fun x y => x + y) 75), (75, am_iload 3 76), (76, am_ast live 0 77), (77, am_const (.int 1) 78), (78, am_retI Ret)]
theorem koX8_sell (live : am_E) (Ret : am_R) : ∀ q ∈ kX8_sell live Ret, am_ok RX8 cX8_sell 4 (some .int) 2 46 live Ret q.1 q.2 :=
  am_kc (ak_aload_n dX8_sell_0 rfl rfl) <|
  am_kc (ak_iload_n dX8_sell_1 rfl rfl) <|
  am_kc (ak_callV (C := RX8) (F := TX8) (N := 27) metX8_isLoan rfl ⟨rfl, by decide +kernel, by decide +kernel, by decide +kernel⟩ (am_w5 wd_1069 wd_1071 wd_30 wd_67 wd_1072) (by decide) dX8_sell_2 rfl) <|
  am_kc (ak_if_eq dX8_sell_5 (by decide +kernel) rfl) <|
  am_kc (ak_iload_n dX8_sell_8 rfl rfl) <|
  am_kc (ak_i2l dX8_sell_9 rfl) <|
  am_kc (ak_lconst dX8_sell_10 (by decide +kernel) rfl) <|
  am_kc (ak_ldc2 wd_997 dX8_sell_11 rfl) <|
  am_kc (ak_callS metX8_in ⟨rfl, by decide +kernel, by decide +kernel, by decide +kernel⟩ (am_w4 wd_986 wd_987 wd_67 wd_988) (by decide) dX8_sell_14 rfl) <|
  am_kc (ak_if_eq dX8_sell_17 (by decide +kernel) rfl) <|
  am_kc (ak_iload_n dX8_sell_20 rfl rfl) <|
  am_kc (ak_callS metX8_isYear ⟨rfl, by decide +kernel, by decide +kernel, by decide +kernel⟩ (am_w4 wd_982 wd_983 wd_67 wd_984) (by decide) dX8_sell_21 rfl) <|
  am_kc (ak_if_ne dX8_sell_24 (by decide +kernel) rfl) <|
  am_kc (ak_bipush dX8_sell_27 (by decide +kernel) rfl) <|
  am_kc (ak_retI dX8_sell_29) <|
  am_kc (ak_aload_n dX8_sell_30 rfl rfl) <|
  am_kc (ak_iload_n dX8_sell_31 rfl rfl) <|
  am_kc (ak_bipush dX8_sell_32 (by decide +kernel) rfl) <|
  am_kc (ak_callV (C := RX8) (F := TX8) (N := 27) (am_metF _ _ _ _) rfl ⟨rfl, by decide +kernel, by decide +kernel, by decide +kernel⟩ (am_w5 wd_1154 wd_1156 wd_41 wd_67 wd_1157) (by decide) dX8_sell_34 rfl) <|
  am_kc (ak_if_lt dX8_sell_37 (by decide +kernel) rfl) <|
  am_kc (ak_bipush dX8_sell_40 (by decide +kernel) rfl) <|
  am_kc (ak_retI dX8_sell_42) <|
  am_kc (ak_aload_n dX8_sell_43 rfl rfl) <|
  am_kc (ak_getR (C := RX8) (T := TX8) (N := 27) rfl inX8w (by decide) rfl rfl rfl wd_895 dX8_sell_44 rfl) <|
  am_kc (ak_sipush dX8_sell_47 (by decide +kernel) rfl) <|
  am_kc (ak_bipush dX8_sell_50 (by decide +kernel) rfl) <|
  am_kc (ak_iload_n dX8_sell_52 rfl rfl) <|
  am_kc (ak_imul dX8_sell_53 rfl) <|
  am_kc (ak_iadd dX8_sell_54 rfl) <|
  am_kc (ak_bipush dX8_sell_55 (by decide +kernel) rfl) <|
  am_kc (ak_iadd dX8_sell_57 rfl) <|
  am_kc (ak_iload_n dX8_sell_58 rfl rfl) <|
  am_kc (ak_iast (t := 0) (fun _ => rfl) rfl dX8_sell_59 rfl) <|
  am_kc (ak_aload_n dX8_sell_60 rfl rfl) <|
  am_kc (ak_getR (C := RX8) (T := TX8) (N := 27) rfl inX8w (by decide) rfl rfl rfl wd_895 dX8_sell_61 rfl) <|
  am_kc (ak_sipush dX8_sell_64 (by decide +kernel) rfl) <|
  am_kc (ak_bipush dX8_sell_67 (by decide +kernel) rfl) <|
  am_kc (ak_iload_n dX8_sell_69 rfl rfl) <|
  am_kc (ak_imul dX8_sell_70 rfl) <|
  am_kc (ak_iadd dX8_sell_71 rfl) <|
  am_kc (ak_bipush dX8_sell_72 (by decide +kernel) rfl) <|
  am_kc (ak_iadd dX8_sell_74 rfl) <|
  am_kc (ak_iload_n dX8_sell_75 rfl rfl) <|
  am_kc (ak_iast (t := 0) (fun _ => rfl) rfl dX8_sell_76 rfl) <|
  am_kc (ak_iconst dX8_sell_77 (by decide +kernel) rfl) <|
  am_kc (ak_retI dX8_sell_78) <| am_kn
def TX8_sell : am_T := fun live as M R => match as with
  | [.ref n, .int l, .int b, .int y] => am_mn live ∧ n = 200 ∧ am_F8 M ∧ R (some (.int (-2))) M
  | _ => False
set_option maxRecDepth 100000 in
set_option maxHeartbeats 4000000 in
theorem metX8_sell : am_Met yX8_sell cX8_sell 4 (some .int) (2) (46) TX8_sell := by
  refine am_met (own := RX8) (by decide +kernel) rfl kX8_sell koX8_sell 300 (fun _ _ _ _ _ => none) (fun live as M Ret h => ?_) (fun _ _ _ _ _ _ _ _ hI => by cases hI)
  unfold TX8_sell at h
  split at h
  · next n l b y =>
    refine ⟨Nat.le_of_ble_eq_true rfl, ?_⟩
    change am_wp _ _ _ _ [(0, Value.ref n), (1, Value.int l), (2, Value.int b), (3, Value.int y)] _ _
    obtain ⟨⟨i1, i2, rfl⟩, rfl, hF, h⟩ := h
    have q0 : M.1 201 0 = 0 := hF.1 0 (by decide)
    have q1 : M.1 201 1 = 0 := hF.1 1 (by decide)
    repeat' (first | (with_reducible exact q0) | (with_reducible exact q1) | apply And.intro | exact rfl | (intro hx; exact absurd hx (by decide)) | (intro hx; exact absurd (by decide) hx) | decide | intro hx | (refine Exists.intro _ (And.intro rfl ?_)))
    all_goals try first | (with_reducible change am_tI _ _) | (change Ret _ _) | (change Ret _ _ _) | (change Exists _)
    all_goals try dsimp only at *
    all_goals try exact absurd ‹(1000 : Int64) = 0› (by decide)
    all_goals first | exact h | exact q0 | exact q1 | (left; exact ⟨i1, i2, rfl⟩) | exact ⟨i1, i2, rfl⟩
  · exact h.elim
theorem wd_1216 : Cond.constantLong "LearnLoansModel" 248 1000000000 ∈ am_ws := am_wsi (List.mem_of_getElem? (i := 1216) (by decide +kernel)) (by decide +kernel)
theorem wd_1232 : Cond.methodLink "LearnLoansModel" 253 yX8_lived ∈ am_ws := am_wsi (List.mem_of_getElem? (i := 1232) (by decide +kernel)) (by decide +kernel)
theorem wd_1234 : Cond.instanceMethod yX8_lived ∈ am_ws := am_wsi (List.mem_of_getElem? (i := 1234) (by decide +kernel)) (by decide +kernel)
theorem wd_51 : Cond.selects "LearnLoansModel" yX8_lived yX8_lived ∈ am_ws := am_wsi (List.mem_of_getElem? (i := 51) (by decide +kernel)) (by decide +kernel)
theorem wd_1235 : Cond.code yX8_lived cX8_lived 10 (some .long) ∈ am_ws := am_wsi (List.mem_of_getElem? (i := 1235) (by decide +kernel)) (by decide +kernel)
theorem dX8_early_0 : decode cX8_early 0 = .ok (.aload_n 0, 1) := by decide +kernel
theorem dX8_early_1 : decode cX8_early 1 = .ok (.iload_n 1, 1) := by decide +kernel
theorem dX8_early_2 : decode cX8_early 2 = .ok (.invokevirtual 76, 3) := by decide +kernel
theorem dX8_early_5 : decode cX8_early 5 = .ok (.ifCond .eq 30, 3) := by decide +kernel
theorem dX8_early_8 : decode cX8_early 8 = .ok (.iload_n 2, 1) := by decide +kernel
theorem dX8_early_9 : decode cX8_early 9 = .ok (.i2l, 1) := by decide +kernel
theorem dX8_early_10 : decode cX8_early 10 = .ok (.lconst 1, 1) := by decide +kernel
theorem dX8_early_11 : decode cX8_early 11 = .ok (.ldc2_w 248, 3) := by decide +kernel
theorem dX8_early_14 : decode cX8_early 14 = .ok (.invokestatic 66, 3) := by decide +kernel
theorem dX8_early_17 : decode cX8_early 17 = .ok (.ifCond .eq 18, 3) := by decide +kernel
theorem dX8_early_20 : decode cX8_early 20 = .ok (.iload_n 3, 1) := by decide +kernel
theorem dX8_early_21 : decode cX8_early 21 = .ok (.invokestatic 72, 3) := by decide +kernel
theorem dX8_early_24 : decode cX8_early 24 = .ok (.ifCond .eq 11, 3) := by decide +kernel
theorem dX8_early_27 : decode cX8_early 27 = .ok (.iload 4, 2) := by decide +kernel
theorem dX8_early_29 : decode cX8_early 29 = .ok (.invokestatic 72, 3) := by decide +kernel
theorem dX8_early_32 : decode cX8_early 32 = .ok (.ifCond .ne 6, 3) := by decide +kernel
theorem dX8_early_35 : decode cX8_early 35 = .ok (.bipush (-2), 2) := by decide +kernel
theorem dX8_early_37 : decode cX8_early 37 = .ok (.ireturn, 1) := by decide +kernel
theorem dX8_early_38 : decode cX8_early 38 = .ok (.iconst 0, 1) := by decide +kernel
theorem dX8_early_39 : decode cX8_early 39 = .ok (.istore 5, 2) := by decide +kernel
theorem dX8_early_41 : decode cX8_early 41 = .ok (.iconst 0, 1) := by decide +kernel
theorem dX8_early_42 : decode cX8_early 42 = .ok (.istore 6, 2) := by decide +kernel
theorem dX8_early_44 : decode cX8_early 44 = .ok (.iload 6, 2) := by decide +kernel
theorem dX8_early_46 : decode cX8_early 46 = .ok (.iconst 4, 1) := by decide +kernel
theorem dX8_early_47 : decode cX8_early 47 = .ok (.if_icmp .ge 49, 3) := by decide +kernel
theorem dX8_early_50 : decode cX8_early 50 = .ok (.iload 5, 2) := by decide +kernel
theorem dX8_early_52 : decode cX8_early 52 = .ok (.aload_n 0, 1) := by decide +kernel
theorem dX8_early_53 : decode cX8_early 53 = .ok (.iload_n 1, 1) := by decide +kernel
theorem dX8_early_54 : decode cX8_early 54 = .ok (.iload 6, 2) := by decide +kernel
theorem dX8_early_56 : decode cX8_early 56 = .ok (.iload_n 3, 1) := by decide +kernel
theorem dX8_early_57 : decode cX8_early 57 = .ok (.iload 4, 2) := by decide +kernel
theorem dX8_early_59 : decode cX8_early 59 = .ok (.iload_n 2, 1) := by decide +kernel
theorem dX8_early_60 : decode cX8_early 60 = .ok (.i2l, 1) := by decide +kernel
theorem dX8_early_61 : decode cX8_early 61 = .ok (.invokevirtual 253, 3) := by decide +kernel
theorem dX8_early_64 : decode cX8_early 64 = .ok (.aload_n 0, 1) := by decide +kernel
theorem dX8_early_65 : decode cX8_early 65 = .ok (.iload_n 1, 1) := by decide +kernel
theorem dX8_early_66 : decode cX8_early 66 = .ok (.iload 6, 2) := by decide +kernel
theorem dX8_early_68 : decode cX8_early 68 = .ok (.iload_n 3, 1) := by decide +kernel
theorem dX8_early_69 : decode cX8_early 69 = .ok (.iload 4, 2) := by decide +kernel
theorem dX8_early_71 : decode cX8_early 71 = .ok (.lconst 0, 1) := by decide +kernel
theorem dX8_early_72 : decode cX8_early 72 = .ok (.invokevirtual 253, 3) := by decide +kernel
theorem dX8_early_75 : decode cX8_early 75 = .ok (.lcmp, 1) := by decide +kernel
theorem dX8_early_76 : decode cX8_early 76 = .ok (.ifCond .ge 10, 3) := by decide +kernel
theorem dX8_early_79 : decode cX8_early 79 = .ok (.iconst 1, 1) := by decide +kernel
theorem dX8_early_80 : decode cX8_early 80 = .ok (.iload 6, 2) := by decide +kernel
theorem dX8_early_82 : decode cX8_early 82 = .ok (.ishl, 1) := by decide +kernel
theorem dX8_early_83 : decode cX8_early 83 = .ok (.goto 4, 3) := by decide +kernel
theorem dX8_early_86 : decode cX8_early 86 = .ok (.iconst 0, 1) := by decide +kernel
theorem dX8_early_87 : decode cX8_early 87 = .ok (.ior, 1) := by decide +kernel
theorem dX8_early_88 : decode cX8_early 88 = .ok (.istore 5, 2) := by decide +kernel
theorem dX8_early_90 : decode cX8_early 90 = .ok (.iinc 6 1, 3) := by decide +kernel
theorem dX8_early_93 : decode cX8_early 93 = .ok (.goto (-49), 3) := by decide +kernel
theorem dX8_early_96 : decode cX8_early 96 = .ok (.iload 5, 2) := by decide +kernel
theorem dX8_early_98 : decode cX8_early 98 = .ok (.ireturn, 1) := by decide +kernel
def kX8_early (live : am_E) (Ret : am_R) : am_code := [(0, am_aload 0 1), (1, am_iload 1 2), (2, am_callV live 8 1 TX8_isPerson 5), (5, am_if1 (fun x => x = 0) 35 8), (8, am_iload 2 9), (9, am_i2l 10), (10, am_const (.long 1) 11), (11, am_const (.long 1000000000) 14), (14, am_callS live 3 TX8_in 17), (17, am_if1 (fun x => x = 0) 35 20), (20, am_iload 3 21), (21, am_callS live 1 TX8_isYear 24), (24, am_if1 (fun x => x = 0) 35 27), (27, am_iload 4 29), (29, am_callS live 1 TX8_isYear 32), (32, am_if1 (fun x => x = 0) 35 38), (35, am_const (.int (-2)) 37), (37, am_retI Ret), (38, am_const (.int 0) 39), (39, am_istore 5 7 41), (41, am_const (.int 0) 42), (42, am_istore 6 7 44), (44, am_iload 6 46), (46, am_const (.int 4) 47), (47, am_if2 (fun x y => y ≤ x) 96 50), (50, am_iload 5 52), (52, am_aload 0 53), (53, am_iload 1 54), (54, am_iload 6 56), (56, am_iload 3 57), (57, am_iload 4 59), (59, am_iload 2 60), (60, am_i2l 61), (61, am_callV live 8 5 am_TF 64), (64, am_aload 0 65), (65, am_iload 1 66), (66, am_iload 6 68), (68, am_iload 3 69), (69, am_iload 4 71), (71, am_const (.long 0) 72), (72, am_callV live 8 5 am_TF 75), (75, am_lcmp 76), (76, am_if1 (fun x => 0 ≤ x) 86 79), (79, am_const (.int 1) 80), (80, am_iload 6 82), (82, am_i2 (fun x y => x <<< (y &&& 31)) 83), (83, am_goto 87), (86, am_const (.int 0) 87), (87, am_i2 (fun x y => x ||| y) 88), (88, am_istore 5 7 90), (90, am_iinc 6 7 1 93), (93, am_goto 44), (96, am_iload 5 98), (98, am_retI Ret)]
theorem koX8_early (live : am_E) (Ret : am_R) : ∀ q ∈ kX8_early live Ret, am_ok RX8 cX8_early 7 (some .int) 2 46 live Ret q.1 q.2 :=
  am_kc (ak_aload_n dX8_early_0 rfl rfl) <|
  am_kc (ak_iload_n dX8_early_1 rfl rfl) <|
  am_kc (ak_callV (C := RX8) (F := TX8) (N := 27) metX8_isPerson rfl ⟨rfl, by decide +kernel, by decide +kernel, by decide +kernel⟩ (am_w5 wd_993 wd_995 wd_27 wd_67 wd_996) (by decide) dX8_early_2 rfl) <|
  am_kc (ak_if_eq dX8_early_5 (by decide +kernel) rfl) <|
  am_kc (ak_iload_n dX8_early_8 rfl rfl) <|
  am_kc (ak_i2l dX8_early_9 rfl) <|
  am_kc (ak_lconst dX8_early_10 (by decide +kernel) rfl) <|
  am_kc (ak_ldc2 wd_1216 dX8_early_11 rfl) <|
  am_kc (ak_callS metX8_in ⟨rfl, by decide +kernel, by decide +kernel, by decide +kernel⟩ (am_w4 wd_986 wd_987 wd_67 wd_988) (by decide) dX8_early_14 rfl) <|
  am_kc (ak_if_eq dX8_early_17 (by decide +kernel) rfl) <|
  am_kc (ak_iload_n dX8_early_20 rfl rfl) <|
  am_kc (ak_callS metX8_isYear ⟨rfl, by decide +kernel, by decide +kernel, by decide +kernel⟩ (am_w4 wd_982 wd_983 wd_67 wd_984) (by decide) dX8_early_21 rfl) <|
  am_kc (ak_if_eq dX8_early_24 (by decide +kernel) rfl) <|
  am_kc (ak_iload dX8_early_27 rfl) <|
  am_kc (ak_callS metX8_isYear ⟨rfl, by decide +kernel, by decide +kernel, by decide +kernel⟩ (am_w4 wd_982 wd_983 wd_67 wd_984) (by decide) dX8_early_29 rfl) <|
  am_kc (ak_if_ne dX8_early_32 (by decide +kernel) rfl) <|
  am_kc (ak_bipush dX8_early_35 (by decide +kernel) rfl) <|
  am_kc (ak_retI dX8_early_37) <|
  am_kc (ak_iconst dX8_early_38 (by decide +kernel) rfl) <|
  am_kc (ak_istore dX8_early_39 rfl) <|
  am_kc (ak_iconst dX8_early_41 (by decide +kernel) rfl) <|
  am_kc (ak_istore dX8_early_42 rfl) <|
  am_kc (ak_iload dX8_early_44 rfl) <|
  am_kc (ak_iconst dX8_early_46 (by decide +kernel) rfl) <|
  am_kc (ak_icmp_ge dX8_early_47 (by decide +kernel) rfl) <|
  am_kc (ak_iload dX8_early_50 rfl) <|
  am_kc (ak_aload_n dX8_early_52 rfl rfl) <|
  am_kc (ak_iload_n dX8_early_53 rfl rfl) <|
  am_kc (ak_iload dX8_early_54 rfl) <|
  am_kc (ak_iload_n dX8_early_56 rfl rfl) <|
  am_kc (ak_iload dX8_early_57 rfl) <|
  am_kc (ak_iload_n dX8_early_59 rfl rfl) <|
  am_kc (ak_i2l dX8_early_60 rfl) <|
  am_kc (ak_callV (C := RX8) (F := TX8) (N := 27) (am_metF _ _ _ _) rfl ⟨rfl, by decide +kernel, by decide +kernel, by decide +kernel⟩ (am_w5 wd_1232 wd_1234 wd_51 wd_67 wd_1235) (by decide) dX8_early_61 rfl) <|
  am_kc (ak_aload_n dX8_early_64 rfl rfl) <|
  am_kc (ak_iload_n dX8_early_65 rfl rfl) <|
  am_kc (ak_iload dX8_early_66 rfl) <|
  am_kc (ak_iload_n dX8_early_68 rfl rfl) <|
  am_kc (ak_iload dX8_early_69 rfl) <|
  am_kc (ak_lconst dX8_early_71 (by decide +kernel) rfl) <|
  am_kc (ak_callV (C := RX8) (F := TX8) (N := 27) (am_metF _ _ _ _) rfl ⟨rfl, by decide +kernel, by decide +kernel, by decide +kernel⟩ (am_w5 wd_1232 wd_1234 wd_51 wd_67 wd_1235) (by decide) dX8_early_72 rfl) <|
  am_kc (ak_lcmp dX8_early_75 rfl) <|
  am_kc (ak_if_ge dX8_early_76 (by decide +kernel) rfl) <|
  am_kc (ak_iconst dX8_early_79 (by decide +kernel) rfl) <|
  am_kc (ak_iload dX8_early_80 rfl) <|
  am_kc (ak_ishl dX8_early_82 rfl) <|
  am_kc (ak_goto dX8_early_83 (by decide +kernel)) <|
  am_kc (ak_iconst dX8_early_86 (by decide +kernel) rfl) <|
  am_kc (ak_ior dX8_early_87 rfl) <|
  am_kc (ak_istore dX8_early_88 rfl) <|
  am_kc (ak_iinc dX8_early_90 (by decide +kernel) rfl) <|
  am_kc (ak_goto dX8_early_93 (by decide +kernel)) <|
  am_kc (ak_iload dX8_early_96 rfl) <|
  am_kc (ak_retI dX8_early_98) <| am_kn
def TX8_early : am_T := fun live as M R => match as with
  | [.ref n, .int p, .int s, .int y, .int k] => am_mn live ∧ n = 200 ∧ am_F8 M ∧ R (some (.int (-2))) M
  | _ => False
set_option maxRecDepth 100000 in
set_option maxHeartbeats 4000000 in
theorem metX8_early : am_Met yX8_early cX8_early 7 (some .int) (2) (46) TX8_early := by
  refine am_met (own := RX8) (by decide +kernel) rfl kX8_early koX8_early 300 (fun _ _ _ _ _ => none) (fun live as M Ret h => ?_) (fun _ _ _ _ _ _ _ _ hI => by cases hI)
  unfold TX8_early at h
  split at h
  · next n p s y k =>
    refine ⟨Nat.le_of_ble_eq_true rfl, ?_⟩
    change am_wp _ _ _ _ [(0, Value.ref n), (1, Value.int p), (2, Value.int s), (3, Value.int y), (4, Value.int k)] _ _
    obtain ⟨⟨i1, i2, rfl⟩, rfl, hF, h⟩ := h
    have q0 : M.1 201 0 = 0 := hF.1 0 (by decide)
    have q1 : M.1 201 1 = 0 := hF.1 1 (by decide)
    repeat' (first | (with_reducible exact q0) | (with_reducible exact q1) | apply And.intro | exact rfl | (intro hx; exact absurd hx (by decide)) | (intro hx; exact absurd (by decide) hx) | decide | intro hx | (refine Exists.intro _ (And.intro rfl ?_)))
    all_goals try first | (with_reducible change am_tI _ _) | (change Ret _ _) | (change Ret _ _ _) | (change Exists _)
    all_goals try dsimp only at *
    all_goals try exact absurd ‹(1000 : Int64) = 0› (by decide)
    all_goals first | exact h | exact q0 | exact q1 | (left; exact ⟨i1, i2, rfl⟩) | exact ⟨i1, i2, rfl⟩
  · exact h.elim
theorem wd_1225 : Cond.methodLink "LearnLoansModel" 250 yX8_isLife ∈ am_ws := am_wsi (List.mem_of_getElem? (i := 1225) (by decide +kernel)) (by decide +kernel)
theorem wd_1226 : Cond.static yX8_isLife ∈ am_ws := am_wsi (List.mem_of_getElem? (i := 1226) (by decide +kernel)) (by decide +kernel)
theorem wd_1227 : Cond.code yX8_isLife cX8_isLife 1 (some .boolean) ∈ am_ws := am_wsi (List.mem_of_getElem? (i := 1227) (by decide +kernel)) (by decide +kernel)
theorem wd_903 : Cond.fieldLink "LearnLoansModel" 138 "LearnLoansModel" "leadFrom" "I" ∈ am_ws := am_wsi (List.mem_of_getElem? (i := 903) (by decide +kernel)) (by decide +kernel)
theorem dX8_choice_0 : decode cX8_choice 0 = .ok (.aload_n 0, 1) := by decide +kernel
theorem dX8_choice_1 : decode cX8_choice 1 = .ok (.iload_n 1, 1) := by decide +kernel
theorem dX8_choice_2 : decode cX8_choice 2 = .ok (.invokevirtual 76, 3) := by decide +kernel
theorem dX8_choice_5 : decode cX8_choice 5 = .ok (.ifCond .eq 38, 3) := by decide +kernel
theorem dX8_choice_8 : decode cX8_choice 8 = .ok (.iload_n 2, 1) := by decide +kernel
theorem dX8_choice_9 : decode cX8_choice 9 = .ok (.iconst (-1), 1) := by decide +kernel
theorem dX8_choice_10 : decode cX8_choice 10 = .ok (.if_icmp .eq 10, 3) := by decide +kernel
theorem dX8_choice_13 : decode cX8_choice 13 = .ok (.iload_n 2, 1) := by decide +kernel
theorem dX8_choice_14 : decode cX8_choice 14 = .ok (.invokestatic 104, 3) := by decide +kernel
theorem dX8_choice_17 : decode cX8_choice 17 = .ok (.ifCond .eq 26, 3) := by decide +kernel
theorem dX8_choice_20 : decode cX8_choice 20 = .ok (.iload_n 3, 1) := by decide +kernel
theorem dX8_choice_21 : decode cX8_choice 21 = .ok (.invokestatic 250, 3) := by decide +kernel
theorem dX8_choice_24 : decode cX8_choice 24 = .ok (.ifCond .eq 19, 3) := by decide +kernel
theorem dX8_choice_27 : decode cX8_choice 27 = .ok (.iload 4, 2) := by decide +kernel
theorem dX8_choice_29 : decode cX8_choice 29 = .ok (.invokestatic 72, 3) := by decide +kernel
theorem dX8_choice_32 : decode cX8_choice 32 = .ok (.ifCond .eq 11, 3) := by decide +kernel
theorem dX8_choice_35 : decode cX8_choice 35 = .ok (.iload 5, 2) := by decide +kernel
theorem dX8_choice_37 : decode cX8_choice 37 = .ok (.invokestatic 72, 3) := by decide +kernel
theorem dX8_choice_40 : decode cX8_choice 40 = .ok (.ifCond .ne 7, 3) := by decide +kernel
theorem dX8_choice_43 : decode cX8_choice 43 = .ok (.ldc2_w 237, 3) := by decide +kernel
theorem dX8_choice_46 : decode cX8_choice 46 = .ok (.lreturn, 1) := by decide +kernel
theorem dX8_choice_47 : decode cX8_choice 47 = .ok (.aload_n 0, 1) := by decide +kernel
theorem dX8_choice_48 : decode cX8_choice 48 = .ok (.iload_n 2, 1) := by decide +kernel
theorem dX8_choice_49 : decode cX8_choice 49 = .ok (.putfield 61, 3) := by decide +kernel
theorem dX8_choice_52 : decode cX8_choice 52 = .ok (.aload_n 0, 1) := by decide +kernel
theorem dX8_choice_53 : decode cX8_choice 53 = .ok (.iload 4, 2) := by decide +kernel
theorem dX8_choice_55 : decode cX8_choice 55 = .ok (.putfield 138, 3) := by decide +kernel
theorem dX8_choice_58 : decode cX8_choice 58 = .ok (.aload_n 0, 1) := by decide +kernel
theorem dX8_choice_59 : decode cX8_choice 59 = .ok (.iload_n 1, 1) := by decide +kernel
theorem dX8_choice_60 : decode cX8_choice 60 = .ok (.iload_n 3, 1) := by decide +kernel
theorem dX8_choice_61 : decode cX8_choice 61 = .ok (.iload 4, 2) := by decide +kernel
theorem dX8_choice_63 : decode cX8_choice 63 = .ok (.iload 5, 2) := by decide +kernel
theorem dX8_choice_65 : decode cX8_choice 65 = .ok (.lconst 0, 1) := by decide +kernel
theorem dX8_choice_66 : decode cX8_choice 66 = .ok (.invokevirtual 253, 3) := by decide +kernel
theorem dX8_choice_69 : decode cX8_choice 69 = .ok (.lstore 6, 2) := by decide +kernel
theorem dX8_choice_71 : decode cX8_choice 71 = .ok (.aload_n 0, 1) := by decide +kernel
theorem dX8_choice_72 : decode cX8_choice 72 = .ok (.iconst (-1), 1) := by decide +kernel
theorem dX8_choice_73 : decode cX8_choice 73 = .ok (.putfield 61, 3) := by decide +kernel
theorem dX8_choice_76 : decode cX8_choice 76 = .ok (.lload 6, 2) := by decide +kernel
theorem dX8_choice_78 : decode cX8_choice 78 = .ok (.lreturn, 1) := by decide +kernel
def kX8_choice (live : am_E) (Ret : am_R) : am_code := [(0, am_aload 0 1), (1, am_iload 1 2), (2, am_callV live 8 1 TX8_isPerson 5), (5, am_if1 (fun x => x = 0) 43 8), (8, am_iload 2 9), (9, am_const (.int (-1)) 10), (10, am_if2 (fun x y => x = y) 20 13), (13, am_iload 2 14), (14, am_callS live 1 TX8_isPlan 17), (17, am_if1 (fun x => x = 0) 43 20), (20, am_iload 3 21), (21, am_callS live 1 TX8_isLife 24), (24, am_if1 (fun x => x = 0) 43 27), (27, am_iload 4 29), (29, am_callS live 1 TX8_isYear 32), (32, am_if1 (fun x => x = 0) 43 35), (35, am_iload 5 37), (37, am_callS live 1 TX8_isYear 40), (40, am_if1 (fun x => x = 0) 43 47), (43, am_const (.long (-2)) 46), (46, am_retL Ret), (47, am_aload 0 48), (48, am_iload 2 49), (49, am_putI live 8 7 52), (52, am_aload 0 53), (53, am_iload 4 55), (55, am_putI live 8 8 58), (58, am_aload 0 59), (59, am_iload 1 60), (60, am_iload 3 61), (61, am_iload 4 63), (63, am_iload 5 65), (65, am_const (.long 0) 66), (66, am_callV live 8 5 am_TF 69), (69, am_lstore 6 8 71), (71, am_aload 0 72), (72, am_const (.int (-1)) 73), (73, am_putI live 8 7 76), (76, am_lload 6 78), (78, am_retL Ret)]
theorem koX8_choice (live : am_E) (Ret : am_R) : ∀ q ∈ kX8_choice live Ret, am_ok RX8 cX8_choice 8 (some .long) 2 46 live Ret q.1 q.2 :=
  am_kc (ak_aload_n dX8_choice_0 rfl rfl) <|
  am_kc (ak_iload_n dX8_choice_1 rfl rfl) <|
  am_kc (ak_callV (C := RX8) (F := TX8) (N := 27) metX8_isPerson rfl ⟨rfl, by decide +kernel, by decide +kernel, by decide +kernel⟩ (am_w5 wd_993 wd_995 wd_27 wd_67 wd_996) (by decide) dX8_choice_2 rfl) <|
  am_kc (ak_if_eq dX8_choice_5 (by decide +kernel) rfl) <|
  am_kc (ak_iload_n dX8_choice_8 rfl rfl) <|
  am_kc (ak_iconst dX8_choice_9 (by decide +kernel) rfl) <|
  am_kc (ak_icmp_eq dX8_choice_10 (by decide +kernel) rfl) <|
  am_kc (ak_iload_n dX8_choice_13 rfl rfl) <|
  am_kc (ak_callS metX8_isPlan ⟨rfl, by decide +kernel, by decide +kernel, by decide +kernel⟩ (am_w4 wd_1034 wd_1035 wd_67 wd_1036) (by decide) dX8_choice_14 rfl) <|
  am_kc (ak_if_eq dX8_choice_17 (by decide +kernel) rfl) <|
  am_kc (ak_iload_n dX8_choice_20 rfl rfl) <|
  am_kc (ak_callS metX8_isLife ⟨rfl, by decide +kernel, by decide +kernel, by decide +kernel⟩ (am_w4 wd_1225 wd_1226 wd_67 wd_1227) (by decide) dX8_choice_21 rfl) <|
  am_kc (ak_if_eq dX8_choice_24 (by decide +kernel) rfl) <|
  am_kc (ak_iload dX8_choice_27 rfl) <|
  am_kc (ak_callS metX8_isYear ⟨rfl, by decide +kernel, by decide +kernel, by decide +kernel⟩ (am_w4 wd_982 wd_983 wd_67 wd_984) (by decide) dX8_choice_29 rfl) <|
  am_kc (ak_if_eq dX8_choice_32 (by decide +kernel) rfl) <|
  am_kc (ak_iload dX8_choice_35 rfl) <|
  am_kc (ak_callS metX8_isYear ⟨rfl, by decide +kernel, by decide +kernel, by decide +kernel⟩ (am_w4 wd_982 wd_983 wd_67 wd_984) (by decide) dX8_choice_37 rfl) <|
  am_kc (ak_if_ne dX8_choice_40 (by decide +kernel) rfl) <|
  am_kc (ak_ldc2 wd_1153 dX8_choice_43 rfl) <|
  am_kc (ak_retL dX8_choice_46) <|
  am_kc (ak_aload_n dX8_choice_47 rfl rfl) <|
  am_kc (ak_iload_n dX8_choice_48 rfl rfl) <|
  am_kc (ak_putI (C := RX8) (T := TX8) (N := 27) rfl inX8w tyX8_ok nmX8 (by decide) rfl rfl rfl rfl (by decide +kernel) wd_902 dX8_choice_49 rfl) <|
  am_kc (ak_aload_n dX8_choice_52 rfl rfl) <|
  am_kc (ak_iload dX8_choice_53 rfl) <|
  am_kc (ak_putI (C := RX8) (T := TX8) (N := 27) rfl inX8w tyX8_ok nmX8 (by decide) rfl rfl rfl rfl (by decide +kernel) wd_903 dX8_choice_55 rfl) <|
  am_kc (ak_aload_n dX8_choice_58 rfl rfl) <|
  am_kc (ak_iload_n dX8_choice_59 rfl rfl) <|
  am_kc (ak_iload_n dX8_choice_60 rfl rfl) <|
  am_kc (ak_iload dX8_choice_61 rfl) <|
  am_kc (ak_iload dX8_choice_63 rfl) <|
  am_kc (ak_lconst dX8_choice_65 (by decide +kernel) rfl) <|
  am_kc (ak_callV (C := RX8) (F := TX8) (N := 27) (am_metF _ _ _ _) rfl ⟨rfl, by decide +kernel, by decide +kernel, by decide +kernel⟩ (am_w5 wd_1232 wd_1234 wd_51 wd_67 wd_1235) (by decide) dX8_choice_66 rfl) <|
  am_kc (ak_lstore dX8_choice_69 rfl) <|
  am_kc (ak_aload_n dX8_choice_71 rfl rfl) <|
  am_kc (ak_iconst dX8_choice_72 (by decide +kernel) rfl) <|
  am_kc (ak_putI (C := RX8) (T := TX8) (N := 27) rfl inX8w tyX8_ok nmX8 (by decide) rfl rfl rfl rfl (by decide +kernel) wd_902 dX8_choice_73 rfl) <|
  am_kc (ak_lload dX8_choice_76 rfl) <|
  am_kc (ak_retL dX8_choice_78) <| am_kn
def TX8_choice : am_T := fun live as M R => match as with
  | [.ref n, .int p, .int l, .int f, .int y, .int k] => am_mn live ∧ n = 200 ∧ am_F8 M ∧ R (some (.long (-2))) M
  | _ => False
set_option maxRecDepth 100000 in
set_option maxHeartbeats 4000000 in
theorem metX8_choice : am_Met yX8_choice cX8_choice 8 (some .long) (2) (46) TX8_choice := by
  refine am_met (own := RX8) (by decide +kernel) rfl kX8_choice koX8_choice 300 (fun _ _ _ _ _ => none) (fun live as M Ret h => ?_) (fun _ _ _ _ _ _ _ _ hI => by cases hI)
  unfold TX8_choice at h
  split at h
  · next n p l f y k =>
    refine ⟨Nat.le_of_ble_eq_true rfl, ?_⟩
    change am_wp _ _ _ _ [(0, Value.ref n), (1, Value.int p), (2, Value.int l), (3, Value.int f), (4, Value.int y), (5, Value.int k)] _ _
    obtain ⟨⟨i1, i2, rfl⟩, rfl, hF, h⟩ := h
    have q0 : M.1 201 0 = 0 := hF.1 0 (by decide)
    have q1 : M.1 201 1 = 0 := hF.1 1 (by decide)
    repeat' (first | (with_reducible exact q0) | (with_reducible exact q1) | apply And.intro | exact rfl | (intro hx; exact absurd hx (by decide)) | (intro hx; exact absurd (by decide) hx) | decide | intro hx | (refine Exists.intro _ (And.intro rfl ?_)))
    all_goals try first | (with_reducible change am_tI _ _) | (change Ret _ _) | (change Ret _ _ _) | (change Exists _)
    all_goals try dsimp only at *
    all_goals try exact absurd ‹(1000 : Int64) = 0› (by decide)
    all_goals first | exact h | exact q0 | exact q1 | (left; exact ⟨i1, i2, rfl⟩) | exact ⟨i1, i2, rfl⟩
  · exact h.elim
theorem wd_1249 : Cond.methodLink "LearnLoansModel" 271 yX8_keep ∈ am_ws := am_wsi (List.mem_of_getElem? (i := 1249) (by decide +kernel)) (by decide +kernel)
theorem wd_1251 : Cond.instanceMethod yX8_keep ∈ am_ws := am_wsi (List.mem_of_getElem? (i := 1251) (by decide +kernel)) (by decide +kernel)
theorem wd_52 : Cond.selects "LearnLoansModel" yX8_keep yX8_keep ∈ am_ws := am_wsi (List.mem_of_getElem? (i := 52) (by decide +kernel)) (by decide +kernel)
theorem wd_1252 : Cond.code yX8_keep cX8_keep 2 none ∈ am_ws := am_wsi (List.mem_of_getElem? (i := 1252) (by decide +kernel)) (by decide +kernel)
theorem wd_1253 : Cond.constantLong "LearnLoansModel" 274 (-1) ∈ am_ws := am_wsi (List.mem_of_getElem? (i := 1253) (by decide +kernel)) (by decide +kernel)
theorem wd_1254 : Cond.methodLink "LearnLoansModel" 276 yX8_goWay ∈ am_ws := am_wsi (List.mem_of_getElem? (i := 1254) (by decide +kernel)) (by decide +kernel)
theorem wd_1256 : Cond.instanceMethod yX8_goWay ∈ am_ws := am_wsi (List.mem_of_getElem? (i := 1256) (by decide +kernel)) (by decide +kernel)
theorem wd_53 : Cond.selects "LearnLoansModel" yX8_goWay yX8_goWay ∈ am_ws := am_wsi (List.mem_of_getElem? (i := 53) (by decide +kernel)) (by decide +kernel)
theorem wd_1257 : Cond.code yX8_goWay cX8_goWay 12 (some .long) ∈ am_ws := am_wsi (List.mem_of_getElem? (i := 1257) (by decide +kernel)) (by decide +kernel)
theorem wd_920 : Cond.fieldLink "LearnLoansModel" 262 "LearnLoansModel" "takenWay" "J" ∈ am_ws := am_wsi (List.mem_of_getElem? (i := 920) (by decide +kernel)) (by decide +kernel)
theorem wd_921 : Cond.fieldLink "LearnLoansModel" 265 "LearnLoansModel" "neverWay" "J" ∈ am_ws := am_wsi (List.mem_of_getElem? (i := 921) (by decide +kernel)) (by decide +kernel)
theorem dX8_foretold_0 : decode cX8_foretold 0 = .ok (.aload_n 0, 1) := by decide +kernel
theorem dX8_foretold_1 : decode cX8_foretold 1 = .ok (.iload_n 1, 1) := by decide +kernel
theorem dX8_foretold_2 : decode cX8_foretold 2 = .ok (.invokevirtual 76, 3) := by decide +kernel
theorem dX8_foretold_5 : decode cX8_foretold 5 = .ok (.ifCond .eq 71, 3) := by decide +kernel
theorem dX8_foretold_8 : decode cX8_foretold 8 = .ok (.iload_n 2, 1) := by decide +kernel
theorem dX8_foretold_9 : decode cX8_foretold 9 = .ok (.i2l, 1) := by decide +kernel
theorem dX8_foretold_10 : decode cX8_foretold 10 = .ok (.lconst 0, 1) := by decide +kernel
theorem dX8_foretold_11 : decode cX8_foretold 11 = .ok (.ldc2_w 79, 3) := by decide +kernel
theorem dX8_foretold_14 : decode cX8_foretold 14 = .ok (.invokestatic 66, 3) := by decide +kernel
theorem dX8_foretold_17 : decode cX8_foretold 17 = .ok (.ifCond .eq 59, 3) := by decide +kernel
theorem dX8_foretold_20 : decode cX8_foretold 20 = .ok (.iload_n 3, 1) := by decide +kernel
theorem dX8_foretold_21 : decode cX8_foretold 21 = .ok (.i2l, 1) := by decide +kernel
theorem dX8_foretold_22 : decode cX8_foretold 22 = .ok (.lconst 0, 1) := by decide +kernel
theorem dX8_foretold_23 : decode cX8_foretold 23 = .ok (.ldc2_w 87, 3) := by decide +kernel
theorem dX8_foretold_26 : decode cX8_foretold 26 = .ok (.invokestatic 66, 3) := by decide +kernel
theorem dX8_foretold_29 : decode cX8_foretold 29 = .ok (.ifCond .eq 47, 3) := by decide +kernel
theorem dX8_foretold_32 : decode cX8_foretold 32 = .ok (.iload 4, 2) := by decide +kernel
theorem dX8_foretold_34 : decode cX8_foretold 34 = .ok (.invokestatic 72, 3) := by decide +kernel
theorem dX8_foretold_37 : decode cX8_foretold 37 = .ok (.ifCond .eq 39, 3) := by decide +kernel
theorem dX8_foretold_40 : decode cX8_foretold 40 = .ok (.iload 5, 2) := by decide +kernel
theorem dX8_foretold_42 : decode cX8_foretold 42 = .ok (.i2l, 1) := by decide +kernel
theorem dX8_foretold_43 : decode cX8_foretold 43 = .ok (.lconst 1, 1) := by decide +kernel
theorem dX8_foretold_44 : decode cX8_foretold 44 = .ok (.ldc2_w 102, 3) := by decide +kernel
theorem dX8_foretold_47 : decode cX8_foretold 47 = .ok (.invokestatic 66, 3) := by decide +kernel
theorem dX8_foretold_50 : decode cX8_foretold 50 = .ok (.ifCond .eq 26, 3) := by decide +kernel
theorem dX8_foretold_53 : decode cX8_foretold 53 = .ok (.iload 4, 2) := by decide +kernel
theorem dX8_foretold_55 : decode cX8_foretold 55 = .ok (.iload 5, 2) := by decide +kernel
theorem dX8_foretold_57 : decode cX8_foretold 57 = .ok (.iadd, 1) := by decide +kernel
theorem dX8_foretold_58 : decode cX8_foretold 58 = .ok (.bipush 40, 2) := by decide +kernel
theorem dX8_foretold_60 : decode cX8_foretold 60 = .ok (.if_icmp .gt 16, 3) := by decide +kernel
theorem dX8_foretold_63 : decode cX8_foretold 63 = .ok (.iload 6, 2) := by decide +kernel
theorem dX8_foretold_65 : decode cX8_foretold 65 = .ok (.i2l, 1) := by decide +kernel
theorem dX8_foretold_66 : decode cX8_foretold 66 = .ok (.lconst 0, 1) := by decide +kernel
theorem dX8_foretold_67 : decode cX8_foretold 67 = .ok (.ldc2_w 79, 3) := by decide +kernel
theorem dX8_foretold_70 : decode cX8_foretold 70 = .ok (.invokestatic 66, 3) := by decide +kernel
theorem dX8_foretold_73 : decode cX8_foretold 73 = .ok (.ifCond .ne 7, 3) := by decide +kernel
theorem dX8_foretold_76 : decode cX8_foretold 76 = .ok (.ldc2_w 237, 3) := by decide +kernel
theorem dX8_foretold_79 : decode cX8_foretold 79 = .ok (.lreturn, 1) := by decide +kernel
theorem dX8_foretold_80 : decode cX8_foretold 80 = .ok (.aload_n 0, 1) := by decide +kernel
theorem dX8_foretold_81 : decode cX8_foretold 81 = .ok (.iload_n 1, 1) := by decide +kernel
theorem dX8_foretold_82 : decode cX8_foretold 82 = .ok (.iload 4, 2) := by decide +kernel
theorem dX8_foretold_84 : decode cX8_foretold 84 = .ok (.iconst 1, 1) := by decide +kernel
theorem dX8_foretold_85 : decode cX8_foretold 85 = .ok (.isub, 1) := by decide +kernel
theorem dX8_foretold_86 : decode cX8_foretold 86 = .ok (.bipush 39, 2) := by decide +kernel
theorem dX8_foretold_88 : decode cX8_foretold 88 = .ok (.invokevirtual 239, 3) := by decide +kernel
theorem dX8_foretold_91 : decode cX8_foretold 91 = .ok (.aload_n 0, 1) := by decide +kernel
theorem dX8_foretold_92 : decode cX8_foretold 92 = .ok (.invokevirtual 271, 3) := by decide +kernel
theorem dX8_foretold_95 : decode cX8_foretold 95 = .ok (.lconst 0, 1) := by decide +kernel
theorem dX8_foretold_96 : decode cX8_foretold 96 = .ok (.lstore 7, 2) := by decide +kernel
theorem dX8_foretold_98 : decode cX8_foretold 98 = .ok (.lconst 0, 1) := by decide +kernel
theorem dX8_foretold_99 : decode cX8_foretold 99 = .ok (.lstore 9, 2) := by decide +kernel
theorem dX8_foretold_101 : decode cX8_foretold 101 = .ok (.ldc2_w 274, 3) := by decide +kernel
theorem dX8_foretold_104 : decode cX8_foretold 104 = .ok (.lstore 11, 2) := by decide +kernel
theorem dX8_foretold_106 : decode cX8_foretold 106 = .ok (.ldc2_w 274, 3) := by decide +kernel
theorem dX8_foretold_109 : decode cX8_foretold 109 = .ok (.lstore 13, 2) := by decide +kernel
theorem dX8_foretold_111 : decode cX8_foretold 111 = .ok (.iconst 0, 1) := by decide +kernel
theorem dX8_foretold_112 : decode cX8_foretold 112 = .ok (.istore 15, 2) := by decide +kernel
theorem dX8_foretold_114 : decode cX8_foretold 114 = .ok (.iload 15, 2) := by decide +kernel
theorem dX8_foretold_116 : decode cX8_foretold 116 = .ok (.iconst 1, 1) := by decide +kernel
theorem dX8_foretold_117 : decode cX8_foretold 117 = .ok (.iconst 2, 1) := by decide +kernel
theorem dX8_foretold_118 : decode cX8_foretold 118 = .ok (.iload 5, 2) := by decide +kernel
theorem dX8_foretold_120 : decode cX8_foretold 120 = .ok (.iconst 1, 1) := by decide +kernel
theorem dX8_foretold_121 : decode cX8_foretold 121 = .ok (.isub, 1) := by decide +kernel
theorem dX8_foretold_122 : decode cX8_foretold 122 = .ok (.imul, 1) := by decide +kernel
theorem dX8_foretold_123 : decode cX8_foretold 123 = .ok (.ishl, 1) := by decide +kernel
theorem dX8_foretold_124 : decode cX8_foretold 124 = .ok (.if_icmp .ge 104, 3) := by decide +kernel
theorem dX8_foretold_127 : decode cX8_foretold 127 = .ok (.aload_n 0, 1) := by decide +kernel
theorem dX8_foretold_128 : decode cX8_foretold 128 = .ok (.iload_n 1, 1) := by decide +kernel
theorem dX8_foretold_129 : decode cX8_foretold 129 = .ok (.iload_n 2, 1) := by decide +kernel
theorem dX8_foretold_130 : decode cX8_foretold 130 = .ok (.iload 15, 2) := by decide +kernel
theorem dX8_foretold_132 : decode cX8_foretold 132 = .ok (.iload_n 3, 1) := by decide +kernel
theorem dX8_foretold_133 : decode cX8_foretold 133 = .ok (.iload 4, 2) := by decide +kernel
theorem dX8_foretold_135 : decode cX8_foretold 135 = .ok (.iload 5, 2) := by decide +kernel
theorem dX8_foretold_137 : decode cX8_foretold 137 = .ok (.invokevirtual 276, 3) := by decide +kernel
theorem dX8_foretold_140 : decode cX8_foretold 140 = .ok (.lstore 16, 2) := by decide +kernel
theorem dX8_foretold_142 : decode cX8_foretold 142 = .ok (.lload 16, 2) := by decide +kernel
theorem dX8_foretold_144 : decode cX8_foretold 144 = .ok (.lconst 0, 1) := by decide +kernel
theorem dX8_foretold_145 : decode cX8_foretold 145 = .ok (.lcmp, 1) := by decide +kernel
theorem dX8_foretold_146 : decode cX8_foretold 146 = .ok (.ifCond .le 76, 3) := by decide +kernel
theorem dX8_foretold_149 : decode cX8_foretold 149 = .ok (.lload 7, 2) := by decide +kernel
theorem dX8_foretold_151 : decode cX8_foretold 151 = .ok (.lload 16, 2) := by decide +kernel
theorem dX8_foretold_153 : decode cX8_foretold 153 = .ok (.aload_n 0, 1) := by decide +kernel
theorem dX8_foretold_154 : decode cX8_foretold 154 = .ok (.getfield 262, 3) := by decide +kernel
theorem dX8_foretold_157 : decode cX8_foretold 157 = .ok (.lmul, 1) := by decide +kernel
theorem dX8_foretold_158 : decode cX8_foretold 158 = .ok (.ladd, 1) := by decide +kernel
theorem dX8_foretold_159 : decode cX8_foretold 159 = .ok (.lstore 7, 2) := by decide +kernel
theorem dX8_foretold_161 : decode cX8_foretold 161 = .ok (.lload 9, 2) := by decide +kernel
theorem dX8_foretold_163 : decode cX8_foretold 163 = .ok (.lload 16, 2) := by decide +kernel
theorem dX8_foretold_165 : decode cX8_foretold 165 = .ok (.aload_n 0, 1) := by decide +kernel
theorem dX8_foretold_166 : decode cX8_foretold 166 = .ok (.getfield 265, 3) := by decide +kernel
theorem dX8_foretold_169 : decode cX8_foretold 169 = .ok (.lmul, 1) := by decide +kernel
theorem dX8_foretold_170 : decode cX8_foretold 170 = .ok (.ladd, 1) := by decide +kernel
theorem dX8_foretold_171 : decode cX8_foretold 171 = .ok (.lstore 9, 2) := by decide +kernel
theorem dX8_foretold_173 : decode cX8_foretold 173 = .ok (.lload 11, 2) := by decide +kernel
theorem dX8_foretold_175 : decode cX8_foretold 175 = .ok (.lconst 0, 1) := by decide +kernel
theorem dX8_foretold_176 : decode cX8_foretold 176 = .ok (.lcmp, 1) := by decide +kernel
theorem dX8_foretold_177 : decode cX8_foretold 177 = .ok (.ifCond .lt 13, 3) := by decide +kernel
theorem dX8_foretold_180 : decode cX8_foretold 180 = .ok (.aload_n 0, 1) := by decide +kernel
theorem dX8_foretold_181 : decode cX8_foretold 181 = .ok (.getfield 262, 3) := by decide +kernel
theorem dX8_foretold_184 : decode cX8_foretold 184 = .ok (.lload 11, 2) := by decide +kernel
theorem dX8_foretold_186 : decode cX8_foretold 186 = .ok (.lcmp, 1) := by decide +kernel
theorem dX8_foretold_187 : decode cX8_foretold 187 = .ok (.ifCond .ge 10, 3) := by decide +kernel
theorem dX8_foretold_190 : decode cX8_foretold 190 = .ok (.aload_n 0, 1) := by decide +kernel
theorem dX8_foretold_191 : decode cX8_foretold 191 = .ok (.getfield 262, 3) := by decide +kernel
theorem dX8_foretold_194 : decode cX8_foretold 194 = .ok (.goto 5, 3) := by decide +kernel
theorem dX8_foretold_197 : decode cX8_foretold 197 = .ok (.lload 11, 2) := by decide +kernel
theorem dX8_foretold_199 : decode cX8_foretold 199 = .ok (.lstore 11, 2) := by decide +kernel
theorem dX8_foretold_201 : decode cX8_foretold 201 = .ok (.aload_n 0, 1) := by decide +kernel
theorem dX8_foretold_202 : decode cX8_foretold 202 = .ok (.getfield 262, 3) := by decide +kernel
theorem dX8_foretold_205 : decode cX8_foretold 205 = .ok (.lload 13, 2) := by decide +kernel
theorem dX8_foretold_207 : decode cX8_foretold 207 = .ok (.lcmp, 1) := by decide +kernel
theorem dX8_foretold_208 : decode cX8_foretold 208 = .ok (.ifCond .le 10, 3) := by decide +kernel
theorem dX8_foretold_211 : decode cX8_foretold 211 = .ok (.aload_n 0, 1) := by decide +kernel
theorem dX8_foretold_212 : decode cX8_foretold 212 = .ok (.getfield 262, 3) := by decide +kernel
theorem dX8_foretold_215 : decode cX8_foretold 215 = .ok (.goto 5, 3) := by decide +kernel
theorem dX8_foretold_218 : decode cX8_foretold 218 = .ok (.lload 13, 2) := by decide +kernel
theorem dX8_foretold_220 : decode cX8_foretold 220 = .ok (.lstore 13, 2) := by decide +kernel
theorem dX8_foretold_222 : decode cX8_foretold 222 = .ok (.iinc 15 1, 3) := by decide +kernel
theorem dX8_foretold_225 : decode cX8_foretold 225 = .ok (.goto (-111), 3) := by decide +kernel
theorem dX8_foretold_228 : decode cX8_foretold 228 = .ok (.iload 6, 2) := by decide +kernel
theorem dX8_foretold_230 : decode cX8_foretold 230 = .ok (.ifCond .ne 8, 3) := by decide +kernel
theorem dX8_foretold_233 : decode cX8_foretold 233 = .ok (.lload 7, 2) := by decide +kernel
theorem dX8_foretold_235 : decode cX8_foretold 235 = .ok (.goto 27, 3) := by decide +kernel
theorem dX8_foretold_238 : decode cX8_foretold 238 = .ok (.iload 6, 2) := by decide +kernel
theorem dX8_foretold_240 : decode cX8_foretold 240 = .ok (.iconst 1, 1) := by decide +kernel
theorem dX8_foretold_241 : decode cX8_foretold 241 = .ok (.if_icmp .ne 8, 3) := by decide +kernel
theorem dX8_foretold_244 : decode cX8_foretold 244 = .ok (.lload 11, 2) := by decide +kernel
theorem dX8_foretold_246 : decode cX8_foretold 246 = .ok (.goto 16, 3) := by decide +kernel
theorem dX8_foretold_249 : decode cX8_foretold 249 = .ok (.iload 6, 2) := by decide +kernel
theorem dX8_foretold_251 : decode cX8_foretold 251 = .ok (.iconst 2, 1) := by decide +kernel
theorem dX8_foretold_252 : decode cX8_foretold 252 = .ok (.if_icmp .ne 8, 3) := by decide +kernel
theorem dX8_foretold_255 : decode cX8_foretold 255 = .ok (.lload 13, 2) := by decide +kernel
theorem dX8_foretold_257 : decode cX8_foretold 257 = .ok (.goto 5, 3) := by decide +kernel
theorem dX8_foretold_260 : decode cX8_foretold 260 = .ok (.lload 9, 2) := by decide +kernel
theorem dX8_foretold_262 : decode cX8_foretold 262 = .ok (.lreturn, 1) := by decide +kernel
def kX8_foretold (live : am_E) (Ret : am_R) : am_code := [(0, am_aload 0 1), (1, am_iload 1 2), (2, am_callV live 8 1 TX8_isPerson 5), (5, am_if1 (fun x => x = 0) 76 8), (8, am_iload 2 9), (9, am_i2l 10), (10, am_const (.long 0) 11), (11, am_const (.long 3) 14), (14, am_callS live 3 TX8_in 17), (17, am_if1 (fun x => x = 0) 76 20), (20, am_iload 3 21), (21, am_i2l 22), (22, am_const (.long 0) 23), (23, am_const (.long 10000000) 26), (26, am_callS live 3 TX8_in 29), (29, am_if1 (fun x => x = 0) 76 32), (32, am_iload 4 34), (34, am_callS live 1 TX8_isYear 37), (37, am_if1 (fun x => x = 0) 76 40), (40, am_iload 5 42), (42, am_i2l 43), (43, am_const (.long 1) 44), (44, am_const (.long 5) 47), (47, am_callS live 3 TX8_in 50), (50, am_if1 (fun x => x = 0) 76 53), (53, am_iload 4 55), (55, am_iload 5 57), (57, am_i2 (fun x y => x + y) 58), (58, am_const (.int 40) 60), (60, am_if2 (fun x y => y < x) 76 63), (63, am_iload 6 65), (65, am_i2l 66), (66, am_const (.long 0) 67), (67, am_const (.long 3) 70), (70, am_callS live 3 TX8_in 73), (73, am_if1 (fun x => x = 0) 76 80), (76, am_const (.long (-2)) 79), (79, am_retL Ret), (80, am_aload 0 81), (81, am_iload 1 82), (82, am_iload 4 84), (84, am_const (.int 1) 85), (85, am_i2 (fun x y => x - y) 86), (86, am_const (.int 39) 88), (88, am_callV live 8 3 am_TF 91), (91, am_aload 0 92), (92, am_callV live 8 0 am_TF 95), (95, am_const (.long 0) 96), (96, am_lstore 7 18 98), (98, am_const (.long 0) 99), (99, am_lstore 9 18 101), (101, am_const (.long (-1)) 104), (104, am_lstore 11 18 106), (106, am_const (.long (-1)) 109), (109, am_lstore 13 18 111), (111, am_const (.int 0) 112), (112, am_istore 15 18 114), (114, am_iload 15 116), (116, am_const (.int 1) 117), (117, am_const (.int 2) 118), (118, am_iload 5 120), (120, am_const (.int 1) 121), (121, am_i2 (fun x y => x - y) 122), (122, am_i2 (fun x y => x * y) 123), (123, am_i2 (fun x y => x <<< (y &&& 31)) 124), (124, am_if2 (fun x y => y ≤ x) 228 127), (127, am_aload 0 128), (128, am_iload 1 129), (129, am_iload 2 130), (130, am_iload 15 132), (132, am_iload 3 133), (133, am_iload 4 135), (135, am_iload 5 137), (137, am_callV live 8 6 am_TF 140), (140, am_lstore 16 18 142), (142, am_lload 16 144), (144, am_const (.long 0) 145), (145, am_lcmp 146), (146, am_if1 (fun x => x ≤ 0) 222 149), (149, am_lload 7 151), (151, am_lload 16 153), (153, am_aload 0 154), (154, am_getJ live 8 25 157), (157, am_l2 (fun x y => x * y) 158), (158, am_l2 (fun x y => x + y) 159), (159, am_lstore 7 18 161), (161, am_lload 9 163), (163, am_lload 16 165), (165, am_aload 0 166), (166, am_getJ live 8 26 169), (169, am_l2 (fun x y => x * y) 170), (170, am_l2 (fun x y => x + y) 171), (171, am_lstore 9 18 173), (173, am_lload 11 175), (175, am_const (.long 0) 176), (176, am_lcmp 177), (177, am_if1 (fun x => x < 0) 190 180), (180, am_aload 0 181), (181, am_getJ live 8 25 184), (184, am_lload 11 186), (186, am_lcmp 187), (187, am_if1 (fun x => 0 ≤ x) 197 190), (190, am_aload 0 191), (191, am_getJ live 8 25 194), (194, am_goto 199), (197, am_lload 11 199), (199, am_lstore 11 18 201), (201, am_aload 0 202), (202, am_getJ live 8 25 205), (205, am_lload 13 207), (207, am_lcmp 208), (208, am_if1 (fun x => x ≤ 0) 218 211), (211, am_aload 0 212), (212, am_getJ live 8 25 215), (215, am_goto 220), (218, am_lload 13 220), (220, am_lstore 13 18 222), (222, am_iinc 15 18 1 225), (225, am_goto 114), (228, am_iload 6 230), (230, am_if1 (fun x => x = 0) 233 238), (233, am_lload 7 235), (235, am_goto 262), (238, am_iload 6 240), (240, am_const (.int 1) 241), (241, am_if2 (fun x y => x = y) 244 249), (244, am_lload 11 246), (246, am_goto 262), (249, am_iload 6 251), (251, am_const (.int 2) 252), (252, am_if2 (fun x y => x = y) 255 260), (255, am_lload 13 257), (257, am_goto 262), (260, am_lload 9 262), (262, am_retL Ret)]
theorem koX8_foretold (live : am_E) (Ret : am_R) : ∀ q ∈ kX8_foretold live Ret, am_ok RX8 cX8_foretold 18 (some .long) 2 46 live Ret q.1 q.2 :=
  am_kc (ak_aload_n dX8_foretold_0 rfl rfl) <|
  am_kc (ak_iload_n dX8_foretold_1 rfl rfl) <|
  am_kc (ak_callV (C := RX8) (F := TX8) (N := 27) metX8_isPerson rfl ⟨rfl, by decide +kernel, by decide +kernel, by decide +kernel⟩ (am_w5 wd_993 wd_995 wd_27 wd_67 wd_996) (by decide) dX8_foretold_2 rfl) <|
  am_kc (ak_if_eq dX8_foretold_5 (by decide +kernel) rfl) <|
  am_kc (ak_iload_n dX8_foretold_8 rfl rfl) <|
  am_kc (ak_i2l dX8_foretold_9 rfl) <|
  am_kc (ak_lconst dX8_foretold_10 (by decide +kernel) rfl) <|
  am_kc (ak_ldc2 wd_997 dX8_foretold_11 rfl) <|
  am_kc (ak_callS metX8_in ⟨rfl, by decide +kernel, by decide +kernel, by decide +kernel⟩ (am_w4 wd_986 wd_987 wd_67 wd_988) (by decide) dX8_foretold_14 rfl) <|
  am_kc (ak_if_eq dX8_foretold_17 (by decide +kernel) rfl) <|
  am_kc (ak_iload_n dX8_foretold_20 rfl rfl) <|
  am_kc (ak_i2l dX8_foretold_21 rfl) <|
  am_kc (ak_lconst dX8_foretold_22 (by decide +kernel) rfl) <|
  am_kc (ak_ldc2 wd_1017 dX8_foretold_23 rfl) <|
  am_kc (ak_callS metX8_in ⟨rfl, by decide +kernel, by decide +kernel, by decide +kernel⟩ (am_w4 wd_986 wd_987 wd_67 wd_988) (by decide) dX8_foretold_26 rfl) <|
  am_kc (ak_if_eq dX8_foretold_29 (by decide +kernel) rfl) <|
  am_kc (ak_iload dX8_foretold_32 rfl) <|
  am_kc (ak_callS metX8_isYear ⟨rfl, by decide +kernel, by decide +kernel, by decide +kernel⟩ (am_w4 wd_982 wd_983 wd_67 wd_984) (by decide) dX8_foretold_34 rfl) <|
  am_kc (ak_if_eq dX8_foretold_37 (by decide +kernel) rfl) <|
  am_kc (ak_iload dX8_foretold_40 rfl) <|
  am_kc (ak_i2l dX8_foretold_42 rfl) <|
  am_kc (ak_lconst dX8_foretold_43 (by decide +kernel) rfl) <|
  am_kc (ak_ldc2 wd_1041 dX8_foretold_44 rfl) <|
  am_kc (ak_callS metX8_in ⟨rfl, by decide +kernel, by decide +kernel, by decide +kernel⟩ (am_w4 wd_986 wd_987 wd_67 wd_988) (by decide) dX8_foretold_47 rfl) <|
  am_kc (ak_if_eq dX8_foretold_50 (by decide +kernel) rfl) <|
  am_kc (ak_iload dX8_foretold_53 rfl) <|
  am_kc (ak_iload dX8_foretold_55 rfl) <|
  am_kc (ak_iadd dX8_foretold_57 rfl) <|
  am_kc (ak_bipush dX8_foretold_58 (by decide +kernel) rfl) <|
  am_kc (ak_icmp_gt dX8_foretold_60 (by decide +kernel) rfl) <|
  am_kc (ak_iload dX8_foretold_63 rfl) <|
  am_kc (ak_i2l dX8_foretold_65 rfl) <|
  am_kc (ak_lconst dX8_foretold_66 (by decide +kernel) rfl) <|
  am_kc (ak_ldc2 wd_997 dX8_foretold_67 rfl) <|
  am_kc (ak_callS metX8_in ⟨rfl, by decide +kernel, by decide +kernel, by decide +kernel⟩ (am_w4 wd_986 wd_987 wd_67 wd_988) (by decide) dX8_foretold_70 rfl) <|
  am_kc (ak_if_ne dX8_foretold_73 (by decide +kernel) rfl) <|
  am_kc (ak_ldc2 wd_1153 dX8_foretold_76 rfl) <|
  am_kc (ak_retL dX8_foretold_79) <|
  am_kc (ak_aload_n dX8_foretold_80 rfl rfl) <|
  am_kc (ak_iload_n dX8_foretold_81 rfl rfl) <|
  am_kc (ak_iload dX8_foretold_82 rfl) <|
  am_kc (ak_iconst dX8_foretold_84 (by decide +kernel) rfl) <|
  am_kc (ak_isub dX8_foretold_85 rfl) <|
  am_kc (ak_bipush dX8_foretold_86 (by decide +kernel) rfl) <|
  am_kc (ak_callV (C := RX8) (F := TX8) (N := 27) (am_metF _ _ _ _) rfl ⟨rfl, by decide +kernel, by decide +kernel, by decide +kernel⟩ (am_w5 wd_1158 wd_1160 wd_42 wd_67 wd_1161) (by decide) dX8_foretold_88 rfl) <|
  am_kc (ak_aload_n dX8_foretold_91 rfl rfl) <|
  am_kc (ak_callV (C := RX8) (F := TX8) (N := 27) (am_metF _ _ _ _) rfl ⟨rfl, by decide +kernel, by decide +kernel, by decide +kernel⟩ (am_w5 wd_1249 wd_1251 wd_52 wd_67 wd_1252) (by decide) dX8_foretold_92 rfl) <|
  am_kc (ak_lconst dX8_foretold_95 (by decide +kernel) rfl) <|
  am_kc (ak_lstore dX8_foretold_96 rfl) <|
  am_kc (ak_lconst dX8_foretold_98 (by decide +kernel) rfl) <|
  am_kc (ak_lstore dX8_foretold_99 rfl) <|
  am_kc (ak_ldc2 wd_1253 dX8_foretold_101 rfl) <|
  am_kc (ak_lstore dX8_foretold_104 rfl) <|
  am_kc (ak_ldc2 wd_1253 dX8_foretold_106 rfl) <|
  am_kc (ak_lstore dX8_foretold_109 rfl) <|
  am_kc (ak_iconst dX8_foretold_111 (by decide +kernel) rfl) <|
  am_kc (ak_istore dX8_foretold_112 rfl) <|
  am_kc (ak_iload dX8_foretold_114 rfl) <|
  am_kc (ak_iconst dX8_foretold_116 (by decide +kernel) rfl) <|
  am_kc (ak_iconst dX8_foretold_117 (by decide +kernel) rfl) <|
  am_kc (ak_iload dX8_foretold_118 rfl) <|
  am_kc (ak_iconst dX8_foretold_120 (by decide +kernel) rfl) <|
  am_kc (ak_isub dX8_foretold_121 rfl) <|
  am_kc (ak_imul dX8_foretold_122 rfl) <|
  am_kc (ak_ishl dX8_foretold_123 rfl) <|
  am_kc (ak_icmp_ge dX8_foretold_124 (by decide +kernel) rfl) <|
  am_kc (ak_aload_n dX8_foretold_127 rfl rfl) <|
  am_kc (ak_iload_n dX8_foretold_128 rfl rfl) <|
  am_kc (ak_iload_n dX8_foretold_129 rfl rfl) <|
  am_kc (ak_iload dX8_foretold_130 rfl) <|
  am_kc (ak_iload_n dX8_foretold_132 rfl rfl) <|
  am_kc (ak_iload dX8_foretold_133 rfl) <|
  am_kc (ak_iload dX8_foretold_135 rfl) <|
  am_kc (ak_callV (C := RX8) (F := TX8) (N := 27) (am_metF _ _ _ _) rfl ⟨rfl, by decide +kernel, by decide +kernel, by decide +kernel⟩ (am_w5 wd_1254 wd_1256 wd_53 wd_67 wd_1257) (by decide) dX8_foretold_137 rfl) <|
  am_kc (ak_lstore dX8_foretold_140 rfl) <|
  am_kc (ak_lload dX8_foretold_142 rfl) <|
  am_kc (ak_lconst dX8_foretold_144 (by decide +kernel) rfl) <|
  am_kc (ak_lcmp dX8_foretold_145 rfl) <|
  am_kc (ak_if_le dX8_foretold_146 (by decide +kernel) rfl) <|
  am_kc (ak_lload dX8_foretold_149 rfl) <|
  am_kc (ak_lload dX8_foretold_151 rfl) <|
  am_kc (ak_aload_n dX8_foretold_153 rfl rfl) <|
  am_kc (ak_getJ (C := RX8) (T := TX8) (N := 27) rfl inX8w (by decide) rfl rfl rfl wd_920 dX8_foretold_154 rfl) <|
  am_kc (ak_lmul dX8_foretold_157 rfl) <|
  am_kc (ak_ladd dX8_foretold_158 rfl) <|
  am_kc (ak_lstore dX8_foretold_159 rfl) <|
  am_kc (ak_lload dX8_foretold_161 rfl) <|
  am_kc (ak_lload dX8_foretold_163 rfl) <|
  am_kc (ak_aload_n dX8_foretold_165 rfl rfl) <|
  am_kc (ak_getJ (C := RX8) (T := TX8) (N := 27) rfl inX8w (by decide) rfl rfl rfl wd_921 dX8_foretold_166 rfl) <|
  am_kc (ak_lmul dX8_foretold_169 rfl) <|
  am_kc (ak_ladd dX8_foretold_170 rfl) <|
  am_kc (ak_lstore dX8_foretold_171 rfl) <|
  am_kc (ak_lload dX8_foretold_173 rfl) <|
  am_kc (ak_lconst dX8_foretold_175 (by decide +kernel) rfl) <|
  am_kc (ak_lcmp dX8_foretold_176 rfl) <|
  am_kc (ak_if_lt dX8_foretold_177 (by decide +kernel) rfl) <|
  am_kc (ak_aload_n dX8_foretold_180 rfl rfl) <|
  am_kc (ak_getJ (C := RX8) (T := TX8) (N := 27) rfl inX8w (by decide) rfl rfl rfl wd_920 dX8_foretold_181 rfl) <|
  am_kc (ak_lload dX8_foretold_184 rfl) <|
  am_kc (ak_lcmp dX8_foretold_186 rfl) <|
  am_kc (ak_if_ge dX8_foretold_187 (by decide +kernel) rfl) <|
  am_kc (ak_aload_n dX8_foretold_190 rfl rfl) <|
  am_kc (ak_getJ (C := RX8) (T := TX8) (N := 27) rfl inX8w (by decide) rfl rfl rfl wd_920 dX8_foretold_191 rfl) <|
  am_kc (ak_goto dX8_foretold_194 (by decide +kernel)) <|
  am_kc (ak_lload dX8_foretold_197 rfl) <|
  am_kc (ak_lstore dX8_foretold_199 rfl) <|
  am_kc (ak_aload_n dX8_foretold_201 rfl rfl) <|
  am_kc (ak_getJ (C := RX8) (T := TX8) (N := 27) rfl inX8w (by decide) rfl rfl rfl wd_920 dX8_foretold_202 rfl) <|
  am_kc (ak_lload dX8_foretold_205 rfl) <|
  am_kc (ak_lcmp dX8_foretold_207 rfl) <|
  am_kc (ak_if_le dX8_foretold_208 (by decide +kernel) rfl) <|
  am_kc (ak_aload_n dX8_foretold_211 rfl rfl) <|
  am_kc (ak_getJ (C := RX8) (T := TX8) (N := 27) rfl inX8w (by decide) rfl rfl rfl wd_920 dX8_foretold_212 rfl) <|
  am_kc (ak_goto dX8_foretold_215 (by decide +kernel)) <|
  am_kc (ak_lload dX8_foretold_218 rfl) <|
  am_kc (ak_lstore dX8_foretold_220 rfl) <|
  am_kc (ak_iinc dX8_foretold_222 (by decide +kernel) rfl) <|
  am_kc (ak_goto dX8_foretold_225 (by decide +kernel)) <|
  am_kc (ak_iload dX8_foretold_228 rfl) <|
  am_kc (ak_if_ne dX8_foretold_230 (by decide +kernel) rfl) <|
  am_kc (ak_lload dX8_foretold_233 rfl) <|
  am_kc (ak_goto dX8_foretold_235 (by decide +kernel)) <|
  am_kc (ak_iload dX8_foretold_238 rfl) <|
  am_kc (ak_iconst dX8_foretold_240 (by decide +kernel) rfl) <|
  am_kc (ak_icmp_ne dX8_foretold_241 (by decide +kernel) rfl) <|
  am_kc (ak_lload dX8_foretold_244 rfl) <|
  am_kc (ak_goto dX8_foretold_246 (by decide +kernel)) <|
  am_kc (ak_iload dX8_foretold_249 rfl) <|
  am_kc (ak_iconst dX8_foretold_251 (by decide +kernel) rfl) <|
  am_kc (ak_icmp_ne dX8_foretold_252 (by decide +kernel) rfl) <|
  am_kc (ak_lload dX8_foretold_255 rfl) <|
  am_kc (ak_goto dX8_foretold_257 (by decide +kernel)) <|
  am_kc (ak_lload dX8_foretold_260 rfl) <|
  am_kc (ak_retL dX8_foretold_262) <| am_kn
def TX8_foretold : am_T := fun live as M R => match as with
  | [.ref n, .int p, .int s, .int e, .int y, .int t, .int w] => am_mn live ∧ n = 200 ∧ am_F8 M ∧ R (some (.long (-2))) M
  | _ => False
set_option maxRecDepth 100000 in
set_option maxHeartbeats 4000000 in
theorem metX8_foretold : am_Met yX8_foretold cX8_foretold 18 (some .long) (2) (46) TX8_foretold := by
  refine am_met (own := RX8) (by decide +kernel) rfl kX8_foretold koX8_foretold 300 (fun _ _ _ _ _ => none) (fun live as M Ret h => ?_) (fun _ _ _ _ _ _ _ _ hI => by cases hI)
  unfold TX8_foretold at h
  split at h
  · next n p s e y t w =>
    refine ⟨Nat.le_of_ble_eq_true rfl, ?_⟩
    change am_wp _ _ _ _ [(0, Value.ref n), (1, Value.int p), (2, Value.int s), (3, Value.int e), (4, Value.int y), (5, Value.int t), (6, Value.int w)] _ _
    obtain ⟨⟨i1, i2, rfl⟩, rfl, hF, h⟩ := h
    have q0 : M.1 201 0 = 0 := hF.1 0 (by decide)
    have q1 : M.1 201 1 = 0 := hF.1 1 (by decide)
    repeat' (first | (with_reducible exact q0) | (with_reducible exact q1) | apply And.intro | exact rfl | (intro hx; exact absurd hx (by decide)) | (intro hx; exact absurd (by decide) hx) | decide | intro hx | (refine Exists.intro _ (And.intro rfl ?_)))
    all_goals try first | (with_reducible change am_tI _ _) | (change Ret _ _) | (change Ret _ _ _) | (change Exists _)
    all_goals try dsimp only at *
    all_goals try exact absurd ‹(1000 : Int64) = 0› (by decide)
    all_goals first | exact h | exact q0 | exact q1 | (left; exact ⟨i1, i2, rfl⟩) | exact ⟨i1, i2, rfl⟩
  · exact h.elim
theorem wd_1042 : Cond.methodLink "LearnLoansModel" 110 yX8_mayBe ∈ am_ws := am_wsi (List.mem_of_getElem? (i := 1042) (by decide +kernel)) (by decide +kernel)
theorem wd_1043 : Cond.static yX8_mayBe ∈ am_ws := am_wsi (List.mem_of_getElem? (i := 1043) (by decide +kernel)) (by decide +kernel)
theorem wd_1044 : Cond.code yX8_mayBe cX8_mayBe 2 (some .boolean) ∈ am_ws := am_wsi (List.mem_of_getElem? (i := 1044) (by decide +kernel)) (by decide +kernel)
theorem wd_1270 : Cond.methodLink "LearnLoansModel" 280 yX8_triedOf ∈ am_ws := am_wsi (List.mem_of_getElem? (i := 1270) (by decide +kernel)) (by decide +kernel)
theorem wd_1272 : Cond.instanceMethod yX8_triedOf ∈ am_ws := am_wsi (List.mem_of_getElem? (i := 1272) (by decide +kernel)) (by decide +kernel)
theorem wd_56 : Cond.selects "LearnLoansModel" yX8_triedOf yX8_triedOf ∈ am_ws := am_wsi (List.mem_of_getElem? (i := 56) (by decide +kernel)) (by decide +kernel)
theorem wd_1273 : Cond.code yX8_triedOf cX8_triedOf 9 (some .long) ∈ am_ws := am_wsi (List.mem_of_getElem? (i := 1273) (by decide +kernel)) (by decide +kernel)
theorem wd_1286 : Cond.methodLink "LearnLoansModel" 284 yX8_far ∈ am_ws := am_wsi (List.mem_of_getElem? (i := 1286) (by decide +kernel)) (by decide +kernel)
theorem wd_1287 : Cond.static yX8_far ∈ am_ws := am_wsi (List.mem_of_getElem? (i := 1287) (by decide +kernel)) (by decide +kernel)
theorem wd_1288 : Cond.code yX8_far cX8_far 2 (some .int) ∈ am_ws := am_wsi (List.mem_of_getElem? (i := 1288) (by decide +kernel)) (by decide +kernel)
theorem dX8_best_0 : decode cX8_best 0 = .ok (.iload_n 1, 1) := by decide +kernel
theorem dX8_best_1 : decode cX8_best 1 = .ok (.invokestatic 104, 3) := by decide +kernel
theorem dX8_best_4 : decode cX8_best 4 = .ok (.ifCond .eq 34, 3) := by decide +kernel
theorem dX8_best_7 : decode cX8_best 7 = .ok (.iload_n 2, 1) := by decide +kernel
theorem dX8_best_8 : decode cX8_best 8 = .ok (.invokestatic 107, 3) := by decide +kernel
theorem dX8_best_11 : decode cX8_best 11 = .ok (.ifCond .eq 27, 3) := by decide +kernel
theorem dX8_best_14 : decode cX8_best 14 = .ok (.iload_n 3, 1) := by decide +kernel
theorem dX8_best_15 : decode cX8_best 15 = .ok (.invokestatic 72, 3) := by decide +kernel
theorem dX8_best_18 : decode cX8_best 18 = .ok (.ifCond .eq 20, 3) := by decide +kernel
theorem dX8_best_21 : decode cX8_best 21 = .ok (.iload 4, 2) := by decide +kernel
theorem dX8_best_23 : decode cX8_best 23 = .ok (.invokestatic 72, 3) := by decide +kernel
theorem dX8_best_26 : decode cX8_best 26 = .ok (.ifCond .eq 12, 3) := by decide +kernel
theorem dX8_best_29 : decode cX8_best 29 = .ok (.aload_n 0, 1) := by decide +kernel
theorem dX8_best_30 : decode cX8_best 30 = .ok (.iload 5, 2) := by decide +kernel
theorem dX8_best_32 : decode cX8_best 32 = .ok (.invokevirtual 76, 3) := by decide +kernel
theorem dX8_best_35 : decode cX8_best 35 = .ok (.ifCond .ne 6, 3) := by decide +kernel
theorem dX8_best_38 : decode cX8_best 38 = .ok (.bipush (-2), 2) := by decide +kernel
theorem dX8_best_40 : decode cX8_best 40 = .ok (.ireturn, 1) := by decide +kernel
theorem dX8_best_41 : decode cX8_best 41 = .ok (.aload_n 0, 1) := by decide +kernel
theorem dX8_best_42 : decode cX8_best 42 = .ok (.iload_n 1, 1) := by decide +kernel
theorem dX8_best_43 : decode cX8_best 43 = .ok (.iload_n 2, 1) := by decide +kernel
theorem dX8_best_44 : decode cX8_best 44 = .ok (.iload 5, 2) := by decide +kernel
theorem dX8_best_46 : decode cX8_best 46 = .ok (.iload 4, 2) := by decide +kernel
theorem dX8_best_48 : decode cX8_best 48 = .ok (.invokevirtual 127, 3) := by decide +kernel
theorem dX8_best_51 : decode cX8_best 51 = .ok (.istore 8, 2) := by decide +kernel
theorem dX8_best_53 : decode cX8_best 53 = .ok (.iconst (-1), 1) := by decide +kernel
theorem dX8_best_54 : decode cX8_best 54 = .ok (.istore 9, 2) := by decide +kernel
theorem dX8_best_56 : decode cX8_best 56 = .ok (.iconst 0, 1) := by decide +kernel
theorem dX8_best_57 : decode cX8_best 57 = .ok (.istore 10, 2) := by decide +kernel
theorem dX8_best_59 : decode cX8_best 59 = .ok (.iload 10, 2) := by decide +kernel
theorem dX8_best_61 : decode cX8_best 61 = .ok (.aload_n 0, 1) := by decide +kernel
theorem dX8_best_62 : decode cX8_best 62 = .ok (.getfield 7, 3) := by decide +kernel
theorem dX8_best_65 : decode cX8_best 65 = .ok (.iconst 5, 1) := by decide +kernel
theorem dX8_best_66 : decode cX8_best 66 = .ok (.iaload, 1) := by decide +kernel
theorem dX8_best_67 : decode cX8_best 67 = .ok (.if_icmp .ge 115, 3) := by decide +kernel
theorem dX8_best_70 : decode cX8_best 70 = .ok (.aload_n 0, 1) := by decide +kernel
theorem dX8_best_71 : decode cX8_best 71 = .ok (.getfield 7, 3) := by decide +kernel
theorem dX8_best_74 : decode cX8_best 74 = .ok (.sipush 3745, 3) := by decide +kernel
theorem dX8_best_77 : decode cX8_best 77 = .ok (.iload 10, 2) := by decide +kernel
theorem dX8_best_79 : decode cX8_best 79 = .ok (.iadd, 1) := by decide +kernel
theorem dX8_best_80 : decode cX8_best 80 = .ok (.iaload, 1) := by decide +kernel
theorem dX8_best_81 : decode cX8_best 81 = .ok (.istore 11, 2) := by decide +kernel
theorem dX8_best_83 : decode cX8_best 83 = .ok (.iload_n 2, 1) := by decide +kernel
theorem dX8_best_84 : decode cX8_best 84 = .ok (.iload 11, 2) := by decide +kernel
theorem dX8_best_86 : decode cX8_best 86 = .ok (.invokestatic 110, 3) := by decide +kernel
theorem dX8_best_89 : decode cX8_best 89 = .ok (.ifCond .eq 87, 3) := by decide +kernel
theorem dX8_best_92 : decode cX8_best 92 = .ok (.aload_n 0, 1) := by decide +kernel
theorem dX8_best_93 : decode cX8_best 93 = .ok (.iload_n 1, 1) := by decide +kernel
theorem dX8_best_94 : decode cX8_best 94 = .ok (.iload_n 2, 1) := by decide +kernel
theorem dX8_best_95 : decode cX8_best 95 = .ok (.iload 11, 2) := by decide +kernel
theorem dX8_best_97 : decode cX8_best 97 = .ok (.iload_n 3, 1) := by decide +kernel
theorem dX8_best_98 : decode cX8_best 98 = .ok (.iload 4, 2) := by decide +kernel
theorem dX8_best_100 : decode cX8_best 100 = .ok (.invokevirtual 280, 3) := by decide +kernel
theorem dX8_best_103 : decode cX8_best 103 = .ok (.lload 6, 2) := by decide +kernel
theorem dX8_best_105 : decode cX8_best 105 = .ok (.lcmp, 1) := by decide +kernel
theorem dX8_best_106 : decode cX8_best 106 = .ok (.ifCond .lt 70, 3) := by decide +kernel
theorem dX8_best_109 : decode cX8_best 109 = .ok (.iload 9, 2) := by decide +kernel
theorem dX8_best_111 : decode cX8_best 111 = .ok (.ifCond .lt 44, 3) := by decide +kernel
theorem dX8_best_114 : decode cX8_best 114 = .ok (.iload 11, 2) := by decide +kernel
theorem dX8_best_116 : decode cX8_best 116 = .ok (.iload 8, 2) := by decide +kernel
theorem dX8_best_118 : decode cX8_best 118 = .ok (.invokestatic 284, 3) := by decide +kernel
theorem dX8_best_121 : decode cX8_best 121 = .ok (.iload 9, 2) := by decide +kernel
theorem dX8_best_123 : decode cX8_best 123 = .ok (.iload 8, 2) := by decide +kernel
theorem dX8_best_125 : decode cX8_best 125 = .ok (.invokestatic 284, 3) := by decide +kernel
theorem dX8_best_128 : decode cX8_best 128 = .ok (.if_icmp .lt 27, 3) := by decide +kernel
theorem dX8_best_131 : decode cX8_best 131 = .ok (.iload 11, 2) := by decide +kernel
theorem dX8_best_133 : decode cX8_best 133 = .ok (.iload 8, 2) := by decide +kernel
theorem dX8_best_135 : decode cX8_best 135 = .ok (.invokestatic 284, 3) := by decide +kernel
theorem dX8_best_138 : decode cX8_best 138 = .ok (.iload 9, 2) := by decide +kernel
theorem dX8_best_140 : decode cX8_best 140 = .ok (.iload 8, 2) := by decide +kernel
theorem dX8_best_142 : decode cX8_best 142 = .ok (.invokestatic 284, 3) := by decide +kernel
theorem dX8_best_145 : decode cX8_best 145 = .ok (.if_icmp .ne 14, 3) := by decide +kernel
theorem dX8_best_148 : decode cX8_best 148 = .ok (.iload 11, 2) := by decide +kernel
theorem dX8_best_150 : decode cX8_best 150 = .ok (.iload 9, 2) := by decide +kernel
theorem dX8_best_152 : decode cX8_best 152 = .ok (.if_icmp .ge 7, 3) := by decide +kernel
theorem dX8_best_155 : decode cX8_best 155 = .ok (.iconst 1, 1) := by decide +kernel
theorem dX8_best_156 : decode cX8_best 156 = .ok (.goto 4, 3) := by decide +kernel
theorem dX8_best_159 : decode cX8_best 159 = .ok (.iconst 0, 1) := by decide +kernel
theorem dX8_best_160 : decode cX8_best 160 = .ok (.istore 12, 2) := by decide +kernel
theorem dX8_best_162 : decode cX8_best 162 = .ok (.iload 12, 2) := by decide +kernel
theorem dX8_best_164 : decode cX8_best 164 = .ok (.ifCond .eq 8, 3) := by decide +kernel
theorem dX8_best_167 : decode cX8_best 167 = .ok (.iload 11, 2) := by decide +kernel
theorem dX8_best_169 : decode cX8_best 169 = .ok (.goto 5, 3) := by decide +kernel
theorem dX8_best_172 : decode cX8_best 172 = .ok (.iload 9, 2) := by decide +kernel
theorem dX8_best_174 : decode cX8_best 174 = .ok (.istore 9, 2) := by decide +kernel
theorem dX8_best_176 : decode cX8_best 176 = .ok (.iinc 10 1, 3) := by decide +kernel
theorem dX8_best_179 : decode cX8_best 179 = .ok (.goto (-120), 3) := by decide +kernel
theorem dX8_best_182 : decode cX8_best 182 = .ok (.iload 9, 2) := by decide +kernel
theorem dX8_best_184 : decode cX8_best 184 = .ok (.ireturn, 1) := by decide +kernel
def kX8_best (live : am_E) (Ret : am_R) : am_code := [(0, am_iload 1 1), (1, am_callS live 1 TX8_isPlan 4), (4, am_if1 (fun x => x = 0) 38 7), (7, am_iload 2 8), (8, am_callS live 1 TX8_isWhat 11), (11, am_if1 (fun x => x = 0) 38 14), (14, am_iload 3 15), (15, am_callS live 1 TX8_isYear 18), (18, am_if1 (fun x => x = 0) 38 21), (21, am_iload 4 23), (23, am_callS live 1 TX8_isYear 26), (26, am_if1 (fun x => x = 0) 38 29), (29, am_aload 0 30), (30, am_iload 5 32), (32, am_callV live 8 1 TX8_isPerson 35), (35, am_if1 (fun x => x = 0) 38 41), (38, am_const (.int (-2)) 40), (40, am_retI Ret), (41, am_aload 0 42), (42, am_iload 1 43), (43, am_iload 2 44), (44, am_iload 5 46), (46, am_iload 4 48), (48, am_callV live 8 4 am_TF 51), (51, am_istore 8 13 53), (53, am_const (.int (-1)) 54), (54, am_istore 9 13 56), (56, am_const (.int 0) 57), (57, am_istore 10 13 59), (59, am_iload 10 61), (61, am_aload 0 62), (62, am_getR live 8 0 65), (65, am_const (.int 5) 66), (66, am_ald live 0 67), (67, am_if2 (fun x y => y ≤ x) 182 70), (70, am_aload 0 71), (71, am_getR live 8 0 74), (74, am_const (.int 3745) 77), (77, am_iload 10 79), (79, am_i2 (fun x y => x + y) 80), (80, am_ald live 0 81), (81, am_istore 11 13 83), (83, am_iload 2 84), (84, am_iload 11 86), (86, am_callS live 2 TX8_mayBe 89), (89, am_if1 (fun x => x = 0) 176 92), (92, am_aload 0 93), (93, am_iload 1 94), (94, am_iload 2 95), (95, am_iload 11 97), (97, am_iload 3 98), (98, am_iload 4 100), (100, am_callV live 8 5 am_TF 103), (103, am_lload 6 105), (105, am_lcmp 106), (106, am_if1 (fun x => x < 0) 176 109), (109, am_iload 9 111), (111, am_if1 (fun x => x < 0) 155 114), (114, am_iload 11 116), (116, am_iload 8 118), (118, am_callS live 2 am_TF 121), (121, am_iload 9 123), (123, am_iload 8 125), (125, am_callS live 2 am_TF 128), (128, am_if2 (fun x y => x < y) 155 131), (131, am_iload 11 133), (133, am_iload 8 135), (135, am_callS live 2 am_TF 138), (138, am_iload 9 140), (140, am_iload 8 142), (142, am_callS live 2 am_TF 145), (145, am_if2 (fun x y => x = y) 148 159), (148, am_iload 11 150), (150, am_iload 9 152), (152, am_if2 (fun x y => y ≤ x) 159 155), (155, am_const (.int 1) 156), (156, am_goto 160), (159, am_const (.int 0) 160), (160, am_istore 12 13 162), (162, am_iload 12 164), (164, am_if1 (fun x => x = 0) 172 167), (167, am_iload 11 169), (169, am_goto 174), (172, am_iload 9 174), (174, am_istore 9 13 176), (176, am_iinc 10 13 1 179), (179, am_goto 59), (182, am_iload 9 184), (184, am_retI Ret)]
theorem koX8_best (live : am_E) (Ret : am_R) : ∀ q ∈ kX8_best live Ret, am_ok RX8 cX8_best 13 (some .int) 2 46 live Ret q.1 q.2 :=
  am_kc (ak_iload_n dX8_best_0 rfl rfl) <|
  am_kc (ak_callS metX8_isPlan ⟨rfl, by decide +kernel, by decide +kernel, by decide +kernel⟩ (am_w4 wd_1034 wd_1035 wd_67 wd_1036) (by decide) dX8_best_1 rfl) <|
  am_kc (ak_if_eq dX8_best_4 (by decide +kernel) rfl) <|
  am_kc (ak_iload_n dX8_best_7 rfl rfl) <|
  am_kc (ak_callS metX8_isWhat ⟨rfl, by decide +kernel, by decide +kernel, by decide +kernel⟩ (am_w4 wd_1038 wd_1039 wd_67 wd_1040) (by decide) dX8_best_8 rfl) <|
  am_kc (ak_if_eq dX8_best_11 (by decide +kernel) rfl) <|
  am_kc (ak_iload_n dX8_best_14 rfl rfl) <|
  am_kc (ak_callS metX8_isYear ⟨rfl, by decide +kernel, by decide +kernel, by decide +kernel⟩ (am_w4 wd_982 wd_983 wd_67 wd_984) (by decide) dX8_best_15 rfl) <|
  am_kc (ak_if_eq dX8_best_18 (by decide +kernel) rfl) <|
  am_kc (ak_iload dX8_best_21 rfl) <|
  am_kc (ak_callS metX8_isYear ⟨rfl, by decide +kernel, by decide +kernel, by decide +kernel⟩ (am_w4 wd_982 wd_983 wd_67 wd_984) (by decide) dX8_best_23 rfl) <|
  am_kc (ak_if_eq dX8_best_26 (by decide +kernel) rfl) <|
  am_kc (ak_aload_n dX8_best_29 rfl rfl) <|
  am_kc (ak_iload dX8_best_30 rfl) <|
  am_kc (ak_callV (C := RX8) (F := TX8) (N := 27) metX8_isPerson rfl ⟨rfl, by decide +kernel, by decide +kernel, by decide +kernel⟩ (am_w5 wd_993 wd_995 wd_27 wd_67 wd_996) (by decide) dX8_best_32 rfl) <|
  am_kc (ak_if_ne dX8_best_35 (by decide +kernel) rfl) <|
  am_kc (ak_bipush dX8_best_38 (by decide +kernel) rfl) <|
  am_kc (ak_retI dX8_best_40) <|
  am_kc (ak_aload_n dX8_best_41 rfl rfl) <|
  am_kc (ak_iload_n dX8_best_42 rfl rfl) <|
  am_kc (ak_iload_n dX8_best_43 rfl rfl) <|
  am_kc (ak_iload dX8_best_44 rfl) <|
  am_kc (ak_iload dX8_best_46 rfl) <|
  am_kc (ak_callV (C := RX8) (F := TX8) (N := 27) (am_metF _ _ _ _) rfl ⟨rfl, by decide +kernel, by decide +kernel, by decide +kernel⟩ (am_w5 wd_1053 wd_1055 wd_29 wd_67 wd_1056) (by decide) dX8_best_48 rfl) <|
  am_kc (ak_istore dX8_best_51 rfl) <|
  am_kc (ak_iconst dX8_best_53 (by decide +kernel) rfl) <|
  am_kc (ak_istore dX8_best_54 rfl) <|
  am_kc (ak_iconst dX8_best_56 (by decide +kernel) rfl) <|
  am_kc (ak_istore dX8_best_57 rfl) <|
  am_kc (ak_iload dX8_best_59 rfl) <|
  am_kc (ak_aload_n dX8_best_61 rfl rfl) <|
  am_kc (ak_getR (C := RX8) (T := TX8) (N := 27) rfl inX8w (by decide) rfl rfl rfl wd_895 dX8_best_62 rfl) <|
  am_kc (ak_iconst dX8_best_65 (by decide +kernel) rfl) <|
  am_kc (ak_iald (t := 0) (fun _ => rfl) rfl dX8_best_66 rfl) <|
  am_kc (ak_icmp_ge dX8_best_67 (by decide +kernel) rfl) <|
  am_kc (ak_aload_n dX8_best_70 rfl rfl) <|
  am_kc (ak_getR (C := RX8) (T := TX8) (N := 27) rfl inX8w (by decide) rfl rfl rfl wd_895 dX8_best_71 rfl) <|
  am_kc (ak_sipush dX8_best_74 (by decide +kernel) rfl) <|
  am_kc (ak_iload dX8_best_77 rfl) <|
  am_kc (ak_iadd dX8_best_79 rfl) <|
  am_kc (ak_iald (t := 0) (fun _ => rfl) rfl dX8_best_80 rfl) <|
  am_kc (ak_istore dX8_best_81 rfl) <|
  am_kc (ak_iload_n dX8_best_83 rfl rfl) <|
  am_kc (ak_iload dX8_best_84 rfl) <|
  am_kc (ak_callS metX8_mayBe ⟨rfl, by decide +kernel, by decide +kernel, by decide +kernel⟩ (am_w4 wd_1042 wd_1043 wd_67 wd_1044) (by decide) dX8_best_86 rfl) <|
  am_kc (ak_if_eq dX8_best_89 (by decide +kernel) rfl) <|
  am_kc (ak_aload_n dX8_best_92 rfl rfl) <|
  am_kc (ak_iload_n dX8_best_93 rfl rfl) <|
  am_kc (ak_iload_n dX8_best_94 rfl rfl) <|
  am_kc (ak_iload dX8_best_95 rfl) <|
  am_kc (ak_iload_n dX8_best_97 rfl rfl) <|
  am_kc (ak_iload dX8_best_98 rfl) <|
  am_kc (ak_callV (C := RX8) (F := TX8) (N := 27) (am_metF _ _ _ _) rfl ⟨rfl, by decide +kernel, by decide +kernel, by decide +kernel⟩ (am_w5 wd_1270 wd_1272 wd_56 wd_67 wd_1273) (by decide) dX8_best_100 rfl) <|
  am_kc (ak_lload dX8_best_103 rfl) <|
  am_kc (ak_lcmp dX8_best_105 rfl) <|
  am_kc (ak_if_lt dX8_best_106 (by decide +kernel) rfl) <|
  am_kc (ak_iload dX8_best_109 rfl) <|
  am_kc (ak_if_lt dX8_best_111 (by decide +kernel) rfl) <|
  am_kc (ak_iload dX8_best_114 rfl) <|
  am_kc (ak_iload dX8_best_116 rfl) <|
  am_kc (ak_callS (am_metF _ _ _ _) ⟨rfl, by decide +kernel, by decide +kernel, by decide +kernel⟩ (am_w4 wd_1286 wd_1287 wd_67 wd_1288) (by decide) dX8_best_118 rfl) <|
  am_kc (ak_iload dX8_best_121 rfl) <|
  am_kc (ak_iload dX8_best_123 rfl) <|
  am_kc (ak_callS (am_metF _ _ _ _) ⟨rfl, by decide +kernel, by decide +kernel, by decide +kernel⟩ (am_w4 wd_1286 wd_1287 wd_67 wd_1288) (by decide) dX8_best_125 rfl) <|
  am_kc (ak_icmp_lt dX8_best_128 (by decide +kernel) rfl) <|
  am_kc (ak_iload dX8_best_131 rfl) <|
  am_kc (ak_iload dX8_best_133 rfl) <|
  am_kc (ak_callS (am_metF _ _ _ _) ⟨rfl, by decide +kernel, by decide +kernel, by decide +kernel⟩ (am_w4 wd_1286 wd_1287 wd_67 wd_1288) (by decide) dX8_best_135 rfl) <|
  am_kc (ak_iload dX8_best_138 rfl) <|
  am_kc (ak_iload dX8_best_140 rfl) <|
  am_kc (ak_callS (am_metF _ _ _ _) ⟨rfl, by decide +kernel, by decide +kernel, by decide +kernel⟩ (am_w4 wd_1286 wd_1287 wd_67 wd_1288) (by decide) dX8_best_142 rfl) <|
  am_kc (ak_icmp_ne dX8_best_145 (by decide +kernel) rfl) <|
  am_kc (ak_iload dX8_best_148 rfl) <|
  am_kc (ak_iload dX8_best_150 rfl) <|
  am_kc (ak_icmp_ge dX8_best_152 (by decide +kernel) rfl) <|
  am_kc (ak_iconst dX8_best_155 (by decide +kernel) rfl) <|
  am_kc (ak_goto dX8_best_156 (by decide +kernel)) <|
  am_kc (ak_iconst dX8_best_159 (by decide +kernel) rfl) <|
  am_kc (ak_istore dX8_best_160 rfl) <|
  am_kc (ak_iload dX8_best_162 rfl) <|
  am_kc (ak_if_eq dX8_best_164 (by decide +kernel) rfl) <|
  am_kc (ak_iload dX8_best_167 rfl) <|
  am_kc (ak_goto dX8_best_169 (by decide +kernel)) <|
  am_kc (ak_iload dX8_best_172 rfl) <|
  am_kc (ak_istore dX8_best_174 rfl) <|
  am_kc (ak_iinc dX8_best_176 (by decide +kernel) rfl) <|
  am_kc (ak_goto dX8_best_179 (by decide +kernel)) <|
  am_kc (ak_iload dX8_best_182 rfl) <|
  am_kc (ak_retI dX8_best_184) <| am_kn
def TX8_best : am_T := fun live as M R => match as with
  | [.ref n, .int l, .int w, .int f, .int y, .int p, .long q] => am_mn live ∧ n = 200 ∧ am_F8 M ∧ R (some (.int (-2))) M
  | _ => False
set_option maxRecDepth 100000 in
set_option maxHeartbeats 4000000 in
theorem metX8_best : am_Met yX8_best cX8_best 13 (some .int) (2) (46) TX8_best := by
  refine am_met (own := RX8) (by decide +kernel) rfl kX8_best koX8_best 300 (fun _ _ _ _ _ => none) (fun live as M Ret h => ?_) (fun _ _ _ _ _ _ _ _ hI => by cases hI)
  unfold TX8_best at h
  split at h
  · next n l w f y p q =>
    refine ⟨Nat.le_of_ble_eq_true rfl, ?_⟩
    change am_wp _ _ _ _ [(0, Value.ref n), (1, Value.int l), (2, Value.int w), (3, Value.int f), (4, Value.int y), (5, Value.int p), (6, Value.long q)] _ _
    obtain ⟨⟨i1, i2, rfl⟩, rfl, hF, h⟩ := h
    have q0 : M.1 201 0 = 0 := hF.1 0 (by decide)
    have q1 : M.1 201 1 = 0 := hF.1 1 (by decide)
    repeat' (first | (with_reducible exact q0) | (with_reducible exact q1) | apply And.intro | exact rfl | (intro hx; exact absurd hx (by decide)) | (intro hx; exact absurd (by decide) hx) | decide | intro hx | (refine Exists.intro _ (And.intro rfl ?_)))
    all_goals try first | (with_reducible change am_tI _ _) | (change Ret _ _) | (change Ret _ _ _) | (change Exists _)
    all_goals try dsimp only at *
    all_goals try exact absurd ‹(1000 : Int64) = 0› (by decide)
    all_goals first | exact h | exact q0 | exact q1 | (left; exact ⟨i1, i2, rfl⟩) | exact ⟨i1, i2, rfl⟩
  · exact h.elim
