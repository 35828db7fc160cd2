/-! Run: what is safe of it, I -/
set_option maxRecDepth 100000 in
theorem wd_623 : Cond.methodLink "LearnLoans$Run" 183 yX0_givenBack ∈ am_ws := am_wsi (List.mem_of_getElem? (i := 623) (by rfl)) (by decide +kernel)
set_option maxRecDepth 100000 in
theorem wd_526 : Cond.instanceMethod yX0_givenBack ∈ am_ws := am_wsi (List.mem_of_getElem? (i := 526) (by rfl)) (by decide +kernel)
set_option maxRecDepth 100000 in
theorem wd_527 : Cond.selects "LearnLoans$House" yX0_givenBack yX0_givenBack ∈ am_ws := am_wsi (List.mem_of_getElem? (i := 527) (by rfl)) (by decide +kernel)
set_option maxRecDepth 100000 in
theorem wd_61 : Cond.initialized "LearnLoans$House" ∈ am_ws := am_wsi (List.mem_of_getElem? (i := 61) (by rfl)) (by decide +kernel)
set_option maxRecDepth 100000 in
theorem wd_528 : Cond.code yX0_givenBack cX0_givenBack 5 (some .long) ∈ am_ws := am_wsi (List.mem_of_getElem? (i := 528) (by rfl)) (by decide +kernel)
theorem dX4_draw_0 : decode cX4_draw 0 = .ok (.aload_n 0, 1) := by decide +kernel
theorem dX4_draw_1 : decode cX4_draw 1 = .ok (.getfield 22, 3) := by decide +kernel
theorem dX4_draw_4 : decode cX4_draw 4 = .ok (.iconst 0, 1) := by decide +kernel
theorem dX4_draw_5 : decode cX4_draw 5 = .ok (.iload_n 1, 1) := by decide +kernel
theorem dX4_draw_6 : decode cX4_draw 6 = .ok (.iadd, 1) := by decide +kernel
theorem dX4_draw_7 : decode cX4_draw 7 = .ok (.laload, 1) := by decide +kernel
theorem dX4_draw_8 : decode cX4_draw 8 = .ok (.lstore_n 3, 1) := by decide +kernel
theorem dX4_draw_9 : decode cX4_draw 9 = .ok (.iload_n 2, 1) := by decide +kernel
theorem dX4_draw_10 : decode cX4_draw 10 = .ok (.aload_n 0, 1) := by decide +kernel
theorem dX4_draw_11 : decode cX4_draw 11 = .ok (.getfield 12, 3) := by decide +kernel
theorem dX4_draw_14 : decode cX4_draw 14 = .ok (.getfield 59, 3) := by decide +kernel
theorem dX4_draw_17 : decode cX4_draw 17 = .ok (.iload_n 1, 1) := by decide +kernel
theorem dX4_draw_18 : decode cX4_draw 18 = .ok (.iconst 2, 1) := by decide +kernel
theorem dX4_draw_19 : decode cX4_draw 19 = .ok (.invokevirtual 66, 3) := by decide +kernel
theorem dX4_draw_22 : decode cX4_draw 22 = .ok (.if_icmp .ne 19, 3) := by decide +kernel
theorem dX4_draw_25 : decode cX4_draw 25 = .ok (.lload_n 3, 1) := by decide +kernel
theorem dX4_draw_26 : decode cX4_draw 26 = .ok (.aload_n 0, 1) := by decide +kernel
theorem dX4_draw_27 : decode cX4_draw 27 = .ok (.getfield 12, 3) := by decide +kernel
theorem dX4_draw_30 : decode cX4_draw 30 = .ok (.getfield 59, 3) := by decide +kernel
theorem dX4_draw_33 : decode cX4_draw 33 = .ok (.iload_n 1, 1) := by decide +kernel
theorem dX4_draw_34 : decode cX4_draw 34 = .ok (.iconst 3, 1) := by decide +kernel
theorem dX4_draw_35 : decode cX4_draw 35 = .ok (.invokevirtual 66, 3) := by decide +kernel
theorem dX4_draw_38 : decode cX4_draw 38 = .ok (.i2l, 1) := by decide +kernel
theorem dX4_draw_39 : decode cX4_draw 39 = .ok (.ladd, 1) := by decide +kernel
theorem dX4_draw_40 : decode cX4_draw 40 = .ok (.lstore_n 3, 1) := by decide +kernel
theorem dX4_draw_41 : decode cX4_draw 41 = .ok (.iload_n 2, 1) := by decide +kernel
theorem dX4_draw_42 : decode cX4_draw 42 = .ok (.aload_n 0, 1) := by decide +kernel
theorem dX4_draw_43 : decode cX4_draw 43 = .ok (.getfield 12, 3) := by decide +kernel
theorem dX4_draw_46 : decode cX4_draw 46 = .ok (.getfield 59, 3) := by decide +kernel
theorem dX4_draw_49 : decode cX4_draw 49 = .ok (.iload_n 1, 1) := by decide +kernel
theorem dX4_draw_50 : decode cX4_draw 50 = .ok (.iconst 5, 1) := by decide +kernel
theorem dX4_draw_51 : decode cX4_draw 51 = .ok (.invokevirtual 66, 3) := by decide +kernel
theorem dX4_draw_54 : decode cX4_draw 54 = .ok (.if_icmp .ne 18, 3) := by decide +kernel
theorem dX4_draw_57 : decode cX4_draw 57 = .ok (.lload_n 3, 1) := by decide +kernel
theorem dX4_draw_58 : decode cX4_draw 58 = .ok (.lload_n 3, 1) := by decide +kernel
theorem dX4_draw_59 : decode cX4_draw 59 = .ok (.aload_n 0, 1) := by decide +kernel
theorem dX4_draw_60 : decode cX4_draw 60 = .ok (.getfield 12, 3) := by decide +kernel
theorem dX4_draw_63 : decode cX4_draw 63 = .ok (.iload_n 1, 1) := by decide +kernel
theorem dX4_draw_64 : decode cX4_draw 64 = .ok (.invokevirtual 183, 3) := by decide +kernel
theorem dX4_draw_67 : decode cX4_draw 67 = .ok (.invokestatic 177, 3) := by decide +kernel
theorem dX4_draw_70 : decode cX4_draw 70 = .ok (.lsub, 1) := by decide +kernel
theorem dX4_draw_71 : decode cX4_draw 71 = .ok (.lstore_n 3, 1) := by decide +kernel
theorem dX4_draw_72 : decode cX4_draw 72 = .ok (.aload_n 0, 1) := by decide +kernel
theorem dX4_draw_73 : decode cX4_draw 73 = .ok (.getfield 22, 3) := by decide +kernel
theorem dX4_draw_76 : decode cX4_draw 76 = .ok (.iconst 0, 1) := by decide +kernel
theorem dX4_draw_77 : decode cX4_draw 77 = .ok (.iload_n 1, 1) := by decide +kernel
theorem dX4_draw_78 : decode cX4_draw 78 = .ok (.iadd, 1) := by decide +kernel
theorem dX4_draw_79 : decode cX4_draw 79 = .ok (.lload_n 3, 1) := by decide +kernel
theorem dX4_draw_80 : decode cX4_draw 80 = .ok (.lastore, 1) := by decide +kernel
theorem dX4_draw_81 : decode cX4_draw 81 = .ok (.return_, 1) := by decide +kernel
def kX4_draw (live : am_E) (Ret : am_R) : am_code := [(0, am_aload 0 1), (1, am_getR live 4 2 4), (4, am_const (.int 0) 5), (5, am_iload 1 6), (6, am_i2 (fun x y => x + y) 7), (7, am_lald live 1 8), (8, am_lstore 3 5 9), (9, am_iload 2 10), (10, am_aload 0 11), (11, am_getR live 4 0 14), (14, am_getR live 0 4 17), (17, am_iload 1 18), (18, am_const (.int 2) 19), (19, am_callV live 3 2 TX3_at 22), (22, am_if2 (fun x y => x = y) 25 41), (25, am_lload 3 26), (26, am_aload 0 27), (27, am_getR live 4 0 30), (30, am_getR live 0 4 33), (33, am_iload 1 34), (34, am_const (.int 3) 35), (35, am_callV live 3 2 TX3_at 38), (38, am_i2l 39), (39, am_l2 (fun x y => x + y) 40), (40, am_lstore 3 5 41), (41, am_iload 2 42), (42, am_aload 0 43), (43, am_getR live 4 0 46), (46, am_getR live 0 4 49), (49, am_iload 1 50), (50, am_const (.int 5) 51), (51, am_callV live 3 2 TX3_at 54), (54, am_if2 (fun x y => x = y) 57 72), (57, am_lload 3 58), (58, am_lload 3 59), (59, am_aload 0 60), (60, am_getR live 4 0 63), (63, am_iload 1 64), (64, am_callV live 0 1 TX0_givenBack 67), (67, am_mathl (fun x y => if y < x then y else x) 47 70), (70, am_l2 (fun x y => x - y) 71), (71, am_lstore 3 5 72), (72, am_aload 0 73), (73, am_getR live 4 2 76), (76, am_const (.int 0) 77), (77, am_iload 1 78), (78, am_i2 (fun x y => x + y) 79), (79, am_lload 3 80), (80, am_last live 1 81), (81, am_retV Ret)]
theorem koX4_draw (live : am_E) (Ret : am_R) : ∀ q ∈ kX4_draw live Ret, am_ok RX4 cX4_draw 5 none 2 47 live Ret q.1 q.2 :=
  am_kc (ak_aload_n dX4_draw_0 rfl rfl) <|
  am_kc (ak_getR (C := RX4) (T := TX4) (N := 19) rfl inX4w (by decide) rfl rfl rfl wd_296 dX4_draw_1 rfl) <|
  am_kc (ak_iconst dX4_draw_4 (by decide +kernel) rfl) <|
  am_kc (ak_iload_n dX4_draw_5 rfl rfl) <|
  am_kc (ak_iadd dX4_draw_6 rfl) <|
  am_kc (ak_lald (t := 1) (fun _ => rfl) rfl dX4_draw_7 rfl) <|
  am_kc (ak_lstore_n dX4_draw_8 rfl rfl) <|
  am_kc (ak_iload_n dX4_draw_9 rfl rfl) <|
  am_kc (ak_aload_n dX4_draw_10 rfl rfl) <|
  am_kc (ak_getR (C := RX4) (T := TX4) (N := 19) rfl inX4w (by decide) rfl rfl rfl wd_291 dX4_draw_11 rfl) <|
  am_kc (ak_getR (C := RX0) (T := TX0) (N := 13) rfl inX0w (by decide) rfl rfl rfl wd_206 dX4_draw_14 rfl) <|
  am_kc (ak_iload_n dX4_draw_17 rfl rfl) <|
  am_kc (ak_iconst dX4_draw_18 (by decide +kernel) rfl) <|
  am_kc (ak_callV (C := RX3) (F := TX3) (N := 3) metX3_at rfl ⟨rfl, by decide +kernel, by decide +kernel, by decide +kernel⟩ (am_w5 wd_502 wd_503 wd_504 wd_64 wd_505) (by decide) dX4_draw_19 rfl) <|
  am_kc (ak_icmp_ne dX4_draw_22 (by decide +kernel) rfl) <|
  am_kc (ak_lload_n dX4_draw_25 rfl rfl) <|
  am_kc (ak_aload_n dX4_draw_26 rfl rfl) <|
  am_kc (ak_getR (C := RX4) (T := TX4) (N := 19) rfl inX4w (by decide) rfl rfl rfl wd_291 dX4_draw_27 rfl) <|
  am_kc (ak_getR (C := RX0) (T := TX0) (N := 13) rfl inX0w (by decide) rfl rfl rfl wd_206 dX4_draw_30 rfl) <|
  am_kc (ak_iload_n dX4_draw_33 rfl rfl) <|
  am_kc (ak_iconst dX4_draw_34 (by decide +kernel) rfl) <|
  am_kc (ak_callV (C := RX3) (F := TX3) (N := 3) metX3_at rfl ⟨rfl, by decide +kernel, by decide +kernel, by decide +kernel⟩ (am_w5 wd_502 wd_503 wd_504 wd_64 wd_505) (by decide) dX4_draw_35 rfl) <|
  am_kc (ak_i2l dX4_draw_38 rfl) <|
  am_kc (ak_ladd dX4_draw_39 rfl) <|
  am_kc (ak_lstore_n dX4_draw_40 rfl rfl) <|
  am_kc (ak_iload_n dX4_draw_41 rfl rfl) <|
  am_kc (ak_aload_n dX4_draw_42 rfl rfl) <|
  am_kc (ak_getR (C := RX4) (T := TX4) (N := 19) rfl inX4w (by decide) rfl rfl rfl wd_291 dX4_draw_43 rfl) <|
  am_kc (ak_getR (C := RX0) (T := TX0) (N := 13) rfl inX0w (by decide) rfl rfl rfl wd_206 dX4_draw_46 rfl) <|
  am_kc (ak_iload_n dX4_draw_49 rfl rfl) <|
  am_kc (ak_iconst dX4_draw_50 (by decide +kernel) rfl) <|
  am_kc (ak_callV (C := RX3) (F := TX3) (N := 3) metX3_at rfl ⟨rfl, by decide +kernel, by decide +kernel, by decide +kernel⟩ (am_w5 wd_502 wd_503 wd_504 wd_64 wd_505) (by decide) dX4_draw_51 rfl) <|
  am_kc (ak_icmp_ne dX4_draw_54 (by decide +kernel) rfl) <|
  am_kc (ak_lload_n dX4_draw_57 rfl rfl) <|
  am_kc (ak_lload_n dX4_draw_58 rfl rfl) <|
  am_kc (ak_aload_n dX4_draw_59 rfl rfl) <|
  am_kc (ak_getR (C := RX4) (T := TX4) (N := 19) rfl inX4w (by decide) rfl rfl rfl wd_291 dX4_draw_60 rfl) <|
  am_kc (ak_iload_n dX4_draw_63 rfl rfl) <|
  am_kc (ak_callV (C := RX0) (F := TX0) (N := 13) metX0_givenBack rfl ⟨rfl, by decide +kernel, by decide +kernel, by decide +kernel⟩ (am_w5 wd_623 wd_526 wd_527 wd_61 wd_528) (by decide) dX4_draw_64 rfl) <|
  am_kc (ak_lmin (am_w4 wd_607 wd_608 wd_68 wd_609) (by decide) dX4_draw_67 rfl) <|
  am_kc (ak_lsub dX4_draw_70 rfl) <|
  am_kc (ak_lstore_n dX4_draw_71 rfl rfl) <|
  am_kc (ak_aload_n dX4_draw_72 rfl rfl) <|
  am_kc (ak_getR (C := RX4) (T := TX4) (N := 19) rfl inX4w (by decide) rfl rfl rfl wd_296 dX4_draw_73 rfl) <|
  am_kc (ak_iconst dX4_draw_76 (by decide +kernel) rfl) <|
  am_kc (ak_iload_n dX4_draw_77 rfl rfl) <|
  am_kc (ak_iadd dX4_draw_78 rfl) <|
  am_kc (ak_lload_n dX4_draw_79 rfl rfl) <|
  am_kc (ak_last (t := 1) (fun _ => rfl) rfl dX4_draw_80 rfl) <|
  am_kc (ak_retV dX4_draw_81) <| am_kn
def TX4_draw : am_T := fun live as M R => match as with
  | [.ref n, .int l, .int y] => am_mn live ∧ n = 4 ∧ am_in l 30 ∧ ∀ k v, R none (am_wJ M 6 k v)
  | _ => False
set_option maxRecDepth 100000 in
set_option maxHeartbeats 4000000 in
theorem metX4_draw : am_Met yX4_draw cX4_draw 5 none (2) (47) TX4_draw := by
  refine am_met (own := RX4) (by decide +kernel) rfl kX4_draw koX4_draw 100 (fun _ _ _ _ _ => none) (fun live as M Ret h => ?_) (fun _ _ _ _ _ _ _ _ hI => by cases hI)
  unfold TX4_draw at h
  split at h
  · next n l y =>
    refine ⟨Nat.le_of_ble_eq_true rfl, ?_⟩
    change am_wp _ _ _ _ [(0, Value.ref n), (1, Value.int l), (2, Value.int y)] _ _
    obtain ⟨hmn, rfl, hl, h⟩ := h
    have hmn2 := hmn
    obtain ⟨i1, i2, rfl⟩ := hmn2
    have l6 : am_len 6 = 180 := rfl
    have e0 := g_ix hl 0 0 rfl (by decide)
    repeat' (first | (with_reducible exact hmn) | apply And.intro | exact rfl | intro hx | (refine Exists.intro _ (And.intro rfl ?_)))
    all_goals try first | (with_reducible change am_tI _ _) | (change Ret _ _) | (change Ret _ _ _) | (change Exists _)
    all_goals try dsimp only at *
    all_goals try exact absurd ‹(1000 : Int64) = 0› (by decide)
    all_goals first
      | exact e0.1
      | (rw [l6]; exact e0.2.1)
      | exact h _ _
  · exact h.elim
set_option maxRecDepth 100000 in
theorem wd_198 : Cond.fieldLink "LearnLoans$Run" 238 "LearnLoans$House" "scales" "[I" ∈ am_ws := am_wsi (List.mem_of_getElem? (i := 198) (by rfl)) (by decide +kernel)
set_option maxRecDepth 100000 in
theorem wd_610 : Cond.methodLink "LearnLoans$Run" 229 Lib.MathLoose.max_long.x ∈ am_ws := am_wsi (List.mem_of_getElem? (i := 610) (by rfl)) (by decide +kernel)
set_option maxRecDepth 100000 in
theorem wd_611 : Cond.static Lib.MathLoose.max_long.x ∈ am_ws := am_wsi (List.mem_of_getElem? (i := 611) (by rfl)) (by decide +kernel)
set_option maxRecDepth 100000 in
theorem wd_612 : Cond.code Lib.MathLoose.max_long.x Lib.MathLoose.max_long.code 4 (some .long) ∈ am_ws := am_wsi (List.mem_of_getElem? (i := 612) (by rfl)) (by decide +kernel)
theorem dX4_asked_0 : decode cX4_asked 0 = .ok (.aload_n 0, 1) := by decide +kernel
theorem dX4_asked_1 : decode cX4_asked 1 = .ok (.getfield 140, 3) := by decide +kernel
theorem dX4_asked_4 : decode cX4_asked 4 = .ok (.iconst (-1), 1) := by decide +kernel
theorem dX4_asked_5 : decode cX4_asked 5 = .ok (.if_icmp .ne 24, 3) := by decide +kernel
theorem dX4_asked_8 : decode cX4_asked 8 = .ok (.aload_n 0, 1) := by decide +kernel
theorem dX4_asked_9 : decode cX4_asked 9 = .ok (.getfield 142, 3) := by decide +kernel
theorem dX4_asked_12 : decode cX4_asked 12 = .ok (.ifCond .ne 7, 3) := by decide +kernel
theorem dX4_asked_15 : decode cX4_asked 15 = .ok (.lconst 0, 1) := by decide +kernel
theorem dX4_asked_16 : decode cX4_asked 16 = .ok (.goto 12, 3) := by decide +kernel
theorem dX4_asked_19 : decode cX4_asked 19 = .ok (.aload_n 0, 1) := by decide +kernel
theorem dX4_asked_20 : decode cX4_asked 20 = .ok (.getfield 18, 3) := by decide +kernel
theorem dX4_asked_23 : decode cX4_asked 23 = .ok (.iload_n 1, 1) := by decide +kernel
theorem dX4_asked_24 : decode cX4_asked 24 = .ok (.iconst 5, 1) := by decide +kernel
theorem dX4_asked_25 : decode cX4_asked 25 = .ok (.iadd, 1) := by decide +kernel
theorem dX4_asked_26 : decode cX4_asked 26 = .ok (.iaload, 1) := by decide +kernel
theorem dX4_asked_27 : decode cX4_asked 27 = .ok (.i2l, 1) := by decide +kernel
theorem dX4_asked_28 : decode cX4_asked 28 = .ok (.lreturn, 1) := by decide +kernel
theorem dX4_asked_29 : decode cX4_asked 29 = .ok (.aload_n 0, 1) := by decide +kernel
theorem dX4_asked_30 : decode cX4_asked 30 = .ok (.getfield 18, 3) := by decide +kernel
theorem dX4_asked_33 : decode cX4_asked 33 = .ok (.iload_n 1, 1) := by decide +kernel
theorem dX4_asked_34 : decode cX4_asked 34 = .ok (.iconst 0, 1) := by decide +kernel
theorem dX4_asked_35 : decode cX4_asked 35 = .ok (.iadd, 1) := by decide +kernel
theorem dX4_asked_36 : decode cX4_asked 36 = .ok (.iaload, 1) := by decide +kernel
theorem dX4_asked_37 : decode cX4_asked 37 = .ok (.i2l, 1) := by decide +kernel
theorem dX4_asked_38 : decode cX4_asked 38 = .ok (.lstore_n 2, 1) := by decide +kernel
theorem dX4_asked_39 : decode cX4_asked 39 = .ok (.aload_n 0, 1) := by decide +kernel
theorem dX4_asked_40 : decode cX4_asked 40 = .ok (.getfield 142, 3) := by decide +kernel
theorem dX4_asked_43 : decode cX4_asked 43 = .ok (.ifCond .eq 23, 3) := by decide +kernel
theorem dX4_asked_46 : decode cX4_asked 46 = .ok (.lload_n 2, 1) := by decide +kernel
theorem dX4_asked_47 : decode cX4_asked 47 = .ok (.aload_n 0, 1) := by decide +kernel
theorem dX4_asked_48 : decode cX4_asked 48 = .ok (.getfield 12, 3) := by decide +kernel
theorem dX4_asked_51 : decode cX4_asked 51 = .ok (.getfield 238, 3) := by decide +kernel
theorem dX4_asked_54 : decode cX4_asked 54 = .ok (.aload_n 0, 1) := by decide +kernel
theorem dX4_asked_55 : decode cX4_asked 55 = .ok (.getfield 142, 3) := by decide +kernel
theorem dX4_asked_58 : decode cX4_asked 58 = .ok (.iaload, 1) := by decide +kernel
theorem dX4_asked_59 : decode cX4_asked 59 = .ok (.i2l, 1) := by decide +kernel
theorem dX4_asked_60 : decode cX4_asked 60 = .ok (.lmul, 1) := by decide +kernel
theorem dX4_asked_61 : decode cX4_asked 61 = .ok (.ldc2_w 173, 3) := by decide +kernel
theorem dX4_asked_64 : decode cX4_asked 64 = .ok (.ldiv, 1) := by decide +kernel
theorem dX4_asked_65 : decode cX4_asked 65 = .ok (.lstore_n 2, 1) := by decide +kernel
theorem dX4_asked_66 : decode cX4_asked 66 = .ok (.lconst 0, 1) := by decide +kernel
theorem dX4_asked_67 : decode cX4_asked 67 = .ok (.aload_n 0, 1) := by decide +kernel
theorem dX4_asked_68 : decode cX4_asked 68 = .ok (.getfield 140, 3) := by decide +kernel
theorem dX4_asked_71 : decode cX4_asked 71 = .ok (.i2l, 1) := by decide +kernel
theorem dX4_asked_72 : decode cX4_asked 72 = .ok (.lload_n 2, 1) := by decide +kernel
theorem dX4_asked_73 : decode cX4_asked 73 = .ok (.lsub, 1) := by decide +kernel
theorem dX4_asked_74 : decode cX4_asked 74 = .ok (.invokestatic 229, 3) := by decide +kernel
theorem dX4_asked_77 : decode cX4_asked 77 = .ok (.aload_n 0, 1) := by decide +kernel
theorem dX4_asked_78 : decode cX4_asked 78 = .ok (.getfield 18, 3) := by decide +kernel
theorem dX4_asked_81 : decode cX4_asked 81 = .ok (.iload_n 1, 1) := by decide +kernel
theorem dX4_asked_82 : decode cX4_asked 82 = .ok (.iconst 1, 1) := by decide +kernel
theorem dX4_asked_83 : decode cX4_asked 83 = .ok (.iadd, 1) := by decide +kernel
theorem dX4_asked_84 : decode cX4_asked 84 = .ok (.iaload, 1) := by decide +kernel
theorem dX4_asked_85 : decode cX4_asked 85 = .ok (.i2l, 1) := by decide +kernel
theorem dX4_asked_86 : decode cX4_asked 86 = .ok (.lmul, 1) := by decide +kernel
theorem dX4_asked_87 : decode cX4_asked 87 = .ok (.ldc2_w 173, 3) := by decide +kernel
theorem dX4_asked_90 : decode cX4_asked 90 = .ok (.ldiv, 1) := by decide +kernel
theorem dX4_asked_91 : decode cX4_asked 91 = .ok (.lreturn, 1) := by decide +kernel
def kX4_asked (live : am_E) (Ret : am_R) : am_code := [(0, am_aload 0 1), (1, am_getI live 4 16 4), (4, am_const (.int (-1)) 5), (5, am_if2 (fun x y => x = y) 8 29), (8, am_aload 0 9), (9, am_getI live 4 17 12), (12, am_if1 (fun x => x = 0) 15 19), (15, am_const (.long 0) 16), (16, am_goto 28), (19, am_aload 0 20), (20, am_getR live 4 1 23), (23, am_iload 1 24), (24, am_const (.int 5) 25), (25, am_i2 (fun x y => x + y) 26), (26, am_ald live 0 27), (27, am_i2l 28), (28, am_retL Ret), (29, am_aload 0 30), (30, am_getR live 4 1 33), (33, am_iload 1 34), (34, am_const (.int 0) 35), (35, am_i2 (fun x y => x + y) 36), (36, am_ald live 0 37), (37, am_i2l 38), (38, am_lstore 2 4 39), (39, am_aload 0 40), (40, am_getI live 4 17 43), (43, am_if1 (fun x => x = 0) 66 46), (46, am_lload 2 47), (47, am_aload 0 48), (48, am_getR live 4 0 51), (51, am_getR live 0 1 54), (54, am_aload 0 55), (55, am_getI live 4 17 58), (58, am_ald live 0 59), (59, am_i2l 60), (60, am_l2 (fun x y => x * y) 61), (61, am_const (.long 1000) 64), (64, am_l2z (fun x y => x / y) 65), (65, am_lstore 2 4 66), (66, am_const (.long 0) 67), (67, am_aload 0 68), (68, am_getI live 4 16 71), (71, am_i2l 72), (72, am_lload 2 73), (73, am_l2 (fun x y => x - y) 74), (74, am_mathl (fun x y => if y < x then x else y) 23 77), (77, am_aload 0 78), (78, am_getR live 4 1 81), (81, am_iload 1 82), (82, am_const (.int 1) 83), (83, am_i2 (fun x y => x + y) 84), (84, am_ald live 0 85), (85, am_i2l 86), (86, am_l2 (fun x y => x * y) 87), (87, am_const (.long 1000) 90), (90, am_l2z (fun x y => x / y) 91), (91, am_retL Ret)]
theorem koX4_asked (live : am_E) (Ret : am_R) : ∀ q ∈ kX4_asked live Ret, am_ok RX4 cX4_asked 4 (some .long) 1 23 live Ret q.1 q.2 :=
  am_kc (ak_aload_n dX4_asked_0 rfl rfl) <|
  am_kc (ak_getI (C := RX4) (T := TX4) (N := 19) rfl inX4w (by decide) rfl rfl rfl wd_313 dX4_asked_1 rfl) <|
  am_kc (ak_iconst dX4_asked_4 (by decide +kernel) rfl) <|
  am_kc (ak_icmp_ne dX4_asked_5 (by decide +kernel) rfl) <|
  am_kc (ak_aload_n dX4_asked_8 rfl rfl) <|
  am_kc (ak_getI (C := RX4) (T := TX4) (N := 19) rfl inX4w (by decide) rfl rfl rfl wd_314 dX4_asked_9 rfl) <|
  am_kc (ak_if_ne dX4_asked_12 (by decide +kernel) rfl) <|
  am_kc (ak_lconst dX4_asked_15 (by decide +kernel) rfl) <|
  am_kc (ak_goto dX4_asked_16 (by decide +kernel)) <|
  am_kc (ak_aload_n dX4_asked_19 rfl rfl) <|
  am_kc (ak_getR (C := RX4) (T := TX4) (N := 19) rfl inX4w (by decide) rfl rfl rfl wd_294 dX4_asked_20 rfl) <|
  am_kc (ak_iload_n dX4_asked_23 rfl rfl) <|
  am_kc (ak_iconst dX4_asked_24 (by decide +kernel) rfl) <|
  am_kc (ak_iadd dX4_asked_25 rfl) <|
  am_kc (ak_iald (t := 0) (fun _ => rfl) rfl dX4_asked_26 rfl) <|
  am_kc (ak_i2l dX4_asked_27 rfl) <|
  am_kc (ak_retL dX4_asked_28) <|
  am_kc (ak_aload_n dX4_asked_29 rfl rfl) <|
  am_kc (ak_getR (C := RX4) (T := TX4) (N := 19) rfl inX4w (by decide) rfl rfl rfl wd_294 dX4_asked_30 rfl) <|
  am_kc (ak_iload_n dX4_asked_33 rfl rfl) <|
  am_kc (ak_iconst dX4_asked_34 (by decide +kernel) rfl) <|
  am_kc (ak_iadd dX4_asked_35 rfl) <|
  am_kc (ak_iald (t := 0) (fun _ => rfl) rfl dX4_asked_36 rfl) <|
  am_kc (ak_i2l dX4_asked_37 rfl) <|
  am_kc (ak_lstore_n dX4_asked_38 rfl rfl) <|
  am_kc (ak_aload_n dX4_asked_39 rfl rfl) <|
  am_kc (ak_getI (C := RX4) (T := TX4) (N := 19) rfl inX4w (by decide) rfl rfl rfl wd_314 dX4_asked_40 rfl) <|
  am_kc (ak_if_eq dX4_asked_43 (by decide +kernel) rfl) <|
  am_kc (ak_lload_n dX4_asked_46 rfl rfl) <|
  am_kc (ak_aload_n dX4_asked_47 rfl rfl) <|
  am_kc (ak_getR (C := RX4) (T := TX4) (N := 19) rfl inX4w (by decide) rfl rfl rfl wd_291 dX4_asked_48 rfl) <|
  am_kc (ak_getR (C := RX0) (T := TX0) (N := 13) rfl inX0w (by decide) rfl rfl rfl wd_198 dX4_asked_51 rfl) <|
  am_kc (ak_aload_n dX4_asked_54 rfl rfl) <|
  am_kc (ak_getI (C := RX4) (T := TX4) (N := 19) rfl inX4w (by decide) rfl rfl rfl wd_314 dX4_asked_55 rfl) <|
  am_kc (ak_iald (t := 0) (fun _ => rfl) rfl dX4_asked_58 rfl) <|
  am_kc (ak_i2l dX4_asked_59 rfl) <|
  am_kc (ak_lmul dX4_asked_60 rfl) <|
  am_kc (ak_ldc2 wd_617 dX4_asked_61 rfl) <|
  am_kc (ak_ldiv dX4_asked_64 rfl) <|
  am_kc (ak_lstore_n dX4_asked_65 rfl rfl) <|
  am_kc (ak_lconst dX4_asked_66 (by decide +kernel) rfl) <|
  am_kc (ak_aload_n dX4_asked_67 rfl rfl) <|
  am_kc (ak_getI (C := RX4) (T := TX4) (N := 19) rfl inX4w (by decide) rfl rfl rfl wd_313 dX4_asked_68 rfl) <|
  am_kc (ak_i2l dX4_asked_71 rfl) <|
  am_kc (ak_lload_n dX4_asked_72 rfl rfl) <|
  am_kc (ak_lsub dX4_asked_73 rfl) <|
  am_kc (ak_lmax (am_w4 wd_610 wd_611 wd_68 wd_612) (by decide) dX4_asked_74 rfl) <|
  am_kc (ak_aload_n dX4_asked_77 rfl rfl) <|
  am_kc (ak_getR (C := RX4) (T := TX4) (N := 19) rfl inX4w (by decide) rfl rfl rfl wd_294 dX4_asked_78 rfl) <|
  am_kc (ak_iload_n dX4_asked_81 rfl rfl) <|
  am_kc (ak_iconst dX4_asked_82 (by decide +kernel) rfl) <|
  am_kc (ak_iadd dX4_asked_83 rfl) <|
  am_kc (ak_iald (t := 0) (fun _ => rfl) rfl dX4_asked_84 rfl) <|
  am_kc (ak_i2l dX4_asked_85 rfl) <|
  am_kc (ak_lmul dX4_asked_86 rfl) <|
  am_kc (ak_ldc2 wd_617 dX4_asked_87 rfl) <|
  am_kc (ak_ldiv dX4_asked_90 rfl) <|
  am_kc (ak_retL dX4_asked_91) <| am_kn
def am_asked (M : am_M) (c : Int32) : Int64 := if M.1 4 16 = -1 then (if M.1 4 17 = 0 then 0 else (M.1 5 (c + 5).toNatClampNeg).toInt64) else (fun e : Int64 => (if e < 0 then 0 else e) * (M.1 5 (c + 1).toNatClampNeg).toInt64 / 1000) ((M.1 4 16).toInt64 - (if M.1 4 17 = 0 then (M.1 5 (c + 0).toNatClampNeg).toInt64 else (M.1 5 (c + 0).toNatClampNeg).toInt64 * (M.1 29 (M.1 4 17).toNatClampNeg).toInt64 / 1000))
def TX4_asked : am_T := fun live as M R => match as with
  | [.ref n, .int c] => am_mn live ∧ n = 4 ∧ (0 ≤ c.toInt ∧ c.toInt ≤ 1194) ∧ am_in (M.1 4 17) 4 ∧ R (some (.long (am_asked M c))) M
  | _ => False
set_option maxRecDepth 100000 in
set_option maxHeartbeats 4000000 in
theorem metX4_asked : am_Met yX4_asked cX4_asked 4 (some .long) (1) (23) TX4_asked := by
  refine am_met (own := RX4) (by decide +kernel) rfl kX4_asked koX4_asked 100 (fun _ _ _ _ _ => none) (fun live as M Ret h => ?_) (fun _ _ _ _ _ _ _ _ hI => by cases hI)
  unfold TX4_asked at h
  split at h
  · next n c =>
    refine ⟨Nat.le_of_ble_eq_true rfl, ?_⟩
    change am_wp _ _ _ _ [(0, Value.ref n), (1, Value.int c)] _ _
    obtain ⟨⟨i1, i2, rfl⟩, rfl, ⟨c1, c2⟩, ⟨d1, d2⟩, h⟩ := h
    have l5 : am_len 5 = 1200 := rfl
    have l29 : am_len 29 = 4 := rfl
    have f0 := i_add (x := c) (y := 0) (by simp only [Int32.reduceToInt]; omega) (by simp only [Int32.reduceToInt]; omega)
    have f1 := i_add (x := c) (y := 1) (by simp only [Int32.reduceToInt]; omega) (by simp only [Int32.reduceToInt]; omega)
    have f5 := i_add (x := c) (y := 5) (by simp only [Int32.reduceToInt]; omega) (by simp only [Int32.reduceToInt]; omega)
    simp only [Int32.reduceToInt] at f0 f1 f5
    repeat' (first | apply And.intro | exact rfl | intro hx | (refine Exists.intro _ (And.intro rfl ?_)))
    all_goals try first | (with_reducible change am_tI _ _) | (change Ret _ _) | (change Ret _ _ _) | (change Exists _)
    all_goals try dsimp only at *
    all_goals try exact absurd ‹(1000 : Int64) = 0› (by decide)
    all_goals first
      | (rw [f0]; omega)
      | (rw [f1]; omega)
      | (rw [f5]; omega)
      | (rw [f0, l5]; omega)
      | (rw [f1, l5]; omega)
      | (rw [f5, l5]; omega)
      | (rw [l29]; omega)
      | omega
      | skip
    all_goals
      simp only [am_asked] at *
      simp_all
  · exact h.elim
set_option maxRecDepth 100000 in
theorem wd_203 : Cond.fieldLink "LearnLoans$Run" 116 "LearnLoans$House" "acts" "LLearnLoans$Rows;" ∈ am_ws := am_wsi (List.mem_of_getElem? (i := 203) (by rfl)) (by decide +kernel)
theorem dX4_layAct_0 : decode cX4_layAct 0 = .ok (.aload_n 0, 1) := by decide +kernel
theorem dX4_layAct_1 : decode cX4_layAct 1 = .ok (.getfield 12, 3) := by decide +kernel
theorem dX4_layAct_4 : decode cX4_layAct 4 = .ok (.getfield 116, 3) := by decide +kernel
theorem dX4_layAct_7 : decode cX4_layAct 7 = .ok (.astore 4, 2) := by decide +kernel
theorem dX4_layAct_9 : decode cX4_layAct 9 = .ok (.iload_n 3, 1) := by decide +kernel
theorem dX4_layAct_10 : decode cX4_layAct 10 = .ok (.aload 4, 2) := by decide +kernel
theorem dX4_layAct_12 : decode cX4_layAct 12 = .ok (.iload_n 1, 1) := by decide +kernel
theorem dX4_layAct_13 : decode cX4_layAct 13 = .ok (.iconst 4, 1) := by decide +kernel
theorem dX4_layAct_14 : decode cX4_layAct 14 = .ok (.invokevirtual 66, 3) := by decide +kernel
theorem dX4_layAct_17 : decode cX4_layAct 17 = .ok (.if_icmp .lt 67, 3) := by decide +kernel
theorem dX4_layAct_20 : decode cX4_layAct 20 = .ok (.iload_n 3, 1) := by decide +kernel
theorem dX4_layAct_21 : decode cX4_layAct 21 = .ok (.aload 4, 2) := by decide +kernel
theorem dX4_layAct_23 : decode cX4_layAct 23 = .ok (.iload_n 1, 1) := by decide +kernel
theorem dX4_layAct_24 : decode cX4_layAct 24 = .ok (.iconst 5, 1) := by decide +kernel
theorem dX4_layAct_25 : decode cX4_layAct 25 = .ok (.invokevirtual 66, 3) := by decide +kernel
theorem dX4_layAct_28 : decode cX4_layAct 28 = .ok (.if_icmp .gt 56, 3) := by decide +kernel
theorem dX4_layAct_31 : decode cX4_layAct 31 = .ok (.iload_n 2, 1) := by decide +kernel
theorem dX4_layAct_32 : decode cX4_layAct 32 = .ok (.iconst 5, 1) := by decide +kernel
theorem dX4_layAct_33 : decode cX4_layAct 33 = .ok (.imul, 1) := by decide +kernel
theorem dX4_layAct_34 : decode cX4_layAct 34 = .ok (.aload 4, 2) := by decide +kernel
theorem dX4_layAct_36 : decode cX4_layAct 36 = .ok (.iload_n 1, 1) := by decide +kernel
theorem dX4_layAct_37 : decode cX4_layAct 37 = .ok (.iconst 0, 1) := by decide +kernel
theorem dX4_layAct_38 : decode cX4_layAct 38 = .ok (.invokevirtual 66, 3) := by decide +kernel
theorem dX4_layAct_41 : decode cX4_layAct 41 = .ok (.iadd, 1) := by decide +kernel
theorem dX4_layAct_42 : decode cX4_layAct 42 = .ok (.bipush 6, 2) := by decide +kernel
theorem dX4_layAct_44 : decode cX4_layAct 44 = .ok (.imul, 1) := by decide +kernel
theorem dX4_layAct_45 : decode cX4_layAct 45 = .ok (.aload 4, 2) := by decide +kernel
theorem dX4_layAct_47 : decode cX4_layAct 47 = .ok (.iload_n 1, 1) := by decide +kernel
theorem dX4_layAct_48 : decode cX4_layAct 48 = .ok (.iconst 1, 1) := by decide +kernel
theorem dX4_layAct_49 : decode cX4_layAct 49 = .ok (.invokevirtual 66, 3) := by decide +kernel
theorem dX4_layAct_52 : decode cX4_layAct 52 = .ok (.iadd, 1) := by decide +kernel
theorem dX4_layAct_53 : decode cX4_layAct 53 = .ok (.istore 5, 2) := by decide +kernel
theorem dX4_layAct_55 : decode cX4_layAct 55 = .ok (.iload 5, 2) := by decide +kernel
theorem dX4_layAct_57 : decode cX4_layAct 57 = .ok (.ifCond .lt 27, 3) := by decide +kernel
theorem dX4_layAct_60 : decode cX4_layAct 60 = .ok (.iload 5, 2) := by decide +kernel
theorem dX4_layAct_62 : decode cX4_layAct 62 = .ok (.aload_n 0, 1) := by decide +kernel
theorem dX4_layAct_63 : decode cX4_layAct 63 = .ok (.getfield 18, 3) := by decide +kernel
theorem dX4_layAct_66 : decode cX4_layAct 66 = .ok (.arraylength, 1) := by decide +kernel
theorem dX4_layAct_67 : decode cX4_layAct 67 = .ok (.if_icmp .ge 17, 3) := by decide +kernel
theorem dX4_layAct_70 : decode cX4_layAct 70 = .ok (.aload_n 0, 1) := by decide +kernel
theorem dX4_layAct_71 : decode cX4_layAct 71 = .ok (.getfield 18, 3) := by decide +kernel
theorem dX4_layAct_74 : decode cX4_layAct 74 = .ok (.iload 5, 2) := by decide +kernel
theorem dX4_layAct_76 : decode cX4_layAct 76 = .ok (.aload 4, 2) := by decide +kernel
theorem dX4_layAct_78 : decode cX4_layAct 78 = .ok (.iload_n 1, 1) := by decide +kernel
theorem dX4_layAct_79 : decode cX4_layAct 79 = .ok (.iconst 2, 1) := by decide +kernel
theorem dX4_layAct_80 : decode cX4_layAct 80 = .ok (.invokevirtual 66, 3) := by decide +kernel
theorem dX4_layAct_83 : decode cX4_layAct 83 = .ok (.iastore, 1) := by decide +kernel
theorem dX4_layAct_84 : decode cX4_layAct 84 = .ok (.return_, 1) := by decide +kernel
def kX4_layAct (live : am_E) (Ret : am_R) : am_code := [(0, am_aload 0 1), (1, am_getR live 4 0 4), (4, am_getR live 0 3 7), (7, am_astore 4 6 9), (9, am_iload 3 10), (10, am_aload 4 12), (12, am_iload 1 13), (13, am_const (.int 4) 14), (14, am_callV live 3 2 TX3_at 17), (17, am_if2 (fun x y => x < y) 84 20), (20, am_iload 3 21), (21, am_aload 4 23), (23, am_iload 1 24), (24, am_const (.int 5) 25), (25, am_callV live 3 2 TX3_at 28), (28, am_if2 (fun x y => y < x) 84 31), (31, am_iload 2 32), (32, am_const (.int 5) 33), (33, am_i2 (fun x y => x * y) 34), (34, am_aload 4 36), (36, am_iload 1 37), (37, am_const (.int 0) 38), (38, am_callV live 3 2 TX3_at 41), (41, am_i2 (fun x y => x + y) 42), (42, am_const (.int 6) 44), (44, am_i2 (fun x y => x * y) 45), (45, am_aload 4 47), (47, am_iload 1 48), (48, am_const (.int 1) 49), (49, am_callV live 3 2 TX3_at 52), (52, am_i2 (fun x y => x + y) 53), (53, am_istore 5 6 55), (55, am_iload 5 57), (57, am_if1 (fun x => x < 0) 84 60), (60, am_iload 5 62), (62, am_aload 0 63), (63, am_getR live 4 1 66), (66, am_alen live 0 67), (67, am_if2 (fun x y => y ≤ x) 84 70), (70, am_aload 0 71), (71, am_getR live 4 1 74), (74, am_iload 5 76), (76, am_aload 4 78), (78, am_iload 1 79), (79, am_const (.int 2) 80), (80, am_callV live 3 2 TX3_at 83), (83, am_ast live 0 84), (84, am_retV Ret)]
theorem koX4_layAct (live : am_E) (Ret : am_R) : ∀ q ∈ kX4_layAct live Ret, am_ok RX4 cX4_layAct 6 none 1 23 live Ret q.1 q.2 :=
  am_kc (ak_aload_n dX4_layAct_0 rfl rfl) <|
  am_kc (ak_getR (C := RX4) (T := TX4) (N := 19) rfl inX4w (by decide) rfl rfl rfl wd_291 dX4_layAct_1 rfl) <|
  am_kc (ak_getR (C := RX0) (T := TX0) (N := 13) rfl inX0w (by decide) rfl rfl rfl wd_203 dX4_layAct_4 rfl) <|
  am_kc (ak_astore dX4_layAct_7 rfl) <|
  am_kc (ak_iload_n dX4_layAct_9 rfl rfl) <|
  am_kc (ak_aload dX4_layAct_10 rfl) <|
  am_kc (ak_iload_n dX4_layAct_12 rfl rfl) <|
  am_kc (ak_iconst dX4_layAct_13 (by decide +kernel) rfl) <|
  am_kc (ak_callV (C := RX3) (F := TX3) (N := 3) metX3_at rfl ⟨rfl, by decide +kernel, by decide +kernel, by decide +kernel⟩ (am_w5 wd_502 wd_503 wd_504 wd_64 wd_505) (by decide) dX4_layAct_14 rfl) <|
  am_kc (ak_icmp_lt dX4_layAct_17 (by decide +kernel) rfl) <|
  am_kc (ak_iload_n dX4_layAct_20 rfl rfl) <|
  am_kc (ak_aload dX4_layAct_21 rfl) <|
  am_kc (ak_iload_n dX4_layAct_23 rfl rfl) <|
  am_kc (ak_iconst dX4_layAct_24 (by decide +kernel) rfl) <|
  am_kc (ak_callV (C := RX3) (F := TX3) (N := 3) metX3_at rfl ⟨rfl, by decide +kernel, by decide +kernel, by decide +kernel⟩ (am_w5 wd_502 wd_503 wd_504 wd_64 wd_505) (by decide) dX4_layAct_25 rfl) <|
  am_kc (ak_icmp_gt dX4_layAct_28 (by decide +kernel) rfl) <|
  am_kc (ak_iload_n dX4_layAct_31 rfl rfl) <|
  am_kc (ak_iconst dX4_layAct_32 (by decide +kernel) rfl) <|
  am_kc (ak_imul dX4_layAct_33 rfl) <|
  am_kc (ak_aload dX4_layAct_34 rfl) <|
  am_kc (ak_iload_n dX4_layAct_36 rfl rfl) <|
  am_kc (ak_iconst dX4_layAct_37 (by decide +kernel) rfl) <|
  am_kc (ak_callV (C := RX3) (F := TX3) (N := 3) metX3_at rfl ⟨rfl, by decide +kernel, by decide +kernel, by decide +kernel⟩ (am_w5 wd_502 wd_503 wd_504 wd_64 wd_505) (by decide) dX4_layAct_38 rfl) <|
  am_kc (ak_iadd dX4_layAct_41 rfl) <|
  am_kc (ak_bipush dX4_layAct_42 (by decide +kernel) rfl) <|
  am_kc (ak_imul dX4_layAct_44 rfl) <|
  am_kc (ak_aload dX4_layAct_45 rfl) <|
  am_kc (ak_iload_n dX4_layAct_47 rfl rfl) <|
  am_kc (ak_iconst dX4_layAct_48 (by decide +kernel) rfl) <|
  am_kc (ak_callV (C := RX3) (F := TX3) (N := 3) metX3_at rfl ⟨rfl, by decide +kernel, by decide +kernel, by decide +kernel⟩ (am_w5 wd_502 wd_503 wd_504 wd_64 wd_505) (by decide) dX4_layAct_49 rfl) <|
  am_kc (ak_iadd dX4_layAct_52 rfl) <|
  am_kc (ak_istore dX4_layAct_53 rfl) <|
  am_kc (ak_iload dX4_layAct_55 rfl) <|
  am_kc (ak_if_lt dX4_layAct_57 (by decide +kernel) rfl) <|
  am_kc (ak_iload dX4_layAct_60 rfl) <|
  am_kc (ak_aload_n dX4_layAct_62 rfl rfl) <|
  am_kc (ak_getR (C := RX4) (T := TX4) (N := 19) rfl inX4w (by decide) rfl rfl rfl wd_294 dX4_layAct_63 rfl) <|
  am_kc (ak_alen (t := 0) (fun _ => rfl) dX4_layAct_66 rfl) <|
  am_kc (ak_icmp_ge dX4_layAct_67 (by decide +kernel) rfl) <|
  am_kc (ak_aload_n dX4_layAct_70 rfl rfl) <|
  am_kc (ak_getR (C := RX4) (T := TX4) (N := 19) rfl inX4w (by decide) rfl rfl rfl wd_294 dX4_layAct_71 rfl) <|
  am_kc (ak_iload dX4_layAct_74 rfl) <|
  am_kc (ak_aload dX4_layAct_76 rfl) <|
  am_kc (ak_iload_n dX4_layAct_78 rfl rfl) <|
  am_kc (ak_iconst dX4_layAct_79 (by decide +kernel) rfl) <|
  am_kc (ak_callV (C := RX3) (F := TX3) (N := 3) metX3_at rfl ⟨rfl, by decide +kernel, by decide +kernel, by decide +kernel⟩ (am_w5 wd_502 wd_503 wd_504 wd_64 wd_505) (by decide) dX4_layAct_80 rfl) <|
  am_kc (ak_iast (t := 0) (fun _ => rfl) rfl dX4_layAct_83 rfl) <|
  am_kc (ak_retV dX4_layAct_84) <| am_kn
def TX4_layAct : am_T := fun live as M R => match as with
  | [.ref n, .int a, .int y, .int b] => am_mn live ∧ n = 4 ∧ g_rI M ∧ ∀ M', g_sc M M' → g_rI M' → R none M'
  | _ => False
set_option maxRecDepth 100000 in
set_option maxHeartbeats 4000000 in
theorem metX4_layAct : am_Met yX4_layAct cX4_layAct 6 none (1) (23) TX4_layAct := by
  refine am_met (own := RX4) (by decide +kernel) rfl kX4_layAct koX4_layAct 100 (fun _ _ _ _ _ => none) (fun live as M Ret h => ?_) (fun _ _ _ _ _ _ _ _ hI => by cases hI)
  unfold TX4_layAct at h
  split at h
  · next n a y b =>
    refine ⟨Nat.le_of_ble_eq_true rfl, ?_⟩
    change am_wp _ _ _ _ [(0, Value.ref n), (1, Value.int a), (2, Value.int y), (3, Value.int b)] _ _
    obtain ⟨hmn, rfl, hr, h⟩ := h
    have hmn2 := hmn
    obtain ⟨i1, i2, rfl⟩ := hmn2
    repeat' (first | (with_reducible exact hmn) | apply And.intro | exact rfl | intro hx | (refine Exists.intro _ (And.intro rfl ?_)))
    all_goals try first | (with_reducible change am_tI _ _) | (change Ret _ _) | (change Ret _ _ _) | (change Exists _)
    all_goals try dsimp only at *
    all_goals try exact absurd ‹(1000 : Int64) = 0› (by decide)
    all_goals first
      | exact h _ g_sc.rf hr
      | exact h _ (g_sc.rf.wI rfl) hr.w5
      | (simp only [i_lt, i_le, Int32.reduceToInt] at *; omega)
      | skip
    · have hn : (Int32.ofNat (am_len 5)).toInt = 1200 := by decide +kernel
      have l5 : am_len 5 = 1200 := rfl
      simp only [i_le, hn] at hx
      rw [l5]
      omega
  · exact h.elim
set_option maxRecDepth 100000 in
theorem wd_303 : Cond.fieldLink "LearnLoans$Run" 56 "LearnLoans$Run" "size" "I" ∈ am_ws := am_wsi (List.mem_of_getElem? (i := 303) (by rfl)) (by decide +kernel)
set_option maxRecDepth 100000 in
theorem wd_300 : Cond.fieldLink "LearnLoans$Run" 29 "LearnLoans$Run" "queue" "[I" ∈ am_ws := am_wsi (List.mem_of_getElem? (i := 300) (by rfl)) (by decide +kernel)
theorem dX4_payAhead_0 : decode cX4_payAhead 0 = .ok (.iconst 0, 1) := by decide +kernel
theorem dX4_payAhead_1 : decode cX4_payAhead 1 = .ok (.istore_n 1, 1) := by decide +kernel
theorem dX4_payAhead_2 : decode cX4_payAhead 2 = .ok (.iload_n 1, 1) := by decide +kernel
theorem dX4_payAhead_3 : decode cX4_payAhead 3 = .ok (.aload_n 0, 1) := by decide +kernel
theorem dX4_payAhead_4 : decode cX4_payAhead 4 = .ok (.getfield 56, 3) := by decide +kernel
theorem dX4_payAhead_7 : decode cX4_payAhead 7 = .ok (.if_icmp .ge 62, 3) := by decide +kernel
theorem dX4_payAhead_10 : decode cX4_payAhead 10 = .ok (.iconst 0, 1) := by decide +kernel
theorem dX4_payAhead_11 : decode cX4_payAhead 11 = .ok (.aload_n 0, 1) := by decide +kernel
theorem dX4_payAhead_12 : decode cX4_payAhead 12 = .ok (.getfield 29, 3) := by decide +kernel
theorem dX4_payAhead_15 : decode cX4_payAhead 15 = .ok (.iload_n 1, 1) := by decide +kernel
theorem dX4_payAhead_16 : decode cX4_payAhead 16 = .ok (.iaload, 1) := by decide +kernel
theorem dX4_payAhead_17 : decode cX4_payAhead 17 = .ok (.iadd, 1) := by decide +kernel
theorem dX4_payAhead_18 : decode cX4_payAhead 18 = .ok (.istore_n 2, 1) := by decide +kernel
theorem dX4_payAhead_19 : decode cX4_payAhead 19 = .ok (.aload_n 0, 1) := by decide +kernel
theorem dX4_payAhead_20 : decode cX4_payAhead 20 = .ok (.getfield 94, 3) := by decide +kernel
theorem dX4_payAhead_23 : decode cX4_payAhead 23 = .ok (.aload_n 0, 1) := by decide +kernel
theorem dX4_payAhead_24 : decode cX4_payAhead 24 = .ok (.getfield 22, 3) := by decide +kernel
theorem dX4_payAhead_27 : decode cX4_payAhead 27 = .ok (.iload_n 2, 1) := by decide +kernel
theorem dX4_payAhead_28 : decode cX4_payAhead 28 = .ok (.laload, 1) := by decide +kernel
theorem dX4_payAhead_29 : decode cX4_payAhead 29 = .ok (.invokestatic 177, 3) := by decide +kernel
theorem dX4_payAhead_32 : decode cX4_payAhead 32 = .ok (.lstore_n 3, 1) := by decide +kernel
theorem dX4_payAhead_33 : decode cX4_payAhead 33 = .ok (.aload_n 0, 1) := by decide +kernel
theorem dX4_payAhead_34 : decode cX4_payAhead 34 = .ok (.getfield 22, 3) := by decide +kernel
theorem dX4_payAhead_37 : decode cX4_payAhead 37 = .ok (.iload_n 2, 1) := by decide +kernel
theorem dX4_payAhead_38 : decode cX4_payAhead 38 = .ok (.dup2, 1) := by decide +kernel
theorem dX4_payAhead_39 : decode cX4_payAhead 39 = .ok (.laload, 1) := by decide +kernel
theorem dX4_payAhead_40 : decode cX4_payAhead 40 = .ok (.lload_n 3, 1) := by decide +kernel
theorem dX4_payAhead_41 : decode cX4_payAhead 41 = .ok (.lsub, 1) := by decide +kernel
theorem dX4_payAhead_42 : decode cX4_payAhead 42 = .ok (.lastore, 1) := by decide +kernel
theorem dX4_payAhead_43 : decode cX4_payAhead 43 = .ok (.aload_n 0, 1) := by decide +kernel
theorem dX4_payAhead_44 : decode cX4_payAhead 44 = .ok (.dup, 1) := by decide +kernel
theorem dX4_payAhead_45 : decode cX4_payAhead 45 = .ok (.getfield 94, 3) := by decide +kernel
theorem dX4_payAhead_48 : decode cX4_payAhead 48 = .ok (.lload_n 3, 1) := by decide +kernel
theorem dX4_payAhead_49 : decode cX4_payAhead 49 = .ok (.lsub, 1) := by decide +kernel
theorem dX4_payAhead_50 : decode cX4_payAhead 50 = .ok (.putfield 94, 3) := by decide +kernel
theorem dX4_payAhead_53 : decode cX4_payAhead 53 = .ok (.aload_n 0, 1) := by decide +kernel
theorem dX4_payAhead_54 : decode cX4_payAhead 54 = .ok (.dup, 1) := by decide +kernel
theorem dX4_payAhead_55 : decode cX4_payAhead 55 = .ok (.getfield 98, 3) := by decide +kernel
theorem dX4_payAhead_58 : decode cX4_payAhead 58 = .ok (.lload_n 3, 1) := by decide +kernel
theorem dX4_payAhead_59 : decode cX4_payAhead 59 = .ok (.ladd, 1) := by decide +kernel
theorem dX4_payAhead_60 : decode cX4_payAhead 60 = .ok (.putfield 98, 3) := by decide +kernel
theorem dX4_payAhead_63 : decode cX4_payAhead 63 = .ok (.iinc 1 1, 3) := by decide +kernel
theorem dX4_payAhead_66 : decode cX4_payAhead 66 = .ok (.goto (-64), 3) := by decide +kernel
theorem dX4_payAhead_69 : decode cX4_payAhead 69 = .ok (.aload_n 0, 1) := by decide +kernel
theorem dX4_payAhead_70 : decode cX4_payAhead 70 = .ok (.lconst 0, 1) := by decide +kernel
theorem dX4_payAhead_71 : decode cX4_payAhead 71 = .ok (.putfield 94, 3) := by decide +kernel
theorem dX4_payAhead_74 : decode cX4_payAhead 74 = .ok (.return_, 1) := by decide +kernel
def kX4_payAhead (live : am_E) (Ret : am_R) : am_code := [(0, am_const (.int 0) 1), (1, am_istore 1 5 2), (2, am_iload 1 3), (3, am_aload 0 4), (4, am_getI live 4 7 7), (7, am_if2 (fun x y => y ≤ x) 69 10), (10, am_const (.int 0) 11), (11, am_aload 0 12), (12, am_getR live 4 4 15), (15, am_iload 1 16), (16, am_ald live 0 17), (17, am_i2 (fun x y => x + y) 18), (18, am_istore 2 5 19), (19, am_aload 0 20), (20, am_getJ live 4 14 23), (23, am_aload 0 24), (24, am_getR live 4 2 27), (27, am_iload 2 28), (28, am_lald live 1 29), (29, am_mathl (fun x y => if y < x then y else x) 23 32), (32, am_lstore 3 5 33), (33, am_aload 0 34), (34, am_getR live 4 2 37), (37, am_iload 2 38), (38, am_dup2 39), (39, am_lald live 1 40), (40, am_lload 3 41), (41, am_l2 (fun x y => x - y) 42), (42, am_last live 1 43), (43, am_aload 0 44), (44, am_dup 45), (45, am_getJ live 4 14 48), (48, am_lload 3 49), (49, am_l2 (fun x y => x - y) 50), (50, am_putJ live 4 14 53), (53, am_aload 0 54), (54, am_dup 55), (55, am_getJ live 4 15 58), (58, am_lload 3 59), (59, am_l2 (fun x y => x + y) 60), (60, am_putJ live 4 15 63), (63, am_iinc 1 5 1 66), (66, am_goto 2), (69, am_aload 0 70), (70, am_const (.long 0) 71), (71, am_putJ live 4 14 74), (74, am_retV Ret)]
theorem koX4_payAhead (live : am_E) (Ret : am_R) : ∀ q ∈ kX4_payAhead live Ret, am_ok RX4 cX4_payAhead 5 none 1 23 live Ret q.1 q.2 :=
  am_kc (ak_iconst dX4_payAhead_0 (by decide +kernel) rfl) <|
  am_kc (ak_istore_n dX4_payAhead_1 rfl rfl) <|
  am_kc (ak_iload_n dX4_payAhead_2 rfl rfl) <|
  am_kc (ak_aload_n dX4_payAhead_3 rfl rfl) <|
  am_kc (ak_getI (C := RX4) (T := TX4) (N := 19) rfl inX4w (by decide) rfl rfl rfl wd_303 dX4_payAhead_4 rfl) <|
  am_kc (ak_icmp_ge dX4_payAhead_7 (by decide +kernel) rfl) <|
  am_kc (ak_iconst dX4_payAhead_10 (by decide +kernel) rfl) <|
  am_kc (ak_aload_n dX4_payAhead_11 rfl rfl) <|
  am_kc (ak_getR (C := RX4) (T := TX4) (N := 19) rfl inX4w (by decide) rfl rfl rfl wd_300 dX4_payAhead_12 rfl) <|
  am_kc (ak_iload_n dX4_payAhead_15 rfl rfl) <|
  am_kc (ak_iald (t := 0) (fun _ => rfl) rfl dX4_payAhead_16 rfl) <|
  am_kc (ak_iadd dX4_payAhead_17 rfl) <|
  am_kc (ak_istore_n dX4_payAhead_18 rfl rfl) <|
  am_kc (ak_aload_n dX4_payAhead_19 rfl rfl) <|
  am_kc (ak_getJ (C := RX4) (T := TX4) (N := 19) rfl inX4w (by decide) rfl rfl rfl wd_310 dX4_payAhead_20 rfl) <|
  am_kc (ak_aload_n dX4_payAhead_23 rfl rfl) <|
  am_kc (ak_getR (C := RX4) (T := TX4) (N := 19) rfl inX4w (by decide) rfl rfl rfl wd_296 dX4_payAhead_24 rfl) <|
  am_kc (ak_iload_n dX4_payAhead_27 rfl rfl) <|
  am_kc (ak_lald (t := 1) (fun _ => rfl) rfl dX4_payAhead_28 rfl) <|
  am_kc (ak_lmin (am_w4 wd_607 wd_608 wd_68 wd_609) (by decide) dX4_payAhead_29 rfl) <|
  am_kc (ak_lstore_n dX4_payAhead_32 rfl rfl) <|
  am_kc (ak_aload_n dX4_payAhead_33 rfl rfl) <|
  am_kc (ak_getR (C := RX4) (T := TX4) (N := 19) rfl inX4w (by decide) rfl rfl rfl wd_296 dX4_payAhead_34 rfl) <|
  am_kc (ak_iload_n dX4_payAhead_37 rfl rfl) <|
  am_kc (ak_dup2 dX4_payAhead_38 rfl) <|
  am_kc (ak_lald (t := 1) (fun _ => rfl) rfl dX4_payAhead_39 rfl) <|
  am_kc (ak_lload_n dX4_payAhead_40 rfl rfl) <|
  am_kc (ak_lsub dX4_payAhead_41 rfl) <|
  am_kc (ak_last (t := 1) (fun _ => rfl) rfl dX4_payAhead_42 rfl) <|
  am_kc (ak_aload_n dX4_payAhead_43 rfl rfl) <|
  am_kc (ak_dup dX4_payAhead_44 rfl) <|
  am_kc (ak_getJ (C := RX4) (T := TX4) (N := 19) rfl inX4w (by decide) rfl rfl rfl wd_310 dX4_payAhead_45 rfl) <|
  am_kc (ak_lload_n dX4_payAhead_48 rfl rfl) <|
  am_kc (ak_lsub dX4_payAhead_49 rfl) <|
  am_kc (ak_putJ (C := RX4) (T := TX4) (N := 19) rfl inX4w tyX4_ok nmX4 (by decide) rfl rfl rfl rfl (by decide +kernel) wd_310 dX4_payAhead_50 rfl) <|
  am_kc (ak_aload_n dX4_payAhead_53 rfl rfl) <|
  am_kc (ak_dup dX4_payAhead_54 rfl) <|
  am_kc (ak_getJ (C := RX4) (T := TX4) (N := 19) rfl inX4w (by decide) rfl rfl rfl wd_311 dX4_payAhead_55 rfl) <|
  am_kc (ak_lload_n dX4_payAhead_58 rfl rfl) <|
  am_kc (ak_ladd dX4_payAhead_59 rfl) <|
  am_kc (ak_putJ (C := RX4) (T := TX4) (N := 19) rfl inX4w tyX4_ok nmX4 (by decide) rfl rfl rfl rfl (by decide +kernel) wd_311 dX4_payAhead_60 rfl) <|
  am_kc (ak_iinc dX4_payAhead_63 (by decide +kernel) rfl) <|
  am_kc (ak_goto dX4_payAhead_66 (by decide +kernel)) <|
  am_kc (ak_aload_n dX4_payAhead_69 rfl rfl) <|
  am_kc (ak_lconst dX4_payAhead_70 (by decide +kernel) rfl) <|
  am_kc (ak_putJ (C := RX4) (T := TX4) (N := 19) rfl inX4w tyX4_ok nmX4 (by decide) rfl rfl rfl rfl (by decide +kernel) wd_310 dX4_payAhead_71 rfl) <|
  am_kc (ak_retV dX4_payAhead_74) <| am_kn
def TX4_payAhead : am_T := fun live as M R => match as with
  | [.ref n] => am_mn live ∧ n = 4 ∧ g_rI M ∧ ∀ M', g_sc M M' → g_rI M' → R none M'
  | _ => False
def JX4_payAhead : am_E → List Value → am_M → am_R → am_inv := fun live as M0 _ pc => match as with
  | [.ref n] => (match pc with
    | 2 => some ([0, 1], fun k L st M => ∃ i : Int32, L = [(0, .ref 4), (1, .int i)] ∧ st = [] ∧ k = ((31 - i.toInt).toNat, 0) ∧ 0 ≤ i.toInt ∧ g_sc M0 M ∧ g_rI M)
    | _ => none)
  | _ => none
set_option maxRecDepth 100000 in
set_option maxHeartbeats 4000000 in
theorem metX4_payAhead : am_Met yX4_payAhead cX4_payAhead 5 none (1) (23) TX4_payAhead := by
  refine am_met (own := RX4) (by decide +kernel) rfl kX4_payAhead koX4_payAhead 100 JX4_payAhead ?_ ?_
  · intro live as M Ret h
    unfold TX4_payAhead at h
    split at h
    · next n =>
      refine ⟨Nat.le_of_ble_eq_true rfl, ?_⟩
      change am_wp _ _ _ _ [(0, Value.ref n)] _ _
      obtain ⟨hmn, rfl, hr, h⟩ := h
      repeat' (first | apply And.intro | exact rfl | intro hx | (refine Exists.intro _ (And.intro rfl ?_)))
      all_goals try first | (with_reducible change am_tI _ _) | (change Ret _ _) | (change Ret _ _ _) | (change Exists _)
      all_goals try dsimp only at *
      all_goals try exact absurd ‹(1000 : Int64) = 0› (by decide)
      exact ⟨_, _, rfl, rfl, rfl, by decide, g_sc.rf, hr⟩
    · exact h.elim
  · intro live as M0 Ret h k pc I hI L st M hi
    unfold TX4_payAhead at h
    split at h
    · next n =>
      obtain ⟨hmn, rfl, hr, h⟩ := h
      obtain ⟨i1, i2, rfl⟩ := hmn
      change (match pc with | 2 => _ | _ => none) = _ at hI
      split at hI
      · cases hI
        obtain ⟨i, rfl, rfl, rfl, e1, e2, e3⟩ := hi
        by_cases hz : M.1 4 7 ≤ i
        · clear hr
          repeat' (first | apply And.intro | exact rfl | (intro hx; with_reducible exact absurd hz hx) | intro hx | (refine Exists.intro _ (And.intro rfl ?_)))
          all_goals try first | (with_reducible change am_tI _ _) | (change Ret _ _) | (change Ret _ _ _) | (change Exists _)
          all_goals try dsimp only at *
          all_goals try exact absurd ‹(1000 : Int64) = 0› (by decide)
          exact h _ (e2.wJ rfl) e3.wJ
        · have q := e3.s.sz
          have hz2 := hz
          simp only [i_le] at hz2
          have ha : am_in i 30 := ⟨e1, by omega⟩
          have hb := e3.s.qu (g_cl ha)
          have e0 := g_ix hb 0 0 rfl (by decide)
          have l6 : am_len 6 = 180 := rfl
          have l8 : am_len 8 = 30 := rfl
          have hi := i_inc (x := i) (by omega) (by omega)
          repeat' (first | apply And.intro | exact rfl | (intro hx; with_reducible exact absurd hx hz) | intro hx | (refine Exists.intro _ (And.intro rfl ?_)))
          all_goals try first | (with_reducible change am_tI _ _) | (change Ret _ _) | (change Ret _ _ _) | (change Exists _)
          all_goals try dsimp only at *
          all_goals try exact absurd ‹(1000 : Int64) = 0› (by decide)
          all_goals first
            | omega
            | exact e0.1
            | (rw [l6]; exact e0.2.1)
            | (rw [l8]; exact ha.2)
            | skip
          exact ⟨_, am_lt_l (by omega), i + 1, rfl, rfl, rfl, by omega, (((e2.wJ rfl).wJ rfl).wJ rfl), ((e3.wJ).wJ).wJ⟩
      · cases hI
    · exact h.elim
set_option maxRecDepth 100000 in
theorem wd_299 : Cond.fieldLink "LearnLoans$Run" 26 "LearnLoans$Run" "mine" "[I" ∈ am_ws := am_wsi (List.mem_of_getElem? (i := 299) (by rfl)) (by decide +kernel)
theorem dX4_together_0 : decode cX4_together 0 = .ok (.lconst 0, 1) := by decide +kernel
theorem dX4_together_1 : decode cX4_together 1 = .ok (.lstore_n 2, 1) := by decide +kernel
theorem dX4_together_2 : decode cX4_together 2 = .ok (.iconst 0, 1) := by decide +kernel
theorem dX4_together_3 : decode cX4_together 3 = .ok (.istore 4, 2) := by decide +kernel
theorem dX4_together_5 : decode cX4_together 5 = .ok (.iload 4, 2) := by decide +kernel
theorem dX4_together_7 : decode cX4_together 7 = .ok (.aload_n 0, 1) := by decide +kernel
theorem dX4_together_8 : decode cX4_together 8 = .ok (.getfield 56, 3) := by decide +kernel
theorem dX4_together_11 : decode cX4_together 11 = .ok (.if_icmp .ge 29, 3) := by decide +kernel
theorem dX4_together_14 : decode cX4_together 14 = .ok (.lload_n 2, 1) := by decide +kernel
theorem dX4_together_15 : decode cX4_together 15 = .ok (.aload_n 0, 1) := by decide +kernel
theorem dX4_together_16 : decode cX4_together 16 = .ok (.getfield 22, 3) := by decide +kernel
theorem dX4_together_19 : decode cX4_together 19 = .ok (.iload_n 1, 1) := by decide +kernel
theorem dX4_together_20 : decode cX4_together 20 = .ok (.bipush 30, 2) := by decide +kernel
theorem dX4_together_22 : decode cX4_together 22 = .ok (.imul, 1) := by decide +kernel
theorem dX4_together_23 : decode cX4_together 23 = .ok (.aload_n 0, 1) := by decide +kernel
theorem dX4_together_24 : decode cX4_together 24 = .ok (.getfield 26, 3) := by decide +kernel
theorem dX4_together_27 : decode cX4_together 27 = .ok (.iload 4, 2) := by decide +kernel
theorem dX4_together_29 : decode cX4_together 29 = .ok (.iaload, 1) := by decide +kernel
theorem dX4_together_30 : decode cX4_together 30 = .ok (.iadd, 1) := by decide +kernel
theorem dX4_together_31 : decode cX4_together 31 = .ok (.laload, 1) := by decide +kernel
theorem dX4_together_32 : decode cX4_together 32 = .ok (.ladd, 1) := by decide +kernel
theorem dX4_together_33 : decode cX4_together 33 = .ok (.lstore_n 2, 1) := by decide +kernel
theorem dX4_together_34 : decode cX4_together 34 = .ok (.iinc 4 1, 3) := by decide +kernel
theorem dX4_together_37 : decode cX4_together 37 = .ok (.goto (-32), 3) := by decide +kernel
theorem dX4_together_40 : decode cX4_together 40 = .ok (.lload_n 2, 1) := by decide +kernel
theorem dX4_together_41 : decode cX4_together 41 = .ok (.lreturn, 1) := by decide +kernel
def kX4_together (live : am_E) (Ret : am_R) : am_code := [(0, am_const (.long 0) 1), (1, am_lstore 2 5 2), (2, am_const (.int 0) 3), (3, am_istore 4 5 5), (5, am_iload 4 7), (7, am_aload 0 8), (8, am_getI live 4 7 11), (11, am_if2 (fun x y => y ≤ x) 40 14), (14, am_lload 2 15), (15, am_aload 0 16), (16, am_getR live 4 2 19), (19, am_iload 1 20), (20, am_const (.int 30) 22), (22, am_i2 (fun x y => x * y) 23), (23, am_aload 0 24), (24, am_getR live 4 3 27), (27, am_iload 4 29), (29, am_ald live 0 30), (30, am_i2 (fun x y => x + y) 31), (31, am_lald live 1 32), (32, am_l2 (fun x y => x + y) 33), (33, am_lstore 2 5 34), (34, am_iinc 4 5 1 37), (37, am_goto 5), (40, am_lload 2 41), (41, am_retL Ret)]
theorem koX4_together (live : am_E) (Ret : am_R) : ∀ q ∈ kX4_together live Ret, am_ok RX4 cX4_together 5 (some .long) 0 0 live Ret q.1 q.2 :=
  am_kc (ak_lconst dX4_together_0 (by decide +kernel) rfl) <|
  am_kc (ak_lstore_n dX4_together_1 rfl rfl) <|
  am_kc (ak_iconst dX4_together_2 (by decide +kernel) rfl) <|
  am_kc (ak_istore dX4_together_3 rfl) <|
  am_kc (ak_iload dX4_together_5 rfl) <|
  am_kc (ak_aload_n dX4_together_7 rfl rfl) <|
  am_kc (ak_getI (C := RX4) (T := TX4) (N := 19) rfl inX4w (by decide) rfl rfl rfl wd_303 dX4_together_8 rfl) <|
  am_kc (ak_icmp_ge dX4_together_11 (by decide +kernel) rfl) <|
  am_kc (ak_lload_n dX4_together_14 rfl rfl) <|
  am_kc (ak_aload_n dX4_together_15 rfl rfl) <|
  am_kc (ak_getR (C := RX4) (T := TX4) (N := 19) rfl inX4w (by decide) rfl rfl rfl wd_296 dX4_together_16 rfl) <|
  am_kc (ak_iload_n dX4_together_19 rfl rfl) <|
  am_kc (ak_bipush dX4_together_20 (by decide +kernel) rfl) <|
  am_kc (ak_imul dX4_together_22 rfl) <|
  am_kc (ak_aload_n dX4_together_23 rfl rfl) <|
  am_kc (ak_getR (C := RX4) (T := TX4) (N := 19) rfl inX4w (by decide) rfl rfl rfl wd_299 dX4_together_24 rfl) <|
  am_kc (ak_iload dX4_together_27 rfl) <|
  am_kc (ak_iald (t := 0) (fun _ => rfl) rfl dX4_together_29 rfl) <|
  am_kc (ak_iadd dX4_together_30 rfl) <|
  am_kc (ak_lald (t := 1) (fun _ => rfl) rfl dX4_together_31 rfl) <|
  am_kc (ak_ladd dX4_together_32 rfl) <|
  am_kc (ak_lstore_n dX4_together_33 rfl rfl) <|
  am_kc (ak_iinc dX4_together_34 (by decide +kernel) rfl) <|
  am_kc (ak_goto dX4_together_37 (by decide +kernel)) <|
  am_kc (ak_lload_n dX4_together_40 rfl rfl) <|
  am_kc (ak_retL dX4_together_41) <| am_kn
def TX4_together : am_T := fun live as M R => match as with
  | [.ref n, .int w] => am_mn live ∧ n = 4 ∧ am_in w 6 ∧ g_rI M ∧ ∀ v, R (some (.long v)) M
  | _ => False
def JX4_together : am_E → List Value → am_M → am_R → am_inv := fun live as M0 _ pc => match as with
  | [.ref n, .int w] => (match pc with
    | 5 => some ([0, 1, 2, 4], fun k L st M => ∃ (v : Int64) (i : Int32), L = [(0, .ref 4), (1, .int w), (2, .long v), (4, .int i)] ∧ st = [] ∧ k = ((31 - i.toInt).toNat, 0) ∧ 0 ≤ i.toInt ∧ M = M0)
    | _ => none)
  | _ => none
set_option maxRecDepth 100000 in
set_option maxHeartbeats 4000000 in
theorem metX4_together : am_Met yX4_together cX4_together 5 (some .long) (0) (0) TX4_together := by
  refine am_met (own := RX4) (by decide +kernel) rfl kX4_together koX4_together 100 JX4_together ?_ ?_
  · intro live as M Ret h
    unfold TX4_together at h
    split at h
    · next n w =>
      refine ⟨Nat.le_of_ble_eq_true rfl, ?_⟩
      change am_wp _ _ _ _ [(0, Value.ref n), (1, Value.int w)] _ _
      obtain ⟨hmn, rfl, hw, hr, h⟩ := h
      repeat' (first | apply And.intro | exact rfl | intro hx | (refine Exists.intro _ (And.intro rfl ?_)))
      all_goals try first | (with_reducible change am_tI _ _) | (change Ret _ _) | (change Ret _ _ _) | (change Exists _)
      all_goals try dsimp only at *
      all_goals try exact absurd ‹(1000 : Int64) = 0› (by decide)
      exact ⟨_, _, _, rfl, rfl, rfl, by decide, rfl⟩
    · exact h.elim
  · intro live as M0 Ret h k pc I hI L st M hi
    unfold TX4_together at h
    split at h
    · next n w =>
      obtain ⟨hmn, rfl, hw, hr, h⟩ := h
      obtain ⟨i1, i2, rfl⟩ := hmn
      change (match pc with | 5 => _ | _ => none) = _ at hI
      split at hI
      · cases hI
        obtain ⟨v, i, rfl, rfl, rfl, e1, rfl⟩ := hi
        by_cases hz : M.1 4 7 ≤ i
        · skip
          repeat' (first | apply And.intro | exact rfl | (intro hx; with_reducible exact absurd hz hx) | intro hx | (refine Exists.intro _ (And.intro rfl ?_)))
          all_goals try first | (with_reducible change am_tI _ _) | (change Ret _ _) | (change Ret _ _ _) | (change Exists _)
          all_goals try dsimp only at *
          all_goals try exact absurd ‹(1000 : Int64) = 0› (by decide)
          exact h _
        · have q := hr.s.sz
          have hz2 := hz
          simp only [i_le] at hz2
          have ha : am_in i 30 := ⟨e1, by omega⟩
          have hb := hr.s.mi (g_cl ha)
          have l6 : am_len 6 = 180 := rfl
          have l7 : am_len 7 = 30 := rfl
          have hi := i_inc (x := i) (by omega) (by omega)
          have e30 := i_mul (x := w) (y := 30) (by simp only [Int32.reduceToInt]; have := hw.1; have := hw.2; omega) (by simp only [Int32.reduceToInt]; have := hw.1; have := hw.2; omega)
          simp only [Int32.reduceToInt] at e30
          have hw1 := hw.1
          have hw2 := hw.2
          have hb1 := hb.1
          have hb2 := hb.2
          have e := i_add (x := w * 30) (y := M.1 7 i.toNatClampNeg) (by rw [e30]; omega) (by rw [e30]; omega)
          repeat' (first | apply And.intro | exact rfl | (intro hx; with_reducible exact absurd hx hz) | intro hx | (refine Exists.intro _ (And.intro rfl ?_)))
          all_goals try first | (with_reducible change am_tI _ _) | (change Ret _ _) | (change Ret _ _ _) | (change Exists _)
          all_goals try dsimp only at *
          all_goals try exact absurd ‹(1000 : Int64) = 0› (by decide)
          all_goals first
            | omega
            | (rw [l7]; exact ha.2)
            | (rw [l6]; omega)
            | skip
          exact ⟨_, am_lt_l (by omega), _, i + 1, rfl, rfl, rfl, by omega, rfl⟩
      · cases hI
    · exact h.elim
