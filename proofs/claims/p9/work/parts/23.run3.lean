/-! Run: what is safe of it, I -/
theorem hy_X0_givenBack : yX0_givenBack.cls ≠ "java/lang/invoke/MethodHandle" ∧ yX0_givenBack.cls ≠ "java/lang/invoke/VarHandle" ∧ (parseMethodDescriptor yX0_givenBack.desc).map (fun d => d.parameters.length) = some 1 := ⟨by decide +kernel, by decide +kernel, by decide +kernel⟩
set_option maxRecDepth 100000 in
theorem wd_623 : Cond.methodLink "LearnLoans$Run" 183 yX0_givenBack ∈ am_ws := am_wt3 (List.mem_of_getElem? (i := 86) (by rfl)) (by decide +kernel)
set_option maxRecDepth 100000 in
theorem wd_526 : Cond.instanceMethod yX0_givenBack ∈ am_ws := am_wt2 (List.mem_of_getElem? (i := 229) (by rfl)) (by decide +kernel)
set_option maxRecDepth 100000 in
theorem wd_527 : Cond.selects "LearnLoans$House" yX0_givenBack yX0_givenBack ∈ am_ws := am_wt2 (List.mem_of_getElem? (i := 230) (by rfl)) (by decide +kernel)
set_option maxRecDepth 100000 in
theorem wd_61 : Cond.initialized "LearnLoans$House" ∈ am_ws := am_wt1 (List.mem_of_getElem? (i := 4) (by rfl)) (by decide +kernel)
set_option maxRecDepth 100000 in
theorem wd_528 : Cond.code yX0_givenBack cX0_givenBack 5 (some .long) ∈ am_ws := am_wt2 (List.mem_of_getElem? (i := 231) (by rfl)) (by decide +kernel)
def rwX4_draw : List dz_r := [(0, .aload_n 0, 1), (1, .getfield 22, 3), (4, .iconst 0, 1), (5, .iload_n 1, 1), (6, .iadd, 1), (7, .laload, 1), (8, .lstore_n 3, 1), (9, .iload_n 2, 1), (10, .aload_n 0, 1), (11, .getfield 12, 3), (14, .getfield 59, 3), (17, .iload_n 1, 1), (18, .iconst 2, 1), (19, .invokevirtual 66, 3), (22, .if_icmp .ne 19, 3), (25, .lload_n 3, 1), (26, .aload_n 0, 1), (27, .getfield 12, 3), (30, .getfield 59, 3), (33, .iload_n 1, 1), (34, .iconst 3, 1), (35, .invokevirtual 66, 3), (38, .i2l, 1), (39, .ladd, 1), (40, .lstore_n 3, 1), (41, .iload_n 2, 1), (42, .aload_n 0, 1), (43, .getfield 12, 3), (46, .getfield 59, 3), (49, .iload_n 1, 1), (50, .iconst 5, 1), (51, .invokevirtual 66, 3), (54, .if_icmp .ne 18, 3), (57, .lload_n 3, 1), (58, .lload_n 3, 1), (59, .aload_n 0, 1), (60, .getfield 12, 3), (63, .iload_n 1, 1), (64, .invokevirtual 183, 3), (67, .invokestatic 177, 3), (70, .lsub, 1), (71, .lstore_n 3, 1), (72, .aload_n 0, 1), (73, .getfield 22, 3), (76, .iconst 0, 1), (77, .iload_n 1, 1), (78, .iadd, 1), (79, .lload_n 3, 1), (80, .lastore, 1), (81, .return_, 1)]
theorem dzX4_draw : dz cX4_draw rwX4_draw := dz_all 0 (by decide +kernel)
def kX4_draw (live : am_E) (Ret : am_R) : am_code := [(0, am_aload 0 1), (1, am_getR live 4 2 4), (4, am_const (.int 0) 5), (5, am_iload 1 6), (6, am_i2 (fun x y => x + y) 7), (7, am_lald live 1 8), (8, am_lstore 3 5 9), (9, am_iload 2 10), (10, am_aload 0 11), (11, am_getR live 4 0 14), (14, am_getR live 0 4 17), (17, am_iload 1 18), (18, am_const (.int 2) 19), (19, am_callV live 3 2 TX3_at 22), (22, am_if2 (fun x y => x = y) 25 41), (25, am_lload 3 26), (26, am_aload 0 27), (27, am_getR live 4 0 30), (30, am_getR live 0 4 33), (33, am_iload 1 34), (34, am_const (.int 3) 35), (35, am_callV live 3 2 TX3_at 38), (38, am_i2l 39), (39, am_l2 (fun x y => x + y) 40), (40, am_lstore 3 5 41), (41, am_iload 2 42), (42, am_aload 0 43), (43, am_getR live 4 0 46), (46, am_getR live 0 4 49), (49, am_iload 1 50), (50, am_const (.int 5) 51), (51, am_callV live 3 2 TX3_at 54), (54, am_if2 (fun x y => x = y) 57 72), (57, am_lload 3 58), (58, am_lload 3 59), (59, am_aload 0 60), (60, am_getR live 4 0 63), (63, am_iload 1 64), (64, am_callV live 0 1 TX0_givenBack 67), (67, am_mathl (fun x y => if y < x then y else x) 47 70), (70, am_l2 (fun x y => x - y) 71), (71, am_lstore 3 5 72), (72, am_aload 0 73), (73, am_getR live 4 2 76), (76, am_const (.int 0) 77), (77, am_iload 1 78), (78, am_i2 (fun x y => x + y) 79), (79, am_lload 3 80), (80, am_last live 1 81), (81, am_retV Ret)]
theorem koX4_draw (live : am_E) (Ret : am_R) : ∀ q ∈ kX4_draw live Ret, am_ok RX4 cX4_draw 5 none 2 47 live Ret q.1 q.2 :=
  am_kz dzX4_draw <|
  am_kd (fun d => ak_aload_n d rfl rfl) <|
  am_kd (fun d => ak_getR (C := RX4) (T := TX4) (N := 19) rfl inX4w (by decide) rfl rfl rfl wd_296 d rfl) <|
  am_kd (fun d => ak_iconst d (by decide +kernel) rfl) <|
  am_kd (fun d => ak_iload_n d rfl rfl) <|
  am_kd (fun d => ak_iadd d rfl) <|
  am_kd (fun d => ak_lald (t := 1) (fun _ => rfl) rfl d rfl) <|
  am_kd (fun d => ak_lstore_n d rfl rfl) <|
  am_kd (fun d => ak_iload_n d rfl rfl) <|
  am_kd (fun d => ak_aload_n d rfl rfl) <|
  am_kd (fun d => ak_getR (C := RX4) (T := TX4) (N := 19) rfl inX4w (by decide) rfl rfl rfl wd_291 d rfl) <|
  am_kd (fun d => ak_getR (C := RX0) (T := TX0) (N := 13) rfl inX0w (by decide) rfl rfl rfl wd_206 d rfl) <|
  am_kd (fun d => ak_iload_n d rfl rfl) <|
  am_kd (fun d => ak_iconst d (by decide +kernel) rfl) <|
  am_kd (fun d => ak_callV (C := RX3) (F := TX3) (N := 3) metX3_at rfl ⟨rfl, hy_X3_at⟩ (am_w5 wd_502 wd_503 wd_504 wd_64 wd_505) (by decide) d rfl) <|
  am_kd (fun d => ak_icmp_ne d (by decide +kernel) rfl) <|
  am_kd (fun d => ak_lload_n d rfl rfl) <|
  am_kd (fun d => ak_aload_n d rfl rfl) <|
  am_kd (fun d => ak_getR (C := RX4) (T := TX4) (N := 19) rfl inX4w (by decide) rfl rfl rfl wd_291 d rfl) <|
  am_kd (fun d => ak_getR (C := RX0) (T := TX0) (N := 13) rfl inX0w (by decide) rfl rfl rfl wd_206 d rfl) <|
  am_kd (fun d => ak_iload_n d rfl rfl) <|
  am_kd (fun d => ak_iconst d (by decide +kernel) rfl) <|
  am_kd (fun d => ak_callV (C := RX3) (F := TX3) (N := 3) metX3_at rfl ⟨rfl, hy_X3_at⟩ (am_w5 wd_502 wd_503 wd_504 wd_64 wd_505) (by decide) d rfl) <|
  am_kd (fun d => ak_i2l d rfl) <|
  am_kd (fun d => ak_ladd d rfl) <|
  am_kd (fun d => ak_lstore_n d rfl rfl) <|
  am_kd (fun d => ak_iload_n d rfl rfl) <|
  am_kd (fun d => ak_aload_n d rfl rfl) <|
  am_kd (fun d => ak_getR (C := RX4) (T := TX4) (N := 19) rfl inX4w (by decide) rfl rfl rfl wd_291 d rfl) <|
  am_kd (fun d => ak_getR (C := RX0) (T := TX0) (N := 13) rfl inX0w (by decide) rfl rfl rfl wd_206 d rfl) <|
  am_kd (fun d => ak_iload_n d rfl rfl) <|
  am_kd (fun d => ak_iconst d (by decide +kernel) rfl) <|
  am_kd (fun d => ak_callV (C := RX3) (F := TX3) (N := 3) metX3_at rfl ⟨rfl, hy_X3_at⟩ (am_w5 wd_502 wd_503 wd_504 wd_64 wd_505) (by decide) d rfl) <|
  am_kd (fun d => ak_icmp_ne d (by decide +kernel) rfl) <|
  am_kd (fun d => ak_lload_n d rfl rfl) <|
  am_kd (fun d => ak_lload_n d rfl rfl) <|
  am_kd (fun d => ak_aload_n d rfl rfl) <|
  am_kd (fun d => ak_getR (C := RX4) (T := TX4) (N := 19) rfl inX4w (by decide) rfl rfl rfl wd_291 d rfl) <|
  am_kd (fun d => ak_iload_n d rfl rfl) <|
  am_kd (fun d => ak_callV (C := RX0) (F := TX0) (N := 13) metX0_givenBack rfl ⟨rfl, hy_X0_givenBack⟩ (am_w5 wd_623 wd_526 wd_527 wd_61 wd_528) (by decide) d rfl) <|
  am_kd (fun d => ak_lmin (am_w4 wd_607 wd_608 wd_68 wd_609) (by decide) d rfl) <|
  am_kd (fun d => ak_lsub d rfl) <|
  am_kd (fun d => ak_lstore_n d rfl rfl) <|
  am_kd (fun d => ak_aload_n d rfl rfl) <|
  am_kd (fun d => ak_getR (C := RX4) (T := TX4) (N := 19) rfl inX4w (by decide) rfl rfl rfl wd_296 d rfl) <|
  am_kd (fun d => ak_iconst d (by decide +kernel) rfl) <|
  am_kd (fun d => ak_iload_n d rfl rfl) <|
  am_kd (fun d => ak_iadd d rfl) <|
  am_kd (fun d => ak_lload_n d rfl rfl) <|
  am_kd (fun d => ak_last (t := 1) (fun _ => rfl) rfl d rfl) <|
  am_kd (fun d => ak_retV d) <| am_kdn
def TX4_draw : am_T := fun live as M R => match as with
  | [.ref n, .int l, .int y] => am_mn live ∧ n = 4 ∧ am_in l 30 ∧ ∀ k v, R none (am_wJ M 6 k v)
  | _ => False
set_option maxRecDepth 100000 in
set_option maxHeartbeats 4000000 in
theorem metX4_draw : am_Met yX4_draw cX4_draw 5 none (2) (47) TX4_draw := by
  refine am_met (own := RX4) (by decide +kernel) rfl kX4_draw koX4_draw 100 (fun _ _ _ _ _ => none) (fun live as M Ret h => ?_) (fun _ _ _ _ _ _ _ _ hI => by cases hI)
  unfold TX4_draw at h
  split at h
  · next n l y =>
    refine ⟨Nat.le_of_ble_eq_true rfl, ?_⟩
    change am_wp _ _ _ _ [(0, Value.ref n), (1, Value.int l), (2, Value.int y)] _ _
    obtain ⟨hmn, rfl, hl, h⟩ := h
    have hmn2 := hmn
    obtain ⟨i1, i2, rfl⟩ := hmn2
    have l6 : am_len 6 = 180 := rfl
    have e0 := g_ix hl 0 0 rfl (by decide)
    repeat' (first | (with_reducible exact hmn) | apply And.intro | exact rfl | intro hx | (refine Exists.intro _ (And.intro rfl ?_)))
    all_goals try first | (with_reducible change am_tI _ _) | (change Ret _ _) | (change Ret _ _ _) | (change Exists _)
    all_goals try dsimp only at *
    all_goals try (with_reducible exact absurd ‹(1000 : Int64) = 0› am_z1000)
    all_goals first
      | (with_reducible exact e0.1)
      | (rw [l6]; exact e0.2.1)
      | (with_reducible exact h _ _)
      | exact e0.1
      | exact h _ _
  · exact h.elim
set_option maxRecDepth 100000 in
theorem wd_198 : Cond.fieldLink "LearnLoans$Run" 238 "LearnLoans$House" "scales" "[I" ∈ am_ws := am_wt1 (List.mem_of_getElem? (i := 141) (by rfl)) (by decide +kernel)
set_option maxRecDepth 100000 in
theorem wd_610 : Cond.methodLink "LearnLoans$Run" 229 Lib.MathLoose.max_long.x ∈ am_ws := am_wt3 (List.mem_of_getElem? (i := 73) (by rfl)) (by decide +kernel)
set_option maxRecDepth 100000 in
theorem wd_611 : Cond.static Lib.MathLoose.max_long.x ∈ am_ws := am_wt3 (List.mem_of_getElem? (i := 74) (by rfl)) (by decide +kernel)
set_option maxRecDepth 100000 in
theorem wd_612 : Cond.code Lib.MathLoose.max_long.x Lib.MathLoose.max_long.code 4 (some .long) ∈ am_ws := am_wt3 (List.mem_of_getElem? (i := 75) (by rfl)) (by decide +kernel)
def rwX4_asked : List dz_r := [(0, .aload_n 0, 1), (1, .getfield 140, 3), (4, .iconst (-1), 1), (5, .if_icmp .ne 24, 3), (8, .aload_n 0, 1), (9, .getfield 142, 3), (12, .ifCond .ne 7, 3), (15, .lconst 0, 1), (16, .goto 12, 3), (19, .aload_n 0, 1), (20, .getfield 18, 3), (23, .iload_n 1, 1), (24, .iconst 5, 1), (25, .iadd, 1), (26, .iaload, 1), (27, .i2l, 1), (28, .lreturn, 1), (29, .aload_n 0, 1), (30, .getfield 18, 3), (33, .iload_n 1, 1), (34, .iconst 0, 1), (35, .iadd, 1), (36, .iaload, 1), (37, .i2l, 1), (38, .lstore_n 2, 1), (39, .aload_n 0, 1), (40, .getfield 142, 3), (43, .ifCond .eq 23, 3), (46, .lload_n 2, 1), (47, .aload_n 0, 1), (48, .getfield 12, 3), (51, .getfield 238, 3), (54, .aload_n 0, 1), (55, .getfield 142, 3), (58, .iaload, 1), (59, .i2l, 1), (60, .lmul, 1), (61, .ldc2_w 173, 3), (64, .ldiv, 1), (65, .lstore_n 2, 1), (66, .lconst 0, 1), (67, .aload_n 0, 1), (68, .getfield 140, 3), (71, .i2l, 1), (72, .lload_n 2, 1), (73, .lsub, 1), (74, .invokestatic 229, 3), (77, .aload_n 0, 1), (78, .getfield 18, 3), (81, .iload_n 1, 1), (82, .iconst 1, 1), (83, .iadd, 1), (84, .iaload, 1), (85, .i2l, 1), (86, .lmul, 1), (87, .ldc2_w 173, 3), (90, .ldiv, 1), (91, .lreturn, 1)]
theorem dzX4_asked : dz cX4_asked rwX4_asked := dz_all 0 (by decide +kernel)
def kX4_asked (live : am_E) (Ret : am_R) : am_code := [(0, am_aload 0 1), (1, am_getI live 4 16 4), (4, am_const (.int (-1)) 5), (5, am_if2 (fun x y => x = y) 8 29), (8, am_aload 0 9), (9, am_getI live 4 17 12), (12, am_if1 (fun x => x = 0) 15 19), (15, am_const (.long 0) 16), (16, am_goto 28), (19, am_aload 0 20), (20, am_getR live 4 1 23), (23, am_iload 1 24), (24, am_const (.int 5) 25), (25, am_i2 (fun x y => x + y) 26), (26, am_ald live 0 27), (27, am_i2l 28), (28, am_retL Ret), (29, am_aload 0 30), (30, am_getR live 4 1 33), (33, am_iload 1 34), (34, am_const (.int 0) 35), (35, am_i2 (fun x y => x + y) 36), (36, am_ald live 0 37), (37, am_i2l 38), (38, am_lstore 2 4 39), (39, am_aload 0 40), (40, am_getI live 4 17 43), (43, am_if1 (fun x => x = 0) 66 46), (46, am_lload 2 47), (47, am_aload 0 48), (48, am_getR live 4 0 51), (51, am_getR live 0 1 54), (54, am_aload 0 55), (55, am_getI live 4 17 58), (58, am_ald live 0 59), (59, am_i2l 60), (60, am_l2 (fun x y => x * y) 61), (61, am_const (.long 1000) 64), (64, am_l2z (fun x y => x / y) 65), (65, am_lstore 2 4 66), (66, am_const (.long 0) 67), (67, am_aload 0 68), (68, am_getI live 4 16 71), (71, am_i2l 72), (72, am_lload 2 73), (73, am_l2 (fun x y => x - y) 74), (74, am_mathl (fun x y => if y < x then x else y) 23 77), (77, am_aload 0 78), (78, am_getR live 4 1 81), (81, am_iload 1 82), (82, am_const (.int 1) 83), (83, am_i2 (fun x y => x + y) 84), (84, am_ald live 0 85), (85, am_i2l 86), (86, am_l2 (fun x y => x * y) 87), (87, am_const (.long 1000) 90), (90, am_l2z (fun x y => x / y) 91), (91, am_retL Ret)]
theorem koX4_asked (live : am_E) (Ret : am_R) : ∀ q ∈ kX4_asked live Ret, am_ok RX4 cX4_asked 4 (some .long) 1 23 live Ret q.1 q.2 :=
  am_kz dzX4_asked <|
  am_kd (fun d => ak_aload_n d rfl rfl) <|
  am_kd (fun d => ak_getI (C := RX4) (T := TX4) (N := 19) rfl inX4w (by decide) rfl rfl rfl wd_313 d rfl) <|
  am_kd (fun d => ak_iconst d (by decide +kernel) rfl) <|
  am_kd (fun d => ak_icmp_ne d (by decide +kernel) rfl) <|
  am_kd (fun d => ak_aload_n d rfl rfl) <|
  am_kd (fun d => ak_getI (C := RX4) (T := TX4) (N := 19) rfl inX4w (by decide) rfl rfl rfl wd_314 d rfl) <|
  am_kd (fun d => ak_if_ne d (by decide +kernel) rfl) <|
  am_kd (fun d => ak_lconst d (by decide +kernel) rfl) <|
  am_kd (fun d => ak_goto d (by decide +kernel)) <|
  am_kd (fun d => ak_aload_n d rfl rfl) <|
  am_kd (fun d => ak_getR (C := RX4) (T := TX4) (N := 19) rfl inX4w (by decide) rfl rfl rfl wd_294 d rfl) <|
  am_kd (fun d => ak_iload_n d rfl rfl) <|
  am_kd (fun d => ak_iconst d (by decide +kernel) rfl) <|
  am_kd (fun d => ak_iadd d rfl) <|
  am_kd (fun d => ak_iald (t := 0) (fun _ => rfl) rfl d rfl) <|
  am_kd (fun d => ak_i2l d rfl) <|
  am_kd (fun d => ak_retL d) <|
  am_kd (fun d => ak_aload_n d rfl rfl) <|
  am_kd (fun d => ak_getR (C := RX4) (T := TX4) (N := 19) rfl inX4w (by decide) rfl rfl rfl wd_294 d rfl) <|
  am_kd (fun d => ak_iload_n d rfl rfl) <|
  am_kd (fun d => ak_iconst d (by decide +kernel) rfl) <|
  am_kd (fun d => ak_iadd d rfl) <|
  am_kd (fun d => ak_iald (t := 0) (fun _ => rfl) rfl d rfl) <|
  am_kd (fun d => ak_i2l d rfl) <|
  am_kd (fun d => ak_lstore_n d rfl rfl) <|
  am_kd (fun d => ak_aload_n d rfl rfl) <|
  am_kd (fun d => ak_getI (C := RX4) (T := TX4) (N := 19) rfl inX4w (by decide) rfl rfl rfl wd_314 d rfl) <|
  am_kd (fun d => ak_if_eq d (by decide +kernel) rfl) <|
  am_kd (fun d => ak_lload_n d rfl rfl) <|
  am_kd (fun d => ak_aload_n d rfl rfl) <|
  am_kd (fun d => ak_getR (C := RX4) (T := TX4) (N := 19) rfl inX4w (by decide) rfl rfl rfl wd_291 d rfl) <|
  am_kd (fun d => ak_getR (C := RX0) (T := TX0) (N := 13) rfl inX0w (by decide) rfl rfl rfl wd_198 d rfl) <|
  am_kd (fun d => ak_aload_n d rfl rfl) <|
  am_kd (fun d => ak_getI (C := RX4) (T := TX4) (N := 19) rfl inX4w (by decide) rfl rfl rfl wd_314 d rfl) <|
  am_kd (fun d => ak_iald (t := 0) (fun _ => rfl) rfl d rfl) <|
  am_kd (fun d => ak_i2l d rfl) <|
  am_kd (fun d => ak_lmul d rfl) <|
  am_kd (fun d => ak_ldc2 wd_617 d rfl) <|
  am_kd (fun d => ak_ldiv d rfl) <|
  am_kd (fun d => ak_lstore_n d rfl rfl) <|
  am_kd (fun d => ak_lconst d (by decide +kernel) rfl) <|
  am_kd (fun d => ak_aload_n d rfl rfl) <|
  am_kd (fun d => ak_getI (C := RX4) (T := TX4) (N := 19) rfl inX4w (by decide) rfl rfl rfl wd_313 d rfl) <|
  am_kd (fun d => ak_i2l d rfl) <|
  am_kd (fun d => ak_lload_n d rfl rfl) <|
  am_kd (fun d => ak_lsub d rfl) <|
  am_kd (fun d => ak_lmax (am_w4 wd_610 wd_611 wd_68 wd_612) (by decide) d rfl) <|
  am_kd (fun d => ak_aload_n d rfl rfl) <|
  am_kd (fun d => ak_getR (C := RX4) (T := TX4) (N := 19) rfl inX4w (by decide) rfl rfl rfl wd_294 d rfl) <|
  am_kd (fun d => ak_iload_n d rfl rfl) <|
  am_kd (fun d => ak_iconst d (by decide +kernel) rfl) <|
  am_kd (fun d => ak_iadd d rfl) <|
  am_kd (fun d => ak_iald (t := 0) (fun _ => rfl) rfl d rfl) <|
  am_kd (fun d => ak_i2l d rfl) <|
  am_kd (fun d => ak_lmul d rfl) <|
  am_kd (fun d => ak_ldc2 wd_617 d rfl) <|
  am_kd (fun d => ak_ldiv d rfl) <|
  am_kd (fun d => ak_retL d) <| am_kdn
def am_asked (M : am_M) (c : Int32) : Int64 := if M.1 4 16 = -1 then (if M.1 4 17 = 0 then 0 else (M.1 5 (c + 5).toNatClampNeg).toInt64) else (fun e : Int64 => (if e < 0 then 0 else e) * (M.1 5 (c + 1).toNatClampNeg).toInt64 / 1000) ((M.1 4 16).toInt64 - (if M.1 4 17 = 0 then (M.1 5 (c + 0).toNatClampNeg).toInt64 else (M.1 5 (c + 0).toNatClampNeg).toInt64 * (M.1 29 (M.1 4 17).toNatClampNeg).toInt64 / 1000))
def TX4_asked : am_T := fun live as M R => match as with
  | [.ref n, .int c] => am_mn live ∧ n = 4 ∧ (0 ≤ c.toInt ∧ c.toInt ≤ 1194) ∧ am_in (M.1 4 17) 4 ∧ R (some (.long (am_asked M c))) M
  | _ => False
set_option maxRecDepth 100000 in
set_option maxHeartbeats 4000000 in
theorem metX4_asked : am_Met yX4_asked cX4_asked 4 (some .long) (1) (23) TX4_asked := by
  refine am_met (own := RX4) (by decide +kernel) rfl kX4_asked koX4_asked 100 (fun _ _ _ _ _ => none) (fun live as M Ret h => ?_) (fun _ _ _ _ _ _ _ _ hI => by cases hI)
  unfold TX4_asked at h
  split at h
  · next n c =>
    refine ⟨Nat.le_of_ble_eq_true rfl, ?_⟩
    change am_wp _ _ _ _ [(0, Value.ref n), (1, Value.int c)] _ _
    obtain ⟨⟨i1, i2, rfl⟩, rfl, ⟨c1, c2⟩, ⟨d1, d2⟩, h⟩ := h
    have l5 : am_len 5 = 1200 := rfl
    have l29 : am_len 29 = 4 := rfl
    have f0 := i_add (x := c) (y := 0) (by simp only [Int32.reduceToInt]; omega) (by simp only [Int32.reduceToInt]; omega)
    have f1 := i_add (x := c) (y := 1) (by simp only [Int32.reduceToInt]; omega) (by simp only [Int32.reduceToInt]; omega)
    have f5 := i_add (x := c) (y := 5) (by simp only [Int32.reduceToInt]; omega) (by simp only [Int32.reduceToInt]; omega)
    simp only [Int32.reduceToInt] at f0 f1 f5
    repeat' (first | apply And.intro | exact rfl | intro hx | (refine Exists.intro _ (And.intro rfl ?_)))
    all_goals try first | (with_reducible change am_tI _ _) | (change Ret _ _) | (change Ret _ _ _) | (change Exists _)
    all_goals try dsimp only at *
    all_goals try (with_reducible exact absurd ‹(1000 : Int64) = 0› am_z1000)
    all_goals first
      | (rw [f0]; omega)
      | (rw [f1]; omega)
      | (rw [f5]; omega)
      | (rw [f0, l5]; omega)
      | (rw [f1, l5]; omega)
      | (rw [f5, l5]; omega)
      | (rw [l29]; omega)
      | omega
      | skip
    all_goals
      simp only [am_asked] at *
      simp_all
  · exact h.elim
set_option maxRecDepth 100000 in
theorem wd_203 : Cond.fieldLink "LearnLoans$Run" 116 "LearnLoans$House" "acts" "LLearnLoans$Rows;" ∈ am_ws := am_wt1 (List.mem_of_getElem? (i := 146) (by rfl)) (by decide +kernel)
def rwX4_layAct : List dz_r := [(0, .aload_n 0, 1), (1, .getfield 12, 3), (4, .getfield 116, 3), (7, .astore 4, 2), (9, .iload_n 3, 1), (10, .aload 4, 2), (12, .iload_n 1, 1), (13, .iconst 4, 1), (14, .invokevirtual 66, 3), (17, .if_icmp .lt 67, 3), (20, .iload_n 3, 1), (21, .aload 4, 2), (23, .iload_n 1, 1), (24, .iconst 5, 1), (25, .invokevirtual 66, 3), (28, .if_icmp .gt 56, 3), (31, .iload_n 2, 1), (32, .iconst 5, 1), (33, .imul, 1), (34, .aload 4, 2), (36, .iload_n 1, 1), (37, .iconst 0, 1), (38, .invokevirtual 66, 3), (41, .iadd, 1), (42, .bipush 6, 2), (44, .imul, 1), (45, .aload 4, 2), (47, .iload_n 1, 1), (48, .iconst 1, 1), (49, .invokevirtual 66, 3), (52, .iadd, 1), (53, .istore 5, 2), (55, .iload 5, 2), (57, .ifCond .lt 27, 3), (60, .iload 5, 2), (62, .aload_n 0, 1), (63, .getfield 18, 3), (66, .arraylength, 1), (67, .if_icmp .ge 17, 3), (70, .aload_n 0, 1), (71, .getfield 18, 3), (74, .iload 5, 2), (76, .aload 4, 2), (78, .iload_n 1, 1), (79, .iconst 2, 1), (80, .invokevirtual 66, 3), (83, .iastore, 1), (84, .return_, 1)]
theorem dzX4_layAct : dz cX4_layAct rwX4_layAct := dz_all 0 (by decide +kernel)
def kX4_layAct (live : am_E) (Ret : am_R) : am_code := [(0, am_aload 0 1), (1, am_getR live 4 0 4), (4, am_getR live 0 3 7), (7, am_astore 4 6 9), (9, am_iload 3 10), (10, am_aload 4 12), (12, am_iload 1 13), (13, am_const (.int 4) 14), (14, am_callV live 3 2 TX3_at 17), (17, am_if2 (fun x y => x < y) 84 20), (20, am_iload 3 21), (21, am_aload 4 23), (23, am_iload 1 24), (24, am_const (.int 5) 25), (25, am_callV live 3 2 TX3_at 28), (28, am_if2 (fun x y => y < x) 84 31), (31, am_iload 2 32), (32, am_const (.int 5) 33), (33, am_i2 (fun x y => x * y) 34), (34, am_aload 4 36), (36, am_iload 1 37), (37, am_const (.int 0) 38), (38, am_callV live 3 2 TX3_at 41), (41, am_i2 (fun x y => x + y) 42), (42, am_const (.int 6) 44), (44, am_i2 (fun x y => x * y) 45), (45, am_aload 4 47), (47, am_iload 1 48), (48, am_const (.int 1) 49), (49, am_callV live 3 2 TX3_at 52), (52, am_i2 (fun x y => x + y) 53), (53, am_istore 5 6 55), (55, am_iload 5 57), (57, am_if1 (fun x => x < 0) 84 60), (60, am_iload 5 62), (62, am_aload 0 63), (63, am_getR live 4 1 66), (66, am_alen live 0 67), (67, am_if2 (fun x y => y ≤ x) 84 70), (70, am_aload 0 71), (71, am_getR live 4 1 74), (74, am_iload 5 76), (76, am_aload 4 78), (78, am_iload 1 79), (79, am_const (.int 2) 80), (80, am_callV live 3 2 TX3_at 83), (83, am_ast live 0 84), (84, am_retV Ret)]
theorem koX4_layAct (live : am_E) (Ret : am_R) : ∀ q ∈ kX4_layAct live Ret, am_ok RX4 cX4_layAct 6 none 1 23 live Ret q.1 q.2 :=
  am_kz dzX4_layAct <|
  am_kd (fun d => ak_aload_n d rfl rfl) <|
  am_kd (fun d => ak_getR (C := RX4) (T := TX4) (N := 19) rfl inX4w (by decide) rfl rfl rfl wd_291 d rfl) <|
  am_kd (fun d => ak_getR (C := RX0) (T := TX0) (N := 13) rfl inX0w (by decide) rfl rfl rfl wd_203 d rfl) <|
  am_kd (fun d => ak_astore d rfl) <|
  am_kd (fun d => ak_iload_n d rfl rfl) <|
  am_kd (fun d => ak_aload d rfl) <|
  am_kd (fun d => ak_iload_n d rfl rfl) <|
  am_kd (fun d => ak_iconst d (by decide +kernel) rfl) <|
  am_kd (fun d => ak_callV (C := RX3) (F := TX3) (N := 3) metX3_at rfl ⟨rfl, hy_X3_at⟩ (am_w5 wd_502 wd_503 wd_504 wd_64 wd_505) (by decide) d rfl) <|
  am_kd (fun d => ak_icmp_lt d (by decide +kernel) rfl) <|
  am_kd (fun d => ak_iload_n d rfl rfl) <|
  am_kd (fun d => ak_aload d rfl) <|
  am_kd (fun d => ak_iload_n d rfl rfl) <|
  am_kd (fun d => ak_iconst d (by decide +kernel) rfl) <|
  am_kd (fun d => ak_callV (C := RX3) (F := TX3) (N := 3) metX3_at rfl ⟨rfl, hy_X3_at⟩ (am_w5 wd_502 wd_503 wd_504 wd_64 wd_505) (by decide) d rfl) <|
  am_kd (fun d => ak_icmp_gt d (by decide +kernel) rfl) <|
  am_kd (fun d => ak_iload_n d rfl rfl) <|
  am_kd (fun d => ak_iconst d (by decide +kernel) rfl) <|
  am_kd (fun d => ak_imul d rfl) <|
  am_kd (fun d => ak_aload d rfl) <|
  am_kd (fun d => ak_iload_n d rfl rfl) <|
  am_kd (fun d => ak_iconst d (by decide +kernel) rfl) <|
  am_kd (fun d => ak_callV (C := RX3) (F := TX3) (N := 3) metX3_at rfl ⟨rfl, hy_X3_at⟩ (am_w5 wd_502 wd_503 wd_504 wd_64 wd_505) (by decide) d rfl) <|
  am_kd (fun d => ak_iadd d rfl) <|
  am_kd (fun d => ak_bipush d (by decide +kernel) rfl) <|
  am_kd (fun d => ak_imul d rfl) <|
  am_kd (fun d => ak_aload d rfl) <|
  am_kd (fun d => ak_iload_n d rfl rfl) <|
  am_kd (fun d => ak_iconst d (by decide +kernel) rfl) <|
  am_kd (fun d => ak_callV (C := RX3) (F := TX3) (N := 3) metX3_at rfl ⟨rfl, hy_X3_at⟩ (am_w5 wd_502 wd_503 wd_504 wd_64 wd_505) (by decide) d rfl) <|
  am_kd (fun d => ak_iadd d rfl) <|
  am_kd (fun d => ak_istore d rfl) <|
  am_kd (fun d => ak_iload d rfl) <|
  am_kd (fun d => ak_if_lt d (by decide +kernel) rfl) <|
  am_kd (fun d => ak_iload d rfl) <|
  am_kd (fun d => ak_aload_n d rfl rfl) <|
  am_kd (fun d => ak_getR (C := RX4) (T := TX4) (N := 19) rfl inX4w (by decide) rfl rfl rfl wd_294 d rfl) <|
  am_kd (fun d => ak_alen (t := 0) (fun _ => rfl) d rfl) <|
  am_kd (fun d => ak_icmp_ge d (by decide +kernel) rfl) <|
  am_kd (fun d => ak_aload_n d rfl rfl) <|
  am_kd (fun d => ak_getR (C := RX4) (T := TX4) (N := 19) rfl inX4w (by decide) rfl rfl rfl wd_294 d rfl) <|
  am_kd (fun d => ak_iload d rfl) <|
  am_kd (fun d => ak_aload d rfl) <|
  am_kd (fun d => ak_iload_n d rfl rfl) <|
  am_kd (fun d => ak_iconst d (by decide +kernel) rfl) <|
  am_kd (fun d => ak_callV (C := RX3) (F := TX3) (N := 3) metX3_at rfl ⟨rfl, hy_X3_at⟩ (am_w5 wd_502 wd_503 wd_504 wd_64 wd_505) (by decide) d rfl) <|
  am_kd (fun d => ak_iast (t := 0) (fun _ => rfl) rfl d rfl) <|
  am_kd (fun d => ak_retV d) <| am_kdn
def TX4_layAct : am_T := fun live as M R => match as with
  | [.ref n, .int a, .int y, .int b] => am_mn live ∧ n = 4 ∧ g_rI M ∧ ∀ M', g_sc M M' → g_rI M' → R none M'
  | _ => False
set_option maxRecDepth 100000 in
set_option maxHeartbeats 4000000 in
theorem metX4_layAct : am_Met yX4_layAct cX4_layAct 6 none (1) (23) TX4_layAct := by
  refine am_met (own := RX4) (by decide +kernel) rfl kX4_layAct koX4_layAct 100 (fun _ _ _ _ _ => none) (fun live as M Ret h => ?_) (fun _ _ _ _ _ _ _ _ hI => by cases hI)
  unfold TX4_layAct at h
  split at h
  · next n a y b =>
    refine ⟨Nat.le_of_ble_eq_true rfl, ?_⟩
    change am_wp _ _ _ _ [(0, Value.ref n), (1, Value.int a), (2, Value.int y), (3, Value.int b)] _ _
    obtain ⟨hmn, rfl, hr, h⟩ := h
    have hmn2 := hmn
    obtain ⟨i1, i2, rfl⟩ := hmn2
    repeat' (first | (with_reducible exact hmn) | apply And.intro | exact rfl | intro hx | (refine Exists.intro _ (And.intro rfl ?_)))
    all_goals try first | (with_reducible change am_tI _ _) | (change Ret _ _) | (change Ret _ _ _) | (change Exists _)
    all_goals try dsimp only at *
    all_goals try (with_reducible exact absurd ‹(1000 : Int64) = 0› am_z1000)
    all_goals first
      | (with_reducible exact h _ g_sc.rf hr)
      | exact h _ (g_sc.rf.wI rfl) hr.w5
      | (simp only [i_lt, i_le, Int32.reduceToInt] at *; omega)
      | exact h _ g_sc.rf hr
      | skip
    · have hn : (Int32.ofNat (am_len 5)).toInt = 1200 := by decide +kernel
      have l5 : am_len 5 = 1200 := rfl
      simp only [i_le, hn] at hx
      rw [l5]
      omega
  · exact h.elim
set_option maxRecDepth 100000 in
theorem wd_303 : Cond.fieldLink "LearnLoans$Run" 56 "LearnLoans$Run" "size" "I" ∈ am_ws := am_wt2 (List.mem_of_getElem? (i := 6) (by rfl)) (by decide +kernel)
set_option maxRecDepth 100000 in
theorem wd_300 : Cond.fieldLink "LearnLoans$Run" 29 "LearnLoans$Run" "queue" "[I" ∈ am_ws := am_wt2 (List.mem_of_getElem? (i := 3) (by rfl)) (by decide +kernel)
def rwX4_payAhead : List dz_r := [(0, .iconst 0, 1), (1, .istore_n 1, 1), (2, .iload_n 1, 1), (3, .aload_n 0, 1), (4, .getfield 56, 3), (7, .if_icmp .ge 62, 3), (10, .iconst 0, 1), (11, .aload_n 0, 1), (12, .getfield 29, 3), (15, .iload_n 1, 1), (16, .iaload, 1), (17, .iadd, 1), (18, .istore_n 2, 1), (19, .aload_n 0, 1), (20, .getfield 94, 3), (23, .aload_n 0, 1), (24, .getfield 22, 3), (27, .iload_n 2, 1), (28, .laload, 1), (29, .invokestatic 177, 3), (32, .lstore_n 3, 1), (33, .aload_n 0, 1), (34, .getfield 22, 3), (37, .iload_n 2, 1), (38, .dup2, 1), (39, .laload, 1), (40, .lload_n 3, 1), (41, .lsub, 1), (42, .lastore, 1), (43, .aload_n 0, 1), (44, .dup, 1), (45, .getfield 94, 3), (48, .lload_n 3, 1), (49, .lsub, 1), (50, .putfield 94, 3), (53, .aload_n 0, 1), (54, .dup, 1), (55, .getfield 98, 3), (58, .lload_n 3, 1), (59, .ladd, 1), (60, .putfield 98, 3), (63, .iinc 1 1, 3), (66, .goto (-64), 3), (69, .aload_n 0, 1), (70, .lconst 0, 1), (71, .putfield 94, 3), (74, .return_, 1)]
theorem dzX4_payAhead : dz cX4_payAhead rwX4_payAhead := dz_all 0 (by decide +kernel)
def kX4_payAhead (live : am_E) (Ret : am_R) : am_code := [(0, am_const (.int 0) 1), (1, am_istore 1 5 2), (2, am_iload 1 3), (3, am_aload 0 4), (4, am_getI live 4 7 7), (7, am_if2 (fun x y => y ≤ x) 69 10), (10, am_const (.int 0) 11), (11, am_aload 0 12), (12, am_getR live 4 4 15), (15, am_iload 1 16), (16, am_ald live 0 17), (17, am_i2 (fun x y => x + y) 18), (18, am_istore 2 5 19), (19, am_aload 0 20), (20, am_getJ live 4 14 23), (23, am_aload 0 24), (24, am_getR live 4 2 27), (27, am_iload 2 28), (28, am_lald live 1 29), (29, am_mathl (fun x y => if y < x then y else x) 23 32), (32, am_lstore 3 5 33), (33, am_aload 0 34), (34, am_getR live 4 2 37), (37, am_iload 2 38), (38, am_dup2 39), (39, am_lald live 1 40), (40, am_lload 3 41), (41, am_l2 (fun x y => x - y) 42), (42, am_last live 1 43), (43, am_aload 0 44), (44, am_dup 45), (45, am_getJ live 4 14 48), (48, am_lload 3 49), (49, am_l2 (fun x y => x - y) 50), (50, am_putJ live 4 14 53), (53, am_aload 0 54), (54, am_dup 55), (55, am_getJ live 4 15 58), (58, am_lload 3 59), (59, am_l2 (fun x y => x + y) 60), (60, am_putJ live 4 15 63), (63, am_iinc 1 5 1 66), (66, am_goto 2), (69, am_aload 0 70), (70, am_const (.long 0) 71), (71, am_putJ live 4 14 74), (74, am_retV Ret)]
theorem koX4_payAhead (live : am_E) (Ret : am_R) : ∀ q ∈ kX4_payAhead live Ret, am_ok RX4 cX4_payAhead 5 none 1 23 live Ret q.1 q.2 :=
  am_kz dzX4_payAhead <|
  am_kd (fun d => ak_iconst d (by decide +kernel) rfl) <|
  am_kd (fun d => ak_istore_n d rfl rfl) <|
  am_kd (fun d => ak_iload_n d rfl rfl) <|
  am_kd (fun d => ak_aload_n d rfl rfl) <|
  am_kd (fun d => ak_getI (C := RX4) (T := TX4) (N := 19) rfl inX4w (by decide) rfl rfl rfl wd_303 d rfl) <|
  am_kd (fun d => ak_icmp_ge d (by decide +kernel) rfl) <|
  am_kd (fun d => ak_iconst d (by decide +kernel) rfl) <|
  am_kd (fun d => ak_aload_n d rfl rfl) <|
  am_kd (fun d => ak_getR (C := RX4) (T := TX4) (N := 19) rfl inX4w (by decide) rfl rfl rfl wd_300 d rfl) <|
  am_kd (fun d => ak_iload_n d rfl rfl) <|
  am_kd (fun d => ak_iald (t := 0) (fun _ => rfl) rfl d rfl) <|
  am_kd (fun d => ak_iadd d rfl) <|
  am_kd (fun d => ak_istore_n d rfl rfl) <|
  am_kd (fun d => ak_aload_n d rfl rfl) <|
  am_kd (fun d => ak_getJ (C := RX4) (T := TX4) (N := 19) rfl inX4w (by decide) rfl rfl rfl wd_310 d rfl) <|
  am_kd (fun d => ak_aload_n d rfl rfl) <|
  am_kd (fun d => ak_getR (C := RX4) (T := TX4) (N := 19) rfl inX4w (by decide) rfl rfl rfl wd_296 d rfl) <|
  am_kd (fun d => ak_iload_n d rfl rfl) <|
  am_kd (fun d => ak_lald (t := 1) (fun _ => rfl) rfl d rfl) <|
  am_kd (fun d => ak_lmin (am_w4 wd_607 wd_608 wd_68 wd_609) (by decide) d rfl) <|
  am_kd (fun d => ak_lstore_n d rfl rfl) <|
  am_kd (fun d => ak_aload_n d rfl rfl) <|
  am_kd (fun d => ak_getR (C := RX4) (T := TX4) (N := 19) rfl inX4w (by decide) rfl rfl rfl wd_296 d rfl) <|
  am_kd (fun d => ak_iload_n d rfl rfl) <|
  am_kd (fun d => ak_dup2 d rfl) <|
  am_kd (fun d => ak_lald (t := 1) (fun _ => rfl) rfl d rfl) <|
  am_kd (fun d => ak_lload_n d rfl rfl) <|
  am_kd (fun d => ak_lsub d rfl) <|
  am_kd (fun d => ak_last (t := 1) (fun _ => rfl) rfl d rfl) <|
  am_kd (fun d => ak_aload_n d rfl rfl) <|
  am_kd (fun d => ak_dup d rfl) <|
  am_kd (fun d => ak_getJ (C := RX4) (T := TX4) (N := 19) rfl inX4w (by decide) rfl rfl rfl wd_310 d rfl) <|
  am_kd (fun d => ak_lload_n d rfl rfl) <|
  am_kd (fun d => ak_lsub d rfl) <|
  am_kd (fun d => ak_putJ (C := RX4) (T := TX4) (N := 19) rfl inX4w tyX4_ok nmX4 (by decide) rfl rfl rfl rfl (by decide +kernel) wd_310 d rfl) <|
  am_kd (fun d => ak_aload_n d rfl rfl) <|
  am_kd (fun d => ak_dup d rfl) <|
  am_kd (fun d => ak_getJ (C := RX4) (T := TX4) (N := 19) rfl inX4w (by decide) rfl rfl rfl wd_311 d rfl) <|
  am_kd (fun d => ak_lload_n d rfl rfl) <|
  am_kd (fun d => ak_ladd d rfl) <|
  am_kd (fun d => ak_putJ (C := RX4) (T := TX4) (N := 19) rfl inX4w tyX4_ok nmX4 (by decide) rfl rfl rfl rfl (by decide +kernel) wd_311 d rfl) <|
  am_kd (fun d => ak_iinc d (by decide +kernel) rfl) <|
  am_kd (fun d => ak_goto d (by decide +kernel)) <|
  am_kd (fun d => ak_aload_n d rfl rfl) <|
  am_kd (fun d => ak_lconst d (by decide +kernel) rfl) <|
  am_kd (fun d => ak_putJ (C := RX4) (T := TX4) (N := 19) rfl inX4w tyX4_ok nmX4 (by decide) rfl rfl rfl rfl (by decide +kernel) wd_310 d rfl) <|
  am_kd (fun d => ak_retV d) <| am_kdn
def TX4_payAhead : am_T := fun live as M R => match as with
  | [.ref n] => am_mn live ∧ n = 4 ∧ g_rI M ∧ ∀ M', g_sc M M' → g_rI M' → R none M'
  | _ => False
def JX4_payAhead : am_E → List Value → am_M → am_R → am_inv := fun live as M0 _ pc => match as with
  | [.ref n] => (match pc with
    | 2 => some ([0, 1], fun k L st M => ∃ i : Int32, L = [(0, .ref 4), (1, .int i)] ∧ st = [] ∧ k = ((31 - i.toInt).toNat, 0) ∧ 0 ≤ i.toInt ∧ g_sc M0 M ∧ g_rI M)
    | _ => none)
  | _ => none
set_option maxRecDepth 100000 in
set_option maxHeartbeats 4000000 in
theorem metX4_payAhead : am_Met yX4_payAhead cX4_payAhead 5 none (1) (23) TX4_payAhead := by
  refine am_met (own := RX4) (by decide +kernel) rfl kX4_payAhead koX4_payAhead 100 JX4_payAhead ?_ ?_
  · intro live as M Ret h
    unfold TX4_payAhead at h
    split at h
    · next n =>
      refine ⟨Nat.le_of_ble_eq_true rfl, ?_⟩
      change am_wp _ _ _ _ [(0, Value.ref n)] _ _
      obtain ⟨hmn, rfl, hr, h⟩ := h
      repeat' (first | apply And.intro | exact rfl | intro hx | (refine Exists.intro _ (And.intro rfl ?_)))
      all_goals try first | (with_reducible change am_tI _ _) | (change Ret _ _) | (change Ret _ _ _) | (change Exists _)
      all_goals try dsimp only at *
      all_goals try (with_reducible exact absurd ‹(1000 : Int64) = 0› am_z1000)
      exact ⟨_, _, rfl, rfl, rfl, by decide, g_sc.rf, hr⟩
    · exact h.elim
  · intro live as M0 Ret h k pc I hI L st M hi
    unfold TX4_payAhead at h
    split at h
    · next n =>
      obtain ⟨hmn, rfl, hr, h⟩ := h
      obtain ⟨i1, i2, rfl⟩ := hmn
      change (match pc with | 2 => _ | _ => none) = _ at hI
      split at hI
      · cases hI
        obtain ⟨i, rfl, rfl, rfl, e1, e2, e3⟩ := hi
        by_cases hz : M.1 4 7 ≤ i
        · clear hr
          repeat' (first | apply And.intro | exact rfl | (intro hx; with_reducible exact absurd hz hx) | intro hx | (refine Exists.intro _ (And.intro rfl ?_)))
          all_goals try first | (with_reducible change am_tI _ _) | (change Ret _ _) | (change Ret _ _ _) | (change Exists _)
          all_goals try dsimp only at *
          all_goals try (with_reducible exact absurd ‹(1000 : Int64) = 0› am_z1000)
          exact h _ (e2.wJ rfl) e3.wJ
        · have q := e3.s.sz
          have hz2 := hz
          simp only [i_le] at hz2
          have ha : am_in i 30 := ⟨e1, by omega⟩
          have hb := e3.s.qu (g_cl ha)
          have e0 := g_ix hb 0 0 rfl (by decide)
          have l6 : am_len 6 = 180 := rfl
          have l8 : am_len 8 = 30 := rfl
          have hi := i_inc (x := i) (by omega) (by omega)
          repeat' (first | apply And.intro | exact rfl | (intro hx; with_reducible exact absurd hx hz) | intro hx | (refine Exists.intro _ (And.intro rfl ?_)))
          all_goals try first | (with_reducible change am_tI _ _) | (change Ret _ _) | (change Ret _ _ _) | (change Exists _)
          all_goals try dsimp only at *
          all_goals try (with_reducible exact absurd ‹(1000 : Int64) = 0› am_z1000)
          all_goals first
            | omega
            | (with_reducible exact e0.1)
            | (rw [l6]; exact e0.2.1)
            | (rw [l8]; exact ha.2)
            | exact e0.1
            | skip
          exact ⟨_, am_lt_l (by omega), i + 1, rfl, rfl, rfl, by omega, (((e2.wJ rfl).wJ rfl).wJ rfl), ((e3.wJ).wJ).wJ⟩
      · cases hI
    · exact h.elim
set_option maxRecDepth 100000 in
theorem wd_299 : Cond.fieldLink "LearnLoans$Run" 26 "LearnLoans$Run" "mine" "[I" ∈ am_ws := am_wt2 (List.mem_of_getElem? (i := 2) (by rfl)) (by decide +kernel)
def rwX4_together : List dz_r := [(0, .lconst 0, 1), (1, .lstore_n 2, 1), (2, .iconst 0, 1), (3, .istore 4, 2), (5, .iload 4, 2), (7, .aload_n 0, 1), (8, .getfield 56, 3), (11, .if_icmp .ge 29, 3), (14, .lload_n 2, 1), (15, .aload_n 0, 1), (16, .getfield 22, 3), (19, .iload_n 1, 1), (20, .bipush 30, 2), (22, .imul, 1), (23, .aload_n 0, 1), (24, .getfield 26, 3), (27, .iload 4, 2), (29, .iaload, 1), (30, .iadd, 1), (31, .laload, 1), (32, .ladd, 1), (33, .lstore_n 2, 1), (34, .iinc 4 1, 3), (37, .goto (-32), 3), (40, .lload_n 2, 1), (41, .lreturn, 1)]
theorem dzX4_together : dz cX4_together rwX4_together := dz_all 0 (by decide +kernel)
def kX4_together (live : am_E) (Ret : am_R) : am_code := [(0, am_const (.long 0) 1), (1, am_lstore 2 5 2), (2, am_const (.int 0) 3), (3, am_istore 4 5 5), (5, am_iload 4 7), (7, am_aload 0 8), (8, am_getI live 4 7 11), (11, am_if2 (fun x y => y ≤ x) 40 14), (14, am_lload 2 15), (15, am_aload 0 16), (16, am_getR live 4 2 19), (19, am_iload 1 20), (20, am_const (.int 30) 22), (22, am_i2 (fun x y => x * y) 23), (23, am_aload 0 24), (24, am_getR live 4 3 27), (27, am_iload 4 29), (29, am_ald live 0 30), (30, am_i2 (fun x y => x + y) 31), (31, am_lald live 1 32), (32, am_l2 (fun x y => x + y) 33), (33, am_lstore 2 5 34), (34, am_iinc 4 5 1 37), (37, am_goto 5), (40, am_lload 2 41), (41, am_retL Ret)]
theorem koX4_together (live : am_E) (Ret : am_R) : ∀ q ∈ kX4_together live Ret, am_ok RX4 cX4_together 5 (some .long) 0 0 live Ret q.1 q.2 :=
  am_kz dzX4_together <|
  am_kd (fun d => ak_lconst d (by decide +kernel) rfl) <|
  am_kd (fun d => ak_lstore_n d rfl rfl) <|
  am_kd (fun d => ak_iconst d (by decide +kernel) rfl) <|
  am_kd (fun d => ak_istore d rfl) <|
  am_kd (fun d => ak_iload d rfl) <|
  am_kd (fun d => ak_aload_n d rfl rfl) <|
  am_kd (fun d => ak_getI (C := RX4) (T := TX4) (N := 19) rfl inX4w (by decide) rfl rfl rfl wd_303 d rfl) <|
  am_kd (fun d => ak_icmp_ge d (by decide +kernel) rfl) <|
  am_kd (fun d => ak_lload_n d rfl rfl) <|
  am_kd (fun d => ak_aload_n d rfl rfl) <|
  am_kd (fun d => ak_getR (C := RX4) (T := TX4) (N := 19) rfl inX4w (by decide) rfl rfl rfl wd_296 d rfl) <|
  am_kd (fun d => ak_iload_n d rfl rfl) <|
  am_kd (fun d => ak_bipush d (by decide +kernel) rfl) <|
  am_kd (fun d => ak_imul d rfl) <|
  am_kd (fun d => ak_aload_n d rfl rfl) <|
  am_kd (fun d => ak_getR (C := RX4) (T := TX4) (N := 19) rfl inX4w (by decide) rfl rfl rfl wd_299 d rfl) <|
  am_kd (fun d => ak_iload d rfl) <|
  am_kd (fun d => ak_iald (t := 0) (fun _ => rfl) rfl d rfl) <|
  am_kd (fun d => ak_iadd d rfl) <|
  am_kd (fun d => ak_lald (t := 1) (fun _ => rfl) rfl d rfl) <|
  am_kd (fun d => ak_ladd d rfl) <|
  am_kd (fun d => ak_lstore_n d rfl rfl) <|
  am_kd (fun d => ak_iinc d (by decide +kernel) rfl) <|
  am_kd (fun d => ak_goto d (by decide +kernel)) <|
  am_kd (fun d => ak_lload_n d rfl rfl) <|
  am_kd (fun d => ak_retL d) <| am_kdn
def TX4_together : am_T := fun live as M R => match as with
  | [.ref n, .int w] => am_mn live ∧ n = 4 ∧ am_in w 6 ∧ g_rI M ∧ ∀ v, R (some (.long v)) M
  | _ => False
def JX4_together : am_E → List Value → am_M → am_R → am_inv := fun live as M0 _ pc => match as with
  | [.ref n, .int w] => (match pc with
    | 5 => some ([0, 1, 2, 4], fun k L st M => ∃ (v : Int64) (i : Int32), L = [(0, .ref 4), (1, .int w), (2, .long v), (4, .int i)] ∧ st = [] ∧ k = ((31 - i.toInt).toNat, 0) ∧ 0 ≤ i.toInt ∧ M = M0)
    | _ => none)
  | _ => none
set_option maxRecDepth 100000 in
set_option maxHeartbeats 4000000 in
theorem metX4_together : am_Met yX4_together cX4_together 5 (some .long) (0) (0) TX4_together := by
  refine am_met (own := RX4) (by decide +kernel) rfl kX4_together koX4_together 100 JX4_together ?_ ?_
  · intro live as M Ret h
    unfold TX4_together at h
    split at h
    · next n w =>
      refine ⟨Nat.le_of_ble_eq_true rfl, ?_⟩
      change am_wp _ _ _ _ [(0, Value.ref n), (1, Value.int w)] _ _
      obtain ⟨hmn, rfl, hw, hr, h⟩ := h
      repeat' (first | apply And.intro | exact rfl | intro hx | (refine Exists.intro _ (And.intro rfl ?_)))
      all_goals try first | (with_reducible change am_tI _ _) | (change Ret _ _) | (change Ret _ _ _) | (change Exists _)
      all_goals try dsimp only at *
      all_goals try (with_reducible exact absurd ‹(1000 : Int64) = 0› am_z1000)
      exact ⟨_, _, _, rfl, rfl, rfl, by decide, rfl⟩
    · exact h.elim
  · intro live as M0 Ret h k pc I hI L st M hi
    unfold TX4_together at h
    split at h
    · next n w =>
      obtain ⟨hmn, rfl, hw, hr, h⟩ := h
      obtain ⟨i1, i2, rfl⟩ := hmn
      change (match pc with | 5 => _ | _ => none) = _ at hI
      split at hI
      · cases hI
        obtain ⟨v, i, rfl, rfl, rfl, e1, rfl⟩ := hi
        by_cases hz : M.1 4 7 ≤ i
        · skip
          repeat' (first | apply And.intro | exact rfl | (intro hx; with_reducible exact absurd hz hx) | intro hx | (refine Exists.intro _ (And.intro rfl ?_)))
          all_goals try first | (with_reducible change am_tI _ _) | (change Ret _ _) | (change Ret _ _ _) | (change Exists _)
          all_goals try dsimp only at *
          all_goals try (with_reducible exact absurd ‹(1000 : Int64) = 0› am_z1000)
          exact h _
        · have q := hr.s.sz
          have hz2 := hz
          simp only [i_le] at hz2
          have ha : am_in i 30 := ⟨e1, by omega⟩
          have hb := hr.s.mi (g_cl ha)
          have l6 : am_len 6 = 180 := rfl
          have l7 : am_len 7 = 30 := rfl
          have hi := i_inc (x := i) (by omega) (by omega)
          have e30 := i_mul (x := w) (y := 30) (by simp only [Int32.reduceToInt]; have := hw.1; have := hw.2; omega) (by simp only [Int32.reduceToInt]; have := hw.1; have := hw.2; omega)
          simp only [Int32.reduceToInt] at e30
          have hw1 := hw.1
          have hw2 := hw.2
          have hb1 := hb.1
          have hb2 := hb.2
          have e := i_add (x := w * 30) (y := M.1 7 i.toNatClampNeg) (by rw [e30]; omega) (by rw [e30]; omega)
          repeat' (first | apply And.intro | exact rfl | (intro hx; with_reducible exact absurd hx hz) | intro hx | (refine Exists.intro _ (And.intro rfl ?_)))
          all_goals try first | (with_reducible change am_tI _ _) | (change Ret _ _) | (change Ret _ _ _) | (change Exists _)
          all_goals try dsimp only at *
          all_goals try (with_reducible exact absurd ‹(1000 : Int64) = 0› am_z1000)
          all_goals first
            | omega
            | (rw [l7]; exact ha.2)
            | (rw [l6]; omega)
            | skip
          exact ⟨_, am_lt_l (by omega), _, i + 1, rfl, rfl, rfl, by omega, rfl⟩
      · cases hI
    · exact h.elim
