/-! Run: growing, sums together -/
set_option maxRecDepth 100000 in
theorem wd_296 : Cond.fieldLink "LearnLoans$Run" 22 "LearnLoans$Run" "sums" "[J" ∈ am_ws := am_wt1 (List.mem_of_getElem? (i := 239) (by rfl)) (by decide +kernel)
set_option maxRecDepth 100000 in
theorem wd_617 : Cond.constantLong "LearnLoans$Run" 173 1000 ∈ am_ws := am_wt3 (List.mem_of_getElem? (i := 80) (by rfl)) (by decide +kernel)
set_option maxRecDepth 100000 in
theorem wd_618 : Cond.constantLong "LearnLoans$Run" 175 1000000000000 ∈ am_ws := am_wt3 (List.mem_of_getElem? (i := 81) (by rfl)) (by decide +kernel)
set_option maxRecDepth 100000 in
theorem wd_607 : Cond.methodLink "LearnLoans$Run" 177 Lib.MathLoose.min_long.x ∈ am_ws := am_wt3 (List.mem_of_getElem? (i := 70) (by rfl)) (by decide +kernel)
set_option maxRecDepth 100000 in
theorem wd_608 : Cond.static Lib.MathLoose.min_long.x ∈ am_ws := am_wt3 (List.mem_of_getElem? (i := 71) (by rfl)) (by decide +kernel)
set_option maxRecDepth 100000 in
theorem wd_609 : Cond.code Lib.MathLoose.min_long.x Lib.MathLoose.min_long.code 4 (some .long) ∈ am_ws := am_wt3 (List.mem_of_getElem? (i := 72) (by rfl)) (by decide +kernel)
def rwX4_grow : List dz_r := [(0, .aload_n 0, 1), (1, .getfield 22, 3), (4, .iconst 0, 1), (5, .iload_n 1, 1), (6, .iadd, 1), (7, .laload, 1), (8, .lstore_n 3, 1), (9, .lload_n 3, 1), (10, .iload_n 2, 1), (11, .i2l, 1), (12, .lmul, 1), (13, .ldc2_w 173, 3), (16, .ldiv, 1), (17, .ldc2_w 175, 3), (20, .lload_n 3, 1), (21, .lsub, 1), (22, .invokestatic 177, 3), (25, .lstore 5, 2), (27, .aload_n 0, 1), (28, .getfield 22, 3), (31, .bipush 120, 2), (33, .iload_n 1, 1), (34, .iadd, 1), (35, .lload 5, 2), (37, .lastore, 1), (38, .aload_n 0, 1), (39, .getfield 22, 3), (42, .iconst 0, 1), (43, .iload_n 1, 1), (44, .iadd, 1), (45, .lload_n 3, 1), (46, .lload 5, 2), (48, .ladd, 1), (49, .lastore, 1), (50, .return_, 1)]
theorem dzX4_grow : dz cX4_grow rwX4_grow := dz_all 0 (by decide +kernel)
def kX4_grow (live : am_E) (Ret : am_R) : am_code := [(0, am_aload 0 1), (1, am_getR live 4 2 4), (4, am_const (.int 0) 5), (5, am_iload 1 6), (6, am_i2 (fun x y => x + y) 7), (7, am_lald live 1 8), (8, am_lstore 3 7 9), (9, am_lload 3 10), (10, am_iload 2 11), (11, am_i2l 12), (12, am_l2 (fun x y => x * y) 13), (13, am_const (.long 1000) 16), (16, am_l2z (fun x y => x / y) 17), (17, am_const (.long 1000000000000) 20), (20, am_lload 3 21), (21, am_l2 (fun x y => x - y) 22), (22, am_mathl (fun x y => if y < x then y else x) 23 25), (25, am_lstore 5 7 27), (27, am_aload 0 28), (28, am_getR live 4 2 31), (31, am_const (.int 120) 33), (33, am_iload 1 34), (34, am_i2 (fun x y => x + y) 35), (35, am_lload 5 37), (37, am_last live 1 38), (38, am_aload 0 39), (39, am_getR live 4 2 42), (42, am_const (.int 0) 43), (43, am_iload 1 44), (44, am_i2 (fun x y => x + y) 45), (45, am_lload 3 46), (46, am_lload 5 48), (48, am_l2 (fun x y => x + y) 49), (49, am_last live 1 50), (50, am_retV Ret)]
theorem koX4_grow (live : am_E) (Ret : am_R) : ∀ q ∈ kX4_grow live Ret, am_ok RX4 cX4_grow 7 none 1 23 live Ret q.1 q.2 :=
  am_kz dzX4_grow <|
  am_kd (fun d => ak_aload_n d rfl rfl) <|
  am_kd (fun d => ak_getR (C := RX4) (T := TX4) (N := 19) rfl inX4w (by decide) rfl rfl rfl wd_296 d rfl) <|
  am_kd (fun d => ak_iconst d (by decide +kernel) rfl) <|
  am_kd (fun d => ak_iload_n d rfl rfl) <|
  am_kd (fun d => ak_iadd d rfl) <|
  am_kd (fun d => ak_lald (t := 1) (fun _ => rfl) rfl d rfl) <|
  am_kd (fun d => ak_lstore_n d rfl rfl) <|
  am_kd (fun d => ak_lload_n d rfl rfl) <|
  am_kd (fun d => ak_iload_n d rfl rfl) <|
  am_kd (fun d => ak_i2l d rfl) <|
  am_kd (fun d => ak_lmul d rfl) <|
  am_kd (fun d => ak_ldc2 wd_617 d rfl) <|
  am_kd (fun d => ak_ldiv d rfl) <|
  am_kd (fun d => ak_ldc2 wd_618 d rfl) <|
  am_kd (fun d => ak_lload_n d rfl rfl) <|
  am_kd (fun d => ak_lsub d rfl) <|
  am_kd (fun d => ak_lmin (am_w4 wd_607 wd_608 wd_68 wd_609) (by decide) d rfl) <|
  am_kd (fun d => ak_lstore d rfl) <|
  am_kd (fun d => ak_aload_n d rfl rfl) <|
  am_kd (fun d => ak_getR (C := RX4) (T := TX4) (N := 19) rfl inX4w (by decide) rfl rfl rfl wd_296 d rfl) <|
  am_kd (fun d => ak_bipush d (by decide +kernel) rfl) <|
  am_kd (fun d => ak_iload_n d rfl rfl) <|
  am_kd (fun d => ak_iadd d rfl) <|
  am_kd (fun d => ak_lload d rfl) <|
  am_kd (fun d => ak_last (t := 1) (fun _ => rfl) rfl d rfl) <|
  am_kd (fun d => ak_aload_n d rfl rfl) <|
  am_kd (fun d => ak_getR (C := RX4) (T := TX4) (N := 19) rfl inX4w (by decide) rfl rfl rfl wd_296 d rfl) <|
  am_kd (fun d => ak_iconst d (by decide +kernel) rfl) <|
  am_kd (fun d => ak_iload_n d rfl rfl) <|
  am_kd (fun d => ak_iadd d rfl) <|
  am_kd (fun d => ak_lload_n d rfl rfl) <|
  am_kd (fun d => ak_lload d rfl) <|
  am_kd (fun d => ak_ladd d rfl) <|
  am_kd (fun d => ak_last (t := 1) (fun _ => rfl) rfl d rfl) <|
  am_kd (fun d => ak_retV d) <| am_kdn
def am_grown (o : Int64) (r : Int32) : Int64 := if 1000000000000 - o < o * r.toInt64 / 1000 then 1000000000000 - o else o * r.toInt64 / 1000
theorem am_ix0 {l : Int32} : (0 + l).toNatClampNeg = l.toNatClampNeg := by rw [Int32.zero_add]
theorem am_ixk {l k : Int32} {n : Nat} (h : am_in l 30) (hk : k.toInt = (n : Int)) (hn : n ≤ 1000) : (k + l).toInt = (n : Int) + l.toInt ∧ (k + l).toNatClampNeg = n + l.toNatClampNeg := by
  obtain ⟨a1, a2⟩ := h
  have e := i_add (x := k) (y := l) (by rw [hk]; omega) (by rw [hk]; omega)
  rw [hk] at e
  have e2 := i_clamp (x := k + l) (by rw [e]; omega)
  have e3 := i_clamp (x := l) a1
  exact ⟨e, by omega⟩
def TX4_grow : am_T := fun live as M R => match as with
  | [.ref n, .int l, .int r] => am_mn live ∧ n = 4 ∧ am_in l 30 ∧ R none (am_wJ (am_wJ M 6 (120 + l.toNatClampNeg) (am_grown (M.2 6 l.toNatClampNeg) r)) 6 l.toNatClampNeg (M.2 6 l.toNatClampNeg + am_grown (M.2 6 l.toNatClampNeg) r))
  | _ => False
set_option maxRecDepth 100000 in
set_option maxHeartbeats 4000000 in
theorem metX4_grow : am_Met yX4_grow cX4_grow 7 none (1) (23) TX4_grow := by
  refine am_met (own := RX4) (by decide +kernel) rfl kX4_grow koX4_grow 100 (fun _ _ _ _ _ => none) (fun live as M Ret h => ?_) (fun _ _ _ _ _ _ _ _ hI => by cases hI)
  unfold TX4_grow at h
  split at h
  · next n l r =>
    refine ⟨Nat.le_of_ble_eq_true rfl, ?_⟩
    change am_wp _ _ _ _ [(0, Value.ref n), (1, Value.int l), (2, Value.int r)] _ _
    obtain ⟨hmn, rfl, hl, h⟩ := h
    obtain ⟨i1, i2, rfl⟩ := hmn
    have l6 : am_len 6 = 180 := rfl
    have e0 := am_ixk hl (k := 0) (n := 0) rfl (by decide)
    have e4 := am_ixk hl (k := 120) (n := 120) rfl (by decide)
    obtain ⟨a1, a2⟩ := hl
    repeat' (first | apply And.intro | exact rfl | intro hx | (refine Exists.intro _ (And.intro rfl ?_)))
    all_goals try first | (with_reducible change am_tI _ _) | (change Ret _ _) | (change Ret _ _ _) | (change Exists _)
    all_goals try dsimp only at *
    all_goals try (with_reducible exact absurd ‹(1000 : Int64) = 0› am_z1000)
    all_goals first
      | (rw [e0.1]; omega)
      | (rw [e0.1, l6]; omega)
      | (rw [e4.1]; omega)
      | (rw [e4.1, l6]; omega)
      | skip
    simp only [e4.2, am_ix0]
    exact h
  · exact h.elim
