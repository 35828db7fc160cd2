/-! Text: a character behind, all gone, what it tells -/
/-- a text's lasting numbers -/
def am_t0 (M : am_M) (t : Nat) : Prop := ∃ _ : Unit, (0 ≤ (M.1 t 2).toInt ∧ (M.1 t 2).toInt ≤ 50) ∧ (0 ≤ (M.1 t 5).toInt ∧ (M.1 t 5).toInt ≤ 50)
theorem am_t0_I {M : am_M} {t : Nat} (h : am_tI M t) : am_t0 M t := by
  obtain ⟨-, q1, q2, q3⟩ := h
  exact ⟨(), q1, by omega, q3⟩
def rwX5_add : List dz_r := [(0, .aload_n 0, 1), (1, .getfield 22, 3), (4, .bipush 50, 2), (6, .if_icmp .lt 4, 3), (9, .return_, 1), (10, .aload_n 0, 1), (11, .getfield 9, 3), (14, .aload_n 0, 1), (15, .getfield 22, 3), (18, .iload_n 1, 1), (19, .iastore, 1), (20, .aload_n 0, 1), (21, .dup, 1), (22, .getfield 22, 3), (25, .iconst 1, 1), (26, .iadd, 1), (27, .putfield 22, 3), (30, .aload_n 0, 1), (31, .iconst 0, 1), (32, .putfield 25, 3), (35, .aload_n 0, 1), (36, .iconst 0, 1), (37, .putfield 28, 3), (40, .aload_n 0, 1), (41, .iconst 0, 1), (42, .putfield 31, 3), (45, .aload_n 0, 1), (46, .iconst (-1), 1), (47, .putfield 18, 3), (50, .aload_n 0, 1), (51, .iconst 0, 1), (52, .invokevirtual 34, 3), (55, .aload_n 0, 1), (56, .invokevirtual 38, 3), (59, .iconst (-1), 1), (60, .if_icmp .eq 12, 3), (63, .aload_n 0, 1), (64, .aload_n 0, 1), (65, .getfield 28, 3), (68, .iconst 1, 1), (69, .invokevirtual 42, 3), (72, .return_, 1)]
theorem dzX5_add : dz cX5_add rwX5_add := dz_all 0 (by decide +kernel)
def kX5_add (live : am_E) (Ret : am_R) : am_code := [(0, am_aload 0 1), (1, am_getI live 5 5 4), (4, am_const (.int 50) 6), (6, am_if2 (fun x y => x < y) 10 9), (9, am_retV Ret), (10, am_aload 0 11), (11, am_getR live 5 0 14), (14, am_aload 0 15), (15, am_getI live 5 5 18), (18, am_iload 1 19), (19, am_ast live 0 20), (20, am_aload 0 21), (21, am_dup 22), (22, am_getI live 5 5 25), (25, am_const (.int 1) 26), (26, am_i2 (fun x y => x + y) 27), (27, am_putI live 5 5 30), (30, am_aload 0 31), (31, am_const (.int 0) 32), (32, am_putI live 5 2 35), (35, am_aload 0 36), (36, am_const (.int 0) 37), (37, am_putI live 5 3 40), (40, am_aload 0 41), (41, am_const (.int 0) 42), (42, am_putI live 5 4 45), (45, am_aload 0 46), (46, am_const (.int (-1)) 47), (47, am_putI live 5 6 50), (50, am_aload 0 51), (51, am_const (.int 0) 52), (52, am_callV live 5 1 (TX5_readValue 41) 55), (55, am_aload 0 56), (56, am_callV live 5 0 TX5_next 59), (59, am_const (.int (-1)) 60), (60, am_if2 (fun x y => x = y) 72 63), (63, am_aload 0 64), (64, am_aload 0 65), (65, am_getI live 5 3 68), (68, am_const (.int 1) 69), (69, am_callV live 5 2 TX5_blame 72), (72, am_retV Ret)]
theorem koX5_add (live : am_E) (Ret : am_R) : ∀ q ∈ kX5_add live Ret, am_ok RX5 cX5_add 2 none 333 8421 live Ret q.1 q.2 :=
  am_kz dzX5_add <|
  am_kd (fun d => ak_aload_n d rfl rfl) <|
  am_kd (fun d => ak_getI (C := RX5) (T := TX5) (N := 7) rfl inX5w (by decide) rfl rfl rfl wd_173 d rfl) <|
  am_kd (fun d => ak_bipush d (by decide +kernel) rfl) <|
  am_kd (fun d => ak_icmp_lt d (by decide +kernel) rfl) <|
  am_kd (fun d => ak_retV d) <|
  am_kd (fun d => ak_aload_n d rfl rfl) <|
  am_kd (fun d => ak_getR (C := RX5) (T := TX5) (N := 7) rfl inX5w (by decide) rfl rfl rfl wd_168 d rfl) <|
  am_kd (fun d => ak_aload_n d rfl rfl) <|
  am_kd (fun d => ak_getI (C := RX5) (T := TX5) (N := 7) rfl inX5w (by decide) rfl rfl rfl wd_173 d rfl) <|
  am_kd (fun d => ak_iload_n d rfl rfl) <|
  am_kd (fun d => ak_iast (t := 0) (fun _ => rfl) rfl d rfl) <|
  am_kd (fun d => ak_aload_n d rfl rfl) <|
  am_kd (fun d => ak_dup d rfl) <|
  am_kd (fun d => ak_getI (C := RX5) (T := TX5) (N := 7) rfl inX5w (by decide) rfl rfl rfl wd_173 d rfl) <|
  am_kd (fun d => ak_iconst d (by decide +kernel) rfl) <|
  am_kd (fun d => ak_iadd d rfl) <|
  am_kd (fun d => ak_putI (C := RX5) (T := TX5) (N := 7) rfl inX5w tyX5_ok nmX5 (by decide) rfl rfl rfl rfl (by decide +kernel) wd_173 d rfl) <|
  am_kd (fun d => ak_aload_n d rfl rfl) <|
  am_kd (fun d => ak_iconst d (by decide +kernel) rfl) <|
  am_kd (fun d => ak_putI (C := RX5) (T := TX5) (N := 7) rfl inX5w tyX5_ok nmX5 (by decide) rfl rfl rfl rfl (by decide +kernel) wd_170 d rfl) <|
  am_kd (fun d => ak_aload_n d rfl rfl) <|
  am_kd (fun d => ak_iconst d (by decide +kernel) rfl) <|
  am_kd (fun d => ak_putI (C := RX5) (T := TX5) (N := 7) rfl inX5w tyX5_ok nmX5 (by decide) rfl rfl rfl rfl (by decide +kernel) wd_171 d rfl) <|
  am_kd (fun d => ak_aload_n d rfl rfl) <|
  am_kd (fun d => ak_iconst d (by decide +kernel) rfl) <|
  am_kd (fun d => ak_putI (C := RX5) (T := TX5) (N := 7) rfl inX5w tyX5_ok nmX5 (by decide) rfl rfl rfl rfl (by decide +kernel) wd_172 d rfl) <|
  am_kd (fun d => ak_aload_n d rfl rfl) <|
  am_kd (fun d => ak_iconst d (by decide +kernel) rfl) <|
  am_kd (fun d => ak_putI (C := RX5) (T := TX5) (N := 7) rfl inX5w tyX5_ok nmX5 (by decide) rfl rfl rfl rfl (by decide +kernel) wd_175 d rfl) <|
  am_kd (fun d => ak_aload_n d rfl rfl) <|
  am_kd (fun d => ak_iconst d (by decide +kernel) rfl) <|
  am_kd (fun d => ak_callV (C := RX5) (F := TX5) (N := 7) (metX5_readValue 41) rfl ⟨rfl, hy_X5_readValue⟩ (am_w5 wd_672 wd_674 wd_13 wd_65 wd_675) (by omega) d rfl) <|
  am_kd (fun d => ak_aload_n d rfl rfl) <|
  am_kd (fun d => ak_callV (C := RX5) (F := TX5) (N := 7) metX5_next rfl ⟨rfl, hy_X5_next⟩ (am_w5 wd_688 wd_690 wd_17 wd_65 wd_691) (by decide) d rfl) <|
  am_kd (fun d => ak_iconst d (by decide +kernel) rfl) <|
  am_kd (fun d => ak_icmp_eq d (by decide +kernel) rfl) <|
  am_kd (fun d => ak_aload_n d rfl rfl) <|
  am_kd (fun d => ak_aload_n d rfl rfl) <|
  am_kd (fun d => ak_getI (C := RX5) (T := TX5) (N := 7) rfl inX5w (by decide) rfl rfl rfl wd_171 d rfl) <|
  am_kd (fun d => ak_iconst d (by decide +kernel) rfl) <|
  am_kd (fun d => ak_callV (C := RX5) (F := TX5) (N := 7) metX5_blame rfl ⟨rfl, hy_X5_blame⟩ (am_w5 wd_676 wd_678 wd_14 wd_65 wd_679) (by decide) d rfl) <|
  am_kd (fun d => ak_retV d) <| am_kdn
def TX5_add : am_T := fun live as M R => match as with
  | [.ref t, .int g] => am_tP live t (fun s c => am_t0 M t ∧ ((M.1 t 5).toInt < 50 → ∀ M', am_ch (am_tS t c) (am_wI (am_wI M s (M.1 t 5).toNatClampNeg g) t 5 (M.1 t 5 + 1)) M' → am_t0 M' t → R none M') ∧ (50 ≤ (M.1 t 5).toInt → R none M))
  | _ => False
set_option maxRecDepth 100000 in
set_option maxHeartbeats 4000000 in
theorem metX5_add : am_Met yX5_add cX5_add 2 none (333) (8421) TX5_add := by
  refine am_met (own := RX5) (by decide +kernel) rfl kX5_add koX5_add 120 (fun _ _ _ _ _ => none) (fun live as M Ret h => ?_) (fun _ _ _ _ _ _ _ _ hI => by cases hI)
  unfold TX5_add at h
  split at h
  · next t g =>
    refine ⟨Nat.le_of_ble_eq_true rfl, ?_⟩
    change am_wp _ _ _ _ [(0, Value.ref t), (1, Value.int g)] _ _
    have hh := am_tP_mp h
    clear h
    obtain ⟨s, c, h2, h6, hb, h1, h3, h7, h4, h8, h9, h5, h10, hT, h, hn⟩ := hh
    repeat' (first | (with_reducible exact h1) | (with_reducible exact h2) | (with_reducible exact h3) | (with_reducible exact hb) | (with_reducible exact h6) | (with_reducible exact h7) | (refine Exists.intro _ (Exists.intro _ (And.intro h2 (And.intro h6 ?_)))) | (refine Exists.intro _ (And.intro h2 ?_)) | (refine Exists.intro _ (And.intro h6 ?_)) | apply And.intro | exact rfl | intro hx | (refine Exists.intro _ (And.intro rfl ?_)) | ((with_reducible change _ = true); simp only [h1, h2, h3, hb, h6, h7, Bool.true_and]; rfl))
    all_goals try first | (with_reducible change am_tI _ _) | (change Ret _ _) | (change Ret _ _ _) | (change Exists _)
    all_goals try dsimp only at *
    all_goals try (with_reducible exact absurd ‹(1000 : Int64) = 0› am_z1000)
    all_goals obtain ⟨-, q1, q2⟩ := hT
    all_goals have e5 : ∀ k, (am_wI M s k g).1 t 5 = M.1 t 5 := fun k => by rw [am_wI_1, if_neg (fun z => h5 z.1)]
    · omega
    · rw [h4]; simp only [i_lt, Int32.reduceToInt] at hx; omega
    · simp only [i_lt, Int32.reduceToInt] at hx
      have hi := i_add (x := M.1 t 5) (y := 1) (by simp only [Int32.reduceToInt]; omega) (by simp only [Int32.reduceToInt]; omega)
      simp only [Int32.reduceToInt] at hi
      refine am_tI_of ?_ ?_ ?_ ?_ ?_
      all_goals simp [am_wI_1, h5, -Int32.toInt_add]
      all_goals omega
    · decide
    · decide
    · decide
    · with_reducible assumption
    · rename_i hlt M1 c1 i1 p hp
      simp only [i_lt, Int32.reduceToInt] at hlt
      rw [e5] at c1
      exact h (by omega) _ ((((((am_ch.rf.wI am_tS_2).wI am_tS_3).wI am_tS_4).wI am_tS_6).tr c1).wI am_tS_3) (am_t0_I (am_tI_w3 i1 hp))
    · rename_i hlt M1 c1 i1 p hp
      simp only [i_lt, Int32.reduceToInt] at hlt
      rw [e5] at c1
      exact h (by omega) _ (am_ch_blame ((((((am_ch.rf.wI am_tS_2).wI am_tS_3).wI am_tS_4).wI am_tS_6).tr c1).wI am_tS_3)) (am_t0_I (am_tI_blame (am_tI_w3 i1 hp)))
    · simp only [i_lt, Int32.reduceToInt] at hx
      exact hn (by omega)
  · exact h.elim
def rwX5_clear : List dz_r := [(0, .aload_n 0, 1), (1, .iconst 0, 1), (2, .putfield 22, 3), (5, .aload_n 0, 1), (6, .iconst 0, 1), (7, .putfield 25, 3), (10, .aload_n 0, 1), (11, .iconst 1, 1), (12, .putfield 18, 3), (15, .return_, 1)]
theorem dzX5_clear : dz cX5_clear rwX5_clear := dz_all 0 (by decide +kernel)
def kX5_clear (live : am_E) (Ret : am_R) : am_code := [(0, am_aload 0 1), (1, am_const (.int 0) 2), (2, am_putI live 5 5 5), (5, am_aload 0 6), (6, am_const (.int 0) 7), (7, am_putI live 5 2 10), (10, am_aload 0 11), (11, am_const (.int 1) 12), (12, am_putI live 5 6 15), (15, am_retV Ret)]
theorem koX5_clear (live : am_E) (Ret : am_R) : ∀ q ∈ kX5_clear live Ret, am_ok RX5 cX5_clear 1 none 0 0 live Ret q.1 q.2 :=
  am_kz dzX5_clear <|
  am_kd (fun d => ak_aload_n d rfl rfl) <|
  am_kd (fun d => ak_iconst d (by decide +kernel) rfl) <|
  am_kd (fun d => ak_putI (C := RX5) (T := TX5) (N := 7) rfl inX5w tyX5_ok nmX5 (by decide) rfl rfl rfl rfl (by decide +kernel) wd_173 d rfl) <|
  am_kd (fun d => ak_aload_n d rfl rfl) <|
  am_kd (fun d => ak_iconst d (by decide +kernel) rfl) <|
  am_kd (fun d => ak_putI (C := RX5) (T := TX5) (N := 7) rfl inX5w tyX5_ok nmX5 (by decide) rfl rfl rfl rfl (by decide +kernel) wd_170 d rfl) <|
  am_kd (fun d => ak_aload_n d rfl rfl) <|
  am_kd (fun d => ak_iconst d (by decide +kernel) rfl) <|
  am_kd (fun d => ak_putI (C := RX5) (T := TX5) (N := 7) rfl inX5w tyX5_ok nmX5 (by decide) rfl rfl rfl rfl (by decide +kernel) wd_175 d rfl) <|
  am_kd (fun d => ak_retV d) <| am_kdn
def TX5_clear : am_T := fun live as M R => match as with
  | [.ref t] => am_if (am_isO live 5 t) (R none (am_wI (am_wI (am_wI M t 5 0) t 2 0) t 6 1))
  | _ => False
set_option maxRecDepth 100000 in
set_option maxHeartbeats 4000000 in
theorem metX5_clear : am_Met yX5_clear cX5_clear 1 none (0) (0) TX5_clear := by
  refine am_met (own := RX5) (by decide +kernel) rfl kX5_clear koX5_clear 60 (fun _ _ _ _ _ => none) (fun live as M Ret h => ?_) (fun _ _ _ _ _ _ _ _ hI => by cases hI)
  unfold TX5_clear at h
  split at h
  · next t =>
    refine ⟨Nat.le_of_ble_eq_true rfl, ?_⟩
    change am_wp _ _ _ _ [(0, Value.ref t)] _ _
    have hh := am_if_mp h
    clear h
    obtain ⟨h1, h⟩ := hh
    repeat' (first | (with_reducible exact h1) | apply And.intro | exact rfl | intro hx | (refine Exists.intro _ (And.intro rfl ?_)) | ((with_reducible change _ = true); simp only [h1, Bool.true_and]; rfl))
    all_goals try first | (with_reducible change am_tI _ _) | (change Ret _ _) | (change Ret _ _ _) | (change Exists _)
    all_goals try dsimp only at *
    all_goals try (with_reducible exact absurd ‹(1000 : Int64) = 0› am_z1000)
    exact h
  · exact h.elim
set_option maxRecDepth 100000 in
theorem wd_888 : Cond.constantLong "LearnLoans$Text" 52 31 ∈ am_ws := am_wt4 (List.mem_of_getElem? (i := 111) (by rfl)) (by decide +kernel)
def rwX5_mixed : List dz_r := [(0, .ldc2_w 52, 3), (3, .lload_n 1, 1), (4, .lmul, 1), (5, .aload_n 0, 1), (6, .getfield 22, 3), (9, .i2l, 1), (10, .ladd, 1), (11, .lstore_n 1, 1), (12, .iconst 0, 1), (13, .istore_n 3, 1), (14, .iload_n 3, 1), (15, .aload_n 0, 1), (16, .getfield 22, 3), (19, .if_icmp .ge 29, 3), (22, .iload_n 3, 1), (23, .bipush 50, 2), (25, .if_icmp .ge 23, 3), (28, .ldc2_w 52, 3), (31, .lload_n 1, 1), (32, .lmul, 1), (33, .aload_n 0, 1), (34, .getfield 9, 3), (37, .iload_n 3, 1), (38, .iaload, 1), (39, .i2l, 1), (40, .ladd, 1), (41, .lstore_n 1, 1), (42, .iinc 3 1, 3), (45, .goto (-31), 3), (48, .lload_n 1, 1), (49, .lreturn, 1)]
theorem dzX5_mixed : dz cX5_mixed rwX5_mixed := dz_all 0 (by decide +kernel)
def kX5_mixed (live : am_E) (Ret : am_R) : am_code := [(0, am_const (.long 31) 3), (3, am_lload 1 4), (4, am_l2 (fun x y => x * y) 5), (5, am_aload 0 6), (6, am_getI live 5 5 9), (9, am_i2l 10), (10, am_l2 (fun x y => x + y) 11), (11, am_lstore 1 4 12), (12, am_const (.int 0) 13), (13, am_istore 3 4 14), (14, am_iload 3 15), (15, am_aload 0 16), (16, am_getI live 5 5 19), (19, am_if2 (fun x y => y ≤ x) 48 22), (22, am_iload 3 23), (23, am_const (.int 50) 25), (25, am_if2 (fun x y => y ≤ x) 48 28), (28, am_const (.long 31) 31), (31, am_lload 1 32), (32, am_l2 (fun x y => x * y) 33), (33, am_aload 0 34), (34, am_getR live 5 0 37), (37, am_iload 3 38), (38, am_ald live 0 39), (39, am_i2l 40), (40, am_l2 (fun x y => x + y) 41), (41, am_lstore 1 4 42), (42, am_iinc 3 4 1 45), (45, am_goto 14), (48, am_lload 1 49), (49, am_retL Ret)]
theorem koX5_mixed (live : am_E) (Ret : am_R) : ∀ q ∈ kX5_mixed live Ret, am_ok RX5 cX5_mixed 4 (some .long) 0 0 live Ret q.1 q.2 :=
  am_kz dzX5_mixed <|
  am_kd (fun d => ak_ldc2 wd_888 d rfl) <|
  am_kd (fun d => ak_lload_n d rfl rfl) <|
  am_kd (fun d => ak_lmul d rfl) <|
  am_kd (fun d => ak_aload_n d rfl rfl) <|
  am_kd (fun d => ak_getI (C := RX5) (T := TX5) (N := 7) rfl inX5w (by decide) rfl rfl rfl wd_173 d rfl) <|
  am_kd (fun d => ak_i2l d rfl) <|
  am_kd (fun d => ak_ladd d rfl) <|
  am_kd (fun d => ak_lstore_n d rfl rfl) <|
  am_kd (fun d => ak_iconst d (by decide +kernel) rfl) <|
  am_kd (fun d => ak_istore_n d rfl rfl) <|
  am_kd (fun d => ak_iload_n d rfl rfl) <|
  am_kd (fun d => ak_aload_n d rfl rfl) <|
  am_kd (fun d => ak_getI (C := RX5) (T := TX5) (N := 7) rfl inX5w (by decide) rfl rfl rfl wd_173 d rfl) <|
  am_kd (fun d => ak_icmp_ge d (by decide +kernel) rfl) <|
  am_kd (fun d => ak_iload_n d rfl rfl) <|
  am_kd (fun d => ak_bipush d (by decide +kernel) rfl) <|
  am_kd (fun d => ak_icmp_ge d (by decide +kernel) rfl) <|
  am_kd (fun d => ak_ldc2 wd_888 d rfl) <|
  am_kd (fun d => ak_lload_n d rfl rfl) <|
  am_kd (fun d => ak_lmul d rfl) <|
  am_kd (fun d => ak_aload_n d rfl rfl) <|
  am_kd (fun d => ak_getR (C := RX5) (T := TX5) (N := 7) rfl inX5w (by decide) rfl rfl rfl wd_168 d rfl) <|
  am_kd (fun d => ak_iload_n d rfl rfl) <|
  am_kd (fun d => ak_iald (t := 0) (fun _ => rfl) rfl d rfl) <|
  am_kd (fun d => ak_i2l d rfl) <|
  am_kd (fun d => ak_ladd d rfl) <|
  am_kd (fun d => ak_lstore_n d rfl rfl) <|
  am_kd (fun d => ak_iinc d (by decide +kernel) rfl) <|
  am_kd (fun d => ak_goto d (by decide +kernel)) <|
  am_kd (fun d => ak_lload_n d rfl rfl) <|
  am_kd (fun d => ak_retL d) <| am_kdn
def TX5_mixed : am_T := fun live as M R => match as with
  | [.ref t, .long x] => am_tP live t (fun s c => ∀ y, R (some (.long y)) M)
  | _ => False
def JX5_mixed : am_E → List Value → am_M → am_R → am_inv := fun live as M0 _ pc => match as with
  | [.ref t, .long x] => (match pc with
    | 14 => some ([0, 1, 3], fun k L st M => ∃ (y : Int64) (i : Int32), L = [(0, .ref t), (1, .long y), (3, .int i)] ∧ st = [] ∧ k = ((51 - i.toInt).toNat, 0) ∧ 0 ≤ i.toInt ∧ M = M0)
    | _ => none)
  | _ => none
set_option maxRecDepth 100000 in
set_option maxHeartbeats 4000000 in
theorem metX5_mixed : am_Met yX5_mixed cX5_mixed 4 (some .long) (0) (0) TX5_mixed := by
  refine am_met (own := RX5) (by decide +kernel) rfl kX5_mixed koX5_mixed 60 JX5_mixed ?_ ?_
  · intro live as M Ret h
    unfold TX5_mixed at h
    split at h
    · next t x =>
      refine ⟨Nat.le_of_ble_eq_true rfl, ?_⟩
      change am_wp _ _ _ _ [(0, Value.ref t), (1, Value.long x)] _ _
      have hh := am_tP_mp h
      clear h
      obtain ⟨s, c, h2, h6, hb, h1, h3, h7, h4, h8, h9, h5, h10, h⟩ := hh
      repeat' (first | (with_reducible exact h1) | (with_reducible exact h2) | (with_reducible exact h3) | (with_reducible exact hb) | (with_reducible exact h6) | (with_reducible exact h7) | (refine Exists.intro _ (Exists.intro _ (And.intro h2 (And.intro h6 ?_)))) | (refine Exists.intro _ (And.intro h2 ?_)) | (refine Exists.intro _ (And.intro h6 ?_)) | apply And.intro | exact rfl | intro hx | (refine Exists.intro _ (And.intro rfl ?_)) | ((with_reducible change _ = true); simp only [h1, h2, h3, hb, h6, h7, Bool.true_and]; rfl))
      all_goals try first | (with_reducible change am_tI _ _) | (change Ret _ _) | (change Ret _ _ _) | (change Exists _)
      all_goals try dsimp only at *
      all_goals try (with_reducible exact absurd ‹(1000 : Int64) = 0› am_z1000)
      exact ⟨_, _, _, rfl, rfl, rfl, by decide, rfl⟩
    · exact h.elim
  · intro live as M0 Ret h k pc I hI L st M hi
    unfold TX5_mixed at h
    split at h
    · next t x =>
      have hh := am_tP_mp h
      clear h
      obtain ⟨s, c, h2, h6, hb, h1, h3, h7, h4, h8, h9, h5, h10, h⟩ := hh
      change (match pc with | 14 => _ | _ => none) = _ at hI
      split at hI
      · cases hI
        obtain ⟨y, i, rfl, rfl, rfl, e1, rfl⟩ := hi
        repeat' (first | (with_reducible exact h1) | (with_reducible exact h2) | (with_reducible exact h3) | (with_reducible exact hb) | (with_reducible exact h6) | (with_reducible exact h7) | (refine Exists.intro _ (Exists.intro _ (And.intro h2 (And.intro h6 ?_)))) | (refine Exists.intro _ (And.intro h2 ?_)) | (refine Exists.intro _ (And.intro h6 ?_)) | apply And.intro | exact rfl | intro hx | (refine Exists.intro _ (And.intro rfl ?_)) | ((with_reducible change _ = true); simp only [h1, h2, h3, hb, h6, h7, Bool.true_and]; rfl))
        all_goals try first | (with_reducible change am_tI _ _) | (change Ret _ _) | (change Ret _ _ _) | (change Exists _)
        all_goals try dsimp only at *
        all_goals try (with_reducible exact absurd ‹(1000 : Int64) = 0› am_z1000)
        all_goals try exact h _
        · omega
        · simp only [i_le, Int32.reduceToInt] at hx; rw [h4]; omega
        · refine ⟨_, Or.inl ?_, _, i + 1, rfl, rfl, rfl, ?_, rfl⟩
          all_goals simp only [i_le, Int32.reduceToInt] at hx
          all_goals
            have hi := i_add (x := i) (y := 1) (by simp only [Int32.reduceToInt]; omega) (by simp only [Int32.reduceToInt]; omega)
            simp only [Int32.reduceToInt] at hi
            omega
      · cases hI
    · exact h.elim
