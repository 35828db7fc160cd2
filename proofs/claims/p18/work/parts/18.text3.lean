/-! Text: a character behind, all gone, what it tells -/
/-- a text's lasting numbers -/
def am_t0 (M : am_M) (t : Nat) : Prop := ∃ _ : Unit, (0 ≤ (M.1 t 2).toInt ∧ (M.1 t 2).toInt ≤ 50) ∧ (0 ≤ (M.1 t 5).toInt ∧ (M.1 t 5).toInt ≤ 50)
theorem am_t0_I {M : am_M} {t : Nat} (h : am_tI M t) : am_t0 M t := by
  obtain ⟨-, q1, q2, q3⟩ := h
  exact ⟨(), q1, by omega, q3⟩
theorem dX5_add_0 : decode cX5_add 0 = .ok (.aload_n 0, 1) := by decide +kernel
theorem dX5_add_1 : decode cX5_add 1 = .ok (.getfield 22, 3) := by decide +kernel
theorem dX5_add_4 : decode cX5_add 4 = .ok (.bipush 50, 2) := by decide +kernel
theorem dX5_add_6 : decode cX5_add 6 = .ok (.if_icmp .lt 4, 3) := by decide +kernel
theorem dX5_add_9 : decode cX5_add 9 = .ok (.return_, 1) := by decide +kernel
theorem dX5_add_10 : decode cX5_add 10 = .ok (.aload_n 0, 1) := by decide +kernel
theorem dX5_add_11 : decode cX5_add 11 = .ok (.getfield 9, 3) := by decide +kernel
theorem dX5_add_14 : decode cX5_add 14 = .ok (.aload_n 0, 1) := by decide +kernel
theorem dX5_add_15 : decode cX5_add 15 = .ok (.getfield 22, 3) := by decide +kernel
theorem dX5_add_18 : decode cX5_add 18 = .ok (.iload_n 1, 1) := by decide +kernel
theorem dX5_add_19 : decode cX5_add 19 = .ok (.iastore, 1) := by decide +kernel
theorem dX5_add_20 : decode cX5_add 20 = .ok (.aload_n 0, 1) := by decide +kernel
theorem dX5_add_21 : decode cX5_add 21 = .ok (.dup, 1) := by decide +kernel
theorem dX5_add_22 : decode cX5_add 22 = .ok (.getfield 22, 3) := by decide +kernel
theorem dX5_add_25 : decode cX5_add 25 = .ok (.iconst 1, 1) := by decide +kernel
theorem dX5_add_26 : decode cX5_add 26 = .ok (.iadd, 1) := by decide +kernel
theorem dX5_add_27 : decode cX5_add 27 = .ok (.putfield 22, 3) := by decide +kernel
theorem dX5_add_30 : decode cX5_add 30 = .ok (.aload_n 0, 1) := by decide +kernel
theorem dX5_add_31 : decode cX5_add 31 = .ok (.iconst 0, 1) := by decide +kernel
theorem dX5_add_32 : decode cX5_add 32 = .ok (.putfield 25, 3) := by decide +kernel
theorem dX5_add_35 : decode cX5_add 35 = .ok (.aload_n 0, 1) := by decide +kernel
theorem dX5_add_36 : decode cX5_add 36 = .ok (.iconst 0, 1) := by decide +kernel
theorem dX5_add_37 : decode cX5_add 37 = .ok (.putfield 28, 3) := by decide +kernel
theorem dX5_add_40 : decode cX5_add 40 = .ok (.aload_n 0, 1) := by decide +kernel
theorem dX5_add_41 : decode cX5_add 41 = .ok (.iconst 0, 1) := by decide +kernel
theorem dX5_add_42 : decode cX5_add 42 = .ok (.putfield 31, 3) := by decide +kernel
theorem dX5_add_45 : decode cX5_add 45 = .ok (.aload_n 0, 1) := by decide +kernel
theorem dX5_add_46 : decode cX5_add 46 = .ok (.iconst (-1), 1) := by decide +kernel
theorem dX5_add_47 : decode cX5_add 47 = .ok (.putfield 18, 3) := by decide +kernel
theorem dX5_add_50 : decode cX5_add 50 = .ok (.aload_n 0, 1) := by decide +kernel
theorem dX5_add_51 : decode cX5_add 51 = .ok (.iconst 0, 1) := by decide +kernel
theorem dX5_add_52 : decode cX5_add 52 = .ok (.invokevirtual 34, 3) := by decide +kernel
theorem dX5_add_55 : decode cX5_add 55 = .ok (.aload_n 0, 1) := by decide +kernel
theorem dX5_add_56 : decode cX5_add 56 = .ok (.invokevirtual 38, 3) := by decide +kernel
theorem dX5_add_59 : decode cX5_add 59 = .ok (.iconst (-1), 1) := by decide +kernel
theorem dX5_add_60 : decode cX5_add 60 = .ok (.if_icmp .eq 12, 3) := by decide +kernel
theorem dX5_add_63 : decode cX5_add 63 = .ok (.aload_n 0, 1) := by decide +kernel
theorem dX5_add_64 : decode cX5_add 64 = .ok (.aload_n 0, 1) := by decide +kernel
theorem dX5_add_65 : decode cX5_add 65 = .ok (.getfield 28, 3) := by decide +kernel
theorem dX5_add_68 : decode cX5_add 68 = .ok (.iconst 1, 1) := by decide +kernel
theorem dX5_add_69 : decode cX5_add 69 = .ok (.invokevirtual 42, 3) := by decide +kernel
theorem dX5_add_72 : decode cX5_add 72 = .ok (.return_, 1) := by decide +kernel
def kX5_add (live : am_E) (Ret : am_R) : am_code := [(0, am_aload 0 1), (1, am_getI live 5 5 4), (4, am_const (.int 50) 6), (6, am_if2 (fun x y => x < y) 10 9), (9, am_retV Ret), (10, am_aload 0 11), (11, am_getR live 5 0 14), (14, am_aload 0 15), (15, am_getI live 5 5 18), (18, am_iload 1 19), (19, am_ast live 0 20), (20, am_aload 0 21), (21, am_dup 22), (22, am_getI live 5 5 25), (25, am_const (.int 1) 26), (26, am_i2 (fun x y => x + y) 27), (27, am_putI live 5 5 30), (30, am_aload 0 31), (31, am_const (.int 0) 32), (32, am_putI live 5 2 35), (35, am_aload 0 36), (36, am_const (.int 0) 37), (37, am_putI live 5 3 40), (40, am_aload 0 41), (41, am_const (.int 0) 42), (42, am_putI live 5 4 45), (45, am_aload 0 46), (46, am_const (.int (-1)) 47), (47, am_putI live 5 6 50), (50, am_aload 0 51), (51, am_const (.int 0) 52), (52, am_callV live 5 1 (TX5_readValue 41) 55), (55, am_aload 0 56), (56, am_callV live 5 0 TX5_next 59), (59, am_const (.int (-1)) 60), (60, am_if2 (fun x y => x = y) 72 63), (63, am_aload 0 64), (64, am_aload 0 65), (65, am_getI live 5 3 68), (68, am_const (.int 1) 69), (69, am_callV live 5 2 TX5_blame 72), (72, am_retV Ret)]
theorem koX5_add (live : am_E) (Ret : am_R) : ∀ q ∈ kX5_add live Ret, am_ok RX5 cX5_add 2 none 333 8421 live Ret q.1 q.2 :=
  am_kc (ak_aload_n dX5_add_0 rfl rfl) <|
  am_kc (ak_getI (C := RX5) (T := TX5) (N := 7) rfl inX5w (by decide) rfl rfl rfl wd_173 dX5_add_1 rfl) <|
  am_kc (ak_bipush dX5_add_4 (by decide +kernel) rfl) <|
  am_kc (ak_icmp_lt dX5_add_6 (by decide +kernel) rfl) <|
  am_kc (ak_retV dX5_add_9) <|
  am_kc (ak_aload_n dX5_add_10 rfl rfl) <|
  am_kc (ak_getR (C := RX5) (T := TX5) (N := 7) rfl inX5w (by decide) rfl rfl rfl wd_168 dX5_add_11 rfl) <|
  am_kc (ak_aload_n dX5_add_14 rfl rfl) <|
  am_kc (ak_getI (C := RX5) (T := TX5) (N := 7) rfl inX5w (by decide) rfl rfl rfl wd_173 dX5_add_15 rfl) <|
  am_kc (ak_iload_n dX5_add_18 rfl rfl) <|
  am_kc (ak_iast (t := 0) (fun _ => rfl) rfl dX5_add_19 rfl) <|
  am_kc (ak_aload_n dX5_add_20 rfl rfl) <|
  am_kc (ak_dup dX5_add_21 rfl) <|
  am_kc (ak_getI (C := RX5) (T := TX5) (N := 7) rfl inX5w (by decide) rfl rfl rfl wd_173 dX5_add_22 rfl) <|
  am_kc (ak_iconst dX5_add_25 (by decide +kernel) rfl) <|
  am_kc (ak_iadd dX5_add_26 rfl) <|
  am_kc (ak_putI (C := RX5) (T := TX5) (N := 7) rfl inX5w tyX5_ok nmX5 (by decide) rfl rfl rfl rfl (by decide +kernel) wd_173 dX5_add_27 rfl) <|
  am_kc (ak_aload_n dX5_add_30 rfl rfl) <|
  am_kc (ak_iconst dX5_add_31 (by decide +kernel) rfl) <|
  am_kc (ak_putI (C := RX5) (T := TX5) (N := 7) rfl inX5w tyX5_ok nmX5 (by decide) rfl rfl rfl rfl (by decide +kernel) wd_170 dX5_add_32 rfl) <|
  am_kc (ak_aload_n dX5_add_35 rfl rfl) <|
  am_kc (ak_iconst dX5_add_36 (by decide +kernel) rfl) <|
  am_kc (ak_putI (C := RX5) (T := TX5) (N := 7) rfl inX5w tyX5_ok nmX5 (by decide) rfl rfl rfl rfl (by decide +kernel) wd_171 dX5_add_37 rfl) <|
  am_kc (ak_aload_n dX5_add_40 rfl rfl) <|
  am_kc (ak_iconst dX5_add_41 (by decide +kernel) rfl) <|
  am_kc (ak_putI (C := RX5) (T := TX5) (N := 7) rfl inX5w tyX5_ok nmX5 (by decide) rfl rfl rfl rfl (by decide +kernel) wd_172 dX5_add_42 rfl) <|
  am_kc (ak_aload_n dX5_add_45 rfl rfl) <|
  am_kc (ak_iconst dX5_add_46 (by decide +kernel) rfl) <|
  am_kc (ak_putI (C := RX5) (T := TX5) (N := 7) rfl inX5w tyX5_ok nmX5 (by decide) rfl rfl rfl rfl (by decide +kernel) wd_175 dX5_add_47 rfl) <|
  am_kc (ak_aload_n dX5_add_50 rfl rfl) <|
  am_kc (ak_iconst dX5_add_51 (by decide +kernel) rfl) <|
  am_kc (ak_callV (C := RX5) (F := TX5) (N := 7) (metX5_readValue 41) rfl ⟨rfl, by decide +kernel, by decide +kernel, by decide +kernel⟩ (am_w5 wd_672 wd_674 wd_13 wd_65 wd_675) (by omega) dX5_add_52 rfl) <|
  am_kc (ak_aload_n dX5_add_55 rfl rfl) <|
  am_kc (ak_callV (C := RX5) (F := TX5) (N := 7) metX5_next rfl ⟨rfl, by decide +kernel, by decide +kernel, by decide +kernel⟩ (am_w5 wd_688 wd_690 wd_17 wd_65 wd_691) (by decide) dX5_add_56 rfl) <|
  am_kc (ak_iconst dX5_add_59 (by decide +kernel) rfl) <|
  am_kc (ak_icmp_eq dX5_add_60 (by decide +kernel) rfl) <|
  am_kc (ak_aload_n dX5_add_63 rfl rfl) <|
  am_kc (ak_aload_n dX5_add_64 rfl rfl) <|
  am_kc (ak_getI (C := RX5) (T := TX5) (N := 7) rfl inX5w (by decide) rfl rfl rfl wd_171 dX5_add_65 rfl) <|
  am_kc (ak_iconst dX5_add_68 (by decide +kernel) rfl) <|
  am_kc (ak_callV (C := RX5) (F := TX5) (N := 7) metX5_blame rfl ⟨rfl, by decide +kernel, by decide +kernel, by decide +kernel⟩ (am_w5 wd_676 wd_678 wd_14 wd_65 wd_679) (by decide) dX5_add_69 rfl) <|
  am_kc (ak_retV dX5_add_72) <| am_kn
def TX5_add : am_T := fun live as M R => match as with
  | [.ref t, .int g] => am_tP live t (fun s c => am_t0 M t ∧ ((M.1 t 5).toInt < 50 → ∀ M', am_ch (am_tS t c) (am_wI (am_wI M s (M.1 t 5).toNatClampNeg g) t 5 (M.1 t 5 + 1)) M' → am_t0 M' t → R none M') ∧ (50 ≤ (M.1 t 5).toInt → R none M))
  | _ => False
set_option maxRecDepth 100000 in
set_option maxHeartbeats 4000000 in
theorem metX5_add : am_Met yX5_add cX5_add 2 none (333) (8421) TX5_add := by
  refine am_met (own := RX5) (by decide +kernel) rfl kX5_add koX5_add 120 (fun _ _ _ _ _ => none) (fun live as M Ret h => ?_) (fun _ _ _ _ _ _ _ _ hI => by cases hI)
  unfold TX5_add at h
  split at h
  · next t g =>
    refine ⟨Nat.le_of_ble_eq_true rfl, ?_⟩
    change am_wp _ _ _ _ [(0, Value.ref t), (1, Value.int g)] _ _
    have hh := am_tP_mp h
    clear h
    obtain ⟨s, c, h2, h6, hb, h1, h3, h7, h4, h8, h9, h5, h10, hT, h, hn⟩ := hh
    repeat' (first | (with_reducible exact h1) | (with_reducible exact h2) | (with_reducible exact h3) | (with_reducible exact hb) | (with_reducible exact h6) | (with_reducible exact h7) | (refine Exists.intro _ (Exists.intro _ (And.intro h2 (And.intro h6 ?_)))) | (refine Exists.intro _ (And.intro h2 ?_)) | (refine Exists.intro _ (And.intro h6 ?_)) | apply And.intro | exact rfl | intro hx | (refine Exists.intro _ (And.intro rfl ?_)) | ((with_reducible change _ = true); simp only [h1, h2, h3, hb, h6, h7, Bool.true_and]; rfl))
    all_goals try first | (with_reducible change am_tI _ _) | (change Ret _ _) | (change Ret _ _ _) | (change Exists _)
    all_goals try dsimp only at *
    all_goals try exact absurd ‹(1000 : Int64) = 0› (by decide)
    all_goals obtain ⟨-, q1, q2⟩ := hT
    all_goals have e5 : ∀ k, (am_wI M s k g).1 t 5 = M.1 t 5 := fun k => by rw [am_wI_1, if_neg (fun z => h5 z.1)]
    · omega
    · rw [h4]; simp only [i_lt, Int32.reduceToInt] at hx; omega
    · simp only [i_lt, Int32.reduceToInt] at hx
      have hi := i_add (x := M.1 t 5) (y := 1) (by simp only [Int32.reduceToInt]; omega) (by simp only [Int32.reduceToInt]; omega)
      simp only [Int32.reduceToInt] at hi
      refine am_tI_of ?_ ?_ ?_ ?_ ?_
      all_goals simp [am_wI_1, h5, -Int32.toInt_add]
      all_goals omega
    · decide
    · decide
    · decide
    · with_reducible assumption
    · rename_i hlt M1 c1 i1 p hp
      simp only [i_lt, Int32.reduceToInt] at hlt
      rw [e5] at c1
      exact h (by omega) _ ((((((am_ch.rf.wI am_tS_2).wI am_tS_3).wI am_tS_4).wI am_tS_6).tr c1).wI am_tS_3) (am_t0_I (am_tI_w3 i1 hp))
    · rename_i hlt M1 c1 i1 p hp
      simp only [i_lt, Int32.reduceToInt] at hlt
      rw [e5] at c1
      exact h (by omega) _ (am_ch_blame ((((((am_ch.rf.wI am_tS_2).wI am_tS_3).wI am_tS_4).wI am_tS_6).tr c1).wI am_tS_3)) (am_t0_I (am_tI_blame (am_tI_w3 i1 hp)))
    · simp only [i_lt, Int32.reduceToInt] at hx
      exact hn (by omega)
  · exact h.elim
theorem dX5_clear_0 : decode cX5_clear 0 = .ok (.aload_n 0, 1) := by decide +kernel
theorem dX5_clear_1 : decode cX5_clear 1 = .ok (.iconst 0, 1) := by decide +kernel
theorem dX5_clear_2 : decode cX5_clear 2 = .ok (.putfield 22, 3) := by decide +kernel
theorem dX5_clear_5 : decode cX5_clear 5 = .ok (.aload_n 0, 1) := by decide +kernel
theorem dX5_clear_6 : decode cX5_clear 6 = .ok (.iconst 0, 1) := by decide +kernel
theorem dX5_clear_7 : decode cX5_clear 7 = .ok (.putfield 25, 3) := by decide +kernel
theorem dX5_clear_10 : decode cX5_clear 10 = .ok (.aload_n 0, 1) := by decide +kernel
theorem dX5_clear_11 : decode cX5_clear 11 = .ok (.iconst 1, 1) := by decide +kernel
theorem dX5_clear_12 : decode cX5_clear 12 = .ok (.putfield 18, 3) := by decide +kernel
theorem dX5_clear_15 : decode cX5_clear 15 = .ok (.return_, 1) := by decide +kernel
def kX5_clear (live : am_E) (Ret : am_R) : am_code := [(0, am_aload 0 1), (1, am_const (.int 0) 2), (2, am_putI live 5 5 5), (5, am_aload 0 6), (6, am_const (.int 0) 7), (7, am_putI live 5 2 10), (10, am_aload 0 11), (11, am_const (.int 1) 12), (12, am_putI live 5 6 15), (15, am_retV Ret)]
theorem koX5_clear (live : am_E) (Ret : am_R) : ∀ q ∈ kX5_clear live Ret, am_ok RX5 cX5_clear 1 none 0 0 live Ret q.1 q.2 :=
  am_kc (ak_aload_n dX5_clear_0 rfl rfl) <|
  am_kc (ak_iconst dX5_clear_1 (by decide +kernel) rfl) <|
  am_kc (ak_putI (C := RX5) (T := TX5) (N := 7) rfl inX5w tyX5_ok nmX5 (by decide) rfl rfl rfl rfl (by decide +kernel) wd_173 dX5_clear_2 rfl) <|
  am_kc (ak_aload_n dX5_clear_5 rfl rfl) <|
  am_kc (ak_iconst dX5_clear_6 (by decide +kernel) rfl) <|
  am_kc (ak_putI (C := RX5) (T := TX5) (N := 7) rfl inX5w tyX5_ok nmX5 (by decide) rfl rfl rfl rfl (by decide +kernel) wd_170 dX5_clear_7 rfl) <|
  am_kc (ak_aload_n dX5_clear_10 rfl rfl) <|
  am_kc (ak_iconst dX5_clear_11 (by decide +kernel) rfl) <|
  am_kc (ak_putI (C := RX5) (T := TX5) (N := 7) rfl inX5w tyX5_ok nmX5 (by decide) rfl rfl rfl rfl (by decide +kernel) wd_175 dX5_clear_12 rfl) <|
  am_kc (ak_retV dX5_clear_15) <| am_kn
def TX5_clear : am_T := fun live as M R => match as with
  | [.ref t] => am_if (am_isO live 5 t) (R none (am_wI (am_wI (am_wI M t 5 0) t 2 0) t 6 1))
  | _ => False
set_option maxRecDepth 100000 in
set_option maxHeartbeats 4000000 in
theorem metX5_clear : am_Met yX5_clear cX5_clear 1 none (0) (0) TX5_clear := by
  refine am_met (own := RX5) (by decide +kernel) rfl kX5_clear koX5_clear 60 (fun _ _ _ _ _ => none) (fun live as M Ret h => ?_) (fun _ _ _ _ _ _ _ _ hI => by cases hI)
  unfold TX5_clear at h
  split at h
  · next t =>
    refine ⟨Nat.le_of_ble_eq_true rfl, ?_⟩
    change am_wp _ _ _ _ [(0, Value.ref t)] _ _
    have hh := am_if_mp h
    clear h
    obtain ⟨h1, h⟩ := hh
    repeat' (first | (with_reducible exact h1) | apply And.intro | exact rfl | intro hx | (refine Exists.intro _ (And.intro rfl ?_)) | ((with_reducible change _ = true); simp only [h1, Bool.true_and]; rfl))
    all_goals try first | (with_reducible change am_tI _ _) | (change Ret _ _) | (change Ret _ _ _) | (change Exists _)
    all_goals try dsimp only at *
    all_goals try exact absurd ‹(1000 : Int64) = 0› (by decide)
    exact h
  · exact h.elim
set_option maxRecDepth 100000 in
theorem wd_888 : Cond.constantLong "LearnLoans$Text" 52 31 ∈ am_ws := am_wsi (List.mem_of_getElem? (i := 888) (by rfl)) (by decide +kernel)
theorem dX5_mixed_0 : decode cX5_mixed 0 = .ok (.ldc2_w 52, 3) := by decide +kernel
theorem dX5_mixed_3 : decode cX5_mixed 3 = .ok (.lload_n 1, 1) := by decide +kernel
theorem dX5_mixed_4 : decode cX5_mixed 4 = .ok (.lmul, 1) := by decide +kernel
theorem dX5_mixed_5 : decode cX5_mixed 5 = .ok (.aload_n 0, 1) := by decide +kernel
theorem dX5_mixed_6 : decode cX5_mixed 6 = .ok (.getfield 22, 3) := by decide +kernel
theorem dX5_mixed_9 : decode cX5_mixed 9 = .ok (.i2l, 1) := by decide +kernel
theorem dX5_mixed_10 : decode cX5_mixed 10 = .ok (.ladd, 1) := by decide +kernel
theorem dX5_mixed_11 : decode cX5_mixed 11 = .ok (.lstore_n 1, 1) := by decide +kernel
theorem dX5_mixed_12 : decode cX5_mixed 12 = .ok (.iconst 0, 1) := by decide +kernel
theorem dX5_mixed_13 : decode cX5_mixed 13 = .ok (.istore_n 3, 1) := by decide +kernel
theorem dX5_mixed_14 : decode cX5_mixed 14 = .ok (.iload_n 3, 1) := by decide +kernel
theorem dX5_mixed_15 : decode cX5_mixed 15 = .ok (.aload_n 0, 1) := by decide +kernel
theorem dX5_mixed_16 : decode cX5_mixed 16 = .ok (.getfield 22, 3) := by decide +kernel
theorem dX5_mixed_19 : decode cX5_mixed 19 = .ok (.if_icmp .ge 29, 3) := by decide +kernel
theorem dX5_mixed_22 : decode cX5_mixed 22 = .ok (.iload_n 3, 1) := by decide +kernel
theorem dX5_mixed_23 : decode cX5_mixed 23 = .ok (.bipush 50, 2) := by decide +kernel
theorem dX5_mixed_25 : decode cX5_mixed 25 = .ok (.if_icmp .ge 23, 3) := by decide +kernel
theorem dX5_mixed_28 : decode cX5_mixed 28 = .ok (.ldc2_w 52, 3) := by decide +kernel
theorem dX5_mixed_31 : decode cX5_mixed 31 = .ok (.lload_n 1, 1) := by decide +kernel
theorem dX5_mixed_32 : decode cX5_mixed 32 = .ok (.lmul, 1) := by decide +kernel
theorem dX5_mixed_33 : decode cX5_mixed 33 = .ok (.aload_n 0, 1) := by decide +kernel
theorem dX5_mixed_34 : decode cX5_mixed 34 = .ok (.getfield 9, 3) := by decide +kernel
theorem dX5_mixed_37 : decode cX5_mixed 37 = .ok (.iload_n 3, 1) := by decide +kernel
theorem dX5_mixed_38 : decode cX5_mixed 38 = .ok (.iaload, 1) := by decide +kernel
theorem dX5_mixed_39 : decode cX5_mixed 39 = .ok (.i2l, 1) := by decide +kernel
theorem dX5_mixed_40 : decode cX5_mixed 40 = .ok (.ladd, 1) := by decide +kernel
theorem dX5_mixed_41 : decode cX5_mixed 41 = .ok (.lstore_n 1, 1) := by decide +kernel
theorem dX5_mixed_42 : decode cX5_mixed 42 = .ok (.iinc 3 1, 3) := by decide +kernel
theorem dX5_mixed_45 : decode cX5_mixed 45 = .ok (.goto (-31), 3) := by decide +kernel
theorem dX5_mixed_48 : decode cX5_mixed 48 = .ok (.lload_n 1, 1) := by decide +kernel
theorem dX5_mixed_49 : decode cX5_mixed 49 = .ok (.lreturn, 1) := by decide +kernel
def kX5_mixed (live : am_E) (Ret : am_R) : am_code := [(0, am_const (.long 31) 3), (3, am_lload 1 4), (4, am_l2 (fun x y => x * y) 5), (5, am_aload 0 6), (6, am_getI live 5 5 9), (9, am_i2l 10), (10, am_l2 (fun x y => x + y) 11), (11, am_lstore 1 4 12), (12, am_const (.int 0) 13), (13, am_istore 3 4 14), (14, am_iload 3 15), (15, am_aload 0 16), (16, am_getI live 5 5 19), (19, am_if2 (fun x y => y ≤ x) 48 22), (22, am_iload 3 23), (23, am_const (.int 50) 25), (25, am_if2 (fun x y => y ≤ x) 48 28), (28, am_const (.long 31) 31), (31, am_lload 1 32), (32, am_l2 (fun x y => x * y) 33), (33, am_aload 0 34), (34, am_getR live 5 0 37), (37, am_iload 3 38), (38, am_ald live 0 39), (39, am_i2l 40), (40, am_l2 (fun x y => x + y) 41), (41, am_lstore 1 4 42), (42, am_iinc 3 4 1 45), (45, am_goto 14), (48, am_lload 1 49), (49, am_retL Ret)]
theorem koX5_mixed (live : am_E) (Ret : am_R) : ∀ q ∈ kX5_mixed live Ret, am_ok RX5 cX5_mixed 4 (some .long) 0 0 live Ret q.1 q.2 :=
  am_kc (ak_ldc2 wd_888 dX5_mixed_0 rfl) <|
  am_kc (ak_lload_n dX5_mixed_3 rfl rfl) <|
  am_kc (ak_lmul dX5_mixed_4 rfl) <|
  am_kc (ak_aload_n dX5_mixed_5 rfl rfl) <|
  am_kc (ak_getI (C := RX5) (T := TX5) (N := 7) rfl inX5w (by decide) rfl rfl rfl wd_173 dX5_mixed_6 rfl) <|
  am_kc (ak_i2l dX5_mixed_9 rfl) <|
  am_kc (ak_ladd dX5_mixed_10 rfl) <|
  am_kc (ak_lstore_n dX5_mixed_11 rfl rfl) <|
  am_kc (ak_iconst dX5_mixed_12 (by decide +kernel) rfl) <|
  am_kc (ak_istore_n dX5_mixed_13 rfl rfl) <|
  am_kc (ak_iload_n dX5_mixed_14 rfl rfl) <|
  am_kc (ak_aload_n dX5_mixed_15 rfl rfl) <|
  am_kc (ak_getI (C := RX5) (T := TX5) (N := 7) rfl inX5w (by decide) rfl rfl rfl wd_173 dX5_mixed_16 rfl) <|
  am_kc (ak_icmp_ge dX5_mixed_19 (by decide +kernel) rfl) <|
  am_kc (ak_iload_n dX5_mixed_22 rfl rfl) <|
  am_kc (ak_bipush dX5_mixed_23 (by decide +kernel) rfl) <|
  am_kc (ak_icmp_ge dX5_mixed_25 (by decide +kernel) rfl) <|
  am_kc (ak_ldc2 wd_888 dX5_mixed_28 rfl) <|
  am_kc (ak_lload_n dX5_mixed_31 rfl rfl) <|
  am_kc (ak_lmul dX5_mixed_32 rfl) <|
  am_kc (ak_aload_n dX5_mixed_33 rfl rfl) <|
  am_kc (ak_getR (C := RX5) (T := TX5) (N := 7) rfl inX5w (by decide) rfl rfl rfl wd_168 dX5_mixed_34 rfl) <|
  am_kc (ak_iload_n dX5_mixed_37 rfl rfl) <|
  am_kc (ak_iald (t := 0) (fun _ => rfl) rfl dX5_mixed_38 rfl) <|
  am_kc (ak_i2l dX5_mixed_39 rfl) <|
  am_kc (ak_ladd dX5_mixed_40 rfl) <|
  am_kc (ak_lstore_n dX5_mixed_41 rfl rfl) <|
  am_kc (ak_iinc dX5_mixed_42 (by decide +kernel) rfl) <|
  am_kc (ak_goto dX5_mixed_45 (by decide +kernel)) <|
  am_kc (ak_lload_n dX5_mixed_48 rfl rfl) <|
  am_kc (ak_retL dX5_mixed_49) <| am_kn
def TX5_mixed : am_T := fun live as M R => match as with
  | [.ref t, .long x] => am_tP live t (fun s c => ∀ y, R (some (.long y)) M)
  | _ => False
def JX5_mixed : am_E → List Value → am_M → am_R → am_inv := fun live as M0 _ pc => match as with
  | [.ref t, .long x] => (match pc with
    | 14 => some ([0, 1, 3], fun k L st M => ∃ (y : Int64) (i : Int32), L = [(0, .ref t), (1, .long y), (3, .int i)] ∧ st = [] ∧ k = ((51 - i.toInt).toNat, 0) ∧ 0 ≤ i.toInt ∧ M = M0)
    | _ => none)
  | _ => none
set_option maxRecDepth 100000 in
set_option maxHeartbeats 4000000 in
theorem metX5_mixed : am_Met yX5_mixed cX5_mixed 4 (some .long) (0) (0) TX5_mixed := by
  refine am_met (own := RX5) (by decide +kernel) rfl kX5_mixed koX5_mixed 60 JX5_mixed ?_ ?_
  · intro live as M Ret h
    unfold TX5_mixed at h
    split at h
    · next t x =>
      refine ⟨Nat.le_of_ble_eq_true rfl, ?_⟩
      change am_wp _ _ _ _ [(0, Value.ref t), (1, Value.long x)] _ _
      have hh := am_tP_mp h
      clear h
      obtain ⟨s, c, h2, h6, hb, h1, h3, h7, h4, h8, h9, h5, h10, h⟩ := hh
      repeat' (first | (with_reducible exact h1) | (with_reducible exact h2) | (with_reducible exact h3) | (with_reducible exact hb) | (with_reducible exact h6) | (with_reducible exact h7) | (refine Exists.intro _ (Exists.intro _ (And.intro h2 (And.intro h6 ?_)))) | (refine Exists.intro _ (And.intro h2 ?_)) | (refine Exists.intro _ (And.intro h6 ?_)) | apply And.intro | exact rfl | intro hx | (refine Exists.intro _ (And.intro rfl ?_)) | ((with_reducible change _ = true); simp only [h1, h2, h3, hb, h6, h7, Bool.true_and]; rfl))
      all_goals try first | (with_reducible change am_tI _ _) | (change Ret _ _) | (change Ret _ _ _) | (change Exists _)
      all_goals try dsimp only at *
      all_goals try exact absurd ‹(1000 : Int64) = 0› (by decide)
      exact ⟨_, _, _, rfl, rfl, rfl, by decide, rfl⟩
    · exact h.elim
  · intro live as M0 Ret h k pc I hI L st M hi
    unfold TX5_mixed at h
    split at h
    · next t x =>
      have hh := am_tP_mp h
      clear h
      obtain ⟨s, c, h2, h6, hb, h1, h3, h7, h4, h8, h9, h5, h10, h⟩ := hh
      change (match pc with | 14 => _ | _ => none) = _ at hI
      split at hI
      · cases hI
        obtain ⟨y, i, rfl, rfl, rfl, e1, rfl⟩ := hi
        repeat' (first | (with_reducible exact h1) | (with_reducible exact h2) | (with_reducible exact h3) | (with_reducible exact hb) | (with_reducible exact h6) | (with_reducible exact h7) | (refine Exists.intro _ (Exists.intro _ (And.intro h2 (And.intro h6 ?_)))) | (refine Exists.intro _ (And.intro h2 ?_)) | (refine Exists.intro _ (And.intro h6 ?_)) | apply And.intro | exact rfl | intro hx | (refine Exists.intro _ (And.intro rfl ?_)) | ((with_reducible change _ = true); simp only [h1, h2, h3, hb, h6, h7, Bool.true_and]; rfl))
        all_goals try first | (with_reducible change am_tI _ _) | (change Ret _ _) | (change Ret _ _ _) | (change Exists _)
        all_goals try dsimp only at *
        all_goals try exact absurd ‹(1000 : Int64) = 0› (by decide)
        all_goals try exact h _
        · omega
        · simp only [i_le, Int32.reduceToInt] at hx; rw [h4]; omega
        · refine ⟨_, Or.inl ?_, _, i + 1, rfl, rfl, rfl, ?_, rfl⟩
          all_goals simp only [i_le, Int32.reduceToInt] at hx
          all_goals
            have hi := i_add (x := i) (y := 1) (by simp only [Int32.reduceToInt]; omega) (by simp only [Int32.reduceToInt]; omega)
            simp only [Int32.reduceToInt] at hi
            omega
      · cases hI
    · exact h.elim
