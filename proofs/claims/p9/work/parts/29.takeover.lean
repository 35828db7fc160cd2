/-! general: a house taken over from another -/
def g_hit (D : List (Nat × Nat × Nat)) (o k : Nat) : Bool := D.any (fun q => Nat.beq o q.1 && Nat.ble q.2.1 k && Nat.blt k (q.2.1 + q.2.2))
def g_cs (b m : Nat) (D : List (Nat × Nat × Nat)) (M M' : am_M) : Prop := ∃ _ : Unit, M'.2 = M.2 ∧ ∀ a k, M'.1 a k = if b ≤ a ∧ g_hit D (a - b) k = true then M.1 (m + (a - b)) k else M.1 a k
def g_small (D : List (Nat × Nat × Nat)) : Bool := D.all (fun q => Nat.blt q.1 40)
theorem g_hit_lt {D : List (Nat × Nat × Nat)} {o k : Nat} (hD : g_small D = true) (h : g_hit D o k = true) : o < 40 := by
  unfold g_hit at h
  obtain ⟨q, hq, h2⟩ := List.any_eq_true.mp h
  rw [Bool.and_eq_true, Bool.and_eq_true] at h2
  have e := Nat.eq_of_beq_eq_true h2.1.1
  have := List.all_eq_true.mp hD q hq
  have := Nat.le_of_ble_eq_true this
  omega
theorem g_cs.tr {b m : Nat} {D D' : List (Nat × Nat × Nat)} {M M1 M2 : am_M} (hbm : b + 40 ≤ m ∨ m + 40 ≤ b) (hD : g_small D = true) (hD' : g_small D' = true) (h : g_cs b m D M M1) (h2 : g_cs b m D' M1 M2) : g_cs b m (D ++ D') M M2 := by
  obtain ⟨-, hj, h⟩ := h
  obtain ⟨-, hj2, h2⟩ := h2
  refine ⟨(), hj2.trans hj, fun a k => ?_⟩
  have ha : g_hit (D ++ D') (a - b) k = (g_hit D (a - b) k || g_hit D' (a - b) k) := List.any_append
  rw [h2 a k, ha]
  by_cases z2 : b ≤ a ∧ g_hit D' (a - b) k = true
  · rw [if_pos z2, if_pos ⟨z2.1, by rw [z2.2, Bool.or_true]⟩]
    have hl := g_hit_lt hD' z2.2
    rw [h _ k, if_neg (fun q => ?_)]
    have hl2 := g_hit_lt hD q.2
    omega
  · rw [if_neg z2, h a k]
    by_cases z1 : b ≤ a ∧ g_hit D (a - b) k = true
    · rw [if_pos z1, if_pos ⟨z1.1, by rw [z1.2, Bool.true_or]⟩]
    · rw [if_neg z1, if_neg (fun q => ?_)]
      rcases Bool.or_eq_true _ _ |>.mp q.2 with y | y
      · exact z1 ⟨q.1, y⟩
      · exact z2 ⟨q.1, y⟩
theorem g_cs_c {b m : Nat} {M : am_M} (o n : Nat) : g_cs b m [(o, 0, n)] M (am_cI M (b + o) (va_cpy (M.1 (m + o)) (M.1 (b + o)) 0 0 n)) := by
  refine ⟨(), rfl, fun a k => ?_⟩
  rw [am_cI_1]
  by_cases e : a = b + o
  · subst e
    rw [if_pos rfl, Nat.add_sub_cancel_left]
    by_cases z : k < n
    · rw [if_pos ⟨by omega, by simp [g_hit, z]⟩]
      simp [va_cpy, z]
    · rw [if_neg (fun q => by have := q.2; simp [g_hit] at this; omega)]
      simp [va_cpy, z]
  · rw [if_neg e, if_neg (fun q => ?_)]
    have := q.2
    simp [g_hit] at this
    omega
theorem g_cs_w {b m : Nat} {M : am_M} (o f : Nat) : g_cs b m [(o, f, 1)] M (am_wI M (b + o) f (M.1 (m + o) f)) := by
  refine ⟨(), rfl, fun a k => ?_⟩
  rw [am_wI_1]
  by_cases e : a = b + o ∧ k = f
  · obtain ⟨rfl, rfl⟩ := e
    rw [if_pos ⟨rfl, rfl⟩, Nat.add_sub_cancel_left, if_pos ⟨by omega, by simp [g_hit]⟩]
  · rw [if_neg e, if_neg (fun q => ?_)]
    have := q.2
    simp [g_hit] at this
    omega
def g_sh2 : List (Nat × Nat × Nat) := [(2, 0, 12), (3, 0, 12), (4, 0, 480), (5, 0, 480), (6, 0, 480), (7, 0, 480), (8, 0, 480), (1, 7, 1)]
def g_sh0 : List (Nat × Nat × Nat) := [(2, 0, 12), (3, 0, 12), (4, 0, 480), (5, 0, 480), (6, 0, 480), (7, 0, 480), (8, 0, 480), (1, 7, 1), (9, 0, 4), (10, 0, 40), (12, 0, 366), (11, 2, 1), (14, 0, 240), (13, 2, 1), (16, 0, 180), (15, 2, 1), (17, 0, 1200), (20, 0, 50), (21, 0, 50), (19, 5, 1), (19, 2, 1), (19, 6, 1), (23, 0, 50), (24, 0, 50), (22, 5, 1), (22, 2, 1), (22, 6, 1), (26, 0, 50), (27, 0, 50), (25, 5, 1), (25, 2, 1), (25, 6, 1), (29, 0, 50), (30, 0, 50), (28, 5, 1), (28, 2, 1), (28, 6, 1), (32, 0, 50), (33, 0, 50), (31, 5, 1), (31, 2, 1), (31, 6, 1), (35, 0, 60), (34, 2, 1), (36, 0, 160), (37, 0, 16), (38, 0, 9), (0, 12, 1)]
def g_pair (n m : Nat) : Prop := (n = 60 ∧ m = 20) ∨ (n = 100 ∧ m = 20) ∨ (n = 20 ∧ m = 60) ∨ (n = 20 ∧ m = 100)
set_option maxRecDepth 100000 in
theorem wd_105 : Cond.fieldLink "LearnLoans$People" 9 "LearnLoans$People" "began" "[I" ∈ am_ws := am_wt1 (List.mem_of_getElem? (i := 48) (by rfl)) (by decide +kernel)
set_option maxRecDepth 100000 in
theorem wd_844 : Cond.methodLink "LearnLoans$People" 39 arraycopyName ∈ am_ws := am_wt4 (List.mem_of_getElem? (i := 67) (by rfl)) (by decide +kernel)
set_option maxRecDepth 100000 in
theorem wd_110 : Cond.fieldLink "LearnLoans$People" 18 "LearnLoans$People" "lands" "[I" ∈ am_ws := am_wt1 (List.mem_of_getElem? (i := 53) (by rfl)) (by decide +kernel)
set_option maxRecDepth 100000 in
theorem wd_122 : Cond.fieldLink "LearnLoans$People" 45 "LearnLoans$People" "size" "I" ∈ am_ws := am_wt1 (List.mem_of_getElem? (i := 65) (by rfl)) (by decide +kernel)
def rwX2_takeOver : List dz_r := [(0, .aload_n 1, 1), (1, .getfield 9, 3), (4, .iconst 0, 1), (5, .aload_n 0, 1), (6, .getfield 9, 3), (9, .iconst 0, 1), (10, .bipush 12, 2), (12, .invokestatic 39, 3), (15, .aload_n 1, 1), (16, .getfield 15, 3), (19, .iconst 0, 1), (20, .aload_n 0, 1), (21, .getfield 15, 3), (24, .iconst 0, 1), (25, .bipush 12, 2), (27, .invokestatic 39, 3), (30, .aload_n 1, 1), (31, .getfield 18, 3), (34, .iconst 0, 1), (35, .aload_n 0, 1), (36, .getfield 18, 3), (39, .iconst 0, 1), (40, .sipush 480, 3), (43, .invokestatic 39, 3), (46, .aload_n 1, 1), (47, .getfield 21, 3), (50, .iconst 0, 1), (51, .aload_n 0, 1), (52, .getfield 21, 3), (55, .iconst 0, 1), (56, .sipush 480, 3), (59, .invokestatic 39, 3), (62, .aload_n 1, 1), (63, .getfield 24, 3), (66, .iconst 0, 1), (67, .aload_n 0, 1), (68, .getfield 24, 3), (71, .iconst 0, 1), (72, .sipush 480, 3), (75, .invokestatic 39, 3), (78, .aload_n 1, 1), (79, .getfield 27, 3), (82, .iconst 0, 1), (83, .aload_n 0, 1), (84, .getfield 27, 3), (87, .iconst 0, 1), (88, .sipush 480, 3), (91, .invokestatic 39, 3), (94, .aload_n 1, 1), (95, .getfield 30, 3), (98, .iconst 0, 1), (99, .aload_n 0, 1), (100, .getfield 30, 3), (103, .iconst 0, 1), (104, .sipush 480, 3), (107, .invokestatic 39, 3), (110, .aload_n 0, 1), (111, .aload_n 1, 1), (112, .getfield 45, 3), (115, .putfield 45, 3), (118, .return_, 1)]
theorem dzX2_takeOver : dz cX2_takeOver rwX2_takeOver := dz_all 0 (by decide +kernel)
def kX2_takeOver (live : am_E) (Ret : am_R) : am_code := [(0, am_aload 1 1), (1, am_getR live 2 0 4), (4, am_const (.int 0) 5), (5, am_aload 0 6), (6, am_getR live 2 0 9), (9, am_const (.int 0) 10), (10, am_const (.int 12) 12), (12, am_copyI live 31 15), (15, am_aload 1 16), (16, am_getR live 2 1 19), (19, am_const (.int 0) 20), (20, am_aload 0 21), (21, am_getR live 2 1 24), (24, am_const (.int 0) 25), (25, am_const (.int 12) 27), (27, am_copyI live 31 30), (30, am_aload 1 31), (31, am_getR live 2 2 34), (34, am_const (.int 0) 35), (35, am_aload 0 36), (36, am_getR live 2 2 39), (39, am_const (.int 0) 40), (40, am_const (.int 480) 43), (43, am_copyI live 31 46), (46, am_aload 1 47), (47, am_getR live 2 3 50), (50, am_const (.int 0) 51), (51, am_aload 0 52), (52, am_getR live 2 3 55), (55, am_const (.int 0) 56), (56, am_const (.int 480) 59), (59, am_copyI live 31 62), (62, am_aload 1 63), (63, am_getR live 2 4 66), (66, am_const (.int 0) 67), (67, am_aload 0 68), (68, am_getR live 2 4 71), (71, am_const (.int 0) 72), (72, am_const (.int 480) 75), (75, am_copyI live 31 78), (78, am_aload 1 79), (79, am_getR live 2 5 82), (82, am_const (.int 0) 83), (83, am_aload 0 84), (84, am_getR live 2 5 87), (87, am_const (.int 0) 88), (88, am_const (.int 480) 91), (91, am_copyI live 31 94), (94, am_aload 1 95), (95, am_getR live 2 6 98), (98, am_const (.int 0) 99), (99, am_aload 0 100), (100, am_getR live 2 6 103), (103, am_const (.int 0) 104), (104, am_const (.int 480) 107), (107, am_copyI live 31 110), (110, am_aload 0 111), (111, am_aload 1 112), (112, am_getI live 2 7 115), (115, am_putI live 2 7 118), (118, am_retV Ret)]
theorem koX2_takeOver (live : am_E) (Ret : am_R) : ∀ q ∈ kX2_takeOver live Ret, am_ok RX2 cX2_takeOver 2 none 1 31 live Ret q.1 q.2 :=
  am_kz dzX2_takeOver <|
  am_kd (fun d => ak_aload_n d rfl rfl) <|
  am_kd (fun d => ak_getR (C := RX2) (T := TX2) (N := 8) rfl inX2w (by decide) rfl rfl rfl wd_105 d rfl) <|
  am_kd (fun d => ak_iconst d (by decide +kernel) rfl) <|
  am_kd (fun d => ak_aload_n d rfl rfl) <|
  am_kd (fun d => ak_getR (C := RX2) (T := TX2) (N := 8) rfl inX2w (by decide) rfl rfl rfl wd_105 d rfl) <|
  am_kd (fun d => ak_iconst d (by decide +kernel) rfl) <|
  am_kd (fun d => ak_bipush d (by decide +kernel) rfl) <|
  am_kd (fun d => ak_copyI (am_w4 wd_844 wd_501 wd_500 wd_69) (by decide) d rfl) <|
  am_kd (fun d => ak_aload_n d rfl rfl) <|
  am_kd (fun d => ak_getR (C := RX2) (T := TX2) (N := 8) rfl inX2w (by decide) rfl rfl rfl wd_108 d rfl) <|
  am_kd (fun d => ak_iconst d (by decide +kernel) rfl) <|
  am_kd (fun d => ak_aload_n d rfl rfl) <|
  am_kd (fun d => ak_getR (C := RX2) (T := TX2) (N := 8) rfl inX2w (by decide) rfl rfl rfl wd_108 d rfl) <|
  am_kd (fun d => ak_iconst d (by decide +kernel) rfl) <|
  am_kd (fun d => ak_bipush d (by decide +kernel) rfl) <|
  am_kd (fun d => ak_copyI (am_w4 wd_844 wd_501 wd_500 wd_69) (by decide) d rfl) <|
  am_kd (fun d => ak_aload_n d rfl rfl) <|
  am_kd (fun d => ak_getR (C := RX2) (T := TX2) (N := 8) rfl inX2w (by decide) rfl rfl rfl wd_110 d rfl) <|
  am_kd (fun d => ak_iconst d (by decide +kernel) rfl) <|
  am_kd (fun d => ak_aload_n d rfl rfl) <|
  am_kd (fun d => ak_getR (C := RX2) (T := TX2) (N := 8) rfl inX2w (by decide) rfl rfl rfl wd_110 d rfl) <|
  am_kd (fun d => ak_iconst d (by decide +kernel) rfl) <|
  am_kd (fun d => ak_sipush d (by decide +kernel) rfl) <|
  am_kd (fun d => ak_copyI (am_w4 wd_844 wd_501 wd_500 wd_69) (by decide) d rfl) <|
  am_kd (fun d => ak_aload_n d rfl rfl) <|
  am_kd (fun d => ak_getR (C := RX2) (T := TX2) (N := 8) rfl inX2w (by decide) rfl rfl rfl wd_113 d rfl) <|
  am_kd (fun d => ak_iconst d (by decide +kernel) rfl) <|
  am_kd (fun d => ak_aload_n d rfl rfl) <|
  am_kd (fun d => ak_getR (C := RX2) (T := TX2) (N := 8) rfl inX2w (by decide) rfl rfl rfl wd_113 d rfl) <|
  am_kd (fun d => ak_iconst d (by decide +kernel) rfl) <|
  am_kd (fun d => ak_sipush d (by decide +kernel) rfl) <|
  am_kd (fun d => ak_copyI (am_w4 wd_844 wd_501 wd_500 wd_69) (by decide) d rfl) <|
  am_kd (fun d => ak_aload_n d rfl rfl) <|
  am_kd (fun d => ak_getR (C := RX2) (T := TX2) (N := 8) rfl inX2w (by decide) rfl rfl rfl wd_115 d rfl) <|
  am_kd (fun d => ak_iconst d (by decide +kernel) rfl) <|
  am_kd (fun d => ak_aload_n d rfl rfl) <|
  am_kd (fun d => ak_getR (C := RX2) (T := TX2) (N := 8) rfl inX2w (by decide) rfl rfl rfl wd_115 d rfl) <|
  am_kd (fun d => ak_iconst d (by decide +kernel) rfl) <|
  am_kd (fun d => ak_sipush d (by decide +kernel) rfl) <|
  am_kd (fun d => ak_copyI (am_w4 wd_844 wd_501 wd_500 wd_69) (by decide) d rfl) <|
  am_kd (fun d => ak_aload_n d rfl rfl) <|
  am_kd (fun d => ak_getR (C := RX2) (T := TX2) (N := 8) rfl inX2w (by decide) rfl rfl rfl wd_117 d rfl) <|
  am_kd (fun d => ak_iconst d (by decide +kernel) rfl) <|
  am_kd (fun d => ak_aload_n d rfl rfl) <|
  am_kd (fun d => ak_getR (C := RX2) (T := TX2) (N := 8) rfl inX2w (by decide) rfl rfl rfl wd_117 d rfl) <|
  am_kd (fun d => ak_iconst d (by decide +kernel) rfl) <|
  am_kd (fun d => ak_sipush d (by decide +kernel) rfl) <|
  am_kd (fun d => ak_copyI (am_w4 wd_844 wd_501 wd_500 wd_69) (by decide) d rfl) <|
  am_kd (fun d => ak_aload_n d rfl rfl) <|
  am_kd (fun d => ak_getR (C := RX2) (T := TX2) (N := 8) rfl inX2w (by decide) rfl rfl rfl wd_119 d rfl) <|
  am_kd (fun d => ak_iconst d (by decide +kernel) rfl) <|
  am_kd (fun d => ak_aload_n d rfl rfl) <|
  am_kd (fun d => ak_getR (C := RX2) (T := TX2) (N := 8) rfl inX2w (by decide) rfl rfl rfl wd_119 d rfl) <|
  am_kd (fun d => ak_iconst d (by decide +kernel) rfl) <|
  am_kd (fun d => ak_sipush d (by decide +kernel) rfl) <|
  am_kd (fun d => ak_copyI (am_w4 wd_844 wd_501 wd_500 wd_69) (by decide) d rfl) <|
  am_kd (fun d => ak_aload_n d rfl rfl) <|
  am_kd (fun d => ak_aload_n d rfl rfl) <|
  am_kd (fun d => ak_getI (C := RX2) (T := TX2) (N := 8) rfl inX2w (by decide) rfl rfl rfl wd_122 d rfl) <|
  am_kd (fun d => ak_putI (C := RX2) (T := TX2) (N := 8) rfl inX2w tyX2_ok nmX2 (by decide) rfl rfl rfl rfl (by decide +kernel) wd_122 d rfl) <|
  am_kd (fun d => ak_retV d) <| am_kdn
def TX2_takeOver : am_T := fun live as M R => match as with
  | [.ref n, .ref m] => am_mn live ∧ live.1 n = true ∧ live.1 m = true ∧ g_pair (n - 1) (m - 1) ∧ ∀ M', g_cs (n - 1) (m - 1) g_sh2 M M' → R none M'
  | _ => False
theorem g_pred {n k : Nat} (h : n - 1 = k + 1) : n = k + 2 := by omega
/-- a weaker start -/
theorem am_Met.mono {y : MethodName} {cc : ByteArray} {nL : Nat} {rt : Option FieldType} {rf rl : Nat} {T T' : am_T} (h : am_Met y cc nL rt rf rl T) (hT : ∀ live as M R, T' live as M R → T live as M R) : am_Met y cc nL rt rf rl T' := fun l D cA al B live as M Ret q => h l D cA al B live as M Ret (hT live as M Ret q)
set_option maxRecDepth 100000 in
set_option maxHeartbeats 4000000 in
theorem metX2_takeOver : am_Met yX2_takeOver cX2_takeOver 2 none (1) (31) TX2_takeOver := by
  refine am_met (own := RX2) (by decide +kernel) rfl kX2_takeOver koX2_takeOver 200 (fun _ _ _ _ _ => none) (fun live as M Ret h => ?_) (fun _ _ _ _ _ _ _ _ hI => by cases hI)
  unfold TX2_takeOver at h
  split at h
  · next n m =>
    refine ⟨Nat.le_of_ble_eq_true rfl, ?_⟩
    change am_wp _ _ _ _ [(0, Value.ref n), (1, Value.ref m)] _ _
    obtain ⟨⟨i1, i2, rfl⟩, hl, hm, hn, h⟩ := h
    have hn2 : (n = 61 ∧ m = 21) ∨ (n = 101 ∧ m = 21) ∨ (n = 21 ∧ m = 61) ∨ (n = 21 ∧ m = 101) := by
      unfold g_pair at hn
      rcases hn with ⟨a1, a2⟩ | ⟨a1, a2⟩ | ⟨a1, a2⟩ | ⟨a1, a2⟩
      · exact Or.inl ⟨g_pred a1, g_pred a2⟩
      · exact Or.inr (Or.inl ⟨g_pred a1, g_pred a2⟩)
      · exact Or.inr (Or.inr (Or.inl ⟨g_pred a1, g_pred a2⟩))
      · exact Or.inr (Or.inr (Or.inr ⟨g_pred a1, g_pred a2⟩))
    rcases hn2 with ⟨rfl, rfl⟩ | ⟨rfl, rfl⟩ | ⟨rfl, rfl⟩ | ⟨rfl, rfl⟩
    · have e1 : i1 = true := by
        cases i1 with
        | true => rfl
        | false => cases hl
      subst e1
      have hbm : 60 + 40 ≤ 20 ∨ 20 + 40 ≤ 60 := by decide
      repeat' (first | apply And.intro | exact rfl | (intro hx; exact absurd hx (by decide)) | (intro hx; exact absurd (by decide) hx) | decide | intro hx | (refine Exists.intro _ (And.intro rfl ?_)))
      all_goals try first | (with_reducible change am_tI _ _) | (change Ret _ _) | (change Ret _ _ _) | (change Exists _)
      all_goals try dsimp only at *
      all_goals try (with_reducible exact absurd ‹(1000 : Int64) = 0› am_z1000)
      all_goals exact h _ (show g_cs 60 20 _ M _ from (g_cs.tr hbm rfl rfl (g_cs.tr hbm rfl rfl (g_cs.tr hbm rfl rfl (g_cs.tr hbm rfl rfl (g_cs.tr hbm rfl rfl (g_cs.tr hbm rfl rfl (g_cs.tr hbm rfl rfl (g_cs_c 2 12) (g_cs_c 3 12)) (g_cs_c 4 480)) (g_cs_c 5 480)) (g_cs_c 6 480)) (g_cs_c 7 480)) (g_cs_c 8 480)) (g_cs_w 1 7)))
    · have e1 : i2 = true := by
        cases i2 with
        | true => rfl
        | false => cases hl
      subst e1
      have hbm : 100 + 40 ≤ 20 ∨ 20 + 40 ≤ 100 := by decide
      repeat' (first | apply And.intro | exact rfl | (intro hx; exact absurd hx (by decide)) | (intro hx; exact absurd (by decide) hx) | decide | intro hx | (refine Exists.intro _ (And.intro rfl ?_)))
      all_goals try first | (with_reducible change am_tI _ _) | (change Ret _ _) | (change Ret _ _ _) | (change Exists _)
      all_goals try dsimp only at *
      all_goals try (with_reducible exact absurd ‹(1000 : Int64) = 0› am_z1000)
      all_goals exact h _ (show g_cs 100 20 _ M _ from (g_cs.tr hbm rfl rfl (g_cs.tr hbm rfl rfl (g_cs.tr hbm rfl rfl (g_cs.tr hbm rfl rfl (g_cs.tr hbm rfl rfl (g_cs.tr hbm rfl rfl (g_cs.tr hbm rfl rfl (g_cs_c 2 12) (g_cs_c 3 12)) (g_cs_c 4 480)) (g_cs_c 5 480)) (g_cs_c 6 480)) (g_cs_c 7 480)) (g_cs_c 8 480)) (g_cs_w 1 7)))
    · have e1 : i1 = true := by
        cases i1 with
        | true => rfl
        | false => cases hm
      subst e1
      have hbm : 20 + 40 ≤ 60 ∨ 60 + 40 ≤ 20 := by decide
      repeat' (first | apply And.intro | exact rfl | (intro hx; exact absurd hx (by decide)) | (intro hx; exact absurd (by decide) hx) | decide | intro hx | (refine Exists.intro _ (And.intro rfl ?_)))
      all_goals try first | (with_reducible change am_tI _ _) | (change Ret _ _) | (change Ret _ _ _) | (change Exists _)
      all_goals try dsimp only at *
      all_goals try (with_reducible exact absurd ‹(1000 : Int64) = 0› am_z1000)
      all_goals exact h _ (show g_cs 20 60 _ M _ from (g_cs.tr hbm rfl rfl (g_cs.tr hbm rfl rfl (g_cs.tr hbm rfl rfl (g_cs.tr hbm rfl rfl (g_cs.tr hbm rfl rfl (g_cs.tr hbm rfl rfl (g_cs.tr hbm rfl rfl (g_cs_c 2 12) (g_cs_c 3 12)) (g_cs_c 4 480)) (g_cs_c 5 480)) (g_cs_c 6 480)) (g_cs_c 7 480)) (g_cs_c 8 480)) (g_cs_w 1 7)))
    · have e1 : i2 = true := by
        cases i2 with
        | true => rfl
        | false => cases hm
      subst e1
      have hbm : 20 + 40 ≤ 100 ∨ 100 + 40 ≤ 20 := by decide
      repeat' (first | apply And.intro | exact rfl | (intro hx; exact absurd hx (by decide)) | (intro hx; exact absurd (by decide) hx) | decide | intro hx | (refine Exists.intro _ (And.intro rfl ?_)))
      all_goals try first | (with_reducible change am_tI _ _) | (change Ret _ _) | (change Ret _ _ _) | (change Exists _)
      all_goals try dsimp only at *
      all_goals try (with_reducible exact absurd ‹(1000 : Int64) = 0› am_z1000)
      all_goals exact h _ (show g_cs 20 100 _ M _ from (g_cs.tr hbm rfl rfl (g_cs.tr hbm rfl rfl (g_cs.tr hbm rfl rfl (g_cs.tr hbm rfl rfl (g_cs.tr hbm rfl rfl (g_cs.tr hbm rfl rfl (g_cs.tr hbm rfl rfl (g_cs_c 2 12) (g_cs_c 3 12)) (g_cs_c 4 480)) (g_cs_c 5 480)) (g_cs_c 6 480)) (g_cs_c 7 480)) (g_cs_c 8 480)) (g_cs_w 1 7)))
  · exact h.elim
set_option maxRecDepth 100000 in
theorem wd_858 : Cond.methodLink "LearnLoans$Text" 46 arraycopyName ∈ am_ws := am_wt4 (List.mem_of_getElem? (i := 81) (by rfl)) (by decide +kernel)
def rwX5_takeOver : List dz_r := [(0, .aload_n 1, 1), (1, .getfield 9, 3), (4, .iconst 0, 1), (5, .aload_n 0, 1), (6, .getfield 9, 3), (9, .iconst 0, 1), (10, .bipush 50, 2), (12, .invokestatic 46, 3), (15, .aload_n 1, 1), (16, .getfield 15, 3), (19, .iconst 0, 1), (20, .aload_n 0, 1), (21, .getfield 15, 3), (24, .iconst 0, 1), (25, .bipush 50, 2), (27, .invokestatic 46, 3), (30, .aload_n 0, 1), (31, .aload_n 1, 1), (32, .getfield 22, 3), (35, .putfield 22, 3), (38, .aload_n 0, 1), (39, .aload_n 1, 1), (40, .getfield 25, 3), (43, .putfield 25, 3), (46, .aload_n 0, 1), (47, .aload_n 1, 1), (48, .getfield 18, 3), (51, .putfield 18, 3), (54, .return_, 1)]
theorem dzX5_takeOver : dz cX5_takeOver rwX5_takeOver := dz_all 0 (by decide +kernel)
def kX5_takeOver (live : am_E) (Ret : am_R) : am_code := [(0, am_aload 1 1), (1, am_getR live 5 0 4), (4, am_const (.int 0) 5), (5, am_aload 0 6), (6, am_getR live 5 0 9), (9, am_const (.int 0) 10), (10, am_const (.int 50) 12), (12, am_copyI live 31 15), (15, am_aload 1 16), (16, am_getR live 5 1 19), (19, am_const (.int 0) 20), (20, am_aload 0 21), (21, am_getR live 5 1 24), (24, am_const (.int 0) 25), (25, am_const (.int 50) 27), (27, am_copyI live 31 30), (30, am_aload 0 31), (31, am_aload 1 32), (32, am_getI live 5 5 35), (35, am_putI live 5 5 38), (38, am_aload 0 39), (39, am_aload 1 40), (40, am_getI live 5 2 43), (43, am_putI live 5 2 46), (46, am_aload 0 47), (47, am_aload 1 48), (48, am_getI live 5 6 51), (51, am_putI live 5 6 54), (54, am_retV Ret)]
theorem koX5_takeOver (live : am_E) (Ret : am_R) : ∀ q ∈ kX5_takeOver live Ret, am_ok RX5 cX5_takeOver 2 none 1 31 live Ret q.1 q.2 :=
  am_kz dzX5_takeOver <|
  am_kd (fun d => ak_aload_n d rfl rfl) <|
  am_kd (fun d => ak_getR (C := RX5) (T := TX5) (N := 7) rfl inX5w (by decide) rfl rfl rfl wd_168 d rfl) <|
  am_kd (fun d => ak_iconst d (by decide +kernel) rfl) <|
  am_kd (fun d => ak_aload_n d rfl rfl) <|
  am_kd (fun d => ak_getR (C := RX5) (T := TX5) (N := 7) rfl inX5w (by decide) rfl rfl rfl wd_168 d rfl) <|
  am_kd (fun d => ak_iconst d (by decide +kernel) rfl) <|
  am_kd (fun d => ak_bipush d (by decide +kernel) rfl) <|
  am_kd (fun d => ak_copyI (am_w4 wd_858 wd_501 wd_500 wd_69) (by decide) d rfl) <|
  am_kd (fun d => ak_aload_n d rfl rfl) <|
  am_kd (fun d => ak_getR (C := RX5) (T := TX5) (N := 7) rfl inX5w (by decide) rfl rfl rfl wd_169 d rfl) <|
  am_kd (fun d => ak_iconst d (by decide +kernel) rfl) <|
  am_kd (fun d => ak_aload_n d rfl rfl) <|
  am_kd (fun d => ak_getR (C := RX5) (T := TX5) (N := 7) rfl inX5w (by decide) rfl rfl rfl wd_169 d rfl) <|
  am_kd (fun d => ak_iconst d (by decide +kernel) rfl) <|
  am_kd (fun d => ak_bipush d (by decide +kernel) rfl) <|
  am_kd (fun d => ak_copyI (am_w4 wd_858 wd_501 wd_500 wd_69) (by decide) d rfl) <|
  am_kd (fun d => ak_aload_n d rfl rfl) <|
  am_kd (fun d => ak_aload_n d rfl rfl) <|
  am_kd (fun d => ak_getI (C := RX5) (T := TX5) (N := 7) rfl inX5w (by decide) rfl rfl rfl wd_173 d rfl) <|
  am_kd (fun d => ak_putI (C := RX5) (T := TX5) (N := 7) rfl inX5w tyX5_ok nmX5 (by decide) rfl rfl rfl rfl (by decide +kernel) wd_173 d rfl) <|
  am_kd (fun d => ak_aload_n d rfl rfl) <|
  am_kd (fun d => ak_aload_n d rfl rfl) <|
  am_kd (fun d => ak_getI (C := RX5) (T := TX5) (N := 7) rfl inX5w (by decide) rfl rfl rfl wd_170 d rfl) <|
  am_kd (fun d => ak_putI (C := RX5) (T := TX5) (N := 7) rfl inX5w tyX5_ok nmX5 (by decide) rfl rfl rfl rfl (by decide +kernel) wd_170 d rfl) <|
  am_kd (fun d => ak_aload_n d rfl rfl) <|
  am_kd (fun d => ak_aload_n d rfl rfl) <|
  am_kd (fun d => ak_getI (C := RX5) (T := TX5) (N := 7) rfl inX5w (by decide) rfl rfl rfl wd_175 d rfl) <|
  am_kd (fun d => ak_putI (C := RX5) (T := TX5) (N := 7) rfl inX5w tyX5_ok nmX5 (by decide) rfl rfl rfl rfl (by decide +kernel) wd_175 d rfl) <|
  am_kd (fun d => ak_retV d) <| am_kdn
def g_txcp (M : am_M) (t s c u s' c' : Nat) : am_M := (fun M1 : am_M => (fun M2 : am_M => (fun M3 : am_M => (fun M4 : am_M => am_wI M4 t 6 (M4.1 u 6)) (am_wI M3 t 2 (M3.1 u 2))) (am_wI M2 t 5 (M2.1 u 5))) (am_cI M1 c (va_cpy (M1.1 c') (M1.1 c) 0 0 50))) (am_cI M s (va_cpy (M.1 s') (M.1 s) 0 0 50))
def TX5_takeOver : am_T := fun live as M R => match as with
  | [.ref t, .ref u] => am_tP live t (fun s c => am_tP live u (fun s' c' => R none (g_txcp M t s c u s' c')))
  | _ => False
set_option maxRecDepth 100000 in
set_option maxHeartbeats 4000000 in
theorem metX5_takeOver : am_Met yX5_takeOver cX5_takeOver 2 none (1) (31) TX5_takeOver := by
  refine am_met (own := RX5) (by decide +kernel) rfl kX5_takeOver koX5_takeOver 120 (fun _ _ _ _ _ => none) (fun live as M Ret h => ?_) (fun _ _ _ _ _ _ _ _ hI => by cases hI)
  unfold TX5_takeOver at h
  split at h
  · next t u =>
    refine ⟨Nat.le_of_ble_eq_true rfl, ?_⟩
    change am_wp _ _ _ _ [(0, Value.ref t), (1, Value.ref u)] _ _
    have hh := am_tP_mp h
    clear h
    obtain ⟨s, c, h2, h6, hb, h1, g1, g2, l1, l2, n1, n2, n3, h⟩ := hh
    have hh := am_tP_mp h
    clear h
    obtain ⟨s', c', h3, h7, hb', u1, u2, u3, l1', l2', n1', n2', n3', h⟩ := hh
    repeat' (first | (with_reducible exact h1) | (with_reducible exact h2) | (with_reducible exact h6) | (with_reducible exact g1) | (with_reducible exact g2) | (with_reducible exact u1) | (with_reducible exact h3) | (with_reducible exact h7) | (with_reducible exact u2) | (with_reducible exact u3) | (refine Exists.intro _ (Exists.intro _ (And.intro h2 (And.intro h6 ?_)))) | (refine Exists.intro _ (And.intro h2 ?_)) | (refine Exists.intro _ (And.intro h6 ?_)) | apply And.intro | exact rfl | (intro hx; exact absurd hx (by decide)) | (intro hx; exact absurd (by decide) hx) | decide | intro hx | (refine Exists.intro _ (And.intro rfl ?_)) | (refine Exists.intro _ (And.intro h3 ?_)) | (refine Exists.intro _ (And.intro h7 ?_)) | ((with_reducible change _ = true); simp only [h1, h2, h6, g1, g2, u1, h3, h7, u2, u3, Bool.true_and]; rfl))
    all_goals try first | (with_reducible change am_tI _ _) | (change Ret _ _) | (change Ret _ _ _) | (change Exists _)
    all_goals try dsimp only at *
    all_goals try (with_reducible exact absurd ‹(1000 : Int64) = 0› am_z1000)
    all_goals first
      | (with_reducible exact h)
      | (clear h; decide)
      | (clear h; simp only [l1, l2, l1', l2']; decide)
      | exact h
  · exact h.elim
theorem g_cs_row {b m : Nat} {M : am_M} (hbm : b + 40 ≤ m ∨ m + 40 ≤ b) (o n : Nat) (ho : o < 38) : g_cs b m [(o + 1, 0, n), (o, 2, 1)] M (am_wI (am_cI M (b + (o + 1)) (va_cpy (M.1 (m + (o + 1))) (M.1 (b + (o + 1))) 0 0 n)) (b + o) 2 (M.1 (m + o) 2)) := by
  have h1 : g_cs b m [(o + 1, 0, n)] M _ := g_cs_c (o + 1) n
  have h2 : g_cs b m [(o, 2, 1)] (am_cI M (b + (o + 1)) (va_cpy (M.1 (m + (o + 1))) (M.1 (b + (o + 1))) 0 0 n)) _ := g_cs_w o 2
  have e : (am_cI M (b + (o + 1)) (va_cpy (M.1 (m + (o + 1))) (M.1 (b + (o + 1))) 0 0 n)).1 (m + o) 2 = M.1 (m + o) 2 := by rw [am_cI_1, if_neg (by omega)]
  rw [e] at h2
  exact g_cs.tr hbm (by simp [g_small]; omega) (by simp [g_small]; omega) h1 h2
theorem g_cs_tx {b m : Nat} {M : am_M} (hbm : b + 40 ≤ m ∨ m + 40 ≤ b) (o : Nat) (ho : o < 37) : g_cs b m [(o + 1, 0, 50), (o + 2, 0, 50), (o, 5, 1), (o, 2, 1), (o, 6, 1)] M (g_txcp M (b + o) (b + (o + 1)) (b + (o + 2)) (m + o) (m + (o + 1)) (m + (o + 2))) := by
  unfold g_txcp
  have z : ∀ x y, x < 40 → g_small [(x, y)] = true := fun x y h => by simp [g_small]; omega
  exact g_cs.tr (D := [(o + 1, 0, 50), (o + 2, 0, 50), (o, 5, 1), (o, 2, 1)]) (D' := [(o, 6, 1)]) hbm (by simp [g_small]; omega) (by simp [g_small]; omega) (g_cs.tr (D := [(o + 1, 0, 50), (o + 2, 0, 50), (o, 5, 1)]) (D' := [(o, 2, 1)]) hbm (by simp [g_small]; omega) (by simp [g_small]; omega) (g_cs.tr (D := [(o + 1, 0, 50), (o + 2, 0, 50)]) (D' := [(o, 5, 1)]) hbm (by simp [g_small]; omega) (by simp [g_small]; omega) (g_cs.tr (D := [(o + 1, 0, 50)]) (D' := [(o + 2, 0, 50)]) hbm (by simp [g_small]; omega) (by simp [g_small]; omega) (g_cs_c (o + 1) 50) (g_cs_c (o + 2) 50)) (g_cs_w o 5)) (g_cs_w o 2)) (g_cs_w o 6)
/-- the same, as a house calls them -/
def TX3_takeOverG : am_T := fun live as M R => match as with
  | [.ref r, .ref r2] => ∃ b m o n, r = b + o ∧ r2 = m + o ∧ (b + 40 ≤ m ∨ m + 40 ≤ b) ∧ o < 38 ∧ live.2 r 0 = some (b + (o + 1)) ∧ live.2 r2 0 = some (m + (o + 1)) ∧ am_rc live r (b + (o + 1)) = true ∧ am_rc live r2 (m + (o + 1)) = true ∧ am_len (b + (o + 1)) = n ∧ am_len (m + (o + 1)) = n ∧ ∀ M', g_cs b m [(o + 1, 0, n), (o, 2, 1)] M M' → R none M'
  | _ => False
theorem metX3_takeOverG : am_Met yX3_takeOver cX3_takeOver 2 none 1 31 TX3_takeOverG := by
  refine metX3_takeOver.mono (fun live as M R h => ?_)
  unfold TX3_takeOverG at h
  split at h
  · next r r2 =>
    obtain ⟨b, m, o, n, rfl, rfl, hbm, ho, h1, h2, h3, h4, h5, h6, h⟩ := h
    refine ⟨_, h1, _, h2, ?_, ?_⟩
    · rw [h3, h4, h5, h6]; simp
    · rw [h5]
      exact h _ (g_cs_row hbm o n ho)
  · exact h.elim
def TX5_takeOverG : am_T := fun live as M R => match as with
  | [.ref t, .ref u] => ∃ b m o, t = b + o ∧ u = m + o ∧ (b + 40 ≤ m ∨ m + 40 ≤ b) ∧ o < 37 ∧ live.2 t 0 = some (b + (o + 1)) ∧ live.2 t 1 = some (b + (o + 2)) ∧ live.2 u 0 = some (m + (o + 1)) ∧ live.2 u 1 = some (m + (o + 2)) ∧ am_tc live t (b + (o + 1)) (b + (o + 2)) = true ∧ am_tc live u (m + (o + 1)) (m + (o + 2)) = true ∧ ∀ M', g_cs b m [(o + 1, 0, 50), (o + 2, 0, 50), (o, 5, 1), (o, 2, 1), (o, 6, 1)] M M' → R none M'
  | _ => False
theorem metX5_takeOverG : am_Met yX5_takeOver cX5_takeOver 2 none 1 31 TX5_takeOverG := by
  refine metX5_takeOver.mono (fun live as M R h => ?_)
  unfold TX5_takeOverG at h
  split at h
  · next t u =>
    obtain ⟨b, m, o, rfl, rfl, hbm, ho, h1, h2, h3, h4, h5, h6, h⟩ := h
    exact am_tP_in h1 h2 h5 (am_tP_in h3 h4 h6 (h _ (g_cs_tx hbm o ho)))
  · exact h.elim
set_option maxRecDepth 100000 in
theorem wd_193 : Cond.fieldLink "LearnLoans$House" 12 "LearnLoans$House" "people" "LLearnLoans$People;" ∈ am_ws := am_wt1 (List.mem_of_getElem? (i := 136) (by rfl)) (by decide +kernel)
theorem hy_X2_takeOver : yX2_takeOver.cls ≠ "java/lang/invoke/MethodHandle" ∧ yX2_takeOver.cls ≠ "java/lang/invoke/VarHandle" ∧ (parseMethodDescriptor yX2_takeOver.desc).map (fun d => d.parameters.length) = some 1 := ⟨by decide +kernel, by decide +kernel, by decide +kernel⟩
set_option maxRecDepth 100000 in
theorem wd_840 : Cond.methodLink "LearnLoans$House" 89 yX2_takeOver ∈ am_ws := am_wt4 (List.mem_of_getElem? (i := 63) (by rfl)) (by decide +kernel)
set_option maxRecDepth 100000 in
theorem wd_841 : Cond.instanceMethod yX2_takeOver ∈ am_ws := am_wt4 (List.mem_of_getElem? (i := 64) (by rfl)) (by decide +kernel)
set_option maxRecDepth 100000 in
theorem wd_842 : Cond.selects "LearnLoans$People" yX2_takeOver yX2_takeOver ∈ am_ws := am_wt4 (List.mem_of_getElem? (i := 65) (by rfl)) (by decide +kernel)
set_option maxRecDepth 100000 in
theorem wd_843 : Cond.code yX2_takeOver cX2_takeOver 2 none ∈ am_ws := am_wt4 (List.mem_of_getElem? (i := 66) (by rfl)) (by decide +kernel)
set_option maxRecDepth 100000 in
theorem wd_196 : Cond.fieldLink "LearnLoans$House" 18 "LearnLoans$House" "scales" "[I" ∈ am_ws := am_wt1 (List.mem_of_getElem? (i := 139) (by rfl)) (by decide +kernel)
set_option maxRecDepth 100000 in
theorem wd_845 : Cond.methodLink "LearnLoans$House" 93 arraycopyName ∈ am_ws := am_wt4 (List.mem_of_getElem? (i := 68) (by rfl)) (by decide +kernel)
set_option maxRecDepth 100000 in
theorem wd_199 : Cond.fieldLink "LearnLoans$House" 22 "LearnLoans$House" "prices" "[I" ∈ am_ws := am_wt1 (List.mem_of_getElem? (i := 142) (by rfl)) (by decide +kernel)
theorem hy_X3_takeOver : yX3_takeOver.cls ≠ "java/lang/invoke/MethodHandle" ∧ yX3_takeOver.cls ≠ "java/lang/invoke/VarHandle" ∧ (parseMethodDescriptor yX3_takeOver.desc).map (fun d => d.parameters.length) = some 1 := ⟨by decide +kernel, by decide +kernel, by decide +kernel⟩
set_option maxRecDepth 100000 in
theorem wd_846 : Cond.methodLink "LearnLoans$House" 99 yX3_takeOver ∈ am_ws := am_wt4 (List.mem_of_getElem? (i := 69) (by rfl)) (by decide +kernel)
set_option maxRecDepth 100000 in
theorem wd_847 : Cond.instanceMethod yX3_takeOver ∈ am_ws := am_wt4 (List.mem_of_getElem? (i := 70) (by rfl)) (by decide +kernel)
set_option maxRecDepth 100000 in
theorem wd_848 : Cond.selects "LearnLoans$Rows" yX3_takeOver yX3_takeOver ∈ am_ws := am_wt4 (List.mem_of_getElem? (i := 71) (by rfl)) (by decide +kernel)
set_option maxRecDepth 100000 in
theorem wd_849 : Cond.code yX3_takeOver cX3_takeOver 2 none ∈ am_ws := am_wt4 (List.mem_of_getElem? (i := 72) (by rfl)) (by decide +kernel)
set_option maxRecDepth 100000 in
theorem wd_208 : Cond.fieldLink "LearnLoans$House" 37 "LearnLoans$House" "moves" "LLearnLoans$Rows;" ∈ am_ws := am_wt1 (List.mem_of_getElem? (i := 151) (by rfl)) (by decide +kernel)
set_option maxRecDepth 100000 in
theorem wd_210 : Cond.fieldLink "LearnLoans$House" 40 "LearnLoans$House" "planAt" "[I" ∈ am_ws := am_wt1 (List.mem_of_getElem? (i := 153) (by rfl)) (by decide +kernel)
set_option maxRecDepth 100000 in
theorem wd_213 : Cond.fieldLink "LearnLoans$House" 45 "LearnLoans$House" "texts" "[LLearnLoans$Text;" ∈ am_ws := am_wt1 (List.mem_of_getElem? (i := 156) (by rfl)) (by decide +kernel)
theorem hy_X5_takeOver : yX5_takeOver.cls ≠ "java/lang/invoke/MethodHandle" ∧ yX5_takeOver.cls ≠ "java/lang/invoke/VarHandle" ∧ (parseMethodDescriptor yX5_takeOver.desc).map (fun d => d.parameters.length) = some 1 := ⟨by decide +kernel, by decide +kernel, by decide +kernel⟩
set_option maxRecDepth 100000 in
theorem wd_854 : Cond.methodLink "LearnLoans$House" 102 yX5_takeOver ∈ am_ws := am_wt4 (List.mem_of_getElem? (i := 77) (by rfl)) (by decide +kernel)
set_option maxRecDepth 100000 in
theorem wd_855 : Cond.instanceMethod yX5_takeOver ∈ am_ws := am_wt4 (List.mem_of_getElem? (i := 78) (by rfl)) (by decide +kernel)
set_option maxRecDepth 100000 in
theorem wd_856 : Cond.selects "LearnLoans$Text" yX5_takeOver yX5_takeOver ∈ am_ws := am_wt4 (List.mem_of_getElem? (i := 79) (by rfl)) (by decide +kernel)
set_option maxRecDepth 100000 in
theorem wd_857 : Cond.code yX5_takeOver cX5_takeOver 2 none ∈ am_ws := am_wt4 (List.mem_of_getElem? (i := 80) (by rfl)) (by decide +kernel)
set_option maxRecDepth 100000 in
theorem wd_218 : Cond.fieldLink "LearnLoans$House" 52 "LearnLoans$House" "lives" "[I" ∈ am_ws := am_wt1 (List.mem_of_getElem? (i := 161) (by rfl)) (by decide +kernel)
set_option maxRecDepth 100000 in
theorem wd_221 : Cond.fieldLink "LearnLoans$House" 55 "LearnLoans$House" "chances" "[I" ∈ am_ws := am_wt1 (List.mem_of_getElem? (i := 164) (by rfl)) (by decide +kernel)
set_option maxRecDepth 100000 in
theorem wd_224 : Cond.fieldLink "LearnLoans$House" 58 "LearnLoans$House" "told" "[I" ∈ am_ws := am_wt1 (List.mem_of_getElem? (i := 167) (by rfl)) (by decide +kernel)
set_option maxRecDepth 100000 in
theorem wd_226 : Cond.fieldLink "LearnLoans$House" 105 "LearnLoans$House" "toldSize" "I" ∈ am_ws := am_wt1 (List.mem_of_getElem? (i := 169) (by rfl)) (by decide +kernel)
def rwX0_takeOver : List dz_r := [(0, .aload_n 0, 1), (1, .getfield 12, 3), (4, .aload_n 1, 1), (5, .getfield 12, 3), (8, .invokevirtual 89, 3), (11, .aload_n 1, 1), (12, .getfield 18, 3), (15, .iconst 0, 1), (16, .aload_n 0, 1), (17, .getfield 18, 3), (20, .iconst 0, 1), (21, .iconst 4, 1), (22, .invokestatic 93, 3), (25, .aload_n 1, 1), (26, .getfield 22, 3), (29, .iconst 0, 1), (30, .aload_n 0, 1), (31, .getfield 22, 3), (34, .iconst 0, 1), (35, .bipush 40, 2), (37, .invokestatic 93, 3), (40, .aload_n 0, 1), (41, .getfield 30, 3), (44, .aload_n 1, 1), (45, .getfield 30, 3), (48, .invokevirtual 99, 3), (51, .aload_n 0, 1), (52, .getfield 34, 3), (55, .aload_n 1, 1), (56, .getfield 34, 3), (59, .invokevirtual 99, 3), (62, .aload_n 0, 1), (63, .getfield 37, 3), (66, .aload_n 1, 1), (67, .getfield 37, 3), (70, .invokevirtual 99, 3), (73, .aload_n 1, 1), (74, .getfield 40, 3), (77, .iconst 0, 1), (78, .aload_n 0, 1), (79, .getfield 40, 3), (82, .iconst 0, 1), (83, .sipush 1200, 3), (86, .invokestatic 93, 3), (89, .iconst 0, 1), (90, .istore_n 2, 1), (91, .iload_n 2, 1), (92, .iconst 5, 1), (93, .if_icmp .ge 24, 3), (96, .aload_n 0, 1), (97, .getfield 45, 3), (100, .iload_n 2, 1), (101, .aaload, 1), (102, .aload_n 1, 1), (103, .getfield 45, 3), (106, .iload_n 2, 1), (107, .aaload, 1), (108, .invokevirtual 102, 3), (111, .iinc 2 1, 3), (114, .goto (-23), 3), (117, .aload_n 0, 1), (118, .getfield 49, 3), (121, .aload_n 1, 1), (122, .getfield 49, 3), (125, .invokevirtual 99, 3), (128, .aload_n 1, 1), (129, .getfield 52, 3), (132, .iconst 0, 1), (133, .aload_n 0, 1), (134, .getfield 52, 3), (137, .iconst 0, 1), (138, .sipush 160, 3), (141, .invokestatic 93, 3), (144, .aload_n 1, 1), (145, .getfield 55, 3), (148, .iconst 0, 1), (149, .aload_n 0, 1), (150, .getfield 55, 3), (153, .iconst 0, 1), (154, .bipush 16, 2), (156, .invokestatic 93, 3), (159, .aload_n 1, 1), (160, .getfield 58, 3), (163, .iconst 0, 1), (164, .aload_n 0, 1), (165, .getfield 58, 3), (168, .iconst 0, 1), (169, .bipush 9, 2), (171, .invokestatic 93, 3), (174, .aload_n 0, 1), (175, .aload_n 1, 1), (176, .getfield 105, 3), (179, .putfield 105, 3), (182, .return_, 1)]
theorem dzX0_takeOver : dz cX0_takeOver rwX0_takeOver := dz_all 0 (by decide +kernel)
def kX0_takeOver (live : am_E) (Ret : am_R) : am_code := [(0, am_aload 0 1), (1, am_getR live 0 0 4), (4, am_aload 1 5), (5, am_getR live 0 0 8), (8, am_callV live 2 1 TX2_takeOver 11), (11, am_aload 1 12), (12, am_getR live 0 1 15), (15, am_const (.int 0) 16), (16, am_aload 0 17), (17, am_getR live 0 1 20), (20, am_const (.int 0) 21), (21, am_const (.int 4) 22), (22, am_copyI live 52 25), (25, am_aload 1 26), (26, am_getR live 0 2 29), (29, am_const (.int 0) 30), (30, am_aload 0 31), (31, am_getR live 0 2 34), (34, am_const (.int 0) 35), (35, am_const (.int 40) 37), (37, am_copyI live 52 40), (40, am_aload 0 41), (41, am_getR live 0 3 44), (44, am_aload 1 45), (45, am_getR live 0 3 48), (48, am_callV live 3 1 TX3_takeOverG 51), (51, am_aload 0 52), (52, am_getR live 0 4 55), (55, am_aload 1 56), (56, am_getR live 0 4 59), (59, am_callV live 3 1 TX3_takeOverG 62), (62, am_aload 0 63), (63, am_getR live 0 5 66), (66, am_aload 1 67), (67, am_getR live 0 5 70), (70, am_callV live 3 1 TX3_takeOverG 73), (73, am_aload 1 74), (74, am_getR live 0 6 77), (77, am_const (.int 0) 78), (78, am_aload 0 79), (79, am_getR live 0 6 82), (82, am_const (.int 0) 83), (83, am_const (.int 1200) 86), (86, am_copyI live 52 89), (89, am_const (.int 0) 90), (90, am_istore 2 3 91), (91, am_iload 2 92), (92, am_const (.int 5) 93), (93, am_if2 (fun x y => y ≤ x) 117 96), (96, am_aload 0 97), (97, am_getR live 0 7 100), (100, am_iload 2 101), (101, am_aald live 3 102), (102, am_aload 1 103), (103, am_getR live 0 7 106), (106, am_iload 2 107), (107, am_aald live 3 108), (108, am_callV live 5 1 TX5_takeOverG 111), (111, am_iinc 2 3 1 114), (114, am_goto 91), (117, am_aload 0 118), (118, am_getR live 0 8 121), (121, am_aload 1 122), (122, am_getR live 0 8 125), (125, am_callV live 3 1 TX3_takeOverG 128), (128, am_aload 1 129), (129, am_getR live 0 9 132), (132, am_const (.int 0) 133), (133, am_aload 0 134), (134, am_getR live 0 9 137), (137, am_const (.int 0) 138), (138, am_const (.int 160) 141), (141, am_copyI live 52 144), (144, am_aload 1 145), (145, am_getR live 0 10 148), (148, am_const (.int 0) 149), (149, am_aload 0 150), (150, am_getR live 0 10 153), (153, am_const (.int 0) 154), (154, am_const (.int 16) 156), (156, am_copyI live 52 159), (159, am_aload 1 160), (160, am_getR live 0 11 163), (163, am_const (.int 0) 164), (164, am_aload 0 165), (165, am_getR live 0 11 168), (168, am_const (.int 0) 169), (169, am_const (.int 9) 171), (171, am_copyI live 52 174), (174, am_aload 0 175), (175, am_aload 1 176), (176, am_getI live 0 12 179), (179, am_putI live 0 12 182), (182, am_retV Ret)]
theorem koX0_takeOver (live : am_E) (Ret : am_R) : ∀ q ∈ kX0_takeOver live Ret, am_ok RX0 cX0_takeOver 3 none 2 52 live Ret q.1 q.2 :=
  am_kz dzX0_takeOver <|
  am_kd (fun d => ak_aload_n d rfl rfl) <|
  am_kd (fun d => ak_getR (C := RX0) (T := TX0) (N := 13) rfl inX0w (by decide) rfl rfl rfl wd_193 d rfl) <|
  am_kd (fun d => ak_aload_n d rfl rfl) <|
  am_kd (fun d => ak_getR (C := RX0) (T := TX0) (N := 13) rfl inX0w (by decide) rfl rfl rfl wd_193 d rfl) <|
  am_kd (fun d => ak_callV (C := RX2) (F := TX2) (N := 8) metX2_takeOver rfl ⟨rfl, hy_X2_takeOver⟩ (am_w5 wd_840 wd_841 wd_842 wd_62 wd_843) (by decide) d rfl) <|
  am_kd (fun d => ak_aload_n d rfl rfl) <|
  am_kd (fun d => ak_getR (C := RX0) (T := TX0) (N := 13) rfl inX0w (by decide) rfl rfl rfl wd_196 d rfl) <|
  am_kd (fun d => ak_iconst d (by decide +kernel) rfl) <|
  am_kd (fun d => ak_aload_n d rfl rfl) <|
  am_kd (fun d => ak_getR (C := RX0) (T := TX0) (N := 13) rfl inX0w (by decide) rfl rfl rfl wd_196 d rfl) <|
  am_kd (fun d => ak_iconst d (by decide +kernel) rfl) <|
  am_kd (fun d => ak_iconst d (by decide +kernel) rfl) <|
  am_kd (fun d => ak_copyI (am_w4 wd_845 wd_501 wd_500 wd_69) (by decide) d rfl) <|
  am_kd (fun d => ak_aload_n d rfl rfl) <|
  am_kd (fun d => ak_getR (C := RX0) (T := TX0) (N := 13) rfl inX0w (by decide) rfl rfl rfl wd_199 d rfl) <|
  am_kd (fun d => ak_iconst d (by decide +kernel) rfl) <|
  am_kd (fun d => ak_aload_n d rfl rfl) <|
  am_kd (fun d => ak_getR (C := RX0) (T := TX0) (N := 13) rfl inX0w (by decide) rfl rfl rfl wd_199 d rfl) <|
  am_kd (fun d => ak_iconst d (by decide +kernel) rfl) <|
  am_kd (fun d => ak_bipush d (by decide +kernel) rfl) <|
  am_kd (fun d => ak_copyI (am_w4 wd_845 wd_501 wd_500 wd_69) (by decide) d rfl) <|
  am_kd (fun d => ak_aload_n d rfl rfl) <|
  am_kd (fun d => ak_getR (C := RX0) (T := TX0) (N := 13) rfl inX0w (by decide) rfl rfl rfl wd_202 d rfl) <|
  am_kd (fun d => ak_aload_n d rfl rfl) <|
  am_kd (fun d => ak_getR (C := RX0) (T := TX0) (N := 13) rfl inX0w (by decide) rfl rfl rfl wd_202 d rfl) <|
  am_kd (fun d => ak_callV (C := RX3) (F := TX3) (N := 3) metX3_takeOverG rfl ⟨rfl, hy_X3_takeOver⟩ (am_w5 wd_846 wd_847 wd_848 wd_64 wd_849) (by decide) d rfl) <|
  am_kd (fun d => ak_aload_n d rfl rfl) <|
  am_kd (fun d => ak_getR (C := RX0) (T := TX0) (N := 13) rfl inX0w (by decide) rfl rfl rfl wd_205 d rfl) <|
  am_kd (fun d => ak_aload_n d rfl rfl) <|
  am_kd (fun d => ak_getR (C := RX0) (T := TX0) (N := 13) rfl inX0w (by decide) rfl rfl rfl wd_205 d rfl) <|
  am_kd (fun d => ak_callV (C := RX3) (F := TX3) (N := 3) metX3_takeOverG rfl ⟨rfl, hy_X3_takeOver⟩ (am_w5 wd_846 wd_847 wd_848 wd_64 wd_849) (by decide) d rfl) <|
  am_kd (fun d => ak_aload_n d rfl rfl) <|
  am_kd (fun d => ak_getR (C := RX0) (T := TX0) (N := 13) rfl inX0w (by decide) rfl rfl rfl wd_208 d rfl) <|
  am_kd (fun d => ak_aload_n d rfl rfl) <|
  am_kd (fun d => ak_getR (C := RX0) (T := TX0) (N := 13) rfl inX0w (by decide) rfl rfl rfl wd_208 d rfl) <|
  am_kd (fun d => ak_callV (C := RX3) (F := TX3) (N := 3) metX3_takeOverG rfl ⟨rfl, hy_X3_takeOver⟩ (am_w5 wd_846 wd_847 wd_848 wd_64 wd_849) (by decide) d rfl) <|
  am_kd (fun d => ak_aload_n d rfl rfl) <|
  am_kd (fun d => ak_getR (C := RX0) (T := TX0) (N := 13) rfl inX0w (by decide) rfl rfl rfl wd_210 d rfl) <|
  am_kd (fun d => ak_iconst d (by decide +kernel) rfl) <|
  am_kd (fun d => ak_aload_n d rfl rfl) <|
  am_kd (fun d => ak_getR (C := RX0) (T := TX0) (N := 13) rfl inX0w (by decide) rfl rfl rfl wd_210 d rfl) <|
  am_kd (fun d => ak_iconst d (by decide +kernel) rfl) <|
  am_kd (fun d => ak_sipush d (by decide +kernel) rfl) <|
  am_kd (fun d => ak_copyI (am_w4 wd_845 wd_501 wd_500 wd_69) (by decide) d rfl) <|
  am_kd (fun d => ak_iconst d (by decide +kernel) rfl) <|
  am_kd (fun d => ak_istore_n d rfl rfl) <|
  am_kd (fun d => ak_iload_n d rfl rfl) <|
  am_kd (fun d => ak_iconst d (by decide +kernel) rfl) <|
  am_kd (fun d => ak_icmp_ge d (by decide +kernel) rfl) <|
  am_kd (fun d => ak_aload_n d rfl rfl) <|
  am_kd (fun d => ak_getR (C := RX0) (T := TX0) (N := 13) rfl inX0w (by decide) rfl rfl rfl wd_213 d rfl) <|
  am_kd (fun d => ak_iload_n d rfl rfl) <|
  am_kd (fun d => ak_aald (t := 3) (fun _ => rfl) rfl d rfl) <|
  am_kd (fun d => ak_aload_n d rfl rfl) <|
  am_kd (fun d => ak_getR (C := RX0) (T := TX0) (N := 13) rfl inX0w (by decide) rfl rfl rfl wd_213 d rfl) <|
  am_kd (fun d => ak_iload_n d rfl rfl) <|
  am_kd (fun d => ak_aald (t := 3) (fun _ => rfl) rfl d rfl) <|
  am_kd (fun d => ak_callV (C := RX5) (F := TX5) (N := 7) metX5_takeOverG rfl ⟨rfl, hy_X5_takeOver⟩ (am_w5 wd_854 wd_855 wd_856 wd_65 wd_857) (by decide) d rfl) <|
  am_kd (fun d => ak_iinc d (by decide +kernel) rfl) <|
  am_kd (fun d => ak_goto d (by decide +kernel)) <|
  am_kd (fun d => ak_aload_n d rfl rfl) <|
  am_kd (fun d => ak_getR (C := RX0) (T := TX0) (N := 13) rfl inX0w (by decide) rfl rfl rfl wd_216 d rfl) <|
  am_kd (fun d => ak_aload_n d rfl rfl) <|
  am_kd (fun d => ak_getR (C := RX0) (T := TX0) (N := 13) rfl inX0w (by decide) rfl rfl rfl wd_216 d rfl) <|
  am_kd (fun d => ak_callV (C := RX3) (F := TX3) (N := 3) metX3_takeOverG rfl ⟨rfl, hy_X3_takeOver⟩ (am_w5 wd_846 wd_847 wd_848 wd_64 wd_849) (by decide) d rfl) <|
  am_kd (fun d => ak_aload_n d rfl rfl) <|
  am_kd (fun d => ak_getR (C := RX0) (T := TX0) (N := 13) rfl inX0w (by decide) rfl rfl rfl wd_218 d rfl) <|
  am_kd (fun d => ak_iconst d (by decide +kernel) rfl) <|
  am_kd (fun d => ak_aload_n d rfl rfl) <|
  am_kd (fun d => ak_getR (C := RX0) (T := TX0) (N := 13) rfl inX0w (by decide) rfl rfl rfl wd_218 d rfl) <|
  am_kd (fun d => ak_iconst d (by decide +kernel) rfl) <|
  am_kd (fun d => ak_sipush d (by decide +kernel) rfl) <|
  am_kd (fun d => ak_copyI (am_w4 wd_845 wd_501 wd_500 wd_69) (by decide) d rfl) <|
  am_kd (fun d => ak_aload_n d rfl rfl) <|
  am_kd (fun d => ak_getR (C := RX0) (T := TX0) (N := 13) rfl inX0w (by decide) rfl rfl rfl wd_221 d rfl) <|
  am_kd (fun d => ak_iconst d (by decide +kernel) rfl) <|
  am_kd (fun d => ak_aload_n d rfl rfl) <|
  am_kd (fun d => ak_getR (C := RX0) (T := TX0) (N := 13) rfl inX0w (by decide) rfl rfl rfl wd_221 d rfl) <|
  am_kd (fun d => ak_iconst d (by decide +kernel) rfl) <|
  am_kd (fun d => ak_bipush d (by decide +kernel) rfl) <|
  am_kd (fun d => ak_copyI (am_w4 wd_845 wd_501 wd_500 wd_69) (by decide) d rfl) <|
  am_kd (fun d => ak_aload_n d rfl rfl) <|
  am_kd (fun d => ak_getR (C := RX0) (T := TX0) (N := 13) rfl inX0w (by decide) rfl rfl rfl wd_224 d rfl) <|
  am_kd (fun d => ak_iconst d (by decide +kernel) rfl) <|
  am_kd (fun d => ak_aload_n d rfl rfl) <|
  am_kd (fun d => ak_getR (C := RX0) (T := TX0) (N := 13) rfl inX0w (by decide) rfl rfl rfl wd_224 d rfl) <|
  am_kd (fun d => ak_iconst d (by decide +kernel) rfl) <|
  am_kd (fun d => ak_bipush d (by decide +kernel) rfl) <|
  am_kd (fun d => ak_copyI (am_w4 wd_845 wd_501 wd_500 wd_69) (by decide) d rfl) <|
  am_kd (fun d => ak_aload_n d rfl rfl) <|
  am_kd (fun d => ak_aload_n d rfl rfl) <|
  am_kd (fun d => ak_getI (C := RX0) (T := TX0) (N := 13) rfl inX0w (by decide) rfl rfl rfl wd_226 d rfl) <|
  am_kd (fun d => ak_putI (C := RX0) (T := TX0) (N := 13) rfl inX0w tyX0_ok nmX0 (by decide) rfl rfl rfl rfl (by decide +kernel) wd_226 d rfl) <|
  am_kd (fun d => ak_retV d) <| am_kdn
def TX0_takeOver : am_T := fun live as M R => match as with
  | [.ref n, .ref m] => am_mn live ∧ live.1 n = true ∧ live.1 m = true ∧ g_pair n m ∧ ∀ M', g_cs n m g_sh0 M M' → R none M'
  | _ => False
set_option maxRecDepth 100000 in
set_option maxHeartbeats 4000000 in
theorem metX0_takeOver : am_Met yX0_takeOver cX0_takeOver 3 none (2) (52) TX0_takeOver := by
  refine am_met (own := RX0) (by decide +kernel) rfl kX0_takeOver koX0_takeOver 400 (fun _ _ _ _ _ => none) (fun live as M Ret h => ?_) (fun _ _ _ _ _ _ _ _ hI => by cases hI)
  unfold TX0_takeOver at h
  split at h
  · next n m =>
    refine ⟨Nat.le_of_ble_eq_true rfl, ?_⟩
    change am_wp _ _ _ _ [(0, Value.ref n), (1, Value.ref m)] _ _
    obtain ⟨⟨i1, i2, rfl⟩, hl, hm, hn, h⟩ := h
    unfold g_pair at hn
    rcases hn with ⟨rfl, rfl⟩ | ⟨rfl, rfl⟩ | ⟨rfl, rfl⟩ | ⟨rfl, rfl⟩
    · have e1 : i1 = true := by
        cases i1 with
        | true => rfl
        | false => cases hl
      subst e1
      have hbm : 60 + 40 ≤ 20 ∨ 20 + 40 ≤ 60 := by decide
      have hmn : am_mn _ := ⟨true, i2, rfl⟩
      have hpr : g_pair (60+1-1) (20+1-1) := by unfold g_pair; decide
      repeat' (first | (with_reducible exact hmn) | (with_reducible exact hpr) | apply And.intro | exact rfl | (intro hx; exact absurd hx (by decide)) | (intro hx; exact absurd (by decide) hx) | decide | intro hx | (refine Exists.intro _ (And.intro rfl ?_)) | (refine Exists.intro _ (Exists.intro _ (And.intro rfl (And.intro rfl ?_)))) | (change Exists _; refine ⟨60, 20, 11, 366, rfl, rfl, by decide, by decide, rfl, rfl, rfl, rfl, rfl, rfl, fun M1 c11 => ?_⟩) | (change Exists _; refine ⟨60, 20, 13, 240, rfl, rfl, by decide, by decide, rfl, rfl, rfl, rfl, rfl, rfl, fun M1 c13 => ?_⟩) | (change Exists _; refine ⟨60, 20, 15, 180, rfl, rfl, by decide, by decide, rfl, rfl, rfl, rfl, rfl, rfl, fun M1 c15 => ?_⟩) | (change Exists _; refine ⟨60, 20, 34, 60, rfl, rfl, by decide, by decide, rfl, rfl, rfl, rfl, rfl, rfl, fun M1 c34 => ?_⟩) | (change Exists _; refine ⟨60, 20, 19, rfl, rfl, by decide, by decide, rfl, rfl, rfl, rfl, rfl, rfl, fun M1 c19 => ?_⟩) | (change Exists _; refine ⟨60, 20, 22, rfl, rfl, by decide, by decide, rfl, rfl, rfl, rfl, rfl, rfl, fun M1 c22 => ?_⟩) | (change Exists _; refine ⟨60, 20, 25, rfl, rfl, by decide, by decide, rfl, rfl, rfl, rfl, rfl, rfl, fun M1 c25 => ?_⟩) | (change Exists _; refine ⟨60, 20, 28, rfl, rfl, by decide, by decide, rfl, rfl, rfl, rfl, rfl, rfl, fun M1 c28 => ?_⟩) | (change Exists _; refine ⟨60, 20, 31, rfl, rfl, by decide, by decide, rfl, rfl, rfl, rfl, rfl, rfl, fun M1 c31 => ?_⟩))
      all_goals try first | (with_reducible change am_tI _ _) | (change Ret _ _) | (change Ret _ _ _) | (change Exists _)
      all_goals try dsimp only at *
      all_goals try (with_reducible exact absurd ‹(1000 : Int64) = 0› am_z1000)
      all_goals exact h _ (show g_cs 60 20 _ M _ from (g_cs.tr hbm rfl rfl (g_cs.tr hbm rfl rfl (g_cs.tr hbm rfl rfl (g_cs.tr hbm rfl rfl (g_cs.tr hbm rfl rfl (g_cs.tr hbm rfl rfl (g_cs.tr hbm rfl rfl (g_cs.tr hbm rfl rfl (g_cs.tr hbm rfl rfl (g_cs.tr hbm rfl rfl (g_cs.tr hbm rfl rfl (g_cs.tr hbm rfl rfl (g_cs.tr hbm rfl rfl (g_cs.tr hbm rfl rfl (g_cs.tr hbm rfl rfl (g_cs.tr hbm rfl rfl (show g_cs 60 20 g_sh2 M _ by with_reducible assumption) (g_cs_c 9 4)) (g_cs_c 10 40)) c11) c13) c15) (g_cs_c 17 1200)) c19) c22) c25) c28) c31) c34) (g_cs_c 36 160)) (g_cs_c 37 16)) (g_cs_c 38 9)) (g_cs_w 0 12)))
    · have e1 : i2 = true := by
        cases i2 with
        | true => rfl
        | false => cases hl
      subst e1
      have hbm : 100 + 40 ≤ 20 ∨ 20 + 40 ≤ 100 := by decide
      have hmn : am_mn _ := ⟨i1, true, rfl⟩
      have hpr : g_pair (100+1-1) (20+1-1) := by unfold g_pair; decide
      repeat' (first | (with_reducible exact hmn) | (with_reducible exact hpr) | apply And.intro | exact rfl | (intro hx; exact absurd hx (by decide)) | (intro hx; exact absurd (by decide) hx) | decide | intro hx | (refine Exists.intro _ (And.intro rfl ?_)) | (refine Exists.intro _ (Exists.intro _ (And.intro rfl (And.intro rfl ?_)))) | (change Exists _; refine ⟨100, 20, 11, 366, rfl, rfl, by decide, by decide, rfl, rfl, rfl, rfl, rfl, rfl, fun M1 c11 => ?_⟩) | (change Exists _; refine ⟨100, 20, 13, 240, rfl, rfl, by decide, by decide, rfl, rfl, rfl, rfl, rfl, rfl, fun M1 c13 => ?_⟩) | (change Exists _; refine ⟨100, 20, 15, 180, rfl, rfl, by decide, by decide, rfl, rfl, rfl, rfl, rfl, rfl, fun M1 c15 => ?_⟩) | (change Exists _; refine ⟨100, 20, 34, 60, rfl, rfl, by decide, by decide, rfl, rfl, rfl, rfl, rfl, rfl, fun M1 c34 => ?_⟩) | (change Exists _; refine ⟨100, 20, 19, rfl, rfl, by decide, by decide, rfl, rfl, rfl, rfl, rfl, rfl, fun M1 c19 => ?_⟩) | (change Exists _; refine ⟨100, 20, 22, rfl, rfl, by decide, by decide, rfl, rfl, rfl, rfl, rfl, rfl, fun M1 c22 => ?_⟩) | (change Exists _; refine ⟨100, 20, 25, rfl, rfl, by decide, by decide, rfl, rfl, rfl, rfl, rfl, rfl, fun M1 c25 => ?_⟩) | (change Exists _; refine ⟨100, 20, 28, rfl, rfl, by decide, by decide, rfl, rfl, rfl, rfl, rfl, rfl, fun M1 c28 => ?_⟩) | (change Exists _; refine ⟨100, 20, 31, rfl, rfl, by decide, by decide, rfl, rfl, rfl, rfl, rfl, rfl, fun M1 c31 => ?_⟩))
      all_goals try first | (with_reducible change am_tI _ _) | (change Ret _ _) | (change Ret _ _ _) | (change Exists _)
      all_goals try dsimp only at *
      all_goals try (with_reducible exact absurd ‹(1000 : Int64) = 0› am_z1000)
      all_goals exact h _ (show g_cs 100 20 _ M _ from (g_cs.tr hbm rfl rfl (g_cs.tr hbm rfl rfl (g_cs.tr hbm rfl rfl (g_cs.tr hbm rfl rfl (g_cs.tr hbm rfl rfl (g_cs.tr hbm rfl rfl (g_cs.tr hbm rfl rfl (g_cs.tr hbm rfl rfl (g_cs.tr hbm rfl rfl (g_cs.tr hbm rfl rfl (g_cs.tr hbm rfl rfl (g_cs.tr hbm rfl rfl (g_cs.tr hbm rfl rfl (g_cs.tr hbm rfl rfl (g_cs.tr hbm rfl rfl (g_cs.tr hbm rfl rfl (show g_cs 100 20 g_sh2 M _ by with_reducible assumption) (g_cs_c 9 4)) (g_cs_c 10 40)) c11) c13) c15) (g_cs_c 17 1200)) c19) c22) c25) c28) c31) c34) (g_cs_c 36 160)) (g_cs_c 37 16)) (g_cs_c 38 9)) (g_cs_w 0 12)))
    · have e1 : i1 = true := by
        cases i1 with
        | true => rfl
        | false => cases hm
      subst e1
      have hbm : 20 + 40 ≤ 60 ∨ 60 + 40 ≤ 20 := by decide
      have hmn : am_mn _ := ⟨true, i2, rfl⟩
      have hpr : g_pair (20+1-1) (60+1-1) := by unfold g_pair; decide
      repeat' (first | (with_reducible exact hmn) | (with_reducible exact hpr) | apply And.intro | exact rfl | (intro hx; exact absurd hx (by decide)) | (intro hx; exact absurd (by decide) hx) | decide | intro hx | (refine Exists.intro _ (And.intro rfl ?_)) | (refine Exists.intro _ (Exists.intro _ (And.intro rfl (And.intro rfl ?_)))) | (change Exists _; refine ⟨20, 60, 11, 366, rfl, rfl, by decide, by decide, rfl, rfl, rfl, rfl, rfl, rfl, fun M1 c11 => ?_⟩) | (change Exists _; refine ⟨20, 60, 13, 240, rfl, rfl, by decide, by decide, rfl, rfl, rfl, rfl, rfl, rfl, fun M1 c13 => ?_⟩) | (change Exists _; refine ⟨20, 60, 15, 180, rfl, rfl, by decide, by decide, rfl, rfl, rfl, rfl, rfl, rfl, fun M1 c15 => ?_⟩) | (change Exists _; refine ⟨20, 60, 34, 60, rfl, rfl, by decide, by decide, rfl, rfl, rfl, rfl, rfl, rfl, fun M1 c34 => ?_⟩) | (change Exists _; refine ⟨20, 60, 19, rfl, rfl, by decide, by decide, rfl, rfl, rfl, rfl, rfl, rfl, fun M1 c19 => ?_⟩) | (change Exists _; refine ⟨20, 60, 22, rfl, rfl, by decide, by decide, rfl, rfl, rfl, rfl, rfl, rfl, fun M1 c22 => ?_⟩) | (change Exists _; refine ⟨20, 60, 25, rfl, rfl, by decide, by decide, rfl, rfl, rfl, rfl, rfl, rfl, fun M1 c25 => ?_⟩) | (change Exists _; refine ⟨20, 60, 28, rfl, rfl, by decide, by decide, rfl, rfl, rfl, rfl, rfl, rfl, fun M1 c28 => ?_⟩) | (change Exists _; refine ⟨20, 60, 31, rfl, rfl, by decide, by decide, rfl, rfl, rfl, rfl, rfl, rfl, fun M1 c31 => ?_⟩))
      all_goals try first | (with_reducible change am_tI _ _) | (change Ret _ _) | (change Ret _ _ _) | (change Exists _)
      all_goals try dsimp only at *
      all_goals try (with_reducible exact absurd ‹(1000 : Int64) = 0› am_z1000)
      all_goals exact h _ (show g_cs 20 60 _ M _ from (g_cs.tr hbm rfl rfl (g_cs.tr hbm rfl rfl (g_cs.tr hbm rfl rfl (g_cs.tr hbm rfl rfl (g_cs.tr hbm rfl rfl (g_cs.tr hbm rfl rfl (g_cs.tr hbm rfl rfl (g_cs.tr hbm rfl rfl (g_cs.tr hbm rfl rfl (g_cs.tr hbm rfl rfl (g_cs.tr hbm rfl rfl (g_cs.tr hbm rfl rfl (g_cs.tr hbm rfl rfl (g_cs.tr hbm rfl rfl (g_cs.tr hbm rfl rfl (g_cs.tr hbm rfl rfl (show g_cs 20 60 g_sh2 M _ by with_reducible assumption) (g_cs_c 9 4)) (g_cs_c 10 40)) c11) c13) c15) (g_cs_c 17 1200)) c19) c22) c25) c28) c31) c34) (g_cs_c 36 160)) (g_cs_c 37 16)) (g_cs_c 38 9)) (g_cs_w 0 12)))
    · have e1 : i2 = true := by
        cases i2 with
        | true => rfl
        | false => cases hm
      subst e1
      have hbm : 20 + 40 ≤ 100 ∨ 100 + 40 ≤ 20 := by decide
      have hmn : am_mn _ := ⟨i1, true, rfl⟩
      have hpr : g_pair (20+1-1) (100+1-1) := by unfold g_pair; decide
      repeat' (first | (with_reducible exact hmn) | (with_reducible exact hpr) | apply And.intro | exact rfl | (intro hx; exact absurd hx (by decide)) | (intro hx; exact absurd (by decide) hx) | decide | intro hx | (refine Exists.intro _ (And.intro rfl ?_)) | (refine Exists.intro _ (Exists.intro _ (And.intro rfl (And.intro rfl ?_)))) | (change Exists _; refine ⟨20, 100, 11, 366, rfl, rfl, by decide, by decide, rfl, rfl, rfl, rfl, rfl, rfl, fun M1 c11 => ?_⟩) | (change Exists _; refine ⟨20, 100, 13, 240, rfl, rfl, by decide, by decide, rfl, rfl, rfl, rfl, rfl, rfl, fun M1 c13 => ?_⟩) | (change Exists _; refine ⟨20, 100, 15, 180, rfl, rfl, by decide, by decide, rfl, rfl, rfl, rfl, rfl, rfl, fun M1 c15 => ?_⟩) | (change Exists _; refine ⟨20, 100, 34, 60, rfl, rfl, by decide, by decide, rfl, rfl, rfl, rfl, rfl, rfl, fun M1 c34 => ?_⟩) | (change Exists _; refine ⟨20, 100, 19, rfl, rfl, by decide, by decide, rfl, rfl, rfl, rfl, rfl, rfl, fun M1 c19 => ?_⟩) | (change Exists _; refine ⟨20, 100, 22, rfl, rfl, by decide, by decide, rfl, rfl, rfl, rfl, rfl, rfl, fun M1 c22 => ?_⟩) | (change Exists _; refine ⟨20, 100, 25, rfl, rfl, by decide, by decide, rfl, rfl, rfl, rfl, rfl, rfl, fun M1 c25 => ?_⟩) | (change Exists _; refine ⟨20, 100, 28, rfl, rfl, by decide, by decide, rfl, rfl, rfl, rfl, rfl, rfl, fun M1 c28 => ?_⟩) | (change Exists _; refine ⟨20, 100, 31, rfl, rfl, by decide, by decide, rfl, rfl, rfl, rfl, rfl, rfl, fun M1 c31 => ?_⟩))
      all_goals try first | (with_reducible change am_tI _ _) | (change Ret _ _) | (change Ret _ _ _) | (change Exists _)
      all_goals try dsimp only at *
      all_goals try (with_reducible exact absurd ‹(1000 : Int64) = 0› am_z1000)
      all_goals exact h _ (show g_cs 20 100 _ M _ from (g_cs.tr hbm rfl rfl (g_cs.tr hbm rfl rfl (g_cs.tr hbm rfl rfl (g_cs.tr hbm rfl rfl (g_cs.tr hbm rfl rfl (g_cs.tr hbm rfl rfl (g_cs.tr hbm rfl rfl (g_cs.tr hbm rfl rfl (g_cs.tr hbm rfl rfl (g_cs.tr hbm rfl rfl (g_cs.tr hbm rfl rfl (g_cs.tr hbm rfl rfl (g_cs.tr hbm rfl rfl (g_cs.tr hbm rfl rfl (g_cs.tr hbm rfl rfl (g_cs.tr hbm rfl rfl (show g_cs 20 100 g_sh2 M _ by with_reducible assumption) (g_cs_c 9 4)) (g_cs_c 10 40)) c11) c13) c15) (g_cs_c 17 1200)) c19) c22) c25) c28) c31) c34) (g_cs_c 36 160)) (g_cs_c 37 16)) (g_cs_c 38 9)) (g_cs_w 0 12)))
  · exact h.elim
