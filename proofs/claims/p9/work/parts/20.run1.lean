/-! Run: small methods -/
set_option maxRecDepth 100000 in
theorem wd_313 : Cond.fieldLink "LearnLoans$Run" 140 "LearnLoans$Run" "earned" "I" ∈ am_ws := am_wt2 (List.mem_of_getElem? (i := 16) (by rfl)) (by decide +kernel)
set_option maxRecDepth 100000 in
theorem wd_314 : Cond.fieldLink "LearnLoans$Run" 142 "LearnLoans$Run" "land" "I" ∈ am_ws := am_wt2 (List.mem_of_getElem? (i := 17) (by rfl)) (by decide +kernel)
set_option maxRecDepth 100000 in
theorem wd_315 : Cond.fieldLink "LearnLoans$Run" 145 "LearnLoans$Run" "dead" "Z" ∈ am_ws := am_wt2 (List.mem_of_getElem? (i := 18) (by rfl)) (by decide +kernel)
def rwX4_suppose : List dz_r := [(0, .aload_n 0, 1), (1, .iload_n 1, 1), (2, .putfield 140, 3), (5, .aload_n 0, 1), (6, .iload_n 2, 1), (7, .putfield 142, 3), (10, .aload_n 0, 1), (11, .iload_n 3, 1), (12, .putfield 145, 3), (15, .return_, 1)]
theorem dzX4_suppose : dz cX4_suppose rwX4_suppose := dz_all 0 (by decide +kernel)
def kX4_suppose (live : am_E) (Ret : am_R) : am_code := [(0, am_aload 0 1), (1, am_iload 1 2), (2, am_putI live 4 16 5), (5, am_aload 0 6), (6, am_iload 2 7), (7, am_putI live 4 17 10), (10, am_aload 0 11), (11, am_iload 3 12), (12, am_putZ live 4 18 15), (15, am_retV Ret)]
theorem koX4_suppose (live : am_E) (Ret : am_R) : ∀ q ∈ kX4_suppose live Ret, am_ok RX4 cX4_suppose 4 none 0 0 live Ret q.1 q.2 :=
  am_kz dzX4_suppose <|
  am_kd (fun d => ak_aload_n d rfl rfl) <|
  am_kd (fun d => ak_iload_n d rfl rfl) <|
  am_kd (fun d => ak_putI (C := RX4) (T := TX4) (N := 19) rfl inX4w tyX4_ok nmX4 (by decide) rfl rfl rfl rfl (by decide +kernel) wd_313 d rfl) <|
  am_kd (fun d => ak_aload_n d rfl rfl) <|
  am_kd (fun d => ak_iload_n d rfl rfl) <|
  am_kd (fun d => ak_putI (C := RX4) (T := TX4) (N := 19) rfl inX4w tyX4_ok nmX4 (by decide) rfl rfl rfl rfl (by decide +kernel) wd_314 d rfl) <|
  am_kd (fun d => ak_aload_n d rfl rfl) <|
  am_kd (fun d => ak_iload_n d rfl rfl) <|
  am_kd (fun d => ak_putZ (C := RX4) (T := TX4) (N := 19) rfl inX4w tyX4_ok nmX4 (by decide) rfl rfl rfl rfl (by decide +kernel) wd_315 d rfl) <|
  am_kd (fun d => ak_retV d) <| am_kdn
def TX4_suppose : am_T := fun live as M R => match as with
  | [.ref n, .int a, .int b, .int d] => am_mn live ∧ n = 4 ∧ (d = 0 ∨ d = 1) ∧ R none (am_wI (am_wI (am_wI M 4 16 a) 4 17 b) 4 18 d)
  | _ => False
set_option maxRecDepth 100000 in
set_option maxHeartbeats 4000000 in
theorem metX4_suppose : am_Met yX4_suppose cX4_suppose 4 none (0) (0) TX4_suppose := by
  refine am_met (own := RX4) (by decide +kernel) rfl kX4_suppose koX4_suppose 60 (fun _ _ _ _ _ => none) (fun live as M Ret h => ?_) (fun _ _ _ _ _ _ _ _ hI => by cases hI)
  unfold TX4_suppose at h
  split at h
  · next n a b d =>
    refine ⟨Nat.le_of_ble_eq_true rfl, ?_⟩
    change am_wp _ _ _ _ [(0, Value.ref n), (1, Value.int a), (2, Value.int b), (3, Value.int d)] _ _
    obtain ⟨⟨i1, i2, rfl⟩, rfl, hd, h⟩ := h
    repeat' (first | apply And.intro | exact rfl | intro hx | (refine Exists.intro _ (And.intro rfl ?_)))
    all_goals try first | (with_reducible change am_tI _ _) | (change Ret _ _) | (change Ret _ _ _) | (change Exists _)
    all_goals try dsimp only at *
    all_goals try (with_reducible exact absurd ‹(1000 : Int64) = 0› am_z1000)
    · exact hd
    · exact h
  · exact h.elim
set_option maxRecDepth 100000 in
theorem wd_307 : Cond.fieldLink "LearnLoans$Run" 74 "LearnLoans$Run" "life" "I" ∈ am_ws := am_wt2 (List.mem_of_getElem? (i := 10) (by rfl)) (by decide +kernel)
set_option maxRecDepth 100000 in
theorem wd_308 : Cond.fieldLink "LearnLoans$Run" 77 "LearnLoans$Run" "plan" "I" ∈ am_ws := am_wt2 (List.mem_of_getElem? (i := 11) (by rfl)) (by decide +kernel)
set_option maxRecDepth 100000 in
theorem wd_291 : Cond.fieldLink "LearnLoans$Run" 12 "LearnLoans$Run" "house" "LLearnLoans$House;" ∈ am_ws := am_wt1 (List.mem_of_getElem? (i := 234) (by rfl)) (by decide +kernel)
set_option maxRecDepth 100000 in
theorem wd_195 : Cond.fieldLink "LearnLoans$Run" 80 "LearnLoans$House" "people" "LLearnLoans$People;" ∈ am_ws := am_wt1 (List.mem_of_getElem? (i := 138) (by rfl)) (by decide +kernel)
set_option maxRecDepth 100000 in
theorem wd_304 : Cond.fieldLink "LearnLoans$Run" 42 "LearnLoans$Run" "person" "I" ∈ am_ws := am_wt2 (List.mem_of_getElem? (i := 7) (by rfl)) (by decide +kernel)
set_option maxRecDepth 100000 in
theorem wd_306 : Cond.fieldLink "LearnLoans$Run" 49 "LearnLoans$Run" "nextYea\x72" "I" ∈ am_ws := am_wt2 (List.mem_of_getElem? (i := 9) (by rfl)) (by decide +kernel)
theorem hy_X2_isDead : yX2_isDead.cls ≠ "java/lang/invoke/MethodHandle" ∧ yX2_isDead.cls ≠ "java/lang/invoke/VarHandle" ∧ (parseMethodDescriptor yX2_isDead.desc).map (fun d => d.parameters.length) = some 2 := ⟨by decide +kernel, by decide +kernel, by decide +kernel⟩
set_option maxRecDepth 100000 in
theorem wd_554 : Cond.methodLink "LearnLoans$Run" 84 yX2_isDead ∈ am_ws := am_wt3 (List.mem_of_getElem? (i := 17) (by rfl)) (by decide +kernel)
set_option maxRecDepth 100000 in
theorem wd_555 : Cond.instanceMethod yX2_isDead ∈ am_ws := am_wt3 (List.mem_of_getElem? (i := 18) (by rfl)) (by decide +kernel)
set_option maxRecDepth 100000 in
theorem wd_556 : Cond.selects "LearnLoans$People" yX2_isDead yX2_isDead ∈ am_ws := am_wt3 (List.mem_of_getElem? (i := 19) (by rfl)) (by decide +kernel)
set_option maxRecDepth 100000 in
theorem wd_62 : Cond.initialized "LearnLoans$People" ∈ am_ws := am_wt1 (List.mem_of_getElem? (i := 5) (by rfl)) (by decide +kernel)
set_option maxRecDepth 100000 in
theorem wd_557 : Cond.code yX2_isDead cX2_isDead 3 (some .boolean) ∈ am_ws := am_wt3 (List.mem_of_getElem? (i := 20) (by rfl)) (by decide +kernel)
set_option maxRecDepth 100000 in
theorem wd_309 : Cond.fieldLink "LearnLoans$Run" 90 "LearnLoans$Run" "deadAhead" "Z" ∈ am_ws := am_wt2 (List.mem_of_getElem? (i := 12) (by rfl)) (by decide +kernel)
set_option maxRecDepth 100000 in
theorem wd_310 : Cond.fieldLink "LearnLoans$Run" 94 "LearnLoans$Run" "due" "J" ∈ am_ws := am_wt2 (List.mem_of_getElem? (i := 13) (by rfl)) (by decide +kernel)
set_option maxRecDepth 100000 in
theorem wd_311 : Cond.fieldLink "LearnLoans$Run" 98 "LearnLoans$Run" "paid" "J" ∈ am_ws := am_wt2 (List.mem_of_getElem? (i := 14) (by rfl)) (by decide +kernel)
def rwX4_turnTo : List dz_r := [(0, .aload_n 0, 1), (1, .iload_n 1, 1), (2, .putfield 74, 3), (5, .aload_n 0, 1), (6, .iload_n 2, 1), (7, .putfield 77, 3), (10, .aload_n 0, 1), (11, .aload_n 0, 1), (12, .getfield 12, 3), (15, .getfield 80, 3), (18, .aload_n 0, 1), (19, .getfield 42, 3), (22, .aload_n 0, 1), (23, .getfield 49, 3), (26, .iconst 1, 1), (27, .isub, 1), (28, .invokevirtual 84, 3), (31, .putfield 90, 3), (34, .aload_n 0, 1), (35, .lload_n 3, 1), (36, .putfield 94, 3), (39, .aload_n 0, 1), (40, .lconst 0, 1), (41, .putfield 98, 3), (44, .return_, 1)]
theorem dzX4_turnTo : dz cX4_turnTo rwX4_turnTo := dz_all 0 (by decide +kernel)
def kX4_turnTo (live : am_E) (Ret : am_R) : am_code := [(0, am_aload 0 1), (1, am_iload 1 2), (2, am_putI live 4 11 5), (5, am_aload 0 6), (6, am_iload 2 7), (7, am_putI live 4 12 10), (10, am_aload 0 11), (11, am_aload 0 12), (12, am_getR live 4 0 15), (15, am_getR live 0 0 18), (18, am_aload 0 19), (19, am_getI live 4 8 22), (22, am_aload 0 23), (23, am_getI live 4 10 26), (26, am_const (.int 1) 27), (27, am_i2 (fun x y => x - y) 28), (28, am_callV live 2 2 TX2_isDead 31), (31, am_putZ live 4 13 34), (34, am_aload 0 35), (35, am_lload 3 36), (36, am_putJ live 4 14 39), (39, am_aload 0 40), (40, am_const (.long 0) 41), (41, am_putJ live 4 15 44), (44, am_retV Ret)]
theorem koX4_turnTo (live : am_E) (Ret : am_R) : ∀ q ∈ kX4_turnTo live Ret, am_ok RX4 cX4_turnTo 5 none 1 22 live Ret q.1 q.2 :=
  am_kz dzX4_turnTo <|
  am_kd (fun d => ak_aload_n d rfl rfl) <|
  am_kd (fun d => ak_iload_n d rfl rfl) <|
  am_kd (fun d => ak_putI (C := RX4) (T := TX4) (N := 19) rfl inX4w tyX4_ok nmX4 (by decide) rfl rfl rfl rfl (by decide +kernel) wd_307 d rfl) <|
  am_kd (fun d => ak_aload_n d rfl rfl) <|
  am_kd (fun d => ak_iload_n d rfl rfl) <|
  am_kd (fun d => ak_putI (C := RX4) (T := TX4) (N := 19) rfl inX4w tyX4_ok nmX4 (by decide) rfl rfl rfl rfl (by decide +kernel) wd_308 d rfl) <|
  am_kd (fun d => ak_aload_n d rfl rfl) <|
  am_kd (fun d => ak_aload_n d rfl rfl) <|
  am_kd (fun d => ak_getR (C := RX4) (T := TX4) (N := 19) rfl inX4w (by decide) rfl rfl rfl wd_291 d rfl) <|
  am_kd (fun d => ak_getR (C := RX0) (T := TX0) (N := 13) rfl inX0w (by decide) rfl rfl rfl wd_195 d rfl) <|
  am_kd (fun d => ak_aload_n d rfl rfl) <|
  am_kd (fun d => ak_getI (C := RX4) (T := TX4) (N := 19) rfl inX4w (by decide) rfl rfl rfl wd_304 d rfl) <|
  am_kd (fun d => ak_aload_n d rfl rfl) <|
  am_kd (fun d => ak_getI (C := RX4) (T := TX4) (N := 19) rfl inX4w (by decide) rfl rfl rfl wd_306 d rfl) <|
  am_kd (fun d => ak_iconst d (by decide +kernel) rfl) <|
  am_kd (fun d => ak_isub d rfl) <|
  am_kd (fun d => ak_callV (C := RX2) (F := TX2) (N := 8) metX2_isDead rfl ⟨rfl, hy_X2_isDead⟩ (am_w5 wd_554 wd_555 wd_556 wd_62 wd_557) (by decide) d rfl) <|
  am_kd (fun d => ak_putZ (C := RX4) (T := TX4) (N := 19) rfl inX4w tyX4_ok nmX4 (by decide) rfl rfl rfl rfl (by decide +kernel) wd_309 d rfl) <|
  am_kd (fun d => ak_aload_n d rfl rfl) <|
  am_kd (fun d => ak_lload_n d rfl rfl) <|
  am_kd (fun d => ak_putJ (C := RX4) (T := TX4) (N := 19) rfl inX4w tyX4_ok nmX4 (by decide) rfl rfl rfl rfl (by decide +kernel) wd_310 d rfl) <|
  am_kd (fun d => ak_aload_n d rfl rfl) <|
  am_kd (fun d => ak_lconst d (by decide +kernel) rfl) <|
  am_kd (fun d => ak_putJ (C := RX4) (T := TX4) (N := 19) rfl inX4w tyX4_ok nmX4 (by decide) rfl rfl rfl rfl (by decide +kernel) wd_311 d rfl) <|
  am_kd (fun d => ak_retV d) <| am_kdn
def TX4_turnTo : am_T := fun live as M R => match as with
  | [.ref n, .int a, .int b, .long d] => am_mn live ∧ n = 4 ∧ am_in (M.1 4 8) 12 ∧ R none (am_wJ (am_wJ (am_wI (am_wI (am_wI M 4 11 a) 4 12 b) 4 13 (if M.1 23 (M.1 4 8).toNatClampNeg ≠ -1 ∧ M.1 23 (M.1 4 8).toNatClampNeg ≤ M.1 4 10 - 1 then 1 else 0)) 4 14 d) 4 15 0)
  | _ => False
set_option maxRecDepth 100000 in
set_option maxHeartbeats 4000000 in
theorem metX4_turnTo : am_Met yX4_turnTo cX4_turnTo 5 none (1) (22) TX4_turnTo := by
  refine am_met (own := RX4) (by decide +kernel) rfl kX4_turnTo koX4_turnTo 60 (fun _ _ _ _ _ => none) (fun live as M Ret h => ?_) (fun _ _ _ _ _ _ _ _ hI => by cases hI)
  unfold TX4_turnTo at h
  split at h
  · next n a b d =>
    refine ⟨Nat.le_of_ble_eq_true rfl, ?_⟩
    change am_wp _ _ _ _ [(0, Value.ref n), (1, Value.int a), (2, Value.int b), (3, Value.long d)] _ _
    obtain ⟨hmn, rfl, hp, h⟩ := h
    have hmn2 := hmn
    obtain ⟨i1, i2, rfl⟩ := hmn2
    repeat' (first | (with_reducible exact hmn) | (with_reducible exact hp) | apply And.intro | exact rfl | intro hx | (refine Exists.intro _ (And.intro rfl ?_)))
    all_goals try first | (with_reducible change am_tI _ _) | (change Ret _ _) | (change Ret _ _ _) | (change Exists _)
    all_goals try dsimp only at *
    all_goals try (with_reducible exact absurd ‹(1000 : Int64) = 0› am_z1000)
    all_goals first | (with_reducible exact hp.1) | (with_reducible exact hp.2) | (with_reducible exact h) | (split <;> first | exact Or.inl rfl | exact Or.inr rfl) | exact hp.1 | exact hp.2 | exact h | skip
  · exact h.elim
set_option maxRecDepth 100000 in
theorem wd_212 : Cond.fieldLink "LearnLoans$Run" 187 "LearnLoans$House" "planAt" "[I" ∈ am_ws := am_wt1 (List.mem_of_getElem? (i := 155) (by rfl)) (by decide +kernel)
def rwX4_planIn : List dz_r := [(0, .aload_n 0, 1), (1, .getfield 77, 3), (4, .iconst (-1), 1), (5, .if_icmp .eq 10, 3), (8, .aload_n 0, 1), (9, .getfield 77, 3), (12, .goto 17, 3), (15, .aload_n 0, 1), (16, .getfield 12, 3), (19, .getfield 187, 3), (22, .iload_n 1, 1), (23, .bipush 40, 2), (25, .imul, 1), (26, .iload_n 2, 1), (27, .iadd, 1), (28, .iaload, 1), (29, .ireturn, 1)]
theorem dzX4_planIn : dz cX4_planIn rwX4_planIn := dz_all 0 (by decide +kernel)
def kX4_planIn (live : am_E) (Ret : am_R) : am_code := [(0, am_aload 0 1), (1, am_getI live 4 12 4), (4, am_const (.int (-1)) 5), (5, am_if2 (fun x y => x = y) 15 8), (8, am_aload 0 9), (9, am_getI live 4 12 12), (12, am_goto 29), (15, am_aload 0 16), (16, am_getR live 4 0 19), (19, am_getR live 0 6 22), (22, am_iload 1 23), (23, am_const (.int 40) 25), (25, am_i2 (fun x y => x * y) 26), (26, am_iload 2 27), (27, am_i2 (fun x y => x + y) 28), (28, am_ald live 0 29), (29, am_retI Ret)]
theorem koX4_planIn (live : am_E) (Ret : am_R) : ∀ q ∈ kX4_planIn live Ret, am_ok RX4 cX4_planIn 3 (some .int) 0 0 live Ret q.1 q.2 :=
  am_kz dzX4_planIn <|
  am_kd (fun d => ak_aload_n d rfl rfl) <|
  am_kd (fun d => ak_getI (C := RX4) (T := TX4) (N := 19) rfl inX4w (by decide) rfl rfl rfl wd_308 d rfl) <|
  am_kd (fun d => ak_iconst d (by decide +kernel) rfl) <|
  am_kd (fun d => ak_icmp_eq d (by decide +kernel) rfl) <|
  am_kd (fun d => ak_aload_n d rfl rfl) <|
  am_kd (fun d => ak_getI (C := RX4) (T := TX4) (N := 19) rfl inX4w (by decide) rfl rfl rfl wd_308 d rfl) <|
  am_kd (fun d => ak_goto d (by decide +kernel)) <|
  am_kd (fun d => ak_aload_n d rfl rfl) <|
  am_kd (fun d => ak_getR (C := RX4) (T := TX4) (N := 19) rfl inX4w (by decide) rfl rfl rfl wd_291 d rfl) <|
  am_kd (fun d => ak_getR (C := RX0) (T := TX0) (N := 13) rfl inX0w (by decide) rfl rfl rfl wd_212 d rfl) <|
  am_kd (fun d => ak_iload_n d rfl rfl) <|
  am_kd (fun d => ak_bipush d (by decide +kernel) rfl) <|
  am_kd (fun d => ak_imul d rfl) <|
  am_kd (fun d => ak_iload_n d rfl rfl) <|
  am_kd (fun d => ak_iadd d rfl) <|
  am_kd (fun d => ak_iald (t := 0) (fun _ => rfl) rfl d rfl) <|
  am_kd (fun d => ak_retI d) <| am_kdn
def am_pln (M : am_M) (l y : Int32) : Int32 := if M.1 4 12 = -1 then M.1 37 (l * 40 + y).toNatClampNeg else M.1 4 12
theorem am_lny {l y : Int32} (h1 : am_in l 30) (h2 : am_in y 40) : (l * 40 + y).toInt = l.toInt * 40 + y.toInt := by
  obtain ⟨a1, a2⟩ := h1
  obtain ⟨b1, b2⟩ := h2
  have e := i_mul (x := l) (y := 40) (by simp only [Int32.reduceToInt]; omega) (by simp only [Int32.reduceToInt]; omega)
  simp only [Int32.reduceToInt] at e
  rw [i_add (by rw [e]; omega) (by rw [e]; omega), e]
def TX4_planIn : am_T := fun live as M R => match as with
  | [.ref n, .int l, .int y] => am_mn live ∧ n = 4 ∧ am_in l 30 ∧ am_in y 40 ∧ R (some (.int (am_pln M l y))) M
  | _ => False
set_option maxRecDepth 100000 in
set_option maxHeartbeats 4000000 in
theorem metX4_planIn : am_Met yX4_planIn cX4_planIn 3 (some .int) (0) (0) TX4_planIn := by
  refine am_met (own := RX4) (by decide +kernel) rfl kX4_planIn koX4_planIn 60 (fun _ _ _ _ _ => none) (fun live as M Ret h => ?_) (fun _ _ _ _ _ _ _ _ hI => by cases hI)
  unfold TX4_planIn at h
  split at h
  · next n l y =>
    refine ⟨Nat.le_of_ble_eq_true rfl, ?_⟩
    change am_wp _ _ _ _ [(0, Value.ref n), (1, Value.int l), (2, Value.int y)] _ _
    obtain ⟨⟨i1, i2, rfl⟩, rfl, hl, hy, h⟩ := h
    have e := am_lny hl hy
    have l37 : am_len 37 = 1200 := rfl
    obtain ⟨a1, a2⟩ := hl
    obtain ⟨b1, b2⟩ := hy
    repeat' (first | apply And.intro | exact rfl | intro hx | (refine Exists.intro _ (And.intro rfl ?_)))
    all_goals try first | (with_reducible change am_tI _ _) | (change Ret _ _) | (change Ret _ _ _) | (change Exists _)
    all_goals try dsimp only at *
    all_goals try (with_reducible exact absurd ‹(1000 : Int64) = 0› am_z1000)
    all_goals first
      | (rw [am_pln, if_pos (by with_reducible assumption)] at h; exact h)
      | (rw [am_pln, if_neg (by with_reducible assumption)] at h; exact h)
      | (rw [e]; omega)
      | (rw [e, l37]; omega)
  · exact h.elim
theorem hy_X4_planIn : yX4_planIn.cls ≠ "java/lang/invoke/MethodHandle" ∧ yX4_planIn.cls ≠ "java/lang/invoke/VarHandle" ∧ (parseMethodDescriptor yX4_planIn.desc).map (fun d => d.parameters.length) = some 2 := ⟨by decide +kernel, by decide +kernel, by decide +kernel⟩
set_option maxRecDepth 100000 in
theorem wd_584 : Cond.methodLink "LearnLoans$Run" 190 yX4_planIn ∈ am_ws := am_wt3 (List.mem_of_getElem? (i := 47) (by rfl)) (by decide +kernel)
set_option maxRecDepth 100000 in
theorem wd_586 : Cond.instanceMethod yX4_planIn ∈ am_ws := am_wt3 (List.mem_of_getElem? (i := 49) (by rfl)) (by decide +kernel)
set_option maxRecDepth 100000 in
theorem wd_5 : Cond.selects "LearnLoans$Run" yX4_planIn yX4_planIn ∈ am_ws := am_wsi (List.mem_of_getElem? (i := 5) (by rfl)) (by decide +kernel)
set_option maxRecDepth 100000 in
theorem wd_60 : Cond.initialized "LearnLoans$Run" ∈ am_ws := am_wt1 (List.mem_of_getElem? (i := 3) (by rfl)) (by decide +kernel)
set_option maxRecDepth 100000 in
theorem wd_587 : Cond.code yX4_planIn cX4_planIn 3 (some .int) ∈ am_ws := am_wt3 (List.mem_of_getElem? (i := 50) (by rfl)) (by decide +kernel)
def rwX4_cellOf : List dz_r := [(0, .iload_n 2, 1), (1, .iconst 5, 1), (2, .imul, 1), (3, .aload_n 0, 1), (4, .iload_n 1, 1), (5, .iload_n 2, 1), (6, .invokevirtual 190, 3), (9, .iadd, 1), (10, .bipush 6, 2), (12, .imul, 1), (13, .ireturn, 1)]
theorem dzX4_cellOf : dz cX4_cellOf rwX4_cellOf := dz_all 0 (by decide +kernel)
def kX4_cellOf (live : am_E) (Ret : am_R) : am_code := [(0, am_iload 2 1), (1, am_const (.int 5) 2), (2, am_i2 (fun x y => x * y) 3), (3, am_aload 0 4), (4, am_iload 1 5), (5, am_iload 2 6), (6, am_callV live 4 2 TX4_planIn 9), (9, am_i2 (fun x y => x + y) 10), (10, am_const (.int 6) 12), (12, am_i2 (fun x y => x * y) 13), (13, am_retI Ret)]
theorem koX4_cellOf (live : am_E) (Ret : am_R) : ∀ q ∈ kX4_cellOf live Ret, am_ok RX4 cX4_cellOf 3 (some .int) 1 22 live Ret q.1 q.2 :=
  am_kz dzX4_cellOf <|
  am_kd (fun d => ak_iload_n d rfl rfl) <|
  am_kd (fun d => ak_iconst d (by decide +kernel) rfl) <|
  am_kd (fun d => ak_imul d rfl) <|
  am_kd (fun d => ak_aload_n d rfl rfl) <|
  am_kd (fun d => ak_iload_n d rfl rfl) <|
  am_kd (fun d => ak_iload_n d rfl rfl) <|
  am_kd (fun d => ak_callV (C := RX4) (F := TX4) (N := 19) metX4_planIn rfl ⟨rfl, hy_X4_planIn⟩ (am_w5 wd_584 wd_586 wd_5 wd_60 wd_587) (by decide) d rfl) <|
  am_kd (fun d => ak_iadd d rfl) <|
  am_kd (fun d => ak_bipush d (by decide +kernel) rfl) <|
  am_kd (fun d => ak_imul d rfl) <|
  am_kd (fun d => ak_retI d) <| am_kdn
def TX4_cellOf : am_T := fun live as M R => match as with
  | [.ref n, .int l, .int y] => am_mn live ∧ n = 4 ∧ am_in l 30 ∧ am_in y 40 ∧ R (some (.int ((y * 5 + am_pln M l y) * 6))) M
  | _ => False
set_option maxRecDepth 100000 in
set_option maxHeartbeats 4000000 in
theorem metX4_cellOf : am_Met yX4_cellOf cX4_cellOf 3 (some .int) (1) (22) TX4_cellOf := by
  refine am_met (own := RX4) (by decide +kernel) rfl kX4_cellOf koX4_cellOf 60 (fun _ _ _ _ _ => none) (fun live as M Ret h => ?_) (fun _ _ _ _ _ _ _ _ hI => by cases hI)
  unfold TX4_cellOf at h
  split at h
  · next n l y =>
    refine ⟨Nat.le_of_ble_eq_true rfl, ?_⟩
    change am_wp _ _ _ _ [(0, Value.ref n), (1, Value.int l), (2, Value.int y)] _ _
    obtain ⟨hmn, rfl, hl, hy, h⟩ := h
    have hmn2 := hmn
    obtain ⟨i1, i2, rfl⟩ := hmn2
    repeat' (first | (with_reducible exact hmn) | (with_reducible exact hl) | (with_reducible exact hy) | apply And.intro | exact rfl | intro hx | (refine Exists.intro _ (And.intro rfl ?_)))
    all_goals try first | (with_reducible change am_tI _ _) | (change Ret _ _) | (change Ret _ _ _) | (change Exists _)
    all_goals try dsimp only at *
    all_goals try (with_reducible exact absurd ‹(1000 : Int64) = 0› am_z1000)
    all_goals first
      | (with_reducible exact hl.1)
      | (with_reducible exact hl.2)
      | (with_reducible exact hy.1)
      | (with_reducible exact hy.2)
      | (with_reducible exact h)
      | exact hl.1
      | exact hl.2
      | exact hy.1
      | exact hy.2
      | exact h
  · exact h.elim
set_option maxRecDepth 100000 in
theorem wd_206 : Cond.fieldLink "LearnLoans$Run" 59 "LearnLoans$House" "loans" "LLearnLoans$Rows;" ∈ am_ws := am_wt1 (List.mem_of_getElem? (i := 149) (by rfl)) (by decide +kernel)
set_option maxRecDepth 100000 in
theorem wd_502 : Cond.methodLink "LearnLoans$Run" 66 yX3_at ∈ am_ws := am_wt2 (List.mem_of_getElem? (i := 205) (by rfl)) (by decide +kernel)
set_option maxRecDepth 100000 in
theorem wd_294 : Cond.fieldLink "LearnLoans$Run" 18 "LearnLoans$Run" "numbers" "[I" ∈ am_ws := am_wt1 (List.mem_of_getElem? (i := 237) (by rfl)) (by decide +kernel)
theorem hy_X4_cellOf : yX4_cellOf.cls ≠ "java/lang/invoke/MethodHandle" ∧ yX4_cellOf.cls ≠ "java/lang/invoke/VarHandle" ∧ (parseMethodDescriptor yX4_cellOf.desc).map (fun d => d.parameters.length) = some 2 := ⟨by decide +kernel, by decide +kernel, by decide +kernel⟩
set_option maxRecDepth 100000 in
theorem wd_580 : Cond.methodLink "LearnLoans$Run" 170 yX4_cellOf ∈ am_ws := am_wt3 (List.mem_of_getElem? (i := 43) (by rfl)) (by decide +kernel)
set_option maxRecDepth 100000 in
theorem wd_582 : Cond.instanceMethod yX4_cellOf ∈ am_ws := am_wt3 (List.mem_of_getElem? (i := 45) (by rfl)) (by decide +kernel)
set_option maxRecDepth 100000 in
theorem wd_4 : Cond.selects "LearnLoans$Run" yX4_cellOf yX4_cellOf ∈ am_ws := am_wsi (List.mem_of_getElem? (i := 4) (by rfl)) (by decide +kernel)
set_option maxRecDepth 100000 in
theorem wd_583 : Cond.code yX4_cellOf cX4_cellOf 3 (some .int) ∈ am_ws := am_wt3 (List.mem_of_getElem? (i := 46) (by rfl)) (by decide +kernel)
def rwX4_isStruck : List dz_r := [(0, .iload_n 2, 1), (1, .aload_n 0, 1), (2, .getfield 12, 3), (5, .getfield 59, 3), (8, .iload_n 1, 1), (9, .iconst 2, 1), (10, .invokevirtual 66, 3), (13, .isub, 1), (14, .istore_n 3, 1), (15, .aload_n 0, 1), (16, .getfield 145, 3), (19, .ifCond .ne 20, 3), (22, .iload_n 3, 1), (23, .aload_n 0, 1), (24, .getfield 18, 3), (27, .aload_n 0, 1), (28, .iload_n 1, 1), (29, .iload_n 2, 1), (30, .invokevirtual 170, 3), (33, .iconst 3, 1), (34, .iadd, 1), (35, .iaload, 1), (36, .if_icmp .lt 7, 3), (39, .iconst 1, 1), (40, .goto 4, 3), (43, .iconst 0, 1), (44, .ireturn, 1)]
theorem dzX4_isStruck : dz cX4_isStruck rwX4_isStruck := dz_all 0 (by decide +kernel)
def kX4_isStruck (live : am_E) (Ret : am_R) : am_code := [(0, am_iload 2 1), (1, am_aload 0 2), (2, am_getR live 4 0 5), (5, am_getR live 0 4 8), (8, am_iload 1 9), (9, am_const (.int 2) 10), (10, am_callV live 3 2 TX3_at 13), (13, am_i2 (fun x y => x - y) 14), (14, am_istore 3 4 15), (15, am_aload 0 16), (16, am_getI live 4 18 19), (19, am_if1 (fun x => x = 0) 22 39), (22, am_iload 3 23), (23, am_aload 0 24), (24, am_getR live 4 1 27), (27, am_aload 0 28), (28, am_iload 1 29), (29, am_iload 2 30), (30, am_callV live 4 2 TX4_cellOf 33), (33, am_const (.int 3) 34), (34, am_i2 (fun x y => x + y) 35), (35, am_ald live 0 36), (36, am_if2 (fun x y => x < y) 43 39), (39, am_const (.int 1) 40), (40, am_goto 44), (43, am_const (.int 0) 44), (44, am_retZ Ret)]
theorem koX4_isStruck (live : am_E) (Ret : am_R) : ∀ q ∈ kX4_isStruck live Ret, am_ok RX4 cX4_isStruck 4 (some .boolean) 2 44 live Ret q.1 q.2 :=
  am_kz dzX4_isStruck <|
  am_kd (fun d => ak_iload_n d rfl rfl) <|
  am_kd (fun d => ak_aload_n d rfl rfl) <|
  am_kd (fun d => ak_getR (C := RX4) (T := TX4) (N := 19) rfl inX4w (by decide) rfl rfl rfl wd_291 d rfl) <|
  am_kd (fun d => ak_getR (C := RX0) (T := TX0) (N := 13) rfl inX0w (by decide) rfl rfl rfl wd_206 d rfl) <|
  am_kd (fun d => ak_iload_n d rfl rfl) <|
  am_kd (fun d => ak_iconst d (by decide +kernel) rfl) <|
  am_kd (fun d => ak_callV (C := RX3) (F := TX3) (N := 3) metX3_at rfl ⟨rfl, hy_X3_at⟩ (am_w5 wd_502 wd_503 wd_504 wd_64 wd_505) (by decide) d rfl) <|
  am_kd (fun d => ak_isub d rfl) <|
  am_kd (fun d => ak_istore_n d rfl rfl) <|
  am_kd (fun d => ak_aload_n d rfl rfl) <|
  am_kd (fun d => ak_getI (C := RX4) (T := TX4) (N := 19) rfl inX4w (by decide) rfl rfl rfl wd_315 d rfl) <|
  am_kd (fun d => ak_if_ne d (by decide +kernel) rfl) <|
  am_kd (fun d => ak_iload_n d rfl rfl) <|
  am_kd (fun d => ak_aload_n d rfl rfl) <|
  am_kd (fun d => ak_getR (C := RX4) (T := TX4) (N := 19) rfl inX4w (by decide) rfl rfl rfl wd_294 d rfl) <|
  am_kd (fun d => ak_aload_n d rfl rfl) <|
  am_kd (fun d => ak_iload_n d rfl rfl) <|
  am_kd (fun d => ak_iload_n d rfl rfl) <|
  am_kd (fun d => ak_callV (C := RX4) (F := TX4) (N := 19) metX4_cellOf rfl ⟨rfl, hy_X4_cellOf⟩ (am_w5 wd_580 wd_582 wd_4 wd_60 wd_583) (by decide) d rfl) <|
  am_kd (fun d => ak_iconst d (by decide +kernel) rfl) <|
  am_kd (fun d => ak_iadd d rfl) <|
  am_kd (fun d => ak_iald (t := 0) (fun _ => rfl) rfl d rfl) <|
  am_kd (fun d => ak_icmp_lt d (by decide +kernel) rfl) <|
  am_kd (fun d => ak_iconst d (by decide +kernel) rfl) <|
  am_kd (fun d => ak_goto d (by decide +kernel)) <|
  am_kd (fun d => ak_iconst d (by decide +kernel) rfl) <|
  am_kd (fun d => ak_retZ d) <| am_kdn
def am_cell (M : am_M) (l y k : Int32) : Int32 := M.1 5 ((y * 5 + am_pln M l y) * 6 + k).toNatClampNeg
def am_isStr (M : am_M) (l y : Int32) : Prop := ¬ M.1 4 18 = 0 ∨ ¬ (y - am_loanAt M l 2 < am_cell M l y 3)
theorem am_celly {y p k : Int32} (h2 : am_in y 40) (h3 : am_in p 5) (h4 : am_in k 6) : ((y * 5 + p) * 6 + k).toInt = (y.toInt * 5 + p.toInt) * 6 + k.toInt := by
  obtain ⟨b1, b2⟩ := h2
  obtain ⟨c1, c2⟩ := h3
  obtain ⟨d1, d2⟩ := h4
  have e := i_mul (x := y) (y := 5) (by simp only [Int32.reduceToInt]; omega) (by simp only [Int32.reduceToInt]; omega)
  simp only [Int32.reduceToInt] at e
  have e2 := i_add (x := y * 5) (y := p) (by rw [e]; omega) (by rw [e]; omega)
  have e3 := i_mul (x := y * 5 + p) (y := 6) (by simp only [Int32.reduceToInt]; omega) (by simp only [Int32.reduceToInt]; omega)
  simp only [Int32.reduceToInt] at e3
  rw [i_add (by omega) (by omega)]
  omega
def TX4_isStruck : am_T := fun live as M R => match as with
  | [.ref n, .int l, .int y] => am_mn live ∧ n = 4 ∧ am_in l 30 ∧ am_in y 40 ∧ am_in (am_pln M l y) 5 ∧ (am_isStr M l y → R (some (.int 1)) M) ∧ (¬ am_isStr M l y → R (some (.int 0)) M)
  | _ => False
set_option maxRecDepth 100000 in
set_option maxHeartbeats 4000000 in
theorem metX4_isStruck : am_Met yX4_isStruck cX4_isStruck 4 (some .boolean) (2) (44) TX4_isStruck := by
  refine am_met (own := RX4) (by decide +kernel) rfl kX4_isStruck koX4_isStruck 100 (fun _ _ _ _ _ => none) (fun live as M Ret h => ?_) (fun _ _ _ _ _ _ _ _ hI => by cases hI)
  unfold TX4_isStruck at h
  split at h
  · next n l y =>
    refine ⟨Nat.le_of_ble_eq_true rfl, ?_⟩
    change am_wp _ _ _ _ [(0, Value.ref n), (1, Value.int l), (2, Value.int y)] _ _
    obtain ⟨hmn, rfl, hl, hy, hp, h, hh⟩ := h
    have hmn2 := hmn
    obtain ⟨i1, i2, rfl⟩ := hmn2
    have e := am_celly hy hp (k := 3) ⟨by decide, by decide⟩
    have l5 : am_len 5 = 1200 := rfl
    have l34 : am_len 34 = 240 := rfl
    have k3 : Int32.toInt 3 = 3 := rfl
    obtain ⟨b1, b2⟩ := hy
    obtain ⟨c1, c2⟩ := hp
    repeat' (first | (with_reducible exact hmn) | (with_reducible exact hl) | apply And.intro | exact rfl | intro hx | (refine Exists.intro _ (And.intro rfl ?_)))
    all_goals try first | (with_reducible change am_tI _ _) | (change Ret _ _) | (change Ret _ _ _) | (change Exists _)
    all_goals try dsimp only at *
    all_goals try (with_reducible exact absurd ‹(1000 : Int64) = 0› am_z1000)
    all_goals first
      | (left; rfl)
      | (right; rfl)
      | exact hl.1
      | exact hl.2
      | omega
      | (rw [l5]; omega)
      | exact h (Or.inl hx)
      | exact h (Or.inr hx)
      | (refine hh (fun q => ?_)
         rcases q with q | q
         · exact q (by with_reducible assumption)
         · exact q hx)
  · exact h.elim
