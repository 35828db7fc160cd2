/-! Run: what is safe of it, II -/
set_option maxRecDepth 100000 in
theorem wd_219 : Cond.fieldLink "LearnLoans$Run" 126 "LearnLoans$House" "lives" "[I" ∈ am_ws := am_wt1 (List.mem_of_getElem? (i := 162) (by rfl)) (by decide +kernel)
theorem hy_X4_suppose : yX4_suppose.cls ≠ "java/lang/invoke/MethodHandle" ∧ yX4_suppose.cls ≠ "java/lang/invoke/VarHandle" ∧ (parseMethodDescriptor yX4_suppose.desc).map (fun d => d.parameters.length) = some 3 := ⟨by decide +kernel, by decide +kernel, by decide +kernel⟩
set_option maxRecDepth 100000 in
theorem wd_567 : Cond.methodLink "LearnLoans$Run" 129 yX4_suppose ∈ am_ws := am_wt3 (List.mem_of_getElem? (i := 30) (by rfl)) (by decide +kernel)
set_option maxRecDepth 100000 in
theorem wd_568 : Cond.instanceMethod yX4_suppose ∈ am_ws := am_wt3 (List.mem_of_getElem? (i := 31) (by rfl)) (by decide +kernel)
set_option maxRecDepth 100000 in
theorem wd_569 : Cond.selects "LearnLoans$Run" yX4_suppose yX4_suppose ∈ am_ws := am_wt3 (List.mem_of_getElem? (i := 32) (by rfl)) (by decide +kernel)
set_option maxRecDepth 100000 in
theorem wd_570 : Cond.code yX4_suppose cX4_suppose 4 none ∈ am_ws := am_wt3 (List.mem_of_getElem? (i := 33) (by rfl)) (by decide +kernel)
set_option maxRecDepth 100000 in
theorem wd_305 : Cond.fieldLink "LearnLoans$Run" 46 "LearnLoans$Run" "known" "I" ∈ am_ws := am_wt2 (List.mem_of_getElem? (i := 8) (by rfl)) (by decide +kernel)
theorem hy_X2_earned : yX2_earned.cls ≠ "java/lang/invoke/MethodHandle" ∧ yX2_earned.cls ≠ "java/lang/invoke/VarHandle" ∧ (parseMethodDescriptor yX2_earned.desc).map (fun d => d.parameters.length) = some 3 := ⟨by decide +kernel, by decide +kernel, by decide +kernel⟩
set_option maxRecDepth 100000 in
theorem wd_571 : Cond.methodLink "LearnLoans$Run" 133 yX2_earned ∈ am_ws := am_wt3 (List.mem_of_getElem? (i := 34) (by rfl)) (by decide +kernel)
set_option maxRecDepth 100000 in
theorem wd_459 : Cond.instanceMethod yX2_earned ∈ am_ws := am_wt2 (List.mem_of_getElem? (i := 162) (by rfl)) (by decide +kernel)
set_option maxRecDepth 100000 in
theorem wd_460 : Cond.selects "LearnLoans$People" yX2_earned yX2_earned ∈ am_ws := am_wt2 (List.mem_of_getElem? (i := 163) (by rfl)) (by decide +kernel)
set_option maxRecDepth 100000 in
theorem wd_461 : Cond.code yX2_earned cX2_earned 5 (some .int) ∈ am_ws := am_wt2 (List.mem_of_getElem? (i := 164) (by rfl)) (by decide +kernel)
set_option maxRecDepth 100000 in
theorem wd_112 : Cond.fieldLink "LearnLoans$Run" 137 "LearnLoans$People" "lands" "[I" ∈ am_ws := am_wt1 (List.mem_of_getElem? (i := 55) (by rfl)) (by decide +kernel)
def rwX4_look : List dz_r := [(0, .aload_n 0, 1), (1, .getfield 74, 3), (4, .iconst (-1), 1), (5, .if_icmp .eq 32, 3), (8, .aload_n 0, 1), (9, .aload_n 0, 1), (10, .getfield 12, 3), (13, .getfield 126, 3), (16, .aload_n 0, 1), (17, .getfield 74, 3), (20, .bipush 40, 2), (22, .imul, 1), (23, .iload_n 1, 1), (24, .iadd, 1), (25, .iaload, 1), (26, .iconst 0, 1), (27, .aload_n 0, 1), (28, .getfield 90, 3), (31, .invokevirtual 129, 3), (34, .goto 61, 3), (37, .aload_n 0, 1), (38, .aload_n 0, 1), (39, .getfield 12, 3), (42, .getfield 80, 3), (45, .aload_n 0, 1), (46, .getfield 42, 3), (49, .iload_n 1, 1), (50, .aload_n 0, 1), (51, .getfield 46, 3), (54, .invokevirtual 133, 3), (57, .aload_n 0, 1), (58, .getfield 12, 3), (61, .getfield 80, 3), (64, .getfield 137, 3), (67, .aload_n 0, 1), (68, .getfield 42, 3), (71, .bipush 40, 2), (73, .imul, 1), (74, .iload_n 1, 1), (75, .iadd, 1), (76, .iaload, 1), (77, .aload_n 0, 1), (78, .getfield 12, 3), (81, .getfield 80, 3), (84, .aload_n 0, 1), (85, .getfield 42, 3), (88, .iload_n 1, 1), (89, .invokevirtual 84, 3), (92, .invokevirtual 129, 3), (95, .return_, 1)]
theorem dzX4_look : dz cX4_look rwX4_look := dz_all 0 (by decide +kernel)
def kX4_look (live : am_E) (Ret : am_R) : am_code := [(0, am_aload 0 1), (1, am_getI live 4 11 4), (4, am_const (.int (-1)) 5), (5, am_if2 (fun x y => x = y) 37 8), (8, am_aload 0 9), (9, am_aload 0 10), (10, am_getR live 4 0 13), (13, am_getR live 0 9 16), (16, am_aload 0 17), (17, am_getI live 4 11 20), (20, am_const (.int 40) 22), (22, am_i2 (fun x y => x * y) 23), (23, am_iload 1 24), (24, am_i2 (fun x y => x + y) 25), (25, am_ald live 0 26), (26, am_const (.int 0) 27), (27, am_aload 0 28), (28, am_getI live 4 13 31), (31, am_callV live 4 3 TX4_suppose 34), (34, am_goto 95), (37, am_aload 0 38), (38, am_aload 0 39), (39, am_getR live 4 0 42), (42, am_getR live 0 0 45), (45, am_aload 0 46), (46, am_getI live 4 8 49), (49, am_iload 1 50), (50, am_aload 0 51), (51, am_getI live 4 9 54), (54, am_callV live 2 3 TX2_earned 57), (57, am_aload 0 58), (58, am_getR live 4 0 61), (61, am_getR live 0 0 64), (64, am_getR live 2 2 67), (67, am_aload 0 68), (68, am_getI live 4 8 71), (71, am_const (.int 40) 73), (73, am_i2 (fun x y => x * y) 74), (74, am_iload 1 75), (75, am_i2 (fun x y => x + y) 76), (76, am_ald live 0 77), (77, am_aload 0 78), (78, am_getR live 4 0 81), (81, am_getR live 0 0 84), (84, am_aload 0 85), (85, am_getI live 4 8 88), (88, am_iload 1 89), (89, am_callV live 2 2 TX2_isDead 92), (92, am_callV live 4 3 TX4_suppose 95), (95, am_retV Ret)]
theorem koX4_look (live : am_E) (Ret : am_R) : ∀ q ∈ kX4_look live Ret, am_ok RX4 cX4_look 2 none 1 24 live Ret q.1 q.2 :=
  am_kz dzX4_look <|
  am_kd (fun d => ak_aload_n d rfl rfl) <|
  am_kd (fun d => ak_getI (C := RX4) (T := TX4) (N := 19) rfl inX4w (by decide) rfl rfl rfl wd_307 d rfl) <|
  am_kd (fun d => ak_iconst d (by decide +kernel) rfl) <|
  am_kd (fun d => ak_icmp_eq d (by decide +kernel) rfl) <|
  am_kd (fun d => ak_aload_n d rfl rfl) <|
  am_kd (fun d => ak_aload_n d rfl rfl) <|
  am_kd (fun d => ak_getR (C := RX4) (T := TX4) (N := 19) rfl inX4w (by decide) rfl rfl rfl wd_291 d rfl) <|
  am_kd (fun d => ak_getR (C := RX0) (T := TX0) (N := 13) rfl inX0w (by decide) rfl rfl rfl wd_219 d rfl) <|
  am_kd (fun d => ak_aload_n d rfl rfl) <|
  am_kd (fun d => ak_getI (C := RX4) (T := TX4) (N := 19) rfl inX4w (by decide) rfl rfl rfl wd_307 d rfl) <|
  am_kd (fun d => ak_bipush d (by decide +kernel) rfl) <|
  am_kd (fun d => ak_imul d rfl) <|
  am_kd (fun d => ak_iload_n d rfl rfl) <|
  am_kd (fun d => ak_iadd d rfl) <|
  am_kd (fun d => ak_iald (t := 0) (fun _ => rfl) rfl d rfl) <|
  am_kd (fun d => ak_iconst d (by decide +kernel) rfl) <|
  am_kd (fun d => ak_aload_n d rfl rfl) <|
  am_kd (fun d => ak_getI (C := RX4) (T := TX4) (N := 19) rfl inX4w (by decide) rfl rfl rfl wd_309 d rfl) <|
  am_kd (fun d => ak_callV (C := RX4) (F := TX4) (N := 19) metX4_suppose rfl ⟨rfl, hy_X4_suppose⟩ (am_w5 wd_567 wd_568 wd_569 wd_60 wd_570) (by decide) d rfl) <|
  am_kd (fun d => ak_goto d (by decide +kernel)) <|
  am_kd (fun d => ak_aload_n d rfl rfl) <|
  am_kd (fun d => ak_aload_n d rfl rfl) <|
  am_kd (fun d => ak_getR (C := RX4) (T := TX4) (N := 19) rfl inX4w (by decide) rfl rfl rfl wd_291 d rfl) <|
  am_kd (fun d => ak_getR (C := RX0) (T := TX0) (N := 13) rfl inX0w (by decide) rfl rfl rfl wd_195 d rfl) <|
  am_kd (fun d => ak_aload_n d rfl rfl) <|
  am_kd (fun d => ak_getI (C := RX4) (T := TX4) (N := 19) rfl inX4w (by decide) rfl rfl rfl wd_304 d rfl) <|
  am_kd (fun d => ak_iload_n d rfl rfl) <|
  am_kd (fun d => ak_aload_n d rfl rfl) <|
  am_kd (fun d => ak_getI (C := RX4) (T := TX4) (N := 19) rfl inX4w (by decide) rfl rfl rfl wd_305 d rfl) <|
  am_kd (fun d => ak_callV (C := RX2) (F := TX2) (N := 8) metX2_earned rfl ⟨rfl, hy_X2_earned⟩ (am_w5 wd_571 wd_459 wd_460 wd_62 wd_461) (by decide) d rfl) <|
  am_kd (fun d => ak_aload_n d rfl rfl) <|
  am_kd (fun d => ak_getR (C := RX4) (T := TX4) (N := 19) rfl inX4w (by decide) rfl rfl rfl wd_291 d rfl) <|
  am_kd (fun d => ak_getR (C := RX0) (T := TX0) (N := 13) rfl inX0w (by decide) rfl rfl rfl wd_195 d rfl) <|
  am_kd (fun d => ak_getR (C := RX2) (T := TX2) (N := 8) rfl inX2w (by decide) rfl rfl rfl wd_112 d rfl) <|
  am_kd (fun d => ak_aload_n d rfl rfl) <|
  am_kd (fun d => ak_getI (C := RX4) (T := TX4) (N := 19) rfl inX4w (by decide) rfl rfl rfl wd_304 d rfl) <|
  am_kd (fun d => ak_bipush d (by decide +kernel) rfl) <|
  am_kd (fun d => ak_imul d rfl) <|
  am_kd (fun d => ak_iload_n d rfl rfl) <|
  am_kd (fun d => ak_iadd d rfl) <|
  am_kd (fun d => ak_iald (t := 0) (fun _ => rfl) rfl d rfl) <|
  am_kd (fun d => ak_aload_n d rfl rfl) <|
  am_kd (fun d => ak_getR (C := RX4) (T := TX4) (N := 19) rfl inX4w (by decide) rfl rfl rfl wd_291 d rfl) <|
  am_kd (fun d => ak_getR (C := RX0) (T := TX0) (N := 13) rfl inX0w (by decide) rfl rfl rfl wd_195 d rfl) <|
  am_kd (fun d => ak_aload_n d rfl rfl) <|
  am_kd (fun d => ak_getI (C := RX4) (T := TX4) (N := 19) rfl inX4w (by decide) rfl rfl rfl wd_304 d rfl) <|
  am_kd (fun d => ak_iload_n d rfl rfl) <|
  am_kd (fun d => ak_callV (C := RX2) (F := TX2) (N := 8) metX2_isDead rfl ⟨rfl, hy_X2_isDead⟩ (am_w5 wd_554 wd_555 wd_556 wd_62 wd_557) (by decide) d rfl) <|
  am_kd (fun d => ak_callV (C := RX4) (F := TX4) (N := 19) metX4_suppose rfl ⟨rfl, hy_X4_suppose⟩ (am_w5 wd_567 wd_568 wd_569 wd_60 wd_570) (by decide) d rfl) <|
  am_kd (fun d => ak_retV d) <| am_kdn
def TX4_look : am_T := fun live as M R => match as with
  | [.ref n, .int y] => am_mn live ∧ n = 4 ∧ am_in y 40 ∧ g_rI M ∧ ∀ M', g_sc M M' → g_rI M' → R none M'
  | _ => False
theorem g_40 {a y : Int32} {n : Nat} (hn : n ≤ 100) (h1 : am_in a n) (h2 : am_in y 40) : (a * 40 + y).toInt = a.toInt * 40 + y.toInt := by
  obtain ⟨a1, a2⟩ := h1
  obtain ⟨b1, b2⟩ := h2
  have e := i_mul (x := a) (y := 40) (by simp only [Int32.reduceToInt]; omega) (by simp only [Int32.reduceToInt]; omega)
  simp only [Int32.reduceToInt] at e
  rw [i_add (by rw [e]; omega) (by rw [e]; omega), e]
theorem g_01 (q : Prop) [Decidable q] : (if q then (1 : Int32) else 0) = 0 ∨ (if q then (1 : Int32) else 0) = 1 := by
  split
  · exact Or.inr rfl
  · exact Or.inl rfl
theorem g_d2 {x : Int32} (h : am_in x 2) : x = 0 ∨ x = 1 := by
  obtain ⟨h1, h2⟩ := h
  simp only [i_eq, Int32.reduceToInt]
  omega
set_option maxRecDepth 100000 in
set_option maxHeartbeats 4000000 in
theorem metX4_look : am_Met yX4_look cX4_look 2 none (1) (24) TX4_look := by
  refine am_met (own := RX4) (by decide +kernel) rfl kX4_look koX4_look 100 (fun _ _ _ _ _ => none) (fun live as M Ret h => ?_) (fun _ _ _ _ _ _ _ _ hI => by cases hI)
  unfold TX4_look at h
  split at h
  · next n y =>
    refine ⟨Nat.le_of_ble_eq_true rfl, ?_⟩
    change am_wp _ _ _ _ [(0, Value.ref n), (1, Value.int y)] _ _
    obtain ⟨hmn, rfl, hy, hr, h⟩ := h
    have hmn2 := hmn
    obtain ⟨i1, i2, rfl⟩ := hmn2
    have l56 : am_len 56 = 160 := rfl
    have l24 : am_len 24 = 480 := rfl
    have hp := hr.s.pe
    have ep := g_40 (by decide) hp hy
    have hy1 := hy.1
    have hy2 := hy.2
    have hp1 := hp.1
    have hp2 := hp.2
    have hld := hr.t.ld (k := (M.1 4 8 * 40 + y).toNatClampNeg) (by have := i_clamp (x := M.1 4 8 * 40 + y) (by omega); omega)
    by_cases hz : M.1 4 11 = -1
    · skip
      repeat' (first | (with_reducible exact hmn) | (with_reducible exact hp) | apply And.intro | exact rfl | (intro hx; with_reducible exact absurd hz hx) | intro hx | (refine Exists.intro _ (And.intro rfl ?_)))
      all_goals try first | (with_reducible change am_tI _ _) | (change Ret _ _) | (change Ret _ _ _) | (change Exists _)
      all_goals try dsimp only at *
      all_goals try (with_reducible exact absurd ‹(1000 : Int64) = 0› am_z1000)
      all_goals first
        | (with_reducible exact hp.1)
        | (with_reducible exact hp.2)
        | (with_reducible exact g_01 _)
        | (rw [ep]; omega)
        | (rw [ep, l24]; omega)
        | exact hp.1
        | exact hp.2
        | exact g_01 _
        | skip
      exact h _ (((g_sc.rf.wI rfl).wI rfl).wI rfl) (((hr.wF rfl).w417 hld).wF rfl)
    · have hl := hr.s.li.resolve_left hz
      have el := g_40 (by decide) hl hy
      have hl1 := hl.1
      have hl2 := hl.2
      repeat' (first | (with_reducible exact hmn) | apply And.intro | exact rfl | (intro hx; with_reducible exact absurd hx hz) | intro hx | (refine Exists.intro _ (And.intro rfl ?_)))
      all_goals try first | (with_reducible change am_tI _ _) | (change Ret _ _) | (change Ret _ _ _) | (change Exists _)
      all_goals try dsimp only at *
      all_goals try (with_reducible exact absurd ‹(1000 : Int64) = 0› am_z1000)
      all_goals first
        | (left; rfl)
        | (rw [el]; omega)
        | (rw [el, l56]; omega)
        | (with_reducible exact g_d2 hr.s.da)
        | exact g_d2 hr.s.da
        | skip
      exact h _ (((g_sc.rf.wI rfl).wI rfl).wI rfl) (((hr.wF rfl).w417 ⟨by decide, by decide⟩).wF rfl)
  · exact h.elim
set_option maxRecDepth 100000 in
theorem wd_214 : Cond.fieldLink "LearnLoans$Run" 193 "LearnLoans$House" "texts" "[LLearnLoans$Text;" ∈ am_ws := am_wt1 (List.mem_of_getElem? (i := 157) (by rfl)) (by decide +kernel)
set_option maxRecDepth 100000 in
theorem wd_176 : Cond.fieldLink "LearnLoans$Run" 197 "LearnLoans$Text" "wrong" "I" ∈ am_ws := am_wt1 (List.mem_of_getElem? (i := 119) (by rfl)) (by decide +kernel)
set_option maxRecDepth 100000 in
theorem wd_301 : Cond.fieldLink "LearnLoans$Run" 35 "LearnLoans$Run" "letters" "LLearnLoans$Letters;" ∈ am_ws := am_wt2 (List.mem_of_getElem? (i := 4) (by rfl)) (by decide +kernel)
set_option maxRecDepth 100000 in
theorem wd_262 : Cond.fieldLink "LearnLoans$Run" 202 "LearnLoans$Letters" "rate" "J" ∈ am_ws := am_wt1 (List.mem_of_getElem? (i := 205) (by rfl)) (by decide +kernel)
set_option maxRecDepth 100000 in
theorem wd_201 : Cond.fieldLink "LearnLoans$Run" 205 "LearnLoans$House" "prices" "[I" ∈ am_ws := am_wt1 (List.mem_of_getElem? (i := 144) (by rfl)) (by decide +kernel)
set_option maxRecDepth 100000 in
theorem wd_264 : Cond.fieldLink "LearnLoans$Run" 208 "LearnLoans$Letters" "prices" "J" ∈ am_ws := am_wt1 (List.mem_of_getElem? (i := 207) (by rfl)) (by decide +kernel)
set_option maxRecDepth 100000 in
theorem wd_266 : Cond.fieldLink "LearnLoans$Run" 210 "LearnLoans$Letters" "earned" "J" ∈ am_ws := am_wt1 (List.mem_of_getElem? (i := 209) (by rfl)) (by decide +kernel)
set_option maxRecDepth 100000 in
theorem wd_268 : Cond.fieldLink "LearnLoans$Run" 212 "LearnLoans$Letters" "line" "J" ∈ am_ws := am_wt1 (List.mem_of_getElem? (i := 211) (by rfl)) (by decide +kernel)
set_option maxRecDepth 100000 in
theorem wd_270 : Cond.fieldLink "LearnLoans$Run" 215 "LearnLoans$Letters" "years" "J" ∈ am_ws := am_wt1 (List.mem_of_getElem? (i := 213) (by rfl)) (by decide +kernel)
set_option maxRecDepth 100000 in
theorem wd_272 : Cond.fieldLink "LearnLoans$Run" 218 "LearnLoans$Letters" "owed" "J" ∈ am_ws := am_wt1 (List.mem_of_getElem? (i := 215) (by rfl)) (by decide +kernel)
set_option maxRecDepth 100000 in
theorem wd_274 : Cond.fieldLink "LearnLoans$Run" 221 "LearnLoans$Letters" "land" "J" ∈ am_ws := am_wt1 (List.mem_of_getElem? (i := 217) (by rfl)) (by decide +kernel)
set_option maxRecDepth 100000 in
theorem wd_302 : Cond.fieldLink "LearnLoans$Run" 39 "LearnLoans$Run" "stack" "[J" ∈ am_ws := am_wt2 (List.mem_of_getElem? (i := 5) (by rfl)) (by decide +kernel)
theorem hy_X5_worked : yX5_worked.cls ≠ "java/lang/invoke/MethodHandle" ∧ yX5_worked.cls ≠ "java/lang/invoke/VarHandle" ∧ (parseMethodDescriptor yX5_worked.desc).map (fun d => d.parameters.length) = some 2 := ⟨by decide +kernel, by decide +kernel, by decide +kernel⟩
set_option maxRecDepth 100000 in
theorem wd_592 : Cond.methodLink "LearnLoans$Run" 223 yX5_worked ∈ am_ws := am_wt3 (List.mem_of_getElem? (i := 55) (by rfl)) (by decide +kernel)
set_option maxRecDepth 100000 in
theorem wd_593 : Cond.instanceMethod yX5_worked ∈ am_ws := am_wt3 (List.mem_of_getElem? (i := 56) (by rfl)) (by decide +kernel)
set_option maxRecDepth 100000 in
theorem wd_594 : Cond.selects "LearnLoans$Text" yX5_worked yX5_worked ∈ am_ws := am_wt3 (List.mem_of_getElem? (i := 57) (by rfl)) (by decide +kernel)
set_option maxRecDepth 100000 in
theorem wd_595 : Cond.code yX5_worked cX5_worked 7 (some .long) ∈ am_ws := am_wt3 (List.mem_of_getElem? (i := 58) (by rfl)) (by decide +kernel)
set_option maxRecDepth 100000 in
theorem wd_606 : Cond.constantLong "LearnLoans$Run" 227 500 ∈ am_ws := am_wt3 (List.mem_of_getElem? (i := 69) (by rfl)) (by decide +kernel)
def rwX4_rateOf : List dz_r := [(0, .aload_n 0, 1), (1, .iload_n 1, 1), (2, .iload_n 2, 1), (3, .invokevirtual 170, 3), (6, .istore_n 3, 1), (7, .aload_n 0, 1), (8, .getfield 12, 3), (11, .getfield 193, 3), (14, .aload_n 0, 1), (15, .iload_n 1, 1), (16, .iload_n 2, 1), (17, .invokevirtual 190, 3), (20, .aaload, 1), (21, .astore 4, 2), (23, .aload 4, 2), (25, .getfield 197, 3), (28, .iconst (-1), 1), (29, .if_icmp .eq 12, 3), (32, .aload_n 0, 1), (33, .getfield 18, 3), (36, .iload_n 3, 1), (37, .iconst 2, 1), (38, .iadd, 1), (39, .iaload, 1), (40, .ireturn, 1), (41, .aload_n 0, 1), (42, .getfield 35, 3), (45, .aload_n 0, 1), (46, .getfield 18, 3), (49, .iload_n 3, 1), (50, .iconst 2, 1), (51, .iadd, 1), (52, .iaload, 1), (53, .i2l, 1), (54, .putfield 202, 3), (57, .aload_n 0, 1), (58, .getfield 35, 3), (61, .aload_n 0, 1), (62, .getfield 12, 3), (65, .getfield 205, 3), (68, .iload_n 2, 1), (69, .iaload, 1), (70, .i2l, 1), (71, .putfield 208, 3), (74, .aload_n 0, 1), (75, .getfield 35, 3), (78, .aload_n 0, 1), (79, .getfield 140, 3), (82, .i2l, 1), (83, .putfield 210, 3), (86, .aload_n 0, 1), (87, .getfield 35, 3), (90, .aload_n 0, 1), (91, .getfield 18, 3), (94, .iload_n 3, 1), (95, .iconst 0, 1), (96, .iadd, 1), (97, .iaload, 1), (98, .i2l, 1), (99, .putfield 212, 3), (102, .aload_n 0, 1), (103, .getfield 35, 3), (106, .iload_n 2, 1), (107, .aload_n 0, 1), (108, .getfield 12, 3), (111, .getfield 59, 3), (114, .iload_n 1, 1), (115, .iconst 2, 1), (116, .invokevirtual 66, 3), (119, .isub, 1), (120, .i2l, 1), (121, .putfield 215, 3), (124, .aload_n 0, 1), (125, .getfield 35, 3), (128, .aload_n 0, 1), (129, .getfield 22, 3), (132, .iconst 0, 1), (133, .iload_n 1, 1), (134, .iadd, 1), (135, .laload, 1), (136, .putfield 218, 3), (139, .aload_n 0, 1), (140, .getfield 35, 3), (143, .aload_n 0, 1), (144, .getfield 142, 3), (147, .i2l, 1), (148, .putfield 221, 3), (151, .aload 4, 2), (153, .aload_n 0, 1), (154, .getfield 35, 3), (157, .aload_n 0, 1), (158, .getfield 39, 3), (161, .invokevirtual 223, 3), (164, .lstore 5, 2), (166, .lconst 0, 1), (167, .ldc2_w 227, 3), (170, .lload 5, 2), (172, .invokestatic 177, 3), (175, .invokestatic 229, 3), (178, .l2i, 1), (179, .ireturn, 1)]
theorem dzX4_rateOf : dz cX4_rateOf rwX4_rateOf := dz_all 0 (by decide +kernel)
def kX4_rateOf (live : am_E) (Ret : am_R) : am_code := [(0, am_aload 0 1), (1, am_iload 1 2), (2, am_iload 2 3), (3, am_callV live 4 2 TX4_cellOf 6), (6, am_istore 3 7 7), (7, am_aload 0 8), (8, am_getR live 4 0 11), (11, am_getR live 0 7 14), (14, am_aload 0 15), (15, am_iload 1 16), (16, am_iload 2 17), (17, am_callV live 4 2 TX4_planIn 20), (20, am_aald live 3 21), (21, am_astore 4 7 23), (23, am_aload 4 25), (25, am_getI live 5 6 28), (28, am_const (.int (-1)) 29), (29, am_if2 (fun x y => x = y) 41 32), (32, am_aload 0 33), (33, am_getR live 4 1 36), (36, am_iload 3 37), (37, am_const (.int 2) 38), (38, am_i2 (fun x y => x + y) 39), (39, am_ald live 0 40), (40, am_retI Ret), (41, am_aload 0 42), (42, am_getR live 4 5 45), (45, am_aload 0 46), (46, am_getR live 4 1 49), (49, am_iload 3 50), (50, am_const (.int 2) 51), (51, am_i2 (fun x y => x + y) 52), (52, am_ald live 0 53), (53, am_i2l 54), (54, am_putJ live 1 0 57), (57, am_aload 0 58), (58, am_getR live 4 5 61), (61, am_aload 0 62), (62, am_getR live 4 0 65), (65, am_getR live 0 2 68), (68, am_iload 2 69), (69, am_ald live 0 70), (70, am_i2l 71), (71, am_putJ live 1 1 74), (74, am_aload 0 75), (75, am_getR live 4 5 78), (78, am_aload 0 79), (79, am_getI live 4 16 82), (82, am_i2l 83), (83, am_putJ live 1 2 86), (86, am_aload 0 87), (87, am_getR live 4 5 90), (90, am_aload 0 91), (91, am_getR live 4 1 94), (94, am_iload 3 95), (95, am_const (.int 0) 96), (96, am_i2 (fun x y => x + y) 97), (97, am_ald live 0 98), (98, am_i2l 99), (99, am_putJ live 1 3 102), (102, am_aload 0 103), (103, am_getR live 4 5 106), (106, am_iload 2 107), (107, am_aload 0 108), (108, am_getR live 4 0 111), (111, am_getR live 0 4 114), (114, am_iload 1 115), (115, am_const (.int 2) 116), (116, am_callV live 3 2 TX3_at 119), (119, am_i2 (fun x y => x - y) 120), (120, am_i2l 121), (121, am_putJ live 1 4 124), (124, am_aload 0 125), (125, am_getR live 4 5 128), (128, am_aload 0 129), (129, am_getR live 4 2 132), (132, am_const (.int 0) 133), (133, am_iload 1 134), (134, am_i2 (fun x y => x + y) 135), (135, am_lald live 1 136), (136, am_putJ live 1 5 139), (139, am_aload 0 140), (140, am_getR live 4 5 143), (143, am_aload 0 144), (144, am_getI live 4 17 147), (147, am_i2l 148), (148, am_putJ live 1 6 151), (151, am_aload 4 153), (153, am_aload 0 154), (154, am_getR live 4 5 157), (157, am_aload 0 158), (158, am_getR live 4 6 161), (161, am_callV live 5 2 TX5_worked 164), (164, am_lstore 5 7 166), (166, am_const (.long 0) 167), (167, am_const (.long 500) 170), (170, am_lload 5 172), (172, am_mathl (fun x y => if y < x then y else x) 50 175), (175, am_mathl (fun x y => if y < x then x else y) 50 178), (178, am_l2i 179), (179, am_retI Ret)]
theorem koX4_rateOf (live : am_E) (Ret : am_R) : ∀ q ∈ kX4_rateOf live Ret, am_ok RX4 cX4_rateOf 7 (some .int) 2 50 live Ret q.1 q.2 :=
  am_kz dzX4_rateOf <|
  am_kd (fun d => ak_aload_n d rfl rfl) <|
  am_kd (fun d => ak_iload_n d rfl rfl) <|
  am_kd (fun d => ak_iload_n d rfl rfl) <|
  am_kd (fun d => ak_callV (C := RX4) (F := TX4) (N := 19) metX4_cellOf rfl ⟨rfl, hy_X4_cellOf⟩ (am_w5 wd_580 wd_582 wd_4 wd_60 wd_583) (by decide) d rfl) <|
  am_kd (fun d => ak_istore_n d rfl rfl) <|
  am_kd (fun d => ak_aload_n d rfl rfl) <|
  am_kd (fun d => ak_getR (C := RX4) (T := TX4) (N := 19) rfl inX4w (by decide) rfl rfl rfl wd_291 d rfl) <|
  am_kd (fun d => ak_getR (C := RX0) (T := TX0) (N := 13) rfl inX0w (by decide) rfl rfl rfl wd_214 d rfl) <|
  am_kd (fun d => ak_aload_n d rfl rfl) <|
  am_kd (fun d => ak_iload_n d rfl rfl) <|
  am_kd (fun d => ak_iload_n d rfl rfl) <|
  am_kd (fun d => ak_callV (C := RX4) (F := TX4) (N := 19) metX4_planIn rfl ⟨rfl, hy_X4_planIn⟩ (am_w5 wd_584 wd_586 wd_5 wd_60 wd_587) (by decide) d rfl) <|
  am_kd (fun d => ak_aald (t := 3) (fun _ => rfl) rfl d rfl) <|
  am_kd (fun d => ak_astore d rfl) <|
  am_kd (fun d => ak_aload d rfl) <|
  am_kd (fun d => ak_getI (C := RX5) (T := TX5) (N := 7) rfl inX5w (by decide) rfl rfl rfl wd_176 d rfl) <|
  am_kd (fun d => ak_iconst d (by decide +kernel) rfl) <|
  am_kd (fun d => ak_icmp_eq d (by decide +kernel) rfl) <|
  am_kd (fun d => ak_aload_n d rfl rfl) <|
  am_kd (fun d => ak_getR (C := RX4) (T := TX4) (N := 19) rfl inX4w (by decide) rfl rfl rfl wd_294 d rfl) <|
  am_kd (fun d => ak_iload_n d rfl rfl) <|
  am_kd (fun d => ak_iconst d (by decide +kernel) rfl) <|
  am_kd (fun d => ak_iadd d rfl) <|
  am_kd (fun d => ak_iald (t := 0) (fun _ => rfl) rfl d rfl) <|
  am_kd (fun d => ak_retI d) <|
  am_kd (fun d => ak_aload_n d rfl rfl) <|
  am_kd (fun d => ak_getR (C := RX4) (T := TX4) (N := 19) rfl inX4w (by decide) rfl rfl rfl wd_301 d rfl) <|
  am_kd (fun d => ak_aload_n d rfl rfl) <|
  am_kd (fun d => ak_getR (C := RX4) (T := TX4) (N := 19) rfl inX4w (by decide) rfl rfl rfl wd_294 d rfl) <|
  am_kd (fun d => ak_iload_n d rfl rfl) <|
  am_kd (fun d => ak_iconst d (by decide +kernel) rfl) <|
  am_kd (fun d => ak_iadd d rfl) <|
  am_kd (fun d => ak_iald (t := 0) (fun _ => rfl) rfl d rfl) <|
  am_kd (fun d => ak_i2l d rfl) <|
  am_kd (fun d => ak_putJ (C := RX1) (T := TX1) (N := 7) rfl inX1w tyX1_ok nmX1 (by decide) rfl rfl rfl rfl (by decide +kernel) wd_262 d rfl) <|
  am_kd (fun d => ak_aload_n d rfl rfl) <|
  am_kd (fun d => ak_getR (C := RX4) (T := TX4) (N := 19) rfl inX4w (by decide) rfl rfl rfl wd_301 d rfl) <|
  am_kd (fun d => ak_aload_n d rfl rfl) <|
  am_kd (fun d => ak_getR (C := RX4) (T := TX4) (N := 19) rfl inX4w (by decide) rfl rfl rfl wd_291 d rfl) <|
  am_kd (fun d => ak_getR (C := RX0) (T := TX0) (N := 13) rfl inX0w (by decide) rfl rfl rfl wd_201 d rfl) <|
  am_kd (fun d => ak_iload_n d rfl rfl) <|
  am_kd (fun d => ak_iald (t := 0) (fun _ => rfl) rfl d rfl) <|
  am_kd (fun d => ak_i2l d rfl) <|
  am_kd (fun d => ak_putJ (C := RX1) (T := TX1) (N := 7) rfl inX1w tyX1_ok nmX1 (by decide) rfl rfl rfl rfl (by decide +kernel) wd_264 d rfl) <|
  am_kd (fun d => ak_aload_n d rfl rfl) <|
  am_kd (fun d => ak_getR (C := RX4) (T := TX4) (N := 19) rfl inX4w (by decide) rfl rfl rfl wd_301 d rfl) <|
  am_kd (fun d => ak_aload_n d rfl rfl) <|
  am_kd (fun d => ak_getI (C := RX4) (T := TX4) (N := 19) rfl inX4w (by decide) rfl rfl rfl wd_313 d rfl) <|
  am_kd (fun d => ak_i2l d rfl) <|
  am_kd (fun d => ak_putJ (C := RX1) (T := TX1) (N := 7) rfl inX1w tyX1_ok nmX1 (by decide) rfl rfl rfl rfl (by decide +kernel) wd_266 d rfl) <|
  am_kd (fun d => ak_aload_n d rfl rfl) <|
  am_kd (fun d => ak_getR (C := RX4) (T := TX4) (N := 19) rfl inX4w (by decide) rfl rfl rfl wd_301 d rfl) <|
  am_kd (fun d => ak_aload_n d rfl rfl) <|
  am_kd (fun d => ak_getR (C := RX4) (T := TX4) (N := 19) rfl inX4w (by decide) rfl rfl rfl wd_294 d rfl) <|
  am_kd (fun d => ak_iload_n d rfl rfl) <|
  am_kd (fun d => ak_iconst d (by decide +kernel) rfl) <|
  am_kd (fun d => ak_iadd d rfl) <|
  am_kd (fun d => ak_iald (t := 0) (fun _ => rfl) rfl d rfl) <|
  am_kd (fun d => ak_i2l d rfl) <|
  am_kd (fun d => ak_putJ (C := RX1) (T := TX1) (N := 7) rfl inX1w tyX1_ok nmX1 (by decide) rfl rfl rfl rfl (by decide +kernel) wd_268 d rfl) <|
  am_kd (fun d => ak_aload_n d rfl rfl) <|
  am_kd (fun d => ak_getR (C := RX4) (T := TX4) (N := 19) rfl inX4w (by decide) rfl rfl rfl wd_301 d rfl) <|
  am_kd (fun d => ak_iload_n d rfl rfl) <|
  am_kd (fun d => ak_aload_n d rfl rfl) <|
  am_kd (fun d => ak_getR (C := RX4) (T := TX4) (N := 19) rfl inX4w (by decide) rfl rfl rfl wd_291 d rfl) <|
  am_kd (fun d => ak_getR (C := RX0) (T := TX0) (N := 13) rfl inX0w (by decide) rfl rfl rfl wd_206 d rfl) <|
  am_kd (fun d => ak_iload_n d rfl rfl) <|
  am_kd (fun d => ak_iconst d (by decide +kernel) rfl) <|
  am_kd (fun d => ak_callV (C := RX3) (F := TX3) (N := 3) metX3_at rfl ⟨rfl, hy_X3_at⟩ (am_w5 wd_502 wd_503 wd_504 wd_64 wd_505) (by decide) d rfl) <|
  am_kd (fun d => ak_isub d rfl) <|
  am_kd (fun d => ak_i2l d rfl) <|
  am_kd (fun d => ak_putJ (C := RX1) (T := TX1) (N := 7) rfl inX1w tyX1_ok nmX1 (by decide) rfl rfl rfl rfl (by decide +kernel) wd_270 d rfl) <|
  am_kd (fun d => ak_aload_n d rfl rfl) <|
  am_kd (fun d => ak_getR (C := RX4) (T := TX4) (N := 19) rfl inX4w (by decide) rfl rfl rfl wd_301 d rfl) <|
  am_kd (fun d => ak_aload_n d rfl rfl) <|
  am_kd (fun d => ak_getR (C := RX4) (T := TX4) (N := 19) rfl inX4w (by decide) rfl rfl rfl wd_296 d rfl) <|
  am_kd (fun d => ak_iconst d (by decide +kernel) rfl) <|
  am_kd (fun d => ak_iload_n d rfl rfl) <|
  am_kd (fun d => ak_iadd d rfl) <|
  am_kd (fun d => ak_lald (t := 1) (fun _ => rfl) rfl d rfl) <|
  am_kd (fun d => ak_putJ (C := RX1) (T := TX1) (N := 7) rfl inX1w tyX1_ok nmX1 (by decide) rfl rfl rfl rfl (by decide +kernel) wd_272 d rfl) <|
  am_kd (fun d => ak_aload_n d rfl rfl) <|
  am_kd (fun d => ak_getR (C := RX4) (T := TX4) (N := 19) rfl inX4w (by decide) rfl rfl rfl wd_301 d rfl) <|
  am_kd (fun d => ak_aload_n d rfl rfl) <|
  am_kd (fun d => ak_getI (C := RX4) (T := TX4) (N := 19) rfl inX4w (by decide) rfl rfl rfl wd_314 d rfl) <|
  am_kd (fun d => ak_i2l d rfl) <|
  am_kd (fun d => ak_putJ (C := RX1) (T := TX1) (N := 7) rfl inX1w tyX1_ok nmX1 (by decide) rfl rfl rfl rfl (by decide +kernel) wd_274 d rfl) <|
  am_kd (fun d => ak_aload d rfl) <|
  am_kd (fun d => ak_aload_n d rfl rfl) <|
  am_kd (fun d => ak_getR (C := RX4) (T := TX4) (N := 19) rfl inX4w (by decide) rfl rfl rfl wd_301 d rfl) <|
  am_kd (fun d => ak_aload_n d rfl rfl) <|
  am_kd (fun d => ak_getR (C := RX4) (T := TX4) (N := 19) rfl inX4w (by decide) rfl rfl rfl wd_302 d rfl) <|
  am_kd (fun d => ak_callV (C := RX5) (F := TX5) (N := 7) metX5_worked rfl ⟨rfl, hy_X5_worked⟩ (am_w5 wd_592 wd_593 wd_594 wd_65 wd_595) (by decide) d rfl) <|
  am_kd (fun d => ak_lstore d rfl) <|
  am_kd (fun d => ak_lconst d (by decide +kernel) rfl) <|
  am_kd (fun d => ak_ldc2 wd_606 d rfl) <|
  am_kd (fun d => ak_lload d rfl) <|
  am_kd (fun d => ak_lmin (am_w4 wd_607 wd_608 wd_68 wd_609) (by decide) d rfl) <|
  am_kd (fun d => ak_lmax (am_w4 wd_610 wd_611 wd_68 wd_612) (by decide) d rfl) <|
  am_kd (fun d => ak_l2i d rfl) <|
  am_kd (fun d => ak_retI d) <| am_kdn
def TX4_rateOf : am_T := fun live as M R => match as with
  | [.ref n, .int l, .int y] => am_mn live ∧ n = 4 ∧ am_in l 30 ∧ am_in y 40 ∧ g_rI M ∧ ∀ v M', g_sc M M' → g_rI M' → R (some (.int v)) M'
  | _ => False
set_option maxRecDepth 100000 in
set_option maxHeartbeats 4000000 in
theorem metX4_rateOf : am_Met yX4_rateOf cX4_rateOf 7 (some .int) (2) (50) TX4_rateOf := by
  refine am_met (own := RX4) (by decide +kernel) rfl kX4_rateOf koX4_rateOf 150 (fun _ _ _ _ _ => none) (fun live as M Ret h => ?_) (fun _ _ _ _ _ _ _ _ hI => by cases hI)
  unfold TX4_rateOf at h
  split at h
  · next n l y =>
    refine ⟨Nat.le_of_ble_eq_true rfl, ?_⟩
    change am_wp _ _ _ _ [(0, Value.ref n), (1, Value.int l), (2, Value.int y)] _ _
    obtain ⟨hmn, rfl, hl, hy, hr, h⟩ := h
    have hp := hr.pln hl hy
    obtain ⟨t, s, c, h2, k1, k2, k3, h1, ht, -, -, -, k4⟩ := g_txt hmn hp
    have hmn2 := hmn
    obtain ⟨i1, i2, rfl⟩ := hmn2
    have e0 := am_celly hy hp (k := 0) ⟨by decide, by decide⟩
    have e2 := am_celly hy hp (k := 2) ⟨by decide, by decide⟩
    have f0 := g_ix hl 0 0 rfl (by decide)
    have l5 : am_len 5 = 1200 := rfl
    have l6 : am_len 6 = 180 := rfl
    have l30 : am_len 30 = 40 := rfl
    have l38 : am_len 38 = 5 := rfl
    have k0 : Int32.toInt 0 = 0 := rfl
    have k22 : Int32.toInt 2 = 2 := rfl
    have hy1 := hy.1
    have hy2 := hy.2
    have hp1 := hp.1
    have hp2 := hp.2
    repeat' (first | (with_reducible exact hmn) | (with_reducible exact hl) | (with_reducible exact hy) | (with_reducible exact h1) | (with_reducible exact h2) | (refine Exists.intro _ (And.intro h2 ?_)) | apply And.intro | exact rfl | intro hx | (refine Exists.intro _ (And.intro rfl ?_)) | (refine am_tP_in k1 k2 k3 ?_) | ((with_reducible change _ = true); simp only [h1, h2, Bool.true_and]; rfl))
    all_goals try first | (with_reducible change am_tI _ _) | (change Ret _ _) | (change Ret _ _ _) | (change Exists _)
    all_goals try dsimp only at *
    all_goals try (with_reducible exact absurd ‹(1000 : Int64) = 0› am_z1000)
    all_goals first
      | omega
      | (rw [l5]; omega)
      | (rw [l38]; omega)
      | (rw [l30]; omega)
      | (with_reducible exact f0.1)
      | (rw [l6]; exact f0.2.1)
      | (with_reducible exact k4 _ hr.t)
      | (with_reducible exact h _ _ g_sc.rf hr)
      | exact f0.1
      | exact k4 _ hr.t
      | exact h _ _ g_sc.rf hr
      | skip
    exact h _ _ ((((((((g_sc.rf.wJ rfl).wJ rfl).wJ rfl).wJ rfl).wJ rfl).wJ rfl).wJ rfl).st (by with_reducible assumption)) (g_rI.st (((((((hr.wJ).wJ).wJ).wJ).wJ).wJ).wJ) (by with_reducible assumption))
  · exact h.elim
def rwX4_lineUp : List dz_r := [(0, .iconst 0, 1), (1, .istore_n 2, 1), (2, .iconst 0, 1), (3, .istore_n 3, 1), (4, .iload_n 3, 1), (5, .getstatic 232, 3), (8, .iconst 4, 1), (9, .iaload, 1), (10, .if_icmp .gt 72, 3), (13, .iconst 0, 1), (14, .istore 4, 2), (16, .iload 4, 2), (18, .aload_n 0, 1), (19, .getfield 56, 3), (22, .if_icmp .ge 54, 3), (25, .iload_n 2, 1), (26, .bipush 30, 2), (28, .if_icmp .ge 48, 3), (31, .aload_n 0, 1), (32, .getfield 18, 3), (35, .aload_n 0, 1), (36, .aload_n 0, 1), (37, .getfield 26, 3), (40, .iload 4, 2), (42, .iaload, 1), (43, .iload_n 1, 1), (44, .invokevirtual 170, 3), (47, .iconst 4, 1), (48, .iadd, 1), (49, .iaload, 1), (50, .iload_n 3, 1), (51, .if_icmp .ne 19, 3), (54, .aload_n 0, 1), (55, .getfield 29, 3), (58, .iload_n 2, 1), (59, .aload_n 0, 1), (60, .getfield 26, 3), (63, .iload 4, 2), (65, .iaload, 1), (66, .iastore, 1), (67, .iinc 2 1, 3), (70, .iinc 4 1, 3), (73, .goto (-57), 3), (76, .iinc 3 1, 3), (79, .goto (-75), 3), (82, .return_, 1)]
theorem dzX4_lineUp : dz cX4_lineUp rwX4_lineUp := dz_all 0 (by decide +kernel)
def kX4_lineUp (live : am_E) (Ret : am_R) : am_code := [(0, am_const (.int 0) 1), (1, am_istore 2 5 2), (2, am_const (.int 0) 3), (3, am_istore 3 5 4), (4, am_iload 3 5), (5, am_const (.ref 1002) 8), (8, am_const (.int 4) 9), (9, am_sld 2 10), (10, am_if2 (fun x y => y < x) 82 13), (13, am_const (.int 0) 14), (14, am_istore 4 5 16), (16, am_iload 4 18), (18, am_aload 0 19), (19, am_getI live 4 7 22), (22, am_if2 (fun x y => y ≤ x) 76 25), (25, am_iload 2 26), (26, am_const (.int 30) 28), (28, am_if2 (fun x y => y ≤ x) 76 31), (31, am_aload 0 32), (32, am_getR live 4 1 35), (35, am_aload 0 36), (36, am_aload 0 37), (37, am_getR live 4 3 40), (40, am_iload 4 42), (42, am_ald live 0 43), (43, am_iload 1 44), (44, am_callV live 4 2 TX4_cellOf 47), (47, am_const (.int 4) 48), (48, am_i2 (fun x y => x + y) 49), (49, am_ald live 0 50), (50, am_iload 3 51), (51, am_if2 (fun x y => x = y) 54 70), (54, am_aload 0 55), (55, am_getR live 4 4 58), (58, am_iload 2 59), (59, am_aload 0 60), (60, am_getR live 4 3 63), (63, am_iload 4 65), (65, am_ald live 0 66), (66, am_ast live 0 67), (67, am_iinc 2 5 1 70), (70, am_iinc 4 5 1 73), (73, am_goto 16), (76, am_iinc 3 5 1 79), (79, am_goto 4), (82, am_retV Ret)]
theorem koX4_lineUp (live : am_E) (Ret : am_R) : ∀ q ∈ kX4_lineUp live Ret, am_ok RX4 cX4_lineUp 5 none 2 44 live Ret q.1 q.2 :=
  am_kz dzX4_lineUp <|
  am_kd (fun d => ak_iconst d (by decide +kernel) rfl) <|
  am_kd (fun d => ak_istore_n d rfl rfl) <|
  am_kd (fun d => ak_iconst d (by decide +kernel) rfl) <|
  am_kd (fun d => ak_istore_n d rfl rfl) <|
  am_kd (fun d => ak_iload_n d rfl rfl) <|
  am_kd (fun d => ak_getsN (k := 2) (C := "LearnLoans") (n := "MOST") (d := "[I") (host := "LearnLoans") (by decide) rfl (by decide +kernel) d rfl) <|
  am_kd (fun d => ak_iconst d (by decide +kernel) rfl) <|
  am_kd (fun d => ak_sld (by decide) d rfl) <|
  am_kd (fun d => ak_icmp_gt d (by decide +kernel) rfl) <|
  am_kd (fun d => ak_iconst d (by decide +kernel) rfl) <|
  am_kd (fun d => ak_istore d rfl) <|
  am_kd (fun d => ak_iload d rfl) <|
  am_kd (fun d => ak_aload_n d rfl rfl) <|
  am_kd (fun d => ak_getI (C := RX4) (T := TX4) (N := 19) rfl inX4w (by decide) rfl rfl rfl wd_303 d rfl) <|
  am_kd (fun d => ak_icmp_ge d (by decide +kernel) rfl) <|
  am_kd (fun d => ak_iload_n d rfl rfl) <|
  am_kd (fun d => ak_bipush d (by decide +kernel) rfl) <|
  am_kd (fun d => ak_icmp_ge d (by decide +kernel) rfl) <|
  am_kd (fun d => ak_aload_n d rfl rfl) <|
  am_kd (fun d => ak_getR (C := RX4) (T := TX4) (N := 19) rfl inX4w (by decide) rfl rfl rfl wd_294 d rfl) <|
  am_kd (fun d => ak_aload_n d rfl rfl) <|
  am_kd (fun d => ak_aload_n d rfl rfl) <|
  am_kd (fun d => ak_getR (C := RX4) (T := TX4) (N := 19) rfl inX4w (by decide) rfl rfl rfl wd_299 d rfl) <|
  am_kd (fun d => ak_iload d rfl) <|
  am_kd (fun d => ak_iald (t := 0) (fun _ => rfl) rfl d rfl) <|
  am_kd (fun d => ak_iload_n d rfl rfl) <|
  am_kd (fun d => ak_callV (C := RX4) (F := TX4) (N := 19) metX4_cellOf rfl ⟨rfl, hy_X4_cellOf⟩ (am_w5 wd_580 wd_582 wd_4 wd_60 wd_583) (by decide) d rfl) <|
  am_kd (fun d => ak_iconst d (by decide +kernel) rfl) <|
  am_kd (fun d => ak_iadd d rfl) <|
  am_kd (fun d => ak_iald (t := 0) (fun _ => rfl) rfl d rfl) <|
  am_kd (fun d => ak_iload_n d rfl rfl) <|
  am_kd (fun d => ak_icmp_ne d (by decide +kernel) rfl) <|
  am_kd (fun d => ak_aload_n d rfl rfl) <|
  am_kd (fun d => ak_getR (C := RX4) (T := TX4) (N := 19) rfl inX4w (by decide) rfl rfl rfl wd_300 d rfl) <|
  am_kd (fun d => ak_iload_n d rfl rfl) <|
  am_kd (fun d => ak_aload_n d rfl rfl) <|
  am_kd (fun d => ak_getR (C := RX4) (T := TX4) (N := 19) rfl inX4w (by decide) rfl rfl rfl wd_299 d rfl) <|
  am_kd (fun d => ak_iload d rfl) <|
  am_kd (fun d => ak_iald (t := 0) (fun _ => rfl) rfl d rfl) <|
  am_kd (fun d => ak_iast (t := 0) (fun _ => rfl) rfl d rfl) <|
  am_kd (fun d => ak_iinc d (by decide +kernel) rfl) <|
  am_kd (fun d => ak_iinc d (by decide +kernel) rfl) <|
  am_kd (fun d => ak_goto d (by decide +kernel)) <|
  am_kd (fun d => ak_iinc d (by decide +kernel) rfl) <|
  am_kd (fun d => ak_goto d (by decide +kernel)) <|
  am_kd (fun d => ak_retV d) <| am_kdn
def TX4_lineUp : am_T := fun live as M R => match as with
  | [.ref n, .int y] => am_mn live ∧ n = 4 ∧ am_in y 40 ∧ g_rI M ∧ ∀ M', g_sc M M' → g_rI M' → R none M'
  | _ => False
def JX4_lineUp : am_E → List Value → am_M → am_R → am_inv := fun live as M0 _ pc => match as with
  | [.ref n, .int y] => (match pc with
    | 4 => some ([0, 1, 2, 3], fun k L st M => ∃ d o : Int32, L = [(0, .ref 4), (1, .int y), (2, .int d), (3, .int o)] ∧ st = [] ∧ k = ((11 - o.toInt).toNat, 31) ∧ 0 ≤ o.toInt ∧ (0 ≤ d.toInt ∧ d.toInt ≤ 30) ∧ g_sc M0 M ∧ g_rI M)
    | 16 => some ([0, 1, 2, 3, 4], fun k L st M => ∃ d o i : Int32, L = [(0, .ref 4), (1, .int y), (2, .int d), (3, .int o), (4, .int i)] ∧ st = [] ∧ k = ((11 - o.toInt).toNat, (30 - i.toInt).toNat) ∧ (0 ≤ o.toInt ∧ o.toInt ≤ 9) ∧ (0 ≤ d.toInt ∧ d.toInt ≤ 30) ∧ 0 ≤ i.toInt ∧ g_sc M0 M ∧ g_rI M)
    | _ => none)
  | _ => none
set_option maxRecDepth 100000 in
set_option maxHeartbeats 4000000 in
theorem metX4_lineUp : am_Met yX4_lineUp cX4_lineUp 5 none (2) (44) TX4_lineUp := by
  refine am_met (own := RX4) (by decide +kernel) rfl kX4_lineUp koX4_lineUp 100 JX4_lineUp ?_ ?_
  · intro live as M Ret h
    unfold TX4_lineUp at h
    split at h
    · next n y =>
      refine ⟨Nat.le_of_ble_eq_true rfl, ?_⟩
      change am_wp _ _ _ _ [(0, Value.ref n), (1, Value.int y)] _ _
      obtain ⟨hmn, rfl, hy, hr, h⟩ := h
      repeat' (first | apply And.intro | exact rfl | intro hx | (refine Exists.intro _ (And.intro rfl ?_)))
      all_goals try first | (with_reducible change am_tI _ _) | (change Ret _ _) | (change Ret _ _ _) | (change Exists _)
      all_goals try dsimp only at *
      all_goals try (with_reducible exact absurd ‹(1000 : Int64) = 0› am_z1000)
      exact ⟨_, _, _, rfl, rfl, rfl, by decide, ⟨by decide, by decide⟩, g_sc.rf, hr⟩
    · exact h.elim
  · intro live as M0 Ret h k pc I hI L st M hi
    unfold TX4_lineUp at h
    split at h
    · next n y =>
      obtain ⟨hmn, rfl, hy, hr, h⟩ := h
      have hmn2 := hmn
      obtain ⟨i1, i2, rfl⟩ := hmn2
      change (match pc with | 4 => _ | 16 => _ | _ => none) = _ at hI
      split at hI
      · cases hI
        obtain ⟨d, o, rfl, rfl, rfl, e0, e1, e2, e3⟩ := hi
        have s24 : am_sf 2 (4 : Int32).toNatClampNeg = 9 := rfl
        by_cases hz : am_sf 2 (4 : Int32).toNatClampNeg < o
        · skip
          repeat' (first | apply And.intro | exact rfl | (intro hx; with_reducible exact absurd hz hx) | (intro hx; exact absurd hx (by decide)) | (intro hx; exact absurd (by decide) hx) | decide | intro hx | (refine Exists.intro _ (And.intro rfl ?_)))
          all_goals try first | (with_reducible change am_tI _ _) | (change Ret _ _) | (change Ret _ _ _) | (change Exists _)
          all_goals try dsimp only at *
          all_goals try (with_reducible exact absurd ‹(1000 : Int64) = 0› am_z1000)
          all_goals exact h _ e2 e3
        · have hz2 := hz
          rw [s24] at hz2
          simp only [i_lt, Int32.reduceToInt] at hz2
          repeat' (first | apply And.intro | exact rfl | (intro hx; with_reducible exact absurd hx hz) | (intro hx; exact absurd hx (by decide)) | (intro hx; exact absurd (by decide) hx) | decide | intro hx | (refine Exists.intro _ (And.intro rfl ?_)))
          all_goals try first | (with_reducible change am_tI _ _) | (change Ret _ _) | (change Ret _ _ _) | (change Exists _)
          all_goals try dsimp only at *
          all_goals try (with_reducible exact absurd ‹(1000 : Int64) = 0› am_z1000)
          all_goals exact ⟨_, am_lt_r (by simp only [Int32.reduceToInt]; omega), _, _, _, rfl, rfl, rfl, ⟨e0, by omega⟩, e1, by decide, e2, e3⟩
      · cases hI
        obtain ⟨d, o, i, rfl, rfl, rfl, ⟨e0, e4⟩, ⟨e5, e6⟩, e1, e2, e3⟩ := hi
        have ho := i_inc (x := o) (by omega) (by omega)
        by_cases hz : M.1 4 7 ≤ i
        · skip
          repeat' (first | apply And.intro | exact rfl | (intro hx; with_reducible exact absurd hz hx) | intro hx | (refine Exists.intro _ (And.intro rfl ?_)))
          all_goals try first | (with_reducible change am_tI _ _) | (change Ret _ _) | (change Ret _ _ _) | (change Exists _)
          all_goals try dsimp only at *
          all_goals try (with_reducible exact absurd ‹(1000 : Int64) = 0› am_z1000)
          exact ⟨_, am_lt_l (by omega), _, _, rfl, rfl, rfl, by omega, ⟨e5, e6⟩, e2, e3⟩
        · have q := e3.s.sz
          have hz2 := hz
          simp only [i_le] at hz2
          have ha : am_in i 30 := ⟨e1, by omega⟩
          have hb := e3.s.mi (g_cl ha)
          have hp := e3.pln hb hy
          have c4 := am_celly hy hp (k := 4) ⟨by decide, by decide⟩
          have hi := i_inc (x := i) (by omega) (by omega)
          have l5 : am_len 5 = 1200 := rfl
          have l7 : am_len 7 = 30 := rfl
          have l8 : am_len 8 = 30 := rfl
          have k4 : Int32.toInt 4 = 4 := rfl
          have hy1 := hy.1
          have hy2 := hy.2
          have hp1 := hp.1
          have hp2 := hp.2
          by_cases hd : (30 : Int32) ≤ d
          · skip
            repeat' (first | apply And.intro | exact rfl | (intro hx; with_reducible exact absurd hx hz) | (intro hx; with_reducible exact absurd hd hx) | intro hx | (refine Exists.intro _ (And.intro rfl ?_)))
            all_goals try first | (with_reducible change am_tI _ _) | (change Ret _ _) | (change Ret _ _ _) | (change Exists _)
            all_goals try dsimp only at *
            all_goals try (with_reducible exact absurd ‹(1000 : Int64) = 0› am_z1000)
            exact ⟨_, am_lt_l (by omega), _, _, rfl, rfl, rfl, by omega, ⟨e5, e6⟩, e2, e3⟩
          · have hd2 := hd
            simp only [i_le, Int32.reduceToInt] at hd2
            have hdi := i_inc (x := d) (by omega) (by omega)
            repeat' (first | (with_reducible exact hmn) | (with_reducible exact hb) | (with_reducible exact hy) | apply And.intro | exact rfl | (intro hx; with_reducible exact absurd hx hz) | (intro hx; with_reducible exact absurd hx hd) | intro hx | (refine Exists.intro _ (And.intro rfl ?_)))
            all_goals try first | (with_reducible change am_tI _ _) | (change Ret _ _) | (change Ret _ _ _) | (change Exists _)
            all_goals try dsimp only at *
            all_goals try (with_reducible exact absurd ‹(1000 : Int64) = 0› am_z1000)
            all_goals first
              | omega
              | (rw [l7]; exact ha.2)
              | (rw [l5]; omega)
              | (rw [l8]; omega)
              | exact ⟨_, am_lt_r (by omega), _, _, _, rfl, rfl, rfl, ⟨e0, e4⟩, ⟨by omega, by omega⟩, by omega, e2.wI rfl, e3.w8 hb⟩
              | exact ⟨_, am_lt_r (by omega), _, _, _, rfl, rfl, rfl, ⟨e0, e4⟩, ⟨e5, e6⟩, by omega, e2, e3⟩
              | skip
      · cases hI
    · exact h.elim
theorem hy_X4_asked : yX4_asked.cls ≠ "java/lang/invoke/MethodHandle" ∧ yX4_asked.cls ≠ "java/lang/invoke/VarHandle" ∧ (parseMethodDescriptor yX4_asked.desc).map (fun d => d.parameters.length) = some 1 := ⟨by decide +kernel, by decide +kernel, by decide +kernel⟩
set_option maxRecDepth 100000 in
theorem wd_637 : Cond.methodLink "LearnLoans$Run" 235 yX4_asked ∈ am_ws := am_wt3 (List.mem_of_getElem? (i := 100) (by rfl)) (by decide +kernel)
set_option maxRecDepth 100000 in
theorem wd_639 : Cond.instanceMethod yX4_asked ∈ am_ws := am_wt3 (List.mem_of_getElem? (i := 102) (by rfl)) (by decide +kernel)
set_option maxRecDepth 100000 in
theorem wd_11 : Cond.selects "LearnLoans$Run" yX4_asked yX4_asked ∈ am_ws := am_wsi (List.mem_of_getElem? (i := 11) (by rfl)) (by decide +kernel)
set_option maxRecDepth 100000 in
theorem wd_640 : Cond.code yX4_asked cX4_asked 4 (some .long) ∈ am_ws := am_wt3 (List.mem_of_getElem? (i := 103) (by rfl)) (by decide +kernel)
def rwX4_takeAll : List dz_r := [(0, .lconst 0, 1), (1, .lstore_n 2, 1), (2, .iconst 0, 1), (3, .istore 4, 2), (5, .iload 4, 2), (7, .aload_n 0, 1), (8, .getfield 56, 3), (11, .if_icmp .ge 143, 3), (14, .aload_n 0, 1), (15, .getfield 29, 3), (18, .iload 4, 2), (20, .iaload, 1), (21, .istore 5, 2), (23, .lconst 0, 1), (24, .aload_n 0, 1), (25, .aload_n 0, 1), (26, .iload 5, 2), (28, .iload_n 1, 1), (29, .invokevirtual 170, 3), (32, .invokevirtual 235, 3), (35, .lload_n 2, 1), (36, .lsub, 1), (37, .invokestatic 229, 3), (40, .lstore 6, 2), (42, .lload 6, 2), (44, .aload_n 0, 1), (45, .getfield 22, 3), (48, .iconst 0, 1), (49, .iload 5, 2), (51, .iadd, 1), (52, .laload, 1), (53, .invokestatic 177, 3), (56, .lstore 8, 2), (58, .lload_n 2, 1), (59, .lload 8, 2), (61, .ladd, 1), (62, .lstore_n 2, 1), (63, .aload_n 0, 1), (64, .getfield 22, 3), (67, .iconst 0, 1), (68, .iload 5, 2), (70, .iadd, 1), (71, .dup2, 1), (72, .laload, 1), (73, .lload 8, 2), (75, .lsub, 1), (76, .lastore, 1), (77, .aload_n 0, 1), (78, .getfield 22, 3), (81, .bipush 30, 2), (83, .iload 5, 2), (85, .iadd, 1), (86, .lload 8, 2), (88, .lastore, 1), (89, .aload_n 0, 1), (90, .getfield 22, 3), (93, .bipush 90, 2), (95, .iload 5, 2), (97, .iadd, 1), (98, .dup2, 1), (99, .laload, 1), (100, .lload 8, 2), (102, .ladd, 1), (103, .lastore, 1), (104, .aload_n 0, 1), (105, .getfield 12, 3), (108, .getfield 59, 3), (111, .iload 5, 2), (113, .bipush 7, 2), (115, .invokevirtual 66, 3), (118, .istore 10, 2), (120, .iload 10, 2), (122, .iconst (-1), 1), (123, .if_icmp .eq 25, 3), (126, .iload_n 1, 1), (127, .iload 10, 2), (129, .if_icmp .lt 19, 3), (132, .aload_n 0, 1), (133, .getfield 22, 3), (136, .sipush 150, 3), (139, .iload 5, 2), (141, .iadd, 1), (142, .dup2, 1), (143, .laload, 1), (144, .lload 8, 2), (146, .ladd, 1), (147, .lastore, 1), (148, .iinc 4 1, 3), (151, .goto (-146), 3), (154, .return_, 1)]
theorem dzX4_takeAll : dz cX4_takeAll rwX4_takeAll := dz_all 0 (by decide +kernel)
def kX4_takeAll (live : am_E) (Ret : am_R) : am_code := [(0, am_const (.long 0) 1), (1, am_lstore 2 11 2), (2, am_const (.int 0) 3), (3, am_istore 4 11 5), (5, am_iload 4 7), (7, am_aload 0 8), (8, am_getI live 4 7 11), (11, am_if2 (fun x y => y ≤ x) 154 14), (14, am_aload 0 15), (15, am_getR live 4 4 18), (18, am_iload 4 20), (20, am_ald live 0 21), (21, am_istore 5 11 23), (23, am_const (.long 0) 24), (24, am_aload 0 25), (25, am_aload 0 26), (26, am_iload 5 28), (28, am_iload 1 29), (29, am_callV live 4 2 TX4_cellOf 32), (32, am_callV live 4 1 TX4_asked 35), (35, am_lload 2 36), (36, am_l2 (fun x y => x - y) 37), (37, am_mathl (fun x y => if y < x then x else y) 46 40), (40, am_lstore 6 11 42), (42, am_lload 6 44), (44, am_aload 0 45), (45, am_getR live 4 2 48), (48, am_const (.int 0) 49), (49, am_iload 5 51), (51, am_i2 (fun x y => x + y) 52), (52, am_lald live 1 53), (53, am_mathl (fun x y => if y < x then y else x) 46 56), (56, am_lstore 8 11 58), (58, am_lload 2 59), (59, am_lload 8 61), (61, am_l2 (fun x y => x + y) 62), (62, am_lstore 2 11 63), (63, am_aload 0 64), (64, am_getR live 4 2 67), (67, am_const (.int 0) 68), (68, am_iload 5 70), (70, am_i2 (fun x y => x + y) 71), (71, am_dup2 72), (72, am_lald live 1 73), (73, am_lload 8 75), (75, am_l2 (fun x y => x - y) 76), (76, am_last live 1 77), (77, am_aload 0 78), (78, am_getR live 4 2 81), (81, am_const (.int 30) 83), (83, am_iload 5 85), (85, am_i2 (fun x y => x + y) 86), (86, am_lload 8 88), (88, am_last live 1 89), (89, am_aload 0 90), (90, am_getR live 4 2 93), (93, am_const (.int 90) 95), (95, am_iload 5 97), (97, am_i2 (fun x y => x + y) 98), (98, am_dup2 99), (99, am_lald live 1 100), (100, am_lload 8 102), (102, am_l2 (fun x y => x + y) 103), (103, am_last live 1 104), (104, am_aload 0 105), (105, am_getR live 4 0 108), (108, am_getR live 0 4 111), (111, am_iload 5 113), (113, am_const (.int 7) 115), (115, am_callV live 3 2 TX3_at 118), (118, am_istore 10 11 120), (120, am_iload 10 122), (122, am_const (.int (-1)) 123), (123, am_if2 (fun x y => x = y) 148 126), (126, am_iload 1 127), (127, am_iload 10 129), (129, am_if2 (fun x y => x < y) 148 132), (132, am_aload 0 133), (133, am_getR live 4 2 136), (136, am_const (.int 150) 139), (139, am_iload 5 141), (141, am_i2 (fun x y => x + y) 142), (142, am_dup2 143), (143, am_lald live 1 144), (144, am_lload 8 146), (146, am_l2 (fun x y => x + y) 147), (147, am_last live 1 148), (148, am_iinc 4 11 1 151), (151, am_goto 5), (154, am_retV Ret)]
theorem koX4_takeAll (live : am_E) (Ret : am_R) : ∀ q ∈ kX4_takeAll live Ret, am_ok RX4 cX4_takeAll 11 none 2 46 live Ret q.1 q.2 :=
  am_kz dzX4_takeAll <|
  am_kd (fun d => ak_lconst d (by decide +kernel) rfl) <|
  am_kd (fun d => ak_lstore_n d rfl rfl) <|
  am_kd (fun d => ak_iconst d (by decide +kernel) rfl) <|
  am_kd (fun d => ak_istore d rfl) <|
  am_kd (fun d => ak_iload d rfl) <|
  am_kd (fun d => ak_aload_n d rfl rfl) <|
  am_kd (fun d => ak_getI (C := RX4) (T := TX4) (N := 19) rfl inX4w (by decide) rfl rfl rfl wd_303 d rfl) <|
  am_kd (fun d => ak_icmp_ge d (by decide +kernel) rfl) <|
  am_kd (fun d => ak_aload_n d rfl rfl) <|
  am_kd (fun d => ak_getR (C := RX4) (T := TX4) (N := 19) rfl inX4w (by decide) rfl rfl rfl wd_300 d rfl) <|
  am_kd (fun d => ak_iload d rfl) <|
  am_kd (fun d => ak_iald (t := 0) (fun _ => rfl) rfl d rfl) <|
  am_kd (fun d => ak_istore d rfl) <|
  am_kd (fun d => ak_lconst d (by decide +kernel) rfl) <|
  am_kd (fun d => ak_aload_n d rfl rfl) <|
  am_kd (fun d => ak_aload_n d rfl rfl) <|
  am_kd (fun d => ak_iload d rfl) <|
  am_kd (fun d => ak_iload_n d rfl rfl) <|
  am_kd (fun d => ak_callV (C := RX4) (F := TX4) (N := 19) metX4_cellOf rfl ⟨rfl, hy_X4_cellOf⟩ (am_w5 wd_580 wd_582 wd_4 wd_60 wd_583) (by decide) d rfl) <|
  am_kd (fun d => ak_callV (C := RX4) (F := TX4) (N := 19) metX4_asked rfl ⟨rfl, hy_X4_asked⟩ (am_w5 wd_637 wd_639 wd_11 wd_60 wd_640) (by decide) d rfl) <|
  am_kd (fun d => ak_lload_n d rfl rfl) <|
  am_kd (fun d => ak_lsub d rfl) <|
  am_kd (fun d => ak_lmax (am_w4 wd_610 wd_611 wd_68 wd_612) (by decide) d rfl) <|
  am_kd (fun d => ak_lstore d rfl) <|
  am_kd (fun d => ak_lload d rfl) <|
  am_kd (fun d => ak_aload_n d rfl rfl) <|
  am_kd (fun d => ak_getR (C := RX4) (T := TX4) (N := 19) rfl inX4w (by decide) rfl rfl rfl wd_296 d rfl) <|
  am_kd (fun d => ak_iconst d (by decide +kernel) rfl) <|
  am_kd (fun d => ak_iload d rfl) <|
  am_kd (fun d => ak_iadd d rfl) <|
  am_kd (fun d => ak_lald (t := 1) (fun _ => rfl) rfl d rfl) <|
  am_kd (fun d => ak_lmin (am_w4 wd_607 wd_608 wd_68 wd_609) (by decide) d rfl) <|
  am_kd (fun d => ak_lstore d rfl) <|
  am_kd (fun d => ak_lload_n d rfl rfl) <|
  am_kd (fun d => ak_lload d rfl) <|
  am_kd (fun d => ak_ladd d rfl) <|
  am_kd (fun d => ak_lstore_n d rfl rfl) <|
  am_kd (fun d => ak_aload_n d rfl rfl) <|
  am_kd (fun d => ak_getR (C := RX4) (T := TX4) (N := 19) rfl inX4w (by decide) rfl rfl rfl wd_296 d rfl) <|
  am_kd (fun d => ak_iconst d (by decide +kernel) rfl) <|
  am_kd (fun d => ak_iload d rfl) <|
  am_kd (fun d => ak_iadd d rfl) <|
  am_kd (fun d => ak_dup2 d rfl) <|
  am_kd (fun d => ak_lald (t := 1) (fun _ => rfl) rfl d rfl) <|
  am_kd (fun d => ak_lload d rfl) <|
  am_kd (fun d => ak_lsub d rfl) <|
  am_kd (fun d => ak_last (t := 1) (fun _ => rfl) rfl d rfl) <|
  am_kd (fun d => ak_aload_n d rfl rfl) <|
  am_kd (fun d => ak_getR (C := RX4) (T := TX4) (N := 19) rfl inX4w (by decide) rfl rfl rfl wd_296 d rfl) <|
  am_kd (fun d => ak_bipush d (by decide +kernel) rfl) <|
  am_kd (fun d => ak_iload d rfl) <|
  am_kd (fun d => ak_iadd d rfl) <|
  am_kd (fun d => ak_lload d rfl) <|
  am_kd (fun d => ak_last (t := 1) (fun _ => rfl) rfl d rfl) <|
  am_kd (fun d => ak_aload_n d rfl rfl) <|
  am_kd (fun d => ak_getR (C := RX4) (T := TX4) (N := 19) rfl inX4w (by decide) rfl rfl rfl wd_296 d rfl) <|
  am_kd (fun d => ak_bipush d (by decide +kernel) rfl) <|
  am_kd (fun d => ak_iload d rfl) <|
  am_kd (fun d => ak_iadd d rfl) <|
  am_kd (fun d => ak_dup2 d rfl) <|
  am_kd (fun d => ak_lald (t := 1) (fun _ => rfl) rfl d rfl) <|
  am_kd (fun d => ak_lload d rfl) <|
  am_kd (fun d => ak_ladd d rfl) <|
  am_kd (fun d => ak_last (t := 1) (fun _ => rfl) rfl d rfl) <|
  am_kd (fun d => ak_aload_n d rfl rfl) <|
  am_kd (fun d => ak_getR (C := RX4) (T := TX4) (N := 19) rfl inX4w (by decide) rfl rfl rfl wd_291 d rfl) <|
  am_kd (fun d => ak_getR (C := RX0) (T := TX0) (N := 13) rfl inX0w (by decide) rfl rfl rfl wd_206 d rfl) <|
  am_kd (fun d => ak_iload d rfl) <|
  am_kd (fun d => ak_bipush d (by decide +kernel) rfl) <|
  am_kd (fun d => ak_callV (C := RX3) (F := TX3) (N := 3) metX3_at rfl ⟨rfl, hy_X3_at⟩ (am_w5 wd_502 wd_503 wd_504 wd_64 wd_505) (by decide) d rfl) <|
  am_kd (fun d => ak_istore d rfl) <|
  am_kd (fun d => ak_iload d rfl) <|
  am_kd (fun d => ak_iconst d (by decide +kernel) rfl) <|
  am_kd (fun d => ak_icmp_eq d (by decide +kernel) rfl) <|
  am_kd (fun d => ak_iload_n d rfl rfl) <|
  am_kd (fun d => ak_iload d rfl) <|
  am_kd (fun d => ak_icmp_lt d (by decide +kernel) rfl) <|
  am_kd (fun d => ak_aload_n d rfl rfl) <|
  am_kd (fun d => ak_getR (C := RX4) (T := TX4) (N := 19) rfl inX4w (by decide) rfl rfl rfl wd_296 d rfl) <|
  am_kd (fun d => ak_sipush d (by decide +kernel) rfl) <|
  am_kd (fun d => ak_iload d rfl) <|
  am_kd (fun d => ak_iadd d rfl) <|
  am_kd (fun d => ak_dup2 d rfl) <|
  am_kd (fun d => ak_lald (t := 1) (fun _ => rfl) rfl d rfl) <|
  am_kd (fun d => ak_lload d rfl) <|
  am_kd (fun d => ak_ladd d rfl) <|
  am_kd (fun d => ak_last (t := 1) (fun _ => rfl) rfl d rfl) <|
  am_kd (fun d => ak_iinc d (by decide +kernel) rfl) <|
  am_kd (fun d => ak_goto d (by decide +kernel)) <|
  am_kd (fun d => ak_retV d) <| am_kdn
def TX4_takeAll : am_T := fun live as M R => match as with
  | [.ref n, .int y] => am_mn live ∧ n = 4 ∧ am_in y 40 ∧ g_rI M ∧ ∀ M', g_sc M M' → g_rI M' → R none M'
  | _ => False
def JX4_takeAll : am_E → List Value → am_M → am_R → am_inv := fun live as M0 _ pc => match as with
  | [.ref n, .int y] => (match pc with
    | 5 => some ([0, 1, 2, 4], fun k L st M => ∃ (v : Int64) (i : Int32), L = [(0, .ref 4), (1, .int y), (2, .long v), (4, .int i)] ∧ st = [] ∧ k = ((31 - i.toInt).toNat, 0) ∧ 0 ≤ i.toInt ∧ g_sc M0 M ∧ g_rI M)
    | _ => none)
  | _ => none
set_option maxRecDepth 100000 in
set_option maxHeartbeats 4000000 in
theorem metX4_takeAll : am_Met yX4_takeAll cX4_takeAll 11 none (2) (46) TX4_takeAll := by
  refine am_met (own := RX4) (by decide +kernel) rfl kX4_takeAll koX4_takeAll 150 JX4_takeAll ?_ ?_
  · intro live as M Ret h
    unfold TX4_takeAll at h
    split at h
    · next n y =>
      refine ⟨Nat.le_of_ble_eq_true rfl, ?_⟩
      change am_wp _ _ _ _ [(0, Value.ref n), (1, Value.int y)] _ _
      obtain ⟨hmn, rfl, hy, hr, h⟩ := h
      repeat' (first | apply And.intro | exact rfl | intro hx | (refine Exists.intro _ (And.intro rfl ?_)))
      all_goals try first | (with_reducible change am_tI _ _) | (change Ret _ _) | (change Ret _ _ _) | (change Exists _)
      all_goals try dsimp only at *
      all_goals try (with_reducible exact absurd ‹(1000 : Int64) = 0› am_z1000)
      exact ⟨_, _, _, rfl, rfl, rfl, by decide, g_sc.rf, hr⟩
    · exact h.elim
  · intro live as M0 Ret h k pc I hI L st M hi
    unfold TX4_takeAll at h
    split at h
    · next n y =>
      obtain ⟨hmn, rfl, hy, hr, h⟩ := h
      have hmn2 := hmn
      obtain ⟨i1, i2, rfl⟩ := hmn2
      change (match pc with | 5 => _ | _ => none) = _ at hI
      split at hI
      · cases hI
        obtain ⟨v, i, rfl, rfl, rfl, e1, e2, e3⟩ := hi
        by_cases hz : M.1 4 7 ≤ i
        · skip
          repeat' (first | apply And.intro | exact rfl | (intro hx; with_reducible exact absurd hz hx) | intro hx | (refine Exists.intro _ (And.intro rfl ?_)))
          all_goals try first | (with_reducible change am_tI _ _) | (change Ret _ _) | (change Ret _ _ _) | (change Exists _)
          all_goals try dsimp only at *
          all_goals try (with_reducible exact absurd ‹(1000 : Int64) = 0› am_z1000)
          exact h _ e2 e3
        · have q := e3.s.sz
          have hz2 := hz
          simp only [i_le] at hz2
          have ha : am_in i 30 := ⟨e1, by omega⟩
          have hb := e3.s.qu (g_cl ha)
          have hp := e3.pln hb hy
          have hla := e3.s.la
          have hi := i_inc (x := i) (by omega) (by omega)
          have f0 := g_ix hb 0 0 rfl (by decide)
          have f30 := g_ix hb 30 30 rfl (by decide)
          have f90 := g_ix hb 90 90 rfl (by decide)
          have f150 := g_ix hb 150 150 rfl (by decide)
          have l6 : am_len 6 = 180 := rfl
          have l8 : am_len 8 = 30 := rfl
          have e0 := am_celly hy hp (k := 0) ⟨by decide, by decide⟩
          have k0 : Int32.toInt 0 = 0 := rfl
          rw [Int32.add_zero] at e0
          have hy1 := hy.1
          have hy2 := hy.2
          have hp1 := hp.1
          have hp2 := hp.2
          repeat' (first | (with_reducible exact hmn) | (with_reducible exact hb) | (with_reducible exact hy) | (with_reducible exact hla) | apply And.intro | exact rfl | (intro hx; with_reducible exact absurd hx hz) | intro hx | (refine Exists.intro _ (And.intro rfl ?_)))
          all_goals try first | (with_reducible change am_tI _ _) | (change Ret _ _) | (change Ret _ _ _) | (change Exists _)
          all_goals try dsimp only at *
          all_goals try (with_reducible exact absurd ‹(1000 : Int64) = 0› am_z1000)
          all_goals first
            | omega
            | (rw [l8]; exact ha.2)
            | (with_reducible exact f0.1)
            | (rw [l6]; exact f0.2.1)
            | (with_reducible exact f30.1)
            | (rw [l6]; exact f30.2.1)
            | (with_reducible exact f90.1)
            | (rw [l6]; exact f90.2.1)
            | (with_reducible exact f150.1)
            | (rw [l6]; exact f150.2.1)
            | exact f0.1
            | exact f30.1
            | exact f90.1
            | exact f150.1
            | exact ⟨_, am_lt_l (by omega), _, _, rfl, rfl, rfl, by omega, (((e2.wJ rfl).wJ rfl).wJ rfl), ((e3.wJ).wJ).wJ⟩
            | exact ⟨_, am_lt_l (by omega), _, _, rfl, rfl, rfl, by omega, ((((e2.wJ rfl).wJ rfl).wJ rfl).wJ rfl), (((e3.wJ).wJ).wJ).wJ⟩
            | skip
      · cases hI
    · exact h.elim
