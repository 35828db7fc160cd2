-- part 24.run4.lean.txt
section
/-! Run: what is safe of it, II -/
set_option maxRecDepth 100000 in
theorem wd_219 : Cond.fieldLink "LearnLoans$Run" 126 "LearnLoans$House" "lives" "[I" ∈ am_ws := am_wt1 (List.mem_of_getElem? (i := 162) (by rfl)) (by decide +kernel)
theorem hy_X4_suppose : yX4_suppose.cls ≠ "java/lang/invoke/MethodHandle" ∧ yX4_suppose.cls ≠ "java/lang/invoke/VarHandle" ∧ (parseMethodDescriptor yX4_suppose.desc).map (fun d => d.parameters.length) = some 3 := ⟨by decide +kernel, by decide +kernel, by decide +kernel⟩
set_option maxRecDepth 100000 in
theorem wd_567 : Cond.methodLink "LearnLoans$Run" 129 yX4_suppose ∈ am_ws := am_wt3 (List.mem_of_getElem? (i := 30) (by rfl)) (by decide +kernel)
set_option maxRecDepth 100000 in
theorem wd_568 : Cond.instanceMethod yX4_suppose ∈ am_ws := am_wt3 (List.mem_of_getElem? (i := 31) (by rfl)) (by decide +kernel)
set_option maxRecDepth 100000 in
theorem wd_569 : Cond.selects "LearnLoans$Run" yX4_suppose yX4_suppose ∈ am_ws := am_wt3 (List.mem_of_getElem? (i := 32) (by rfl)) (by decide +kernel)
set_option maxRecDepth 100000 in
theorem wd_570 : Cond.code yX4_suppose cX4_suppose 4 none ∈ am_ws := am_wt3 (List.mem_of_getElem? (i := 33) (by rfl)) (by decide +kernel)
set_option maxRecDepth 100000 in
theorem wd_305 : Cond.fieldLink "LearnLoans$Run" 46 "LearnLoans$Run" "known" "I" ∈ am_ws := am_wt2 (List.mem_of_getElem? (i := 8) (by rfl)) (by decide +kernel)
theorem hy_X2_earned : yX2_earned.cls ≠ "java/lang/invoke/MethodHandle" ∧ yX2_earned.cls ≠ "java/lang/invoke/VarHandle" ∧ (parseMethodDescriptor yX2_earned.desc).map (fun d => d.parameters.length) = some 3 := ⟨by decide +kernel, by decide +kernel, by decide +kernel⟩
set_option maxRecDepth 100000 in
theorem wd_571 : Cond.methodLink "LearnLoans$Run" 133 yX2_earned ∈ am_ws := am_wt3 (List.mem_of_getElem? (i := 34) (by rfl)) (by decide +kernel)
set_option maxRecDepth 100000 in
theorem wd_459 : Cond.instanceMethod yX2_earned ∈ am_ws := am_wt2 (List.mem_of_getElem? (i := 162) (by rfl)) (by decide +kernel)
set_option maxRecDepth 100000 in
theorem wd_460 : Cond.selects "LearnLoans$People" yX2_earned yX2_earned ∈ am_ws := am_wt2 (List.mem_of_getElem? (i := 163) (by rfl)) (by decide +kernel)
set_option maxRecDepth 100000 in
theorem wd_461 : Cond.code yX2_earned cX2_earned 5 (some .int) ∈ am_ws := am_wt2 (List.mem_of_getElem? (i := 164) (by rfl)) (by decide +kernel)
set_option maxRecDepth 100000 in
theorem wd_112 : Cond.fieldLink "LearnLoans$Run" 137 "LearnLoans$People" "lands" "[I" ∈ am_ws := am_wt1 (List.mem_of_getElem? (i := 55) (by rfl)) (by decide +kernel)
def rwX4_look : List dz_r := [(0, .aload_n 0, 1), (1, .getfield 74, 3), (4, .iconst (-1), 1), (5, .if_icmp .eq 32, 3), (8, .aload_n 0, 1), (9, .aload_n 0, 1), (10, .getfield 12, 3), (13, .getfield 126, 3), (16, .aload_n 0, 1), (17, .getfield 74, 3), (20, .bipush 40, 2), (22, .imul, 1), (23, .iload_n 1, 1), (24, .iadd, 1), (25, .iaload, 1), (26, .iconst 0, 1), (27, .aload_n 0, 1), (28, .getfield 90, 3), (31, .invokevirtual 129, 3), (34, .goto 61, 3), (37, .aload_n 0, 1), (38, .aload_n 0, 1), (39, .getfield 12, 3), (42, .getfield 80, 3), (45, .aload_n 0, 1), (46, .getfield 42, 3), (49, .iload_n 1, 1), (50, .aload_n 0, 1), (51, .getfield 46, 3), (54, .invokevirtual 133, 3), (57, .aload_n 0, 1), (58, .getfield 12, 3), (61, .getfield 80, 3), (64, .getfield 137, 3), (67, .aload_n 0, 1), (68, .getfield 42, 3), (71, .bipush 40, 2), (73, .imul, 1), (74, .iload_n 1, 1), (75, .iadd, 1), (76, .iaload, 1), (77, .aload_n 0, 1), (78, .getfield 12, 3), (81, .getfield 80, 3), (84, .aload_n 0, 1), (85, .getfield 42, 3), (88, .iload_n 1, 1), (89, .invokevirtual 84, 3), (92, .invokevirtual 129, 3), (95, .return_, 1)]
theorem dzX4_look : dz cX4_look rwX4_look := dz_all 0 (by decide +kernel)
def kX4_look (live : am_E) (Ret : am_R) : am_code := [(0, am_aload 0 1), (1, am_getI live 4 11 4), (4, am_const (.int (-1)) 5), (5, am_if2 (fun x y => x = y) 37 8), (8, am_aload 0 9), (9, am_aload 0 10), (10, am_getR live 4 0 13), (13, am_getR live 0 9 16), (16, am_aload 0 17), (17, am_getI live 4 11 20), (20, am_const (.int 40) 22), (22, am_i2 (fun x y => x * y) 23), (23, am_iload 1 24), (24, am_i2 (fun x y => x + y) 25), (25, am_ald live 0 26), (26, am_const (.int 0) 27), (27, am_aload 0 28), (28, am_getI live 4 13 31), (31, am_callV live 4 3 TX4_suppose 34), (34, am_goto 95), (37, am_aload 0 38), (38, am_aload 0 39), (39, am_getR live 4 0 42), (42, am_getR live 0 0 45), (45, am_aload 0 46), (46, am_getI live 4 8 49), (49, am_iload 1 50), (50, am_aload 0 51), (51, am_getI live 4 9 54), (54, am_callV live 2 3 TX2_earned 57), (57, am_aload 0 58), (58, am_getR live 4 0 61), (61, am_getR live 0 0 64), (64, am_getR live 2 2 67), (67, am_aload 0 68), (68, am_getI live 4 8 71), (71, am_const (.int 40) 73), (73, am_i2 (fun x y => x * y) 74), (74, am_iload 1 75), (75, am_i2 (fun x y => x + y) 76), (76, am_ald live 0 77), (77, am_aload 0 78), (78, am_getR live 4 0 81), (81, am_getR live 0 0 84), (84, am_aload 0 85), (85, am_getI live 4 8 88), (88, am_iload 1 89), (89, am_callV live 2 2 TX2_isDead 92), (92, am_callV live 4 3 TX4_suppose 95), (95, am_retV Ret)]
theorem koX4_look (live : am_E) (Ret : am_R) : ∀ q ∈ kX4_look live Ret, am_ok RX4 cX4_look 2 none 1 24 live Ret q.1 q.2 :=
  am_kz dzX4_look <|
  am_kd (fun d => ak_aload_n d rfl rfl) <|
  am_kd (fun d => ak_getI (C := RX4) (T := TX4) (N := 19) rfl inX4w (by decide) rfl rfl rfl wd_307 d rfl) <|
  am_kd (fun d => ak_iconst d (by decide +kernel) rfl) <|
  am_kd (fun d => ak_icmp_eq d (by decide +kernel) rfl) <|
  am_kd (fun d => ak_aload_n d rfl rfl) <|
  am_kd (fun d => ak_aload_n d rfl rfl) <|
  am_kd (fun d => ak_getR (C := RX4) (T := TX4) (N := 19) rfl inX4w (by decide) rfl rfl rfl wd_291 d rfl) <|
  am_kd (fun d => ak_getR (C := RX0) (T := TX0) (N := 13) rfl inX0w (by decide) rfl rfl rfl wd_219 d rfl) <|
  am_kd (fun d => ak_aload_n d rfl rfl) <|
  am_kd (fun d => ak_getI (C := RX4) (T := TX4) (N := 19) rfl inX4w (by decide) rfl rfl rfl wd_307 d rfl) <|
  am_kd (fun d => ak_bipush d (by decide +kernel) rfl) <|
  am_kd (fun d => ak_imul d rfl) <|
  am_kd (fun d => ak_iload_n d rfl rfl) <|
  am_kd (fun d => ak_iadd d rfl) <|
  am_kd (fun d => ak_iald (t := 0) (fun _ => rfl) rfl d rfl) <|
  am_kd (fun d => ak_iconst d (by decide +kernel) rfl) <|
  am_kd (fun d => ak_aload_n d rfl rfl) <|
  am_kd (fun d => ak_getI (C := RX4) (T := TX4) (N := 19) rfl inX4w (by decide) rfl rfl rfl wd_309 d rfl) <|
  am_kd (fun d => ak_callV (C := RX4) (F := TX4) (N := 19) metX4_suppose rfl ⟨rfl, hy_X4_suppose⟩ (am_w5 wd_567 wd_568 wd_569 wd_60 wd_570) (by decide) d rfl) <|
  am_kd (fun d => ak_goto d (by decide +kernel)) <|
  am_kd (fun d => ak_aload_n d rfl rfl) <|
  am_kd (fun d => ak_aload_n d rfl rfl) <|
  am_kd (fun d => ak_getR (C := RX4) (T := TX4) (N := 19) rfl inX4w (by decide) rfl rfl rfl wd_291 d rfl) <|
  am_kd (fun d => ak_getR (C := RX0) (T := TX0) (N := 13) rfl inX0w (by decide) rfl rfl rfl wd_195 d rfl) <|
  am_kd (fun d => ak_aload_n d rfl rfl) <|
  am_kd (fun d => ak_getI (C := RX4) (T := TX4) (N := 19) rfl inX4w (by decide) rfl rfl rfl wd_304 d rfl) <|
  am_kd (fun d => ak_iload_n d rfl rfl) <|
  am_kd (fun d => ak_aload_n d rfl rfl) <|
  am_kd (fun d => ak_getI (C := RX4) (T := TX4) (N := 19) rfl inX4w (by decide) rfl rfl rfl wd_305 d rfl) <|
  am_kd (fun d => ak_callV (C := RX2) (F := TX2) (N := 8) metX2_earned rfl ⟨rfl, hy_X2_earned⟩ (am_w5 wd_571 wd_459 wd_460 wd_62 wd_461) (by decide) d rfl) <|
  am_kd (fun d => ak_aload_n d rfl rfl) <|
  am_kd (fun d => ak_getR (C := RX4) (T := TX4) (N := 19) rfl inX4w (by decide) rfl rfl rfl wd_291 d rfl) <|
  am_kd (fun d => ak_getR (C := RX0) (T := TX0) (N := 13) rfl inX0w (by decide) rfl rfl rfl wd_195 d rfl) <|
  am_kd (fun d => ak_getR (C := RX2) (T := TX2) (N := 8) rfl inX2w (by decide) rfl rfl rfl wd_112 d rfl) <|
  am_kd (fun d => ak_aload_n d rfl rfl) <|
  am_kd (fun d => ak_getI (C := RX4) (T := TX4) (N := 19) rfl inX4w (by decide) rfl rfl rfl wd_304 d rfl) <|
  am_kd (fun d => ak_bipush d (by decide +kernel) rfl) <|
  am_kd (fun d => ak_imul d rfl) <|
  am_kd (fun d => ak_iload_n d rfl rfl) <|
  am_kd (fun d => ak_iadd d rfl) <|
  am_kd (fun d => ak_iald (t := 0) (fun _ => rfl) rfl d rfl) <|
  am_kd (fun d => ak_aload_n d rfl rfl) <|
  am_kd (fun d => ak_getR (C := RX4) (T := TX4) (N := 19) rfl inX4w (by decide) rfl rfl rfl wd_291 d rfl) <|
  am_kd (fun d => ak_getR (C := RX0) (T := TX0) (N := 13) rfl inX0w (by decide) rfl rfl rfl wd_195 d rfl) <|
  am_kd (fun d => ak_aload_n d rfl rfl) <|
  am_kd (fun d => ak_getI (C := RX4) (T := TX4) (N := 19) rfl inX4w (by decide) rfl rfl rfl wd_304 d rfl) <|
  am_kd (fun d => ak_iload_n d rfl rfl) <|
  am_kd (fun d => ak_callV (C := RX2) (F := TX2) (N := 8) metX2_isDead rfl ⟨rfl, hy_X2_isDead⟩ (am_w5 wd_554 wd_555 wd_556 wd_62 wd_557) (by decide) d rfl) <|
  am_kd (fun d => ak_callV (C := RX4) (F := TX4) (N := 19) metX4_suppose rfl ⟨rfl, hy_X4_suppose⟩ (am_w5 wd_567 wd_568 wd_569 wd_60 wd_570) (by decide) d rfl) <|
  am_kd (fun d => ak_retV d) <| am_kdn
def TX4_look : am_T := fun live as M R => match as with
  | [.ref n, .int y] => am_mn live ∧ n = 4 ∧ am_in y 40 ∧ g_rI M ∧ ∀ M', g_sc M M' → g_rI M' → R none M'
  | _ => False
theorem g_40 {a y : Int32} {n : Nat} (hn : n ≤ 100) (h1 : am_in a n) (h2 : am_in y 40) : (a * 40 + y).toInt = a.toInt * 40 + y.toInt := by
  obtain ⟨a1, a2⟩ := h1
  obtain ⟨b1, b2⟩ := h2
  have e := i_mul (x := a) (y := 40) (by simp only [Int32.reduceToInt]; omega) (by simp only [Int32.reduceToInt]; omega)
  simp only [Int32.reduceToInt] at e
  rw [i_add (by rw [e]; omega) (by rw [e]; omega), e]
theorem g_01 (q : Prop) [Decidable q] : (if q then (1 : Int32) else 0) = 0 ∨ (if q then (1 : Int32) else 0) = 1 := by
  split
  · exact Or.inr rfl
  · exact Or.inl rfl
theorem g_d2 {x : Int32} (h : am_in x 2) : x = 0 ∨ x = 1 := by
  obtain ⟨h1, h2⟩ := h
  simp only [i_eq, Int32.reduceToInt]
  omega
set_option maxRecDepth 100000 in
set_option maxHeartbeats 4000000 in
theorem metX4_look : am_Met yX4_look cX4_look 2 none (1) (24) TX4_look := by
  refine am_met (own := RX4) (by decide +kernel) rfl kX4_look koX4_look 100 (fun _ _ _ _ _ => none) (fun live as M Ret h => ?_) (fun _ _ _ _ _ _ _ _ hI => by cases hI)
  unfold TX4_look at h
  split at h
  · next n y =>
    refine ⟨Nat.le_of_ble_eq_true rfl, ?_⟩
    change am_wp _ _ _ _ [(0, Value.ref n), (1, Value.int y)] _ _
    obtain ⟨hmn, rfl, hy, hr, h⟩ := h
    have hmn2 := hmn
    obtain ⟨i1, i2, rfl⟩ := hmn2
    have l56 : am_len 56 = 160 := rfl
    have l24 : am_len 24 = 480 := rfl
    have hp := hr.s.pe
    have ep := g_40 (by decide) hp hy
    have hy1 := hy.1
    have hy2 := hy.2
    have hp1 := hp.1
    have hp2 := hp.2
    have hld := hr.t.ld (k := (M.1 4 8 * 40 + y).toNatClampNeg) (by have := i_clamp (x := M.1 4 8 * 40 + y) (by omega); omega)
    by_cases hz : M.1 4 11 = -1
    · skip
      repeat' (first | (with_reducible exact hmn) | (with_reducible exact hp) | apply And.intro | exact rfl | (intro hx; with_reducible exact absurd hz hx) | intro hx | (refine Exists.intro _ (And.intro rfl ?_)))
      all_goals try first | (with_reducible change am_tI _ _) | (change Ret _ _) | (change Ret _ _ _) | (change Exists _)
      all_goals try dsimp only at *
      all_goals try (with_reducible exact absurd ‹(1000 : Int64) = 0› am_z1000)
      all_goals first
        | (with_reducible exact hp.1)
        | (with_reducible exact hp.2)
        | (with_reducible exact g_01 _)
        | (rw [ep]; omega)
        | (rw [ep, l24]; omega)
        | exact hp.1
        | exact hp.2
        | exact g_01 _
        | skip
      exact h _ (((g_sc.rf.wI rfl).wI rfl).wI rfl) (((hr.wF rfl).w417 hld).wF rfl)
    · have hl := hr.s.li.resolve_left hz
      have el := g_40 (by decide) hl hy
      have hl1 := hl.1
      have hl2 := hl.2
      repeat' (first | (with_reducible exact hmn) | apply And.intro | exact rfl | (intro hx; with_reducible exact absurd hx hz) | intro hx | (refine Exists.intro _ (And.intro rfl ?_)))
      all_goals try first | (with_reducible change am_tI _ _) | (change Ret _ _) | (change Ret _ _ _) | (change Exists _)
      all_goals try dsimp only at *
      all_goals try (with_reducible exact absurd ‹(1000 : Int64) = 0› am_z1000)
      all_goals first
        | (left; rfl)
        | (rw [el]; omega)
        | (rw [el, l56]; omega)
        | (with_reducible exact g_d2 hr.s.da)
        | exact g_d2 hr.s.da
        | skip
      exact h _ (((g_sc.rf.wI rfl).wI rfl).wI rfl) (((hr.wF rfl).w417 ⟨by decide, by decide⟩).wF rfl)
  · exact h.elim
set_option maxRecDepth 100000 in
theorem wd_214 : Cond.fieldLink "LearnLoans$Run" 193 "LearnLoans$House" "texts" "[LLearnLoans$Text;" ∈ am_ws := am_wt1 (List.mem_of_getElem? (i := 157) (by rfl)) (by decide +kernel)
set_option maxRecDepth 100000 in
theorem wd_176 : Cond.fieldLink "LearnLoans$Run" 197 "LearnLoans$Text" "wrong" "I" ∈ am_ws := am_wt1 (List.mem_of_getElem? (i := 119) (by rfl)) (by decide +kernel)
set_option maxRecDepth 100000 in
theorem wd_301 : Cond.fieldLink "LearnLoans$Run" 35 "LearnLoans$Run" "letters" "LLearnLoans$Letters;" ∈ am_ws := am_wt2 (List.mem_of_getElem? (i := 4) (by rfl)) (by decide +kernel)
set_option maxRecDepth 100000 in
theorem wd_262 : Cond.fieldLink "LearnLoans$Run" 202 "LearnLoans$Letters" "rate" "J" ∈ am_ws := am_wt1 (List.mem_of_getElem? (i := 205) (by rfl)) (by decide +kernel)
set_option maxRecDepth 100000 in
theorem wd_201 : Cond.fieldLink "LearnLoans$Run" 205 "LearnLoans$House" "prices" "[I" ∈ am_ws := am_wt1 (List.mem_of_getElem? (i := 144) (by rfl)) (by decide +kernel)
set_option maxRecDepth 100000 in
theorem wd_264 : Cond.fieldLink "LearnLoans$Run" 208 "LearnLoans$Letters" "prices" "J" ∈ am_ws := am_wt1 (List.mem_of_getElem? (i := 207) (by rfl)) (by decide +kernel)
set_option maxRecDepth 100000 in
theorem wd_266 : Cond.fieldLink "LearnLoans$Run" 210 "LearnLoans$Letters" "earned" "J" ∈ am_ws := am_wt1 (List.mem_of_getElem? (i := 209) (by rfl)) (by decide +kernel)
set_option maxRecDepth 100000 in
theorem wd_268 : Cond.fieldLink "LearnLoans$Run" 212 "LearnLoans$Letters" "line" "J" ∈ am_ws := am_wt1 (List.mem_of_getElem? (i := 211) (by rfl)) (by decide +kernel)
set_option maxRecDepth 100000 in
theorem wd_270 : Cond.fieldLink "LearnLoans$Run" 215 "LearnLoans$Letters" "years" "J" ∈ am_ws := am_wt1 (List.mem_of_getElem? (i := 213) (by rfl)) (by decide +kernel)
set_option maxRecDepth 100000 in
theorem wd_272 : Cond.fieldLink "LearnLoans$Run" 218 "LearnLoans$Letters" "owed" "J" ∈ am_ws := am_wt1 (List.mem_of_getElem? (i := 215) (by rfl)) (by decide +kernel)
set_option maxRecDepth 100000 in
theorem wd_274 : Cond.fieldLink "LearnLoans$Run" 221 "LearnLoans$Letters" "land" "J" ∈ am_ws := am_wt1 (List.mem_of_getElem? (i := 217) (by rfl)) (by decide +kernel)
set_option maxRecDepth 100000 in
theorem wd_302 : Cond.fieldLink "LearnLoans$Run" 39 "LearnLoans$Run" "stack" "[J" ∈ am_ws := am_wt2 (List.mem_of_getElem? (i := 5) (by rfl)) (by decide +kernel)
theorem hy_X5_worked : yX5_worked.cls ≠ "java/lang/invoke/MethodHandle" ∧ yX5_worked.cls ≠ "java/lang/invoke/VarHandle" ∧ (parseMethodDescriptor yX5_worked.desc).map (fun d => d.parameters.length) = some 2 := ⟨by decide +kernel, by decide +kernel, by decide +kernel⟩
set_option maxRecDepth 100000 in
theorem wd_592 : Cond.methodLink "LearnLoans$Run" 223 yX5_worked ∈ am_ws := am_wt3 (List.mem_of_getElem? (i := 55) (by rfl)) (by decide +kernel)
set_option maxRecDepth 100000 in
theorem wd_593 : Cond.instanceMethod yX5_worked ∈ am_ws := am_wt3 (List.mem_of_getElem? (i := 56) (by rfl)) (by decide +kernel)
set_option maxRecDepth 100000 in
theorem wd_594 : Cond.selects "LearnLoans$Text" yX5_worked yX5_worked ∈ am_ws := am_wt3 (List.mem_of_getElem? (i := 57) (by rfl)) (by decide +kernel)
set_option maxRecDepth 100000 in
theorem wd_595 : Cond.code yX5_worked cX5_worked 7 (some .long) ∈ am_ws := am_wt3 (List.mem_of_getElem? (i := 58) (by rfl)) (by decide +kernel)
set_option maxRecDepth 100000 in
theorem wd_606 : Cond.constantLong "LearnLoans$Run" 227 500 ∈ am_ws := am_wt3 (List.mem_of_getElem? (i := 69) (by rfl)) (by decide +kernel)
def rwX4_rateOf : List dz_r := [(0, .aload_n 0, 1), (1, .iload_n 1, 1), (2, .iload_n 2, 1), (3, .invokevirtual 170, 3), (6, .istore_n 3, 1), (7, .aload_n 0, 1), (8, .getfield 12, 3), (11, .getfield 193, 3), (14, .aload_n 0, 1), (15, .iload_n 1, 1), (16, .iload_n 2, 1), (17, .invokevirtual 190, 3), (20, .aaload, 1), (21, .astore 4, 2), (23, .aload 4, 2), (25, .getfield 197, 3), (28, .iconst (-1), 1), (29, .if_icmp .eq 12, 3), (32, .aload_n 0, 1), (33, .getfield 18, 3), (36, .iload_n 3, 1), (37, .iconst 2, 1), (38, .iadd, 1), (39, .iaload, 1), (40, .ireturn, 1), (41, .aload_n 0, 1), (42, .getfield 35, 3), (45, .aload_n 0, 1), (46, .getfield 18, 3), (49, .iload_n 3, 1), (50, .iconst 2, 1), (51, .iadd, 1), (52, .iaload, 1), (53, .i2l, 1), (54, .putfield 202, 3), (57, .aload_n 0, 1), (58, .getfield 35, 3), (61, .aload_n 0, 1), (62, .getfield 12, 3), (65, .getfield 205, 3), (68, .iload_n 2, 1), (69, .iaload, 1), (70, .i2l, 1), (71, .putfield 208, 3), (74, .aload_n 0, 1), (75, .getfield 35, 3), (78, .aload_n 0, 1), (79, .getfield 140, 3), (82, .i2l, 1), (83, .putfield 210, 3), (86, .aload_n 0, 1), (87, .getfield 35, 3), (90, .aload_n 0, 1), (91, .getfield 18, 3), (94, .iload_n 3, 1), (95, .iconst 0, 1), (96, .iadd, 1), (97, .iaload, 1), (98, .i2l, 1), (99, .putfield 212, 3), (102, .aload_n 0, 1), (103, .getfield 35, 3), (106, .iload_n 2, 1), (107, .aload_n 0, 1), (108, .getfield 12, 3), (111, .getfield 59, 3), (114, .iload_n 1, 1), (115, .iconst 2, 1), (116, .invokevirtual 66, 3), (119, .isub, 1), (120, .i2l, 1), (121, .putfield 215, 3), (124, .aload_n 0, 1), (125, .getfield 35, 3), (128, .aload_n 0, 1), (129, .getfield 22, 3), (132, .iconst 0, 1), (133, .iload_n 1, 1), (134, .iadd, 1), (135, .laload, 1), (136, .putfield 218, 3), (139, .aload_n 0, 1), (140, .getfield 35, 3), (143, .aload_n 0, 1), (144, .getfield 142, 3), (147, .i2l, 1), (148, .putfield 221, 3), (151, .aload 4, 2), (153, .aload_n 0, 1), (154, .getfield 35, 3), (157, .aload_n 0, 1), (158, .getfield 39, 3), (161, .invokevirtual 223, 3), (164, .lstore 5, 2), (166, .lconst 0, 1), (167, .ldc2_w 227, 3), (170, .lload 5, 2), (172, .invokestatic 177, 3), (175, .invokestatic 229, 3), (178, .l2i, 1), (179, .ireturn, 1)]
theorem dzX4_rateOf : dz cX4_rateOf rwX4_rateOf := dz_all 0 (by decide +kernel)
def kX4_rateOf (live : am_E) (Ret : am_R) : am_code := [(0, am_aload 0 1), (1, am_iload 1 2), (2, am_iload 2 3), (3, am_callV live 4 2 TX4_cellOf 6), (6, am_istore 3 7 7), (7, am_aload 0 8), (8, am_getR live 4 0 11), (11, am_getR live 0 7 14), (14, am_aload 0 15), (15, am_iload 1 16), (16, am_iload 2 17), (17, am_callV live 4 2 TX4_planIn 20), (20, am_aald live 3 21), (21, am_astore 4 7 23), (23, am_aload 4 25), (25, am_getI live 5 6 28), (28, am_const (.int (-1)) 29), (29, am_if2 (fun x y => x = y) 41 32), (32, am_aload 0 33), (33, am_getR live 4 1 36), (36, am_iload 3 37), (37, am_const (.int 2) 38), (38, am_i2 (fun x y => x + y) 39), (39, am_ald live 0 40), (40, am_retI Ret), (41, am_aload 0 42), (42, am_getR live 4 5 45), (45, am_aload 0 46), (46, am_getR live 4 1 49), (49, am_iload 3 50), (50, am_const (.int 2) 51), (51, am_i2 (fun x y => x + y) 52), (52, am_ald live 0 53), (53, am_i2l 54), (54, am_putJ live 1 0 57), (57, am_aload 0 58), (58, am_getR live 4 5 61), (61, am_aload 0 62), (62, am_getR live 4 0 65), (65, am_getR live 0 2 68), (68, am_iload 2 69), (69, am_ald live 0 70), (70, am_i2l 71), (71, am_putJ live 1 1 74), (74, am_aload 0 75), (75, am_getR live 4 5 78), (78, am_aload 0 79), (79, am_getI live 4 16 82), (82, am_i2l 83), (83, am_putJ live 1 2 86), (86, am_aload 0 87), (87, am_getR live 4 5 90), (90, am_aload 0 91), (91, am_getR live 4 1 94), (94, am_iload 3 95), (95, am_const (.int 0) 96), (96, am_i2 (fun x y => x + y) 97), (97, am_ald live 0 98), (98, am_i2l 99), (99, am_putJ live 1 3 102), (102, am_aload 0 103), (103, am_getR live 4 5 106), (106, am_iload 2 107), (107, am_aload 0 108), (108, am_getR live 4 0 111), (111, am_getR live 0 4 114), (114, am_iload 1 115), (115, am_const (.int 2) 116), (116, am_callV live 3 2 TX3_at 119), (119, am_i2 (fun x y => x - y) 120), (120, am_i2l 121), (121, am_putJ live 1 4 124), (124, am_aload 0 125), (125, am_getR live 4 5 128), (128, am_aload 0 129), (129, am_getR live 4 2 132), (132, am_const (.int 0) 133), (133, am_iload 1 134), (134, am_i2 (fun x y => x + y) 135), (135, am_lald live 1 136), (136, am_putJ live 1 5 139), (139, am_aload 0 140), (140, am_getR live 4 5 143), (143, am_aload 0 144), (144, am_getI live 4 17 147), (147, am_i2l 148), (148, am_putJ live 1 6 151), (151, am_aload 4 153), (153, am_aload 0 154), (154, am_getR live 4 5 157), (157, am_aload 0 158), (158, am_getR live 4 6 161), (161, am_callV live 5 2 TX5_worked 164), (164, am_lstore 5 7 166), (166, am_const (.long 0) 167), (167, am_const (.long 500) 170), (170, am_lload 5 172), (172, am_mathl (fun x y => if y < x then y else x) 50 175), (175, am_mathl (fun x y => if y < x then x else y) 50 178), (178, am_l2i 179), (179, am_retI Ret)]
theorem koX4_rateOf (live : am_E) (Ret : am_R) : ∀ q ∈ kX4_rateOf live Ret, am_ok RX4 cX4_rateOf 7 (some .int) 2 50 live Ret q.1 q.2 :=
  am_kz dzX4_rateOf <|
  am_kd (fun d => ak_aload_n d rfl rfl) <|
  am_kd (fun d => ak_iload_n d rfl rfl) <|
  am_kd (fun d => ak_iload_n d rfl rfl) <|
  am_kd (fun d => ak_callV (C := RX4) (F := TX4) (N := 19) metX4_cellOf rfl ⟨rfl, hy_X4_cellOf⟩ (am_w5 wd_580 wd_582 wd_4 wd_60 wd_583) (by decide) d rfl) <|
  am_kd (fun d => ak_istore_n d rfl rfl) <|
  am_kd (fun d => ak_aload_n d rfl rfl) <|
  am_kd (fun d => ak_getR (C := RX4) (T := TX4) (N := 19) rfl inX4w (by decide) rfl rfl rfl wd_291 d rfl) <|
  am_kd (fun d => ak_getR (C := RX0) (T := TX0) (N := 13) rfl inX0w (by decide) rfl rfl rfl wd_214 d rfl) <|
  am_kd (fun d => ak_aload_n d rfl rfl) <|
  am_kd (fun d => ak_iload_n d rfl rfl) <|
  am_kd (fun d => ak_iload_n d rfl rfl) <|
  am_kd (fun d => ak_callV (C := RX4) (F := TX4) (N := 19) metX4_planIn rfl ⟨rfl, hy_X4_planIn⟩ (am_w5 wd_584 wd_586 wd_5 wd_60 wd_587) (by decide) d rfl) <|
  am_kd (fun d => ak_aald (t := 3) (fun _ => rfl) rfl d rfl) <|
  am_kd (fun d => ak_astore d rfl) <|
  am_kd (fun d => ak_aload d rfl) <|
  am_kd (fun d => ak_getI (C := RX5) (T := TX5) (N := 7) rfl inX5w (by decide) rfl rfl rfl wd_176 d rfl) <|
  am_kd (fun d => ak_iconst d (by decide +kernel) rfl) <|
  am_kd (fun d => ak_icmp_eq d (by decide +kernel) rfl) <|
  am_kd (fun d => ak_aload_n d rfl rfl) <|
  am_kd (fun d => ak_getR (C := RX4) (T := TX4) (N := 19) rfl inX4w (by decide) rfl rfl rfl wd_294 d rfl) <|
  am_kd (fun d => ak_iload_n d rfl rfl) <|
  am_kd (fun d => ak_iconst d (by decide +kernel) rfl) <|
  am_kd (fun d => ak_iadd d rfl) <|
  am_kd (fun d => ak_iald (t := 0) (fun _ => rfl) rfl d rfl) <|
  am_kd (fun d => ak_retI d) <|
  am_kd (fun d => ak_aload_n d rfl rfl) <|
  am_kd (fun d => ak_getR (C := RX4) (T := TX4) (N := 19) rfl inX4w (by decide) rfl rfl rfl wd_301 d rfl) <|
  am_kd (fun d => ak_aload_n d rfl rfl) <|
  am_kd (fun d => ak_getR (C := RX4) (T := TX4) (N := 19) rfl inX4w (by decide) rfl rfl rfl wd_294 d rfl) <|
  am_kd (fun d => ak_iload_n d rfl rfl) <|
  am_kd (fun d => ak_iconst d (by decide +kernel) rfl) <|
  am_kd (fun d => ak_iadd d rfl) <|
  am_kd (fun d => ak_iald (t := 0) (fun _ => rfl) rfl d rfl) <|
  am_kd (fun d => ak_i2l d rfl) <|
  am_kd (fun d => ak_putJ (C := RX1) (T := TX1) (N := 7) rfl inX1w tyX1_ok nmX1 (by decide) rfl rfl rfl rfl (by decide +kernel) wd_262 d rfl) <|
  am_kd (fun d => ak_aload_n d rfl rfl) <|
  am_kd (fun d => ak_getR (C := RX4) (T := TX4) (N := 19) rfl inX4w (by decide) rfl rfl rfl wd_301 d rfl) <|
  am_kd (fun d => ak_aload_n d rfl rfl) <|
  am_kd (fun d => ak_getR (C := RX4) (T := TX4) (N := 19) rfl inX4w (by decide) rfl rfl rfl wd_291 d rfl) <|
  am_kd (fun d => ak_getR (C := RX0) (T := TX0) (N := 13) rfl inX0w (by decide) rfl rfl rfl wd_201 d rfl) <|
  am_kd (fun d => ak_iload_n d rfl rfl) <|
  am_kd (fun d => ak_iald (t := 0) (fun _ => rfl) rfl d rfl) <|
  am_kd (fun d => ak_i2l d rfl) <|
  am_kd (fun d => ak_putJ (C := RX1) (T := TX1) (N := 7) rfl inX1w tyX1_ok nmX1 (by decide) rfl rfl rfl rfl (by decide +kernel) wd_264 d rfl) <|
  am_kd (fun d => ak_aload_n d rfl rfl) <|
  am_kd (fun d => ak_getR (C := RX4) (T := TX4) (N := 19) rfl inX4w (by decide) rfl rfl rfl wd_301 d rfl) <|
  am_kd (fun d => ak_aload_n d rfl rfl) <|
  am_kd (fun d => ak_getI (C := RX4) (T := TX4) (N := 19) rfl inX4w (by decide) rfl rfl rfl wd_313 d rfl) <|
  am_kd (fun d => ak_i2l d rfl) <|
  am_kd (fun d => ak_putJ (C := RX1) (T := TX1) (N := 7) rfl inX1w tyX1_ok nmX1 (by decide) rfl rfl rfl rfl (by decide +kernel) wd_266 d rfl) <|
  am_kd (fun d => ak_aload_n d rfl rfl) <|
  am_kd (fun d => ak_getR (C := RX4) (T := TX4) (N := 19) rfl inX4w (by decide) rfl rfl rfl wd_301 d rfl) <|
  am_kd (fun d => ak_aload_n d rfl rfl) <|
  am_kd (fun d => ak_getR (C := RX4) (T := TX4) (N := 19) rfl inX4w (by decide) rfl rfl rfl wd_294 d rfl) <|
  am_kd (fun d => ak_iload_n d rfl rfl) <|
  am_kd (fun d => ak_iconst d (by decide +kernel) rfl) <|
  am_kd (fun d => ak_iadd d rfl) <|
  am_kd (fun d => ak_iald (t := 0) (fun _ => rfl) rfl d rfl) <|
  am_kd (fun d => ak_i2l d rfl) <|
  am_kd (fun d => ak_putJ (C := RX1) (T := TX1) (N := 7) rfl inX1w tyX1_ok nmX1 (by decide) rfl rfl rfl rfl (by decide +kernel) wd_268 d rfl) <|
  am_kd (fun d => ak_aload_n d rfl rfl) <|
  am_kd (fun d => ak_getR (C := RX4) (T := TX4) (N := 19) rfl inX4w (by decide) rfl rfl rfl wd_301 d rfl) <|
  am_kd (fun d => ak_iload_n d rfl rfl) <|
  am_kd (fun d => ak_aload_n d rfl rfl) <|
  am_kd (fun d => ak_getR (C := RX4) (T := TX4) (N := 19) rfl inX4w (by decide) rfl rfl rfl wd_291 d rfl) <|
  am_kd (fun d => ak_getR (C := RX0) (T := TX0) (N := 13) rfl inX0w (by decide) rfl rfl rfl wd_206 d rfl) <|
  am_kd (fun d => ak_iload_n d rfl rfl) <|
  am_kd (fun d => ak_iconst d (by decide +kernel) rfl) <|
  am_kd (fun d => ak_callV (C := RX3) (F := TX3) (N := 3) metX3_at rfl ⟨rfl, hy_X3_at⟩ (am_w5 wd_502 wd_503 wd_504 wd_64 wd_505) (by decide) d rfl) <|
  am_kd (fun d => ak_isub d rfl) <|
  am_kd (fun d => ak_i2l d rfl) <|
  am_kd (fun d => ak_putJ (C := RX1) (T := TX1) (N := 7) rfl inX1w tyX1_ok nmX1 (by decide) rfl rfl rfl rfl (by decide +kernel) wd_270 d rfl) <|
  am_kd (fun d => ak_aload_n d rfl rfl) <|
  am_kd (fun d => ak_getR (C := RX4) (T := TX4) (N := 19) rfl inX4w (by decide) rfl rfl rfl wd_301 d rfl) <|
  am_kd (fun d => ak_aload_n d rfl rfl) <|
  am_kd (fun d => ak_getR (C := RX4) (T := TX4) (N := 19) rfl inX4w (by decide) rfl rfl rfl wd_296 d rfl) <|
  am_kd (fun d => ak_iconst d (by decide +kernel) rfl) <|
  am_kd (fun d => ak_iload_n d rfl rfl) <|
  am_kd (fun d => ak_iadd d rfl) <|
  am_kd (fun d => ak_lald (t := 1) (fun _ => rfl) rfl d rfl) <|
  am_kd (fun d => ak_putJ (C := RX1) (T := TX1) (N := 7) rfl inX1w tyX1_ok nmX1 (by decide) rfl rfl rfl rfl (by decide +kernel) wd_272 d rfl) <|
  am_kd (fun d => ak_aload_n d rfl rfl) <|
  am_kd (fun d => ak_getR (C := RX4) (T := TX4) (N := 19) rfl inX4w (by decide) rfl rfl rfl wd_301 d rfl) <|
  am_kd (fun d => ak_aload_n d rfl rfl) <|
  am_kd (fun d => ak_getI (C := RX4) (T := TX4) (N := 19) rfl inX4w (by decide) rfl rfl rfl wd_314 d rfl) <|
  am_kd (fun d => ak_i2l d rfl) <|
  am_kd (fun d => ak_putJ (C := RX1) (T := TX1) (N := 7) rfl inX1w tyX1_ok nmX1 (by decide) rfl rfl rfl rfl (by decide +kernel) wd_274 d rfl) <|
  am_kd (fun d => ak_aload d rfl) <|
  am_kd (fun d => ak_aload_n d rfl rfl) <|
  am_kd (fun d => ak_getR (C := RX4) (T := TX4) (N := 19) rfl inX4w (by decide) rfl rfl rfl wd_301 d rfl) <|
  am_kd (fun d => ak_aload_n d rfl rfl) <|
  am_kd (fun d => ak_getR (C := RX4) (T := TX4) (N := 19) rfl inX4w (by decide) rfl rfl rfl wd_302 d rfl) <|
  am_kd (fun d => ak_callV (C := RX5) (F := TX5) (N := 7) metX5_worked rfl ⟨rfl, hy_X5_worked⟩ (am_w5 wd_592 wd_593 wd_594 wd_65 wd_595) (by decide) d rfl) <|
  am_kd (fun d => ak_lstore d rfl) <|
  am_kd (fun d => ak_lconst d (by decide +kernel) rfl) <|
  am_kd (fun d => ak_ldc2 wd_606 d rfl) <|
  am_kd (fun d => ak_lload d rfl) <|
  am_kd (fun d => ak_lmin (am_w4 wd_607 wd_608 wd_68 wd_609) (by decide) d rfl) <|
  am_kd (fun d => ak_lmax (am_w4 wd_610 wd_611 wd_68 wd_612) (by decide) d rfl) <|
  am_kd (fun d => ak_l2i d rfl) <|
  am_kd (fun d => ak_retI d) <| am_kdn
def TX4_rateOf : am_T := fun live as M R => match as with
  | [.ref n, .int l, .int y] => am_mn live ∧ n = 4 ∧ am_in l 30 ∧ am_in y 40 ∧ g_rI M ∧ ∀ v M', g_sc M M' → g_rI M' → R (some (.int v)) M'
  | _ => False
set_option maxRecDepth 100000 in
set_option maxHeartbeats 4000000 in
theorem metX4_rateOf : am_Met yX4_rateOf cX4_rateOf 7 (some .int) (2) (50) TX4_rateOf := by
  refine am_met (own := RX4) (by decide +kernel) rfl kX4_rateOf koX4_rateOf 150 (fun _ _ _ _ _ => none) (fun live as M Ret h => ?_) (fun _ _ _ _ _ _ _ _ hI => by cases hI)
  unfold TX4_rateOf at h
  split at h
  · next n l y =>
    refine ⟨Nat.le_of_ble_eq_true rfl, ?_⟩
    change am_wp _ _ _ _ [(0, Value.ref n), (1, Value.int l), (2, Value.int y)] _ _
    obtain ⟨hmn, rfl, hl, hy, hr, h⟩ := h
    have hp := hr.pln hl hy
    obtain ⟨t, s, c, h2, k1, k2, k3, h1, ht, -, -, -, k4⟩ := g_txt hmn hp
    have hmn2 := hmn
    obtain ⟨i1, i2, rfl⟩ := hmn2
    have e0 := am_celly hy hp (k := 0) ⟨by decide, by decide⟩
    have e2 := am_celly hy hp (k := 2) ⟨by decide, by decide⟩
    have f0 := g_ix hl 0 0 rfl (by decide)
    have l5 : am_len 5 = 1200 := rfl
    have l6 : am_len 6 = 180 := rfl
    have l30 : am_len 30 = 40 := rfl
    have l38 : am_len 38 = 5 := rfl
    have k0 : Int32.toInt 0 = 0 := rfl
    have k22 : Int32.toInt 2 = 2 := rfl
    have hy1 := hy.1
    have hy2 := hy.2
    have hp1 := hp.1
    have hp2 := hp.2
    repeat' (first | (with_reducible exact hmn) | (with_reducible exact hl) | (with_reducible exact hy) | (with_reducible exact h1) | (with_reducible exact h2) | (refine Exists.intro _ (And.intro h2 ?_)) | apply And.intro | exact rfl | intro hx | (refine Exists.intro _ (And.intro rfl ?_)) | (refine am_tP_in k1 k2 k3 ?_) | ((with_reducible change _ = true); simp only [h1, h2, Bool.true_and]; rfl))
    all_goals try first | (with_reducible change am_tI _ _) | (change Ret _ _) | (change Ret _ _ _) | (change Exists _)
    all_goals try dsimp only at *
    all_goals try (with_reducible exact absurd ‹(1000 : Int64) = 0› am_z1000)
    all_goals first
      | omega
      | (rw [l5]; omega)
      | (rw [l38]; omega)
      | (rw [l30]; omega)
      | (with_reducible exact f0.1)
      | (rw [l6]; exact f0.2.1)
      | (with_reducible exact k4 _ hr.t)
      | (with_reducible exact h _ _ g_sc.rf hr)
      | exact f0.1
      | exact k4 _ hr.t
      | exact h _ _ g_sc.rf hr
      | skip
    exact h _ _ ((((((((g_sc.rf.wJ rfl).wJ rfl).wJ rfl).wJ rfl).wJ rfl).wJ rfl).wJ rfl).st (by with_reducible assumption)) (g_rI.st (((((((hr.wJ).wJ).wJ).wJ).wJ).wJ).wJ) (by with_reducible assumption))
  · exact h.elim
def rwX4_lineUp : List dz_r := [(0, .iconst 0, 1), (1, .istore_n 2, 1), (2, .iconst 0, 1), (3, .istore_n 3, 1), (4, .iload_n 3, 1), (5, .getstatic 232, 3), (8, .iconst 4, 1), (9, .iaload, 1), (10, .if_icmp .gt 72, 3), (13, .iconst 0, 1), (14, .istore 4, 2), (16, .iload 4, 2), (18, .aload_n 0, 1), (19, .getfield 56, 3), (22, .if_icmp .ge 54, 3), (25, .iload_n 2, 1), (26, .bipush 30, 2), (28, .if_icmp .ge 48, 3), (31, .aload_n 0, 1), (32, .getfield 18, 3), (35, .aload_n 0, 1), (36, .aload_n 0, 1), (37, .getfield 26, 3), (40, .iload 4, 2), (42, .iaload, 1), (43, .iload_n 1, 1), (44, .invokevirtual 170, 3), (47, .iconst 4, 1), (48, .iadd, 1), (49, .iaload, 1), (50, .iload_n 3, 1), (51, .if_icmp .ne 19, 3), (54, .aload_n 0, 1), (55, .getfield 29, 3), (58, .iload_n 2, 1), (59, .aload_n 0, 1), (60, .getfield 26, 3), (63, .iload 4, 2), (65, .iaload, 1), (66, .iastore, 1), (67, .iinc 2 1, 3), (70, .iinc 4 1, 3), (73, .goto (-57), 3), (76, .iinc 3 1, 3), (79, .goto (-75), 3), (82, .return_, 1)]
theorem dzX4_lineUp : dz cX4_lineUp rwX4_lineUp := dz_all 0 (by decide +kernel)
def kX4_lineUp (live : am_E) (Ret : am_R) : am_code := [(0, am_const (.int 0) 1), (1, am_istore 2 5 2), (2, am_const (.int 0) 3), (3, am_istore 3 5 4), (4, am_iload 3 5), (5, am_const (.ref 1002) 8), (8, am_const (.int 4) 9), (9, am_sld 2 10), (10, am_if2 (fun x y => y < x) 82 13), (13, am_const (.int 0) 14), (14, am_istore 4 5 16), (16, am_iload 4 18), (18, am_aload 0 19), (19, am_getI live 4 7 22), (22, am_if2 (fun x y => y ≤ x) 76 25), (25, am_iload 2 26), (26, am_const (.int 30) 28), (28, am_if2 (fun x y => y ≤ x) 76 31), (31, am_aload 0 32), (32, am_getR live 4 1 35), (35, am_aload 0 36), (36, am_aload 0 37), (37, am_getR live 4 3 40), (40, am_iload 4 42), (42, am_ald live 0 43), (43, am_iload 1 44), (44, am_callV live 4 2 TX4_cellOf 47), (47, am_const (.int 4) 48), (48, am_i2 (fun x y => x + y) 49), (49, am_ald live 0 50), (50, am_iload 3 51), (51, am_if2 (fun x y => x = y) 54 70), (54, am_aload 0 55), (55, am_getR live 4 4 58), (58, am_iload 2 59), (59, am_aload 0 60), (60, am_getR live 4 3 63), (63, am_iload 4 65), (65, am_ald live 0 66), (66, am_ast live 0 67), (67, am_iinc 2 5 1 70), (70, am_iinc 4 5 1 73), (73, am_goto 16), (76, am_iinc 3 5 1 79), (79, am_goto 4), (82, am_retV Ret)]
theorem koX4_lineUp (live : am_E) (Ret : am_R) : ∀ q ∈ kX4_lineUp live Ret, am_ok RX4 cX4_lineUp 5 none 2 44 live Ret q.1 q.2 :=
  am_kz dzX4_lineUp <|
  am_kd (fun d => ak_iconst d (by decide +kernel) rfl) <|
  am_kd (fun d => ak_istore_n d rfl rfl) <|
  am_kd (fun d => ak_iconst d (by decide +kernel) rfl) <|
  am_kd (fun d => ak_istore_n d rfl rfl) <|
  am_kd (fun d => ak_iload_n d rfl rfl) <|
  am_kd (fun d => ak_getsN (k := 2) (C := "LearnLoans") (n := "MOST") (d := "[I") (host := "LearnLoans") (by decide) rfl (by decide +kernel) d rfl) <|
  am_kd (fun d => ak_iconst d (by decide +kernel) rfl) <|
  am_kd (fun d => ak_sld (by decide) d rfl) <|
  am_kd (fun d => ak_icmp_gt d (by decide +kernel) rfl) <|
  am_kd (fun d => ak_iconst d (by decide +kernel) rfl) <|
  am_kd (fun d => ak_istore d rfl) <|
  am_kd (fun d => ak_iload d rfl) <|
  am_kd (fun d => ak_aload_n d rfl rfl) <|
  am_kd (fun d => ak_getI (C := RX4) (T := TX4) (N := 19) rfl inX4w (by decide) rfl rfl rfl wd_303 d rfl) <|
  am_kd (fun d => ak_icmp_ge d (by decide +kernel) rfl) <|
  am_kd (fun d => ak_iload_n d rfl rfl) <|
  am_kd (fun d => ak_bipush d (by decide +kernel) rfl) <|
  am_kd (fun d => ak_icmp_ge d (by decide +kernel) rfl) <|
  am_kd (fun d => ak_aload_n d rfl rfl) <|
  am_kd (fun d => ak_getR (C := RX4) (T := TX4) (N := 19) rfl inX4w (by decide) rfl rfl rfl wd_294 d rfl) <|
  am_kd (fun d => ak_aload_n d rfl rfl) <|
  am_kd (fun d => ak_aload_n d rfl rfl) <|
  am_kd (fun d => ak_getR (C := RX4) (T := TX4) (N := 19) rfl inX4w (by decide) rfl rfl rfl wd_299 d rfl) <|
  am_kd (fun d => ak_iload d rfl) <|
  am_kd (fun d => ak_iald (t := 0) (fun _ => rfl) rfl d rfl) <|
  am_kd (fun d => ak_iload_n d rfl rfl) <|
  am_kd (fun d => ak_callV (C := RX4) (F := TX4) (N := 19) metX4_cellOf rfl ⟨rfl, hy_X4_cellOf⟩ (am_w5 wd_580 wd_582 wd_4 wd_60 wd_583) (by decide) d rfl) <|
  am_kd (fun d => ak_iconst d (by decide +kernel) rfl) <|
  am_kd (fun d => ak_iadd d rfl) <|
  am_kd (fun d => ak_iald (t := 0) (fun _ => rfl) rfl d rfl) <|
  am_kd (fun d => ak_iload_n d rfl rfl) <|
  am_kd (fun d => ak_icmp_ne d (by decide +kernel) rfl) <|
  am_kd (fun d => ak_aload_n d rfl rfl) <|
  am_kd (fun d => ak_getR (C := RX4) (T := TX4) (N := 19) rfl inX4w (by decide) rfl rfl rfl wd_300 d rfl) <|
  am_kd (fun d => ak_iload_n d rfl rfl) <|
  am_kd (fun d => ak_aload_n d rfl rfl) <|
  am_kd (fun d => ak_getR (C := RX4) (T := TX4) (N := 19) rfl inX4w (by decide) rfl rfl rfl wd_299 d rfl) <|
  am_kd (fun d => ak_iload d rfl) <|
  am_kd (fun d => ak_iald (t := 0) (fun _ => rfl) rfl d rfl) <|
  am_kd (fun d => ak_iast (t := 0) (fun _ => rfl) rfl d rfl) <|
  am_kd (fun d => ak_iinc d (by decide +kernel) rfl) <|
  am_kd (fun d => ak_iinc d (by decide +kernel) rfl) <|
  am_kd (fun d => ak_goto d (by decide +kernel)) <|
  am_kd (fun d => ak_iinc d (by decide +kernel) rfl) <|
  am_kd (fun d => ak_goto d (by decide +kernel)) <|
  am_kd (fun d => ak_retV d) <| am_kdn
def TX4_lineUp : am_T := fun live as M R => match as with
  | [.ref n, .int y] => am_mn live ∧ n = 4 ∧ am_in y 40 ∧ g_rI M ∧ ∀ M', g_sc M M' → g_rI M' → R none M'
  | _ => False
def JX4_lineUp : am_E → List Value → am_M → am_R → am_inv := fun live as M0 _ pc => match as with
  | [.ref n, .int y] => (match pc with
    | 4 => some ([0, 1, 2, 3], fun k L st M => ∃ d o : Int32, L = [(0, .ref 4), (1, .int y), (2, .int d), (3, .int o)] ∧ st = [] ∧ k = ((11 - o.toInt).toNat, 31) ∧ 0 ≤ o.toInt ∧ (0 ≤ d.toInt ∧ d.toInt ≤ 30) ∧ g_sc M0 M ∧ g_rI M)
    | 16 => some ([0, 1, 2, 3, 4], fun k L st M => ∃ d o i : Int32, L = [(0, .ref 4), (1, .int y), (2, .int d), (3, .int o), (4, .int i)] ∧ st = [] ∧ k = ((11 - o.toInt).toNat, (30 - i.toInt).toNat) ∧ (0 ≤ o.toInt ∧ o.toInt ≤ 9) ∧ (0 ≤ d.toInt ∧ d.toInt ≤ 30) ∧ 0 ≤ i.toInt ∧ g_sc M0 M ∧ g_rI M)
    | _ => none)
  | _ => none
set_option maxRecDepth 100000 in
set_option maxHeartbeats 4000000 in
theorem metX4_lineUp : am_Met yX4_lineUp cX4_lineUp 5 none (2) (44) TX4_lineUp := by
  refine am_met (own := RX4) (by decide +kernel) rfl kX4_lineUp koX4_lineUp 100 JX4_lineUp ?_ ?_
  · intro live as M Ret h
    unfold TX4_lineUp at h
    split at h
    · next n y =>
      refine ⟨Nat.le_of_ble_eq_true rfl, ?_⟩
      change am_wp _ _ _ _ [(0, Value.ref n), (1, Value.int y)] _ _
      obtain ⟨hmn, rfl, hy, hr, h⟩ := h
      repeat' (first | apply And.intro | exact rfl | intro hx | (refine Exists.intro _ (And.intro rfl ?_)))
      all_goals try first | (with_reducible change am_tI _ _) | (change Ret _ _) | (change Ret _ _ _) | (change Exists _)
      all_goals try dsimp only at *
      all_goals try (with_reducible exact absurd ‹(1000 : Int64) = 0› am_z1000)
      exact ⟨_, _, _, rfl, rfl, rfl, by decide, ⟨by decide, by decide⟩, g_sc.rf, hr⟩
    · exact h.elim
  · intro live as M0 Ret h k pc I hI L st M hi
    unfold TX4_lineUp at h
    split at h
    · next n y =>
      obtain ⟨hmn, rfl, hy, hr, h⟩ := h
      have hmn2 := hmn
      obtain ⟨i1, i2, rfl⟩ := hmn2
      change (match pc with | 4 => _ | 16 => _ | _ => none) = _ at hI
      split at hI
      · cases hI
        obtain ⟨d, o, rfl, rfl, rfl, e0, e1, e2, e3⟩ := hi
        have s24 : am_sf 2 (4 : Int32).toNatClampNeg = 9 := rfl
        by_cases hz : am_sf 2 (4 : Int32).toNatClampNeg < o
        · skip
          repeat' (first | apply And.intro | exact rfl | (intro hx; with_reducible exact absurd hz hx) | (intro hx; exact absurd hx (by decide)) | (intro hx; exact absurd (by decide) hx) | decide | intro hx | (refine Exists.intro _ (And.intro rfl ?_)))
          all_goals try first | (with_reducible change am_tI _ _) | (change Ret _ _) | (change Ret _ _ _) | (change Exists _)
          all_goals try dsimp only at *
          all_goals try (with_reducible exact absurd ‹(1000 : Int64) = 0› am_z1000)
          all_goals exact h _ e2 e3
        · have hz2 := hz
          rw [s24] at hz2
          simp only [i_lt, Int32.reduceToInt] at hz2
          repeat' (first | apply And.intro | exact rfl | (intro hx; with_reducible exact absurd hx hz) | (intro hx; exact absurd hx (by decide)) | (intro hx; exact absurd (by decide) hx) | decide | intro hx | (refine Exists.intro _ (And.intro rfl ?_)))
          all_goals try first | (with_reducible change am_tI _ _) | (change Ret _ _) | (change Ret _ _ _) | (change Exists _)
          all_goals try dsimp only at *
          all_goals try (with_reducible exact absurd ‹(1000 : Int64) = 0› am_z1000)
          all_goals exact ⟨_, am_lt_r (by simp only [Int32.reduceToInt]; omega), _, _, _, rfl, rfl, rfl, ⟨e0, by omega⟩, e1, by decide, e2, e3⟩
      · cases hI
        obtain ⟨d, o, i, rfl, rfl, rfl, ⟨e0, e4⟩, ⟨e5, e6⟩, e1, e2, e3⟩ := hi
        have ho := i_inc (x := o) (by omega) (by omega)
        by_cases hz : M.1 4 7 ≤ i
        · skip
          repeat' (first | apply And.intro | exact rfl | (intro hx; with_reducible exact absurd hz hx) | intro hx | (refine Exists.intro _ (And.intro rfl ?_)))
          all_goals try first | (with_reducible change am_tI _ _) | (change Ret _ _) | (change Ret _ _ _) | (change Exists _)
          all_goals try dsimp only at *
          all_goals try (with_reducible exact absurd ‹(1000 : Int64) = 0› am_z1000)
          exact ⟨_, am_lt_l (by omega), _, _, rfl, rfl, rfl, by omega, ⟨e5, e6⟩, e2, e3⟩
        · have q := e3.s.sz
          have hz2 := hz
          simp only [i_le] at hz2
          have ha : am_in i 30 := ⟨e1, by omega⟩
          have hb := e3.s.mi (g_cl ha)
          have hp := e3.pln hb hy
          have c4 := am_celly hy hp (k := 4) ⟨by decide, by decide⟩
          have hi := i_inc (x := i) (by omega) (by omega)
          have l5 : am_len 5 = 1200 := rfl
          have l7 : am_len 7 = 30 := rfl
          have l8 : am_len 8 = 30 := rfl
          have k4 : Int32.toInt 4 = 4 := rfl
          have hy1 := hy.1
          have hy2 := hy.2
          have hp1 := hp.1
          have hp2 := hp.2
          by_cases hd : (30 : Int32) ≤ d
          · skip
            repeat' (first | apply And.intro | exact rfl | (intro hx; with_reducible exact absurd hx hz) | (intro hx; with_reducible exact absurd hd hx) | intro hx | (refine Exists.intro _ (And.intro rfl ?_)))
            all_goals try first | (with_reducible change am_tI _ _) | (change Ret _ _) | (change Ret _ _ _) | (change Exists _)
            all_goals try dsimp only at *
            all_goals try (with_reducible exact absurd ‹(1000 : Int64) = 0› am_z1000)
            exact ⟨_, am_lt_l (by omega), _, _, rfl, rfl, rfl, by omega, ⟨e5, e6⟩, e2, e3⟩
          · have hd2 := hd
            simp only [i_le, Int32.reduceToInt] at hd2
            have hdi := i_inc (x := d) (by omega) (by omega)
            repeat' (first | (with_reducible exact hmn) | (with_reducible exact hb) | (with_reducible exact hy) | apply And.intro | exact rfl | (intro hx; with_reducible exact absurd hx hz) | (intro hx; with_reducible exact absurd hx hd) | intro hx | (refine Exists.intro _ (And.intro rfl ?_)))
            all_goals try first | (with_reducible change am_tI _ _) | (change Ret _ _) | (change Ret _ _ _) | (change Exists _)
            all_goals try dsimp only at *
            all_goals try (with_reducible exact absurd ‹(1000 : Int64) = 0› am_z1000)
            all_goals first
              | omega
              | (rw [l7]; exact ha.2)
              | (rw [l5]; omega)
              | (rw [l8]; omega)
              | exact ⟨_, am_lt_r (by omega), _, _, _, rfl, rfl, rfl, ⟨e0, e4⟩, ⟨by omega, by omega⟩, by omega, e2.wI rfl, e3.w8 hb⟩
              | exact ⟨_, am_lt_r (by omega), _, _, _, rfl, rfl, rfl, ⟨e0, e4⟩, ⟨e5, e6⟩, by omega, e2, e3⟩
              | skip
      · cases hI
    · exact h.elim
theorem hy_X4_asked : yX4_asked.cls ≠ "java/lang/invoke/MethodHandle" ∧ yX4_asked.cls ≠ "java/lang/invoke/VarHandle" ∧ (parseMethodDescriptor yX4_asked.desc).map (fun d => d.parameters.length) = some 1 := ⟨by decide +kernel, by decide +kernel, by decide +kernel⟩
set_option maxRecDepth 100000 in
theorem wd_637 : Cond.methodLink "LearnLoans$Run" 235 yX4_asked ∈ am_ws := am_wt3 (List.mem_of_getElem? (i := 100) (by rfl)) (by decide +kernel)
set_option maxRecDepth 100000 in
theorem wd_639 : Cond.instanceMethod yX4_asked ∈ am_ws := am_wt3 (List.mem_of_getElem? (i := 102) (by rfl)) (by decide +kernel)
set_option maxRecDepth 100000 in
theorem wd_11 : Cond.selects "LearnLoans$Run" yX4_asked yX4_asked ∈ am_ws := am_wsi (List.mem_of_getElem? (i := 11) (by rfl)) (by decide +kernel)
set_option maxRecDepth 100000 in
theorem wd_640 : Cond.code yX4_asked cX4_asked 4 (some .long) ∈ am_ws := am_wt3 (List.mem_of_getElem? (i := 103) (by rfl)) (by decide +kernel)
def rwX4_takeAll : List dz_r := [(0, .lconst 0, 1), (1, .lstore_n 2, 1), (2, .iconst 0, 1), (3, .istore 4, 2), (5, .iload 4, 2), (7, .aload_n 0, 1), (8, .getfield 56, 3), (11, .if_icmp .ge 143, 3), (14, .aload_n 0, 1), (15, .getfield 29, 3), (18, .iload 4, 2), (20, .iaload, 1), (21, .istore 5, 2), (23, .lconst 0, 1), (24, .aload_n 0, 1), (25, .aload_n 0, 1), (26, .iload 5, 2), (28, .iload_n 1, 1), (29, .invokevirtual 170, 3), (32, .invokevirtual 235, 3), (35, .lload_n 2, 1), (36, .lsub, 1), (37, .invokestatic 229, 3), (40, .lstore 6, 2), (42, .lload 6, 2), (44, .aload_n 0, 1), (45, .getfield 22, 3), (48, .iconst 0, 1), (49, .iload 5, 2), (51, .iadd, 1), (52, .laload, 1), (53, .invokestatic 177, 3), (56, .lstore 8, 2), (58, .lload_n 2, 1), (59, .lload 8, 2), (61, .ladd, 1), (62, .lstore_n 2, 1), (63, .aload_n 0, 1), (64, .getfield 22, 3), (67, .iconst 0, 1), (68, .iload 5, 2), (70, .iadd, 1), (71, .dup2, 1), (72, .laload, 1), (73, .lload 8, 2), (75, .lsub, 1), (76, .lastore, 1), (77, .aload_n 0, 1), (78, .getfield 22, 3), (81, .bipush 30, 2), (83, .iload 5, 2), (85, .iadd, 1), (86, .lload 8, 2), (88, .lastore, 1), (89, .aload_n 0, 1), (90, .getfield 22, 3), (93, .bipush 90, 2), (95, .iload 5, 2), (97, .iadd, 1), (98, .dup2, 1), (99, .laload, 1), (100, .lload 8, 2), (102, .ladd, 1), (103, .lastore, 1), (104, .aload_n 0, 1), (105, .getfield 12, 3), (108, .getfield 59, 3), (111, .iload 5, 2), (113, .bipush 7, 2), (115, .invokevirtual 66, 3), (118, .istore 10, 2), (120, .iload 10, 2), (122, .iconst (-1), 1), (123, .if_icmp .eq 25, 3), (126, .iload_n 1, 1), (127, .iload 10, 2), (129, .if_icmp .lt 19, 3), (132, .aload_n 0, 1), (133, .getfield 22, 3), (136, .sipush 150, 3), (139, .iload 5, 2), (141, .iadd, 1), (142, .dup2, 1), (143, .laload, 1), (144, .lload 8, 2), (146, .ladd, 1), (147, .lastore, 1), (148, .iinc 4 1, 3), (151, .goto (-146), 3), (154, .return_, 1)]
theorem dzX4_takeAll : dz cX4_takeAll rwX4_takeAll := dz_all 0 (by decide +kernel)
def kX4_takeAll (live : am_E) (Ret : am_R) : am_code := [(0, am_const (.long 0) 1), (1, am_lstore 2 11 2), (2, am_const (.int 0) 3), (3, am_istore 4 11 5), (5, am_iload 4 7), (7, am_aload 0 8), (8, am_getI live 4 7 11), (11, am_if2 (fun x y => y ≤ x) 154 14), (14, am_aload 0 15), (15, am_getR live 4 4 18), (18, am_iload 4 20), (20, am_ald live 0 21), (21, am_istore 5 11 23), (23, am_const (.long 0) 24), (24, am_aload 0 25), (25, am_aload 0 26), (26, am_iload 5 28), (28, am_iload 1 29), (29, am_callV live 4 2 TX4_cellOf 32), (32, am_callV live 4 1 TX4_asked 35), (35, am_lload 2 36), (36, am_l2 (fun x y => x - y) 37), (37, am_mathl (fun x y => if y < x then x else y) 46 40), (40, am_lstore 6 11 42), (42, am_lload 6 44), (44, am_aload 0 45), (45, am_getR live 4 2 48), (48, am_const (.int 0) 49), (49, am_iload 5 51), (51, am_i2 (fun x y => x + y) 52), (52, am_lald live 1 53), (53, am_mathl (fun x y => if y < x then y else x) 46 56), (56, am_lstore 8 11 58), (58, am_lload 2 59), (59, am_lload 8 61), (61, am_l2 (fun x y => x + y) 62), (62, am_lstore 2 11 63), (63, am_aload 0 64), (64, am_getR live 4 2 67), (67, am_const (.int 0) 68), (68, am_iload 5 70), (70, am_i2 (fun x y => x + y) 71), (71, am_dup2 72), (72, am_lald live 1 73), (73, am_lload 8 75), (75, am_l2 (fun x y => x - y) 76), (76, am_last live 1 77), (77, am_aload 0 78), (78, am_getR live 4 2 81), (81, am_const (.int 30) 83), (83, am_iload 5 85), (85, am_i2 (fun x y => x + y) 86), (86, am_lload 8 88), (88, am_last live 1 89), (89, am_aload 0 90), (90, am_getR live 4 2 93), (93, am_const (.int 90) 95), (95, am_iload 5 97), (97, am_i2 (fun x y => x + y) 98), (98, am_dup2 99), (99, am_lald live 1 100), (100, am_lload 8 102), (102, am_l2 (fun x y => x + y) 103), (103, am_last live 1 104), (104, am_aload 0 105), (105, am_getR live 4 0 108), (108, am_getR live 0 4 111), (111, am_iload 5 113), (113, am_const (.int 7) 115), (115, am_callV live 3 2 TX3_at 118), (118, am_istore 10 11 120), (120, am_iload 10 122), (122, am_const (.int (-1)) 123), (123, am_if2 (fun x y => x = y) 148 126), (126, am_iload 1 127), (127, am_iload 10 129), (129, am_if2 (fun x y => x < y) 148 132), (132, am_aload 0 133), (133, am_getR live 4 2 136), (136, am_const (.int 150) 139), (139, am_iload 5 141), (141, am_i2 (fun x y => x + y) 142), (142, am_dup2 143), (143, am_lald live 1 144), (144, am_lload 8 146), (146, am_l2 (fun x y => x + y) 147), (147, am_last live 1 148), (148, am_iinc 4 11 1 151), (151, am_goto 5), (154, am_retV Ret)]
theorem koX4_takeAll (live : am_E) (Ret : am_R) : ∀ q ∈ kX4_takeAll live Ret, am_ok RX4 cX4_takeAll 11 none 2 46 live Ret q.1 q.2 :=
  am_kz dzX4_takeAll <|
  am_kd (fun d => ak_lconst d (by decide +kernel) rfl) <|
  am_kd (fun d => ak_lstore_n d rfl rfl) <|
  am_kd (fun d => ak_iconst d (by decide +kernel) rfl) <|
  am_kd (fun d => ak_istore d rfl) <|
  am_kd (fun d => ak_iload d rfl) <|
  am_kd (fun d => ak_aload_n d rfl rfl) <|
  am_kd (fun d => ak_getI (C := RX4) (T := TX4) (N := 19) rfl inX4w (by decide) rfl rfl rfl wd_303 d rfl) <|
  am_kd (fun d => ak_icmp_ge d (by decide +kernel) rfl) <|
  am_kd (fun d => ak_aload_n d rfl rfl) <|
  am_kd (fun d => ak_getR (C := RX4) (T := TX4) (N := 19) rfl inX4w (by decide) rfl rfl rfl wd_300 d rfl) <|
  am_kd (fun d => ak_iload d rfl) <|
  am_kd (fun d => ak_iald (t := 0) (fun _ => rfl) rfl d rfl) <|
  am_kd (fun d => ak_istore d rfl) <|
  am_kd (fun d => ak_lconst d (by decide +kernel) rfl) <|
  am_kd (fun d => ak_aload_n d rfl rfl) <|
  am_kd (fun d => ak_aload_n d rfl rfl) <|
  am_kd (fun d => ak_iload d rfl) <|
  am_kd (fun d => ak_iload_n d rfl rfl) <|
  am_kd (fun d => ak_callV (C := RX4) (F := TX4) (N := 19) metX4_cellOf rfl ⟨rfl, hy_X4_cellOf⟩ (am_w5 wd_580 wd_582 wd_4 wd_60 wd_583) (by decide) d rfl) <|
  am_kd (fun d => ak_callV (C := RX4) (F := TX4) (N := 19) metX4_asked rfl ⟨rfl, hy_X4_asked⟩ (am_w5 wd_637 wd_639 wd_11 wd_60 wd_640) (by decide) d rfl) <|
  am_kd (fun d => ak_lload_n d rfl rfl) <|
  am_kd (fun d => ak_lsub d rfl) <|
  am_kd (fun d => ak_lmax (am_w4 wd_610 wd_611 wd_68 wd_612) (by decide) d rfl) <|
  am_kd (fun d => ak_lstore d rfl) <|
  am_kd (fun d => ak_lload d rfl) <|
  am_kd (fun d => ak_aload_n d rfl rfl) <|
  am_kd (fun d => ak_getR (C := RX4) (T := TX4) (N := 19) rfl inX4w (by decide) rfl rfl rfl wd_296 d rfl) <|
  am_kd (fun d => ak_iconst d (by decide +kernel) rfl) <|
  am_kd (fun d => ak_iload d rfl) <|
  am_kd (fun d => ak_iadd d rfl) <|
  am_kd (fun d => ak_lald (t := 1) (fun _ => rfl) rfl d rfl) <|
  am_kd (fun d => ak_lmin (am_w4 wd_607 wd_608 wd_68 wd_609) (by decide) d rfl) <|
  am_kd (fun d => ak_lstore d rfl) <|
  am_kd (fun d => ak_lload_n d rfl rfl) <|
  am_kd (fun d => ak_lload d rfl) <|
  am_kd (fun d => ak_ladd d rfl) <|
  am_kd (fun d => ak_lstore_n d rfl rfl) <|
  am_kd (fun d => ak_aload_n d rfl rfl) <|
  am_kd (fun d => ak_getR (C := RX4) (T := TX4) (N := 19) rfl inX4w (by decide) rfl rfl rfl wd_296 d rfl) <|
  am_kd (fun d => ak_iconst d (by decide +kernel) rfl) <|
  am_kd (fun d => ak_iload d rfl) <|
  am_kd (fun d => ak_iadd d rfl) <|
  am_kd (fun d => ak_dup2 d rfl) <|
  am_kd (fun d => ak_lald (t := 1) (fun _ => rfl) rfl d rfl) <|
  am_kd (fun d => ak_lload d rfl) <|
  am_kd (fun d => ak_lsub d rfl) <|
  am_kd (fun d => ak_last (t := 1) (fun _ => rfl) rfl d rfl) <|
  am_kd (fun d => ak_aload_n d rfl rfl) <|
  am_kd (fun d => ak_getR (C := RX4) (T := TX4) (N := 19) rfl inX4w (by decide) rfl rfl rfl wd_296 d rfl) <|
  am_kd (fun d => ak_bipush d (by decide +kernel) rfl) <|
  am_kd (fun d => ak_iload d rfl) <|
  am_kd (fun d => ak_iadd d rfl) <|
  am_kd (fun d => ak_lload d rfl) <|
  am_kd (fun d => ak_last (t := 1) (fun _ => rfl) rfl d rfl) <|
  am_kd (fun d => ak_aload_n d rfl rfl) <|
  am_kd (fun d => ak_getR (C := RX4) (T := TX4) (N := 19) rfl inX4w (by decide) rfl rfl rfl wd_296 d rfl) <|
  am_kd (fun d => ak_bipush d (by decide +kernel) rfl) <|
  am_kd (fun d => ak_iload d rfl) <|
  am_kd (fun d => ak_iadd d rfl) <|
  am_kd (fun d => ak_dup2 d rfl) <|
  am_kd (fun d => ak_lald (t := 1) (fun _ => rfl) rfl d rfl) <|
  am_kd (fun d => ak_lload d rfl) <|
  am_kd (fun d => ak_ladd d rfl) <|
  am_kd (fun d => ak_last (t := 1) (fun _ => rfl) rfl d rfl) <|
  am_kd (fun d => ak_aload_n d rfl rfl) <|
  am_kd (fun d => ak_getR (C := RX4) (T := TX4) (N := 19) rfl inX4w (by decide) rfl rfl rfl wd_291 d rfl) <|
  am_kd (fun d => ak_getR (C := RX0) (T := TX0) (N := 13) rfl inX0w (by decide) rfl rfl rfl wd_206 d rfl) <|
  am_kd (fun d => ak_iload d rfl) <|
  am_kd (fun d => ak_bipush d (by decide +kernel) rfl) <|
  am_kd (fun d => ak_callV (C := RX3) (F := TX3) (N := 3) metX3_at rfl ⟨rfl, hy_X3_at⟩ (am_w5 wd_502 wd_503 wd_504 wd_64 wd_505) (by decide) d rfl) <|
  am_kd (fun d => ak_istore d rfl) <|
  am_kd (fun d => ak_iload d rfl) <|
  am_kd (fun d => ak_iconst d (by decide +kernel) rfl) <|
  am_kd (fun d => ak_icmp_eq d (by decide +kernel) rfl) <|
  am_kd (fun d => ak_iload_n d rfl rfl) <|
  am_kd (fun d => ak_iload d rfl) <|
  am_kd (fun d => ak_icmp_lt d (by decide +kernel) rfl) <|
  am_kd (fun d => ak_aload_n d rfl rfl) <|
  am_kd (fun d => ak_getR (C := RX4) (T := TX4) (N := 19) rfl inX4w (by decide) rfl rfl rfl wd_296 d rfl) <|
  am_kd (fun d => ak_sipush d (by decide +kernel) rfl) <|
  am_kd (fun d => ak_iload d rfl) <|
  am_kd (fun d => ak_iadd d rfl) <|
  am_kd (fun d => ak_dup2 d rfl) <|
  am_kd (fun d => ak_lald (t := 1) (fun _ => rfl) rfl d rfl) <|
  am_kd (fun d => ak_lload d rfl) <|
  am_kd (fun d => ak_ladd d rfl) <|
  am_kd (fun d => ak_last (t := 1) (fun _ => rfl) rfl d rfl) <|
  am_kd (fun d => ak_iinc d (by decide +kernel) rfl) <|
  am_kd (fun d => ak_goto d (by decide +kernel)) <|
  am_kd (fun d => ak_retV d) <| am_kdn
def TX4_takeAll : am_T := fun live as M R => match as with
  | [.ref n, .int y] => am_mn live ∧ n = 4 ∧ am_in y 40 ∧ g_rI M ∧ ∀ M', g_sc M M' → g_rI M' → R none M'
  | _ => False
def JX4_takeAll : am_E → List Value → am_M → am_R → am_inv := fun live as M0 _ pc => match as with
  | [.ref n, .int y] => (match pc with
    | 5 => some ([0, 1, 2, 4], fun k L st M => ∃ (v : Int64) (i : Int32), L = [(0, .ref 4), (1, .int y), (2, .long v), (4, .int i)] ∧ st = [] ∧ k = ((31 - i.toInt).toNat, 0) ∧ 0 ≤ i.toInt ∧ g_sc M0 M ∧ g_rI M)
    | _ => none)
  | _ => none
set_option maxRecDepth 100000 in
set_option maxHeartbeats 4000000 in
theorem metX4_takeAll : am_Met yX4_takeAll cX4_takeAll 11 none (2) (46) TX4_takeAll := by
  refine am_met (own := RX4) (by decide +kernel) rfl kX4_takeAll koX4_takeAll 150 JX4_takeAll ?_ ?_
  · intro live as M Ret h
    unfold TX4_takeAll at h
    split at h
    · next n y =>
      refine ⟨Nat.le_of_ble_eq_true rfl, ?_⟩
      change am_wp _ _ _ _ [(0, Value.ref n), (1, Value.int y)] _ _
      obtain ⟨hmn, rfl, hy, hr, h⟩ := h
      repeat' (first | apply And.intro | exact rfl | intro hx | (refine Exists.intro _ (And.intro rfl ?_)))
      all_goals try first | (with_reducible change am_tI _ _) | (change Ret _ _) | (change Ret _ _ _) | (change Exists _)
      all_goals try dsimp only at *
      all_goals try (with_reducible exact absurd ‹(1000 : Int64) = 0› am_z1000)
      exact ⟨_, _, _, rfl, rfl, rfl, by decide, g_sc.rf, hr⟩
    · exact h.elim
  · intro live as M0 Ret h k pc I hI L st M hi
    unfold TX4_takeAll at h
    split at h
    · next n y =>
      obtain ⟨hmn, rfl, hy, hr, h⟩ := h
      have hmn2 := hmn
      obtain ⟨i1, i2, rfl⟩ := hmn2
      change (match pc with | 5 => _ | _ => none) = _ at hI
      split at hI
      · cases hI
        obtain ⟨v, i, rfl, rfl, rfl, e1, e2, e3⟩ := hi
        by_cases hz : M.1 4 7 ≤ i
        · skip
          repeat' (first | apply And.intro | exact rfl | (intro hx; with_reducible exact absurd hz hx) | intro hx | (refine Exists.intro _ (And.intro rfl ?_)))
          all_goals try first | (with_reducible change am_tI _ _) | (change Ret _ _) | (change Ret _ _ _) | (change Exists _)
          all_goals try dsimp only at *
          all_goals try (with_reducible exact absurd ‹(1000 : Int64) = 0› am_z1000)
          exact h _ e2 e3
        · have q := e3.s.sz
          have hz2 := hz
          simp only [i_le] at hz2
          have ha : am_in i 30 := ⟨e1, by omega⟩
          have hb := e3.s.qu (g_cl ha)
          have hp := e3.pln hb hy
          have hla := e3.s.la
          have hi := i_inc (x := i) (by omega) (by omega)
          have f0 := g_ix hb 0 0 rfl (by decide)
          have f30 := g_ix hb 30 30 rfl (by decide)
          have f90 := g_ix hb 90 90 rfl (by decide)
          have f150 := g_ix hb 150 150 rfl (by decide)
          have l6 : am_len 6 = 180 := rfl
          have l8 : am_len 8 = 30 := rfl
          have e0 := am_celly hy hp (k := 0) ⟨by decide, by decide⟩
          have k0 : Int32.toInt 0 = 0 := rfl
          rw [Int32.add_zero] at e0
          have hy1 := hy.1
          have hy2 := hy.2
          have hp1 := hp.1
          have hp2 := hp.2
          repeat' (first | (with_reducible exact hmn) | (with_reducible exact hb) | (with_reducible exact hy) | (with_reducible exact hla) | apply And.intro | exact rfl | (intro hx; with_reducible exact absurd hx hz) | intro hx | (refine Exists.intro _ (And.intro rfl ?_)))
          all_goals try first | (with_reducible change am_tI _ _) | (change Ret _ _) | (change Ret _ _ _) | (change Exists _)
          all_goals try dsimp only at *
          all_goals try (with_reducible exact absurd ‹(1000 : Int64) = 0› am_z1000)
          all_goals first
            | omega
            | (rw [l8]; exact ha.2)
            | (with_reducible exact f0.1)
            | (rw [l6]; exact f0.2.1)
            | (with_reducible exact f30.1)
            | (rw [l6]; exact f30.2.1)
            | (with_reducible exact f90.1)
            | (rw [l6]; exact f90.2.1)
            | (with_reducible exact f150.1)
            | (rw [l6]; exact f150.2.1)
            | exact f0.1
            | exact f30.1
            | exact f90.1
            | exact f150.1
            | exact ⟨_, am_lt_l (by omega), _, _, rfl, rfl, rfl, by omega, (((e2.wJ rfl).wJ rfl).wJ rfl), ((e3.wJ).wJ).wJ⟩
            | exact ⟨_, am_lt_l (by omega), _, _, rfl, rfl, rfl, by omega, ((((e2.wJ rfl).wJ rfl).wJ rfl).wJ rfl), (((e3.wJ).wJ).wJ).wJ⟩
            | skip
      · cases hI
    · exact h.elim
end
-- part 25.run5.lean.txt
section
/-! Run: what is safe of it, III -/
set_option maxRecDepth 100000 in
theorem wd_499 : Cond.methodLink "LearnLoans$Run" 110 arraycopyName ∈ am_ws := am_wt2 (List.mem_of_getElem? (i := 202) (by rfl)) (by decide +kernel)
set_option maxRecDepth 100000 in
theorem wd_149 : Cond.fieldLink "LearnLoans$Run" 63 "LearnLoans$Rows" "size" "I" ∈ am_ws := am_wt1 (List.mem_of_getElem? (i := 92) (by rfl)) (by decide +kernel)
set_option maxRecDepth 100000 in
theorem wd_107 : Cond.fieldLink "LearnLoans$Run" 119 "LearnLoans$People" "began" "[I" ∈ am_ws := am_wt1 (List.mem_of_getElem? (i := 50) (by rfl)) (by decide +kernel)
theorem hy_X4_layAct : yX4_layAct.cls ≠ "java/lang/invoke/MethodHandle" ∧ yX4_layAct.cls ≠ "java/lang/invoke/VarHandle" ∧ (parseMethodDescriptor yX4_layAct.desc).map (fun d => d.parameters.length) = some 3 := ⟨by decide +kernel, by decide +kernel, by decide +kernel⟩
set_option maxRecDepth 100000 in
theorem wd_506 : Cond.methodLink "LearnLoans$Run" 122 yX4_layAct ∈ am_ws := am_wt2 (List.mem_of_getElem? (i := 209) (by rfl)) (by decide +kernel)
set_option maxRecDepth 100000 in
theorem wd_508 : Cond.instanceMethod yX4_layAct ∈ am_ws := am_wt2 (List.mem_of_getElem? (i := 211) (by rfl)) (by decide +kernel)
set_option maxRecDepth 100000 in
theorem wd_1 : Cond.selects "LearnLoans$Run" yX4_layAct yX4_layAct ∈ am_ws := am_wsi (List.mem_of_getElem? (i := 1) (by rfl)) (by decide +kernel)
set_option maxRecDepth 100000 in
theorem wd_509 : Cond.code yX4_layAct cX4_layAct 6 none ∈ am_ws := am_wt2 (List.mem_of_getElem? (i := 212) (by rfl)) (by decide +kernel)
def rwX4_layNumbers : List dz_r := [(0, .bipush 30, 2), (2, .istore_n 2, 1), (3, .iconst 0, 1), (4, .istore_n 3, 1), (5, .iload_n 3, 1), (6, .iload_n 2, 1), (7, .if_icmp .ge 23, 3), (10, .aload_n 0, 1), (11, .getfield 18, 3), (14, .iload_n 3, 1), (15, .getstatic 107, 3), (18, .iload_n 3, 1), (19, .bipush 6, 2), (21, .irem, 1), (22, .iaload, 1), (23, .iastore, 1), (24, .iinc 3 1, 3), (27, .goto (-22), 3), (30, .iconst 0, 1), (31, .istore_n 3, 1), (32, .iload_n 3, 1), (33, .bipush 40, 2), (35, .if_icmp .ge 93, 3), (38, .iload_n 3, 1), (39, .ifCond .le 23, 3), (42, .aload_n 0, 1), (43, .getfield 18, 3), (46, .iload_n 3, 1), (47, .iconst 1, 1), (48, .isub, 1), (49, .iload_n 2, 1), (50, .imul, 1), (51, .aload_n 0, 1), (52, .getfield 18, 3), (55, .iload_n 3, 1), (56, .iload_n 2, 1), (57, .imul, 1), (58, .iload_n 2, 1), (59, .invokestatic 110, 3), (62, .iconst 0, 1), (63, .istore 4, 2), (65, .iload 4, 2), (67, .aload_n 0, 1), (68, .getfield 12, 3), (71, .getfield 116, 3), (74, .getfield 63, 3), (77, .if_icmp .ge 45, 3), (80, .aload_n 0, 1), (81, .getfield 12, 3), (84, .getfield 116, 3), (87, .iload 4, 2), (89, .iconst 3, 1), (90, .invokevirtual 66, 3), (93, .iload_n 3, 1), (94, .if_icmp .ne 22, 3), (97, .aload_n 0, 1), (98, .iload 4, 2), (100, .iload_n 3, 1), (101, .aload_n 0, 1), (102, .getfield 12, 3), (105, .getfield 80, 3), (108, .getfield 119, 3), (111, .iload_n 1, 1), (112, .iaload, 1), (113, .invokevirtual 122, 3), (116, .iinc 4 1, 3), (119, .goto (-54), 3), (122, .iinc 3 1, 3), (125, .goto (-93), 3), (128, .return_, 1)]
theorem dzX4_layNumbers : dz cX4_layNumbers rwX4_layNumbers := dz_all 0 (by decide +kernel)
def kX4_layNumbers (live : am_E) (Ret : am_R) : am_code := [(0, am_const (.int 30) 2), (2, am_istore 2 5 3), (3, am_const (.int 0) 4), (4, am_istore 3 5 5), (5, am_iload 3 6), (6, am_iload 2 7), (7, am_if2 (fun x y => y ≤ x) 30 10), (10, am_aload 0 11), (11, am_getR live 4 1 14), (14, am_iload 3 15), (15, am_const (.ref 1000) 18), (18, am_iload 3 19), (19, am_const (.int 6) 21), (21, am_i2z (fun x y => x - x / y * y) 22), (22, am_sld 0 23), (23, am_ast live 0 24), (24, am_iinc 3 5 1 27), (27, am_goto 5), (30, am_const (.int 0) 31), (31, am_istore 3 5 32), (32, am_iload 3 33), (33, am_const (.int 40) 35), (35, am_if2 (fun x y => y ≤ x) 128 38), (38, am_iload 3 39), (39, am_if1 (fun x => x ≤ 0) 62 42), (42, am_aload 0 43), (43, am_getR live 4 1 46), (46, am_iload 3 47), (47, am_const (.int 1) 48), (48, am_i2 (fun x y => x - y) 49), (49, am_iload 2 50), (50, am_i2 (fun x y => x * y) 51), (51, am_aload 0 52), (52, am_getR live 4 1 55), (55, am_iload 3 56), (56, am_iload 2 57), (57, am_i2 (fun x y => x * y) 58), (58, am_iload 2 59), (59, am_copyI live 48 62), (62, am_const (.int 0) 63), (63, am_istore 4 5 65), (65, am_iload 4 67), (67, am_aload 0 68), (68, am_getR live 4 0 71), (71, am_getR live 0 3 74), (74, am_getI live 3 2 77), (77, am_if2 (fun x y => y ≤ x) 122 80), (80, am_aload 0 81), (81, am_getR live 4 0 84), (84, am_getR live 0 3 87), (87, am_iload 4 89), (89, am_const (.int 3) 90), (90, am_callV live 3 2 TX3_at 93), (93, am_iload 3 94), (94, am_if2 (fun x y => x = y) 97 116), (97, am_aload 0 98), (98, am_iload 4 100), (100, am_iload 3 101), (101, am_aload 0 102), (102, am_getR live 4 0 105), (105, am_getR live 0 0 108), (108, am_getR live 2 0 111), (111, am_iload 1 112), (112, am_ald live 0 113), (113, am_callV live 4 3 TX4_layAct 116), (116, am_iinc 4 5 1 119), (119, am_goto 65), (122, am_iinc 3 5 1 125), (125, am_goto 32), (128, am_retV Ret)]
theorem koX4_layNumbers (live : am_E) (Ret : am_R) : ∀ q ∈ kX4_layNumbers live Ret, am_ok RX4 cX4_layNumbers 5 none 2 48 live Ret q.1 q.2 :=
  am_kz dzX4_layNumbers <|
  am_kd (fun d => ak_bipush d (by decide +kernel) rfl) <|
  am_kd (fun d => ak_istore_n d rfl rfl) <|
  am_kd (fun d => ak_iconst d (by decide +kernel) rfl) <|
  am_kd (fun d => ak_istore_n d rfl rfl) <|
  am_kd (fun d => ak_iload_n d rfl rfl) <|
  am_kd (fun d => ak_iload_n d rfl rfl) <|
  am_kd (fun d => ak_icmp_ge d (by decide +kernel) rfl) <|
  am_kd (fun d => ak_aload_n d rfl rfl) <|
  am_kd (fun d => ak_getR (C := RX4) (T := TX4) (N := 19) rfl inX4w (by decide) rfl rfl rfl wd_294 d rfl) <|
  am_kd (fun d => ak_iload_n d rfl rfl) <|
  am_kd (fun d => ak_getsN (k := 0) (C := "LearnLoans") (n := "AT_FIRST") (d := "[I") (host := "LearnLoans") (by decide) rfl (by decide +kernel) d rfl) <|
  am_kd (fun d => ak_iload_n d rfl rfl) <|
  am_kd (fun d => ak_bipush d (by decide +kernel) rfl) <|
  am_kd (fun d => ak_irem d rfl) <|
  am_kd (fun d => ak_sld (by decide) d rfl) <|
  am_kd (fun d => ak_iast (t := 0) (fun _ => rfl) rfl d rfl) <|
  am_kd (fun d => ak_iinc d (by decide +kernel) rfl) <|
  am_kd (fun d => ak_goto d (by decide +kernel)) <|
  am_kd (fun d => ak_iconst d (by decide +kernel) rfl) <|
  am_kd (fun d => ak_istore_n d rfl rfl) <|
  am_kd (fun d => ak_iload_n d rfl rfl) <|
  am_kd (fun d => ak_bipush d (by decide +kernel) rfl) <|
  am_kd (fun d => ak_icmp_ge d (by decide +kernel) rfl) <|
  am_kd (fun d => ak_iload_n d rfl rfl) <|
  am_kd (fun d => ak_if_le d (by decide +kernel) rfl) <|
  am_kd (fun d => ak_aload_n d rfl rfl) <|
  am_kd (fun d => ak_getR (C := RX4) (T := TX4) (N := 19) rfl inX4w (by decide) rfl rfl rfl wd_294 d rfl) <|
  am_kd (fun d => ak_iload_n d rfl rfl) <|
  am_kd (fun d => ak_iconst d (by decide +kernel) rfl) <|
  am_kd (fun d => ak_isub d rfl) <|
  am_kd (fun d => ak_iload_n d rfl rfl) <|
  am_kd (fun d => ak_imul d rfl) <|
  am_kd (fun d => ak_aload_n d rfl rfl) <|
  am_kd (fun d => ak_getR (C := RX4) (T := TX4) (N := 19) rfl inX4w (by decide) rfl rfl rfl wd_294 d rfl) <|
  am_kd (fun d => ak_iload_n d rfl rfl) <|
  am_kd (fun d => ak_iload_n d rfl rfl) <|
  am_kd (fun d => ak_imul d rfl) <|
  am_kd (fun d => ak_iload_n d rfl rfl) <|
  am_kd (fun d => ak_copyI (am_w4 wd_499 wd_501 wd_500 wd_69) (by decide) d rfl) <|
  am_kd (fun d => ak_iconst d (by decide +kernel) rfl) <|
  am_kd (fun d => ak_istore d rfl) <|
  am_kd (fun d => ak_iload d rfl) <|
  am_kd (fun d => ak_aload_n d rfl rfl) <|
  am_kd (fun d => ak_getR (C := RX4) (T := TX4) (N := 19) rfl inX4w (by decide) rfl rfl rfl wd_291 d rfl) <|
  am_kd (fun d => ak_getR (C := RX0) (T := TX0) (N := 13) rfl inX0w (by decide) rfl rfl rfl wd_203 d rfl) <|
  am_kd (fun d => ak_getI (C := RX3) (T := TX3) (N := 3) rfl inX3w (by decide) rfl rfl rfl wd_149 d rfl) <|
  am_kd (fun d => ak_icmp_ge d (by decide +kernel) rfl) <|
  am_kd (fun d => ak_aload_n d rfl rfl) <|
  am_kd (fun d => ak_getR (C := RX4) (T := TX4) (N := 19) rfl inX4w (by decide) rfl rfl rfl wd_291 d rfl) <|
  am_kd (fun d => ak_getR (C := RX0) (T := TX0) (N := 13) rfl inX0w (by decide) rfl rfl rfl wd_203 d rfl) <|
  am_kd (fun d => ak_iload d rfl) <|
  am_kd (fun d => ak_iconst d (by decide +kernel) rfl) <|
  am_kd (fun d => ak_callV (C := RX3) (F := TX3) (N := 3) metX3_at rfl ⟨rfl, hy_X3_at⟩ (am_w5 wd_502 wd_503 wd_504 wd_64 wd_505) (by decide) d rfl) <|
  am_kd (fun d => ak_iload_n d rfl rfl) <|
  am_kd (fun d => ak_icmp_ne d (by decide +kernel) rfl) <|
  am_kd (fun d => ak_aload_n d rfl rfl) <|
  am_kd (fun d => ak_iload d rfl) <|
  am_kd (fun d => ak_iload_n d rfl rfl) <|
  am_kd (fun d => ak_aload_n d rfl rfl) <|
  am_kd (fun d => ak_getR (C := RX4) (T := TX4) (N := 19) rfl inX4w (by decide) rfl rfl rfl wd_291 d rfl) <|
  am_kd (fun d => ak_getR (C := RX0) (T := TX0) (N := 13) rfl inX0w (by decide) rfl rfl rfl wd_195 d rfl) <|
  am_kd (fun d => ak_getR (C := RX2) (T := TX2) (N := 8) rfl inX2w (by decide) rfl rfl rfl wd_107 d rfl) <|
  am_kd (fun d => ak_iload_n d rfl rfl) <|
  am_kd (fun d => ak_iald (t := 0) (fun _ => rfl) rfl d rfl) <|
  am_kd (fun d => ak_callV (C := RX4) (F := TX4) (N := 19) metX4_layAct rfl ⟨rfl, hy_X4_layAct⟩ (am_w5 wd_506 wd_508 wd_1 wd_60 wd_509) (by decide) d rfl) <|
  am_kd (fun d => ak_iinc d (by decide +kernel) rfl) <|
  am_kd (fun d => ak_goto d (by decide +kernel)) <|
  am_kd (fun d => ak_iinc d (by decide +kernel) rfl) <|
  am_kd (fun d => ak_goto d (by decide +kernel)) <|
  am_kd (fun d => ak_retV d) <| am_kdn
theorem i_div {x y : Int32} (hx : 0 ≤ x.toInt) (hy : 0 < y.toInt) : (x / y).toInt = x.toInt / y.toInt := by
  have h1 := Int.ediv_nonneg hx (Int.le_of_lt hy)
  have h2 := Int.ediv_le_self y.toInt hx
  have h3 := i_hi x
  rw [Int32.toInt_div, Int.tdiv_eq_ediv_of_nonneg hx]
  exact Int.bmod_eq_of_le (by omega) (by omega)
theorem i_rem6 {x : Int32} (h1 : 0 ≤ x.toInt) (h2 : x.toInt < 1000000) : am_in (x - x / 6 * 6) 6 := by
  have e := i_div (x := x) (y := 6) h1 (by decide)
  simp only [Int32.reduceToInt] at e
  have e2 := i_mul (x := x / 6) (y := 6) (by simp only [Int32.reduceToInt]; omega) (by simp only [Int32.reduceToInt]; omega)
  simp only [Int32.reduceToInt] at e2
  have e3 := i_sub (x := x) (y := x / 6 * 6) (by omega) (by omega)
  exact ⟨by omega, by omega⟩
def TX4_layNumbers : am_T := fun live as M R => match as with
  | [.ref n, .int p] => am_mn live ∧ n = 4 ∧ am_in p 12 ∧ g_rI M ∧ ∀ M', g_sc M M' → g_rI M' → R none M'
  | _ => False
def JX4_layNumbers : am_E → List Value → am_M → am_R → am_inv := fun live as M0 _ pc => match as with
  | [.ref n, .int p] => (match pc with
    | 5 => some ([0, 1, 2, 3], fun k L st M => ∃ i : Int32, L = [(0, .ref 4), (1, .int p), (2, .int 30), (3, .int i)] ∧ st = [] ∧ k = (1000 + (31 - i.toInt).toNat, 0) ∧ 0 ≤ i.toInt ∧ g_sc M0 M ∧ g_rI M)
    | 32 => some ([0, 1, 2, 3], fun k L st M => ∃ y : Int32, L = [(0, .ref 4), (1, .int p), (2, .int 30), (3, .int y)] ∧ st = [] ∧ k = ((42 - y.toInt).toNat * 2, 0) ∧ 0 ≤ y.toInt ∧ g_sc M0 M ∧ g_rI M)
    | 65 => some ([0, 1, 2, 3, 4], fun k L st M => ∃ y i : Int32, L = [(0, .ref 4), (1, .int p), (2, .int 30), (3, .int y), (4, .int i)] ∧ st = [] ∧ k = ((42 - y.toInt).toNat * 2 - 1, ((M.1 31 2).toInt - i.toInt).toNat) ∧ (0 ≤ y.toInt ∧ y.toInt < 40) ∧ 0 ≤ i.toInt ∧ g_sc M0 M ∧ g_rI M)
    | _ => none)
  | _ => none
set_option maxRecDepth 100000 in
set_option maxHeartbeats 4000000 in
theorem metX4_layNumbers : am_Met yX4_layNumbers cX4_layNumbers 5 none (2) (48) TX4_layNumbers := by
  refine am_met (own := RX4) (by decide +kernel) rfl kX4_layNumbers koX4_layNumbers 150 JX4_layNumbers ?_ ?_
  · intro live as M Ret h
    unfold TX4_layNumbers at h
    split at h
    · next n p =>
      refine ⟨Nat.le_of_ble_eq_true rfl, ?_⟩
      change am_wp _ _ _ _ [(0, Value.ref n), (1, Value.int p)] _ _
      obtain ⟨hmn, rfl, hp, hr, h⟩ := h
      repeat' (first | apply And.intro | exact rfl | intro hx | (refine Exists.intro _ (And.intro rfl ?_)))
      all_goals try first | (with_reducible change am_tI _ _) | (change Ret _ _) | (change Ret _ _ _) | (change Exists _)
      all_goals try dsimp only at *
      all_goals try (with_reducible exact absurd ‹(1000 : Int64) = 0› am_z1000)
      exact ⟨_, _, rfl, rfl, rfl, by decide, g_sc.rf, hr⟩
    · exact h.elim
  · intro live as M0 Ret h k pc I hI L st M hi
    unfold TX4_layNumbers at h
    split at h
    · next n p =>
      obtain ⟨hmn, rfl, hp, hr, h⟩ := h
      have hmn2 := hmn
      obtain ⟨i1, i2, rfl⟩ := hmn2
      have l5 : am_len 5 = 1200 := rfl
      change (match pc with | 5 => _ | 32 => _ | 65 => _ | _ => none) = _ at hI
      split at hI
      · cases hI
        obtain ⟨i, rfl, rfl, rfl, e1, e2, e3⟩ := hi
        by_cases hz : (30 : Int32) ≤ i
        · skip
          repeat' (first | apply And.intro | exact rfl | (intro hx; with_reducible exact absurd hz hx) | intro hx | (refine Exists.intro _ (And.intro rfl ?_)))
          all_goals try first | (with_reducible change am_tI _ _) | (change Ret _ _) | (change Ret _ _ _) | (change Exists _)
          all_goals try dsimp only at *
          all_goals try (with_reducible exact absurd ‹(1000 : Int64) = 0› am_z1000)
          exact ⟨_, am_lt_l (by simp only [Int32.reduceToInt]; omega), _, rfl, rfl, rfl, by decide, e2, e3⟩
        · have hz2 := hz
          simp only [i_le, Int32.reduceToInt] at hz2
          have hi := i_inc (x := i) (by omega) (by omega)
          have hr6 := i_rem6 (x := i) e1 (by omega)
          repeat' (first | apply And.intro | exact rfl | (intro hx; with_reducible exact absurd hx hz) | intro hx | (refine Exists.intro _ (And.intro rfl ?_)))
          all_goals try first | (with_reducible change am_tI _ _) | (change Ret _ _) | (change Ret _ _ _) | (change Exists _)
          all_goals try dsimp only at *
          all_goals try (with_reducible exact absurd ‹(1000 : Int64) = 0› am_z1000)
          all_goals first
            | decide
            | exact absurd hx (by decide)
            | (with_reducible exact hr6.1)
            | (with_reducible exact hr6.2)
            | omega
            | (rw [l5]; omega)
            | exact hr6.1
            | exact hr6.2
            | skip
          exact ⟨_, am_lt_l (by omega), _, rfl, rfl, rfl, by omega, e2.wI rfl, e3.w5⟩
      · cases hI
        obtain ⟨y, rfl, rfl, rfl, e1, e2, e3⟩ := hi
        by_cases hz : (40 : Int32) ≤ y
        · skip
          repeat' (first | apply And.intro | exact rfl | (intro hx; with_reducible exact absurd hz hx) | intro hx | (refine Exists.intro _ (And.intro rfl ?_)))
          all_goals try first | (with_reducible change am_tI _ _) | (change Ret _ _) | (change Ret _ _ _) | (change Exists _)
          all_goals try dsimp only at *
          all_goals try (with_reducible exact absurd ‹(1000 : Int64) = 0› am_z1000)
          exact h _ e2 e3
        · have hz2 := hz
          simp only [i_le, Int32.reduceToInt] at hz2
          have hs := i_sub (x := y) (y := 1) (by simp only [Int32.reduceToInt]; omega) (by simp only [Int32.reduceToInt]; omega)
          simp only [Int32.reduceToInt] at hs
          have ht := i_mul (x := y - 1) (y := 30) (by simp only [Int32.reduceToInt]; omega) (by simp only [Int32.reduceToInt]; omega)
          simp only [Int32.reduceToInt] at ht
          have hu := i_mul (x := y) (y := 30) (by simp only [Int32.reduceToInt]; omega) (by simp only [Int32.reduceToInt]; omega)
          simp only [Int32.reduceToInt] at hu
          by_cases hw : y ≤ 0
          · skip
            repeat' (first | apply And.intro | exact rfl | (intro hx; with_reducible exact absurd hx hz) | (intro hx; with_reducible exact absurd hw hx) | intro hx | (refine Exists.intro _ (And.intro rfl ?_)))
            all_goals try first | (with_reducible change am_tI _ _) | (change Ret _ _) | (change Ret _ _ _) | (change Exists _)
            all_goals try dsimp only at *
            all_goals try (with_reducible exact absurd ‹(1000 : Int64) = 0› am_z1000)
            exact ⟨_, am_lt_l (by omega), _, _, rfl, rfl, rfl, ⟨e1, by omega⟩, by decide, e2, e3⟩
          · have hw2 := hw
            simp only [i_le, Int32.reduceToInt] at hw2
            repeat' (first | apply And.intro | exact rfl | (intro hx; with_reducible exact absurd hx hz) | (intro hx; with_reducible exact absurd hx hw) | intro hx | (refine Exists.intro _ (And.intro rfl ?_)))
            all_goals try first | (with_reducible change am_tI _ _) | (change Ret _ _) | (change Ret _ _ _) | (change Exists _)
            all_goals try dsimp only at *
            all_goals try (with_reducible exact absurd ‹(1000 : Int64) = 0› am_z1000)
            all_goals first
              | exact ⟨_, am_lt_l (by omega), _, _, rfl, rfl, rfl, ⟨e1, by omega⟩, by decide, e2.cI rfl, e3.c5⟩
              | (simp only [l5, Int32.reduceToInt]; omega)
              | omega
              | skip
      · cases hI
        obtain ⟨y, i, rfl, rfl, rfl, ⟨e0, e4⟩, e1, e2, e3⟩ := hi
        have hy := i_inc (x := y) (by omega) (by omega)
        by_cases hz : M.1 31 2 ≤ i
        · skip
          repeat' (first | apply And.intro | exact rfl | (intro hx; with_reducible exact absurd hz hx) | intro hx | (refine Exists.intro _ (And.intro rfl ?_)))
          all_goals try first | (with_reducible change am_tI _ _) | (change Ret _ _) | (change Ret _ _ _) | (change Exists _)
          all_goals try dsimp only at *
          all_goals try (with_reducible exact absurd ‹(1000 : Int64) = 0› am_z1000)
          exact ⟨_, am_lt_l (by omega), _, rfl, rfl, rfl, by omega, e2, e3⟩
        · have hz2 := hz
          simp only [i_le] at hz2
          have hh := i_hi (M.1 31 2)
          have hi := i_add (x := i) (y := 1) (by simp only [Int32.reduceToInt]; omega) (by simp only [Int32.reduceToInt]; omega)
          simp only [Int32.reduceToInt] at hi
          have l22 : am_len 22 = 12 := rfl
          have hp1 := hp.1
          have hp2 := hp.2
          repeat' (first | (with_reducible exact hmn) | (with_reducible exact e3) | apply And.intro | exact rfl | (intro hx; with_reducible exact absurd hx hz) | intro hx | (refine Exists.intro _ (And.intro rfl ?_)))
          all_goals try first | (with_reducible change am_tI _ _) | (change Ret _ _) | (change Ret _ _ _) | (change Exists _)
          all_goals try dsimp only at *
          all_goals try (with_reducible exact absurd ‹(1000 : Int64) = 0› am_z1000)
          all_goals first
            | omega
            | (rw [l22]; omega)
            | exact ⟨_, am_lt_r (by omega), _, _, rfl, rfl, rfl, ⟨e0, e4⟩, by omega, e2, e3⟩
            | skip
          all_goals
            rename_i M1 c1
            exact ⟨_, am_lt_r (by rw [c1.i 2 (by decide)]; omega), _, _, rfl, rfl, rfl, ⟨e0, e4⟩, by omega, e2.tr c1, hx⟩
      · cases hI
    · exact h.elim
theorem hy_X4_isStruck : yX4_isStruck.cls ≠ "java/lang/invoke/MethodHandle" ∧ yX4_isStruck.cls ≠ "java/lang/invoke/VarHandle" ∧ (parseMethodDescriptor yX4_isStruck.desc).map (fun d => d.parameters.length) = some 2 := ⟨by decide +kernel, by decide +kernel, by decide +kernel⟩
set_option maxRecDepth 100000 in
theorem wd_576 : Cond.methodLink "LearnLoans$Run" 148 yX4_isStruck ∈ am_ws := am_wt3 (List.mem_of_getElem? (i := 39) (by rfl)) (by decide +kernel)
set_option maxRecDepth 100000 in
theorem wd_578 : Cond.instanceMethod yX4_isStruck ∈ am_ws := am_wt3 (List.mem_of_getElem? (i := 41) (by rfl)) (by decide +kernel)
set_option maxRecDepth 100000 in
theorem wd_3 : Cond.selects "LearnLoans$Run" yX4_isStruck yX4_isStruck ∈ am_ws := am_wsi (List.mem_of_getElem? (i := 3) (by rfl)) (by decide +kernel)
set_option maxRecDepth 100000 in
theorem wd_579 : Cond.code yX4_isStruck cX4_isStruck 4 (some .boolean) ∈ am_ws := am_wt3 (List.mem_of_getElem? (i := 42) (by rfl)) (by decide +kernel)
theorem hy_X4_rateOf : yX4_rateOf.cls ≠ "java/lang/invoke/MethodHandle" ∧ yX4_rateOf.cls ≠ "java/lang/invoke/VarHandle" ∧ (parseMethodDescriptor yX4_rateOf.desc).map (fun d => d.parameters.length) = some 2 := ⟨by decide +kernel, by decide +kernel, by decide +kernel⟩
set_option maxRecDepth 100000 in
theorem wd_588 : Cond.methodLink "LearnLoans$Run" 151 yX4_rateOf ∈ am_ws := am_wt3 (List.mem_of_getElem? (i := 51) (by rfl)) (by decide +kernel)
set_option maxRecDepth 100000 in
theorem wd_589 : Cond.instanceMethod yX4_rateOf ∈ am_ws := am_wt3 (List.mem_of_getElem? (i := 52) (by rfl)) (by decide +kernel)
set_option maxRecDepth 100000 in
theorem wd_590 : Cond.selects "LearnLoans$Run" yX4_rateOf yX4_rateOf ∈ am_ws := am_wt3 (List.mem_of_getElem? (i := 53) (by rfl)) (by decide +kernel)
set_option maxRecDepth 100000 in
theorem wd_591 : Cond.code yX4_rateOf cX4_rateOf 7 (some .int) ∈ am_ws := am_wt3 (List.mem_of_getElem? (i := 54) (by rfl)) (by decide +kernel)
theorem hy_X4_grow : yX4_grow.cls ≠ "java/lang/invoke/MethodHandle" ∧ yX4_grow.cls ≠ "java/lang/invoke/VarHandle" ∧ (parseMethodDescriptor yX4_grow.desc).map (fun d => d.parameters.length) = some 2 := ⟨by decide +kernel, by decide +kernel, by decide +kernel⟩
set_option maxRecDepth 100000 in
theorem wd_613 : Cond.methodLink "LearnLoans$Run" 154 yX4_grow ∈ am_ws := am_wt3 (List.mem_of_getElem? (i := 76) (by rfl)) (by decide +kernel)
set_option maxRecDepth 100000 in
theorem wd_615 : Cond.instanceMethod yX4_grow ∈ am_ws := am_wt3 (List.mem_of_getElem? (i := 78) (by rfl)) (by decide +kernel)
set_option maxRecDepth 100000 in
theorem wd_6 : Cond.selects "LearnLoans$Run" yX4_grow yX4_grow ∈ am_ws := am_wsi (List.mem_of_getElem? (i := 6) (by rfl)) (by decide +kernel)
set_option maxRecDepth 100000 in
theorem wd_616 : Cond.code yX4_grow cX4_grow 7 none ∈ am_ws := am_wt3 (List.mem_of_getElem? (i := 79) (by rfl)) (by decide +kernel)
theorem hy_X4_draw : yX4_draw.cls ≠ "java/lang/invoke/MethodHandle" ∧ yX4_draw.cls ≠ "java/lang/invoke/VarHandle" ∧ (parseMethodDescriptor yX4_draw.desc).map (fun d => d.parameters.length) = some 2 := ⟨by decide +kernel, by decide +kernel, by decide +kernel⟩
set_option maxRecDepth 100000 in
theorem wd_619 : Cond.methodLink "LearnLoans$Run" 158 yX4_draw ∈ am_ws := am_wt3 (List.mem_of_getElem? (i := 82) (by rfl)) (by decide +kernel)
set_option maxRecDepth 100000 in
theorem wd_621 : Cond.instanceMethod yX4_draw ∈ am_ws := am_wt3 (List.mem_of_getElem? (i := 84) (by rfl)) (by decide +kernel)
set_option maxRecDepth 100000 in
theorem wd_7 : Cond.selects "LearnLoans$Run" yX4_draw yX4_draw ∈ am_ws := am_wsi (List.mem_of_getElem? (i := 7) (by rfl)) (by decide +kernel)
set_option maxRecDepth 100000 in
theorem wd_622 : Cond.code yX4_draw cX4_draw 5 none ∈ am_ws := am_wt3 (List.mem_of_getElem? (i := 85) (by rfl)) (by decide +kernel)
theorem hy_X4_lineUp : yX4_lineUp.cls ≠ "java/lang/invoke/MethodHandle" ∧ yX4_lineUp.cls ≠ "java/lang/invoke/VarHandle" ∧ (parseMethodDescriptor yX4_lineUp.desc).map (fun d => d.parameters.length) = some 1 := ⟨by decide +kernel, by decide +kernel, by decide +kernel⟩
set_option maxRecDepth 100000 in
theorem wd_624 : Cond.methodLink "LearnLoans$Run" 161 yX4_lineUp ∈ am_ws := am_wt3 (List.mem_of_getElem? (i := 87) (by rfl)) (by decide +kernel)
set_option maxRecDepth 100000 in
theorem wd_626 : Cond.instanceMethod yX4_lineUp ∈ am_ws := am_wt3 (List.mem_of_getElem? (i := 89) (by rfl)) (by decide +kernel)
set_option maxRecDepth 100000 in
theorem wd_8 : Cond.selects "LearnLoans$Run" yX4_lineUp yX4_lineUp ∈ am_ws := am_wsi (List.mem_of_getElem? (i := 8) (by rfl)) (by decide +kernel)
set_option maxRecDepth 100000 in
theorem wd_627 : Cond.code yX4_lineUp cX4_lineUp 5 none ∈ am_ws := am_wt3 (List.mem_of_getElem? (i := 90) (by rfl)) (by decide +kernel)
theorem hy_X4_payAhead : yX4_payAhead.cls ≠ "java/lang/invoke/MethodHandle" ∧ yX4_payAhead.cls ≠ "java/lang/invoke/VarHandle" ∧ (parseMethodDescriptor yX4_payAhead.desc).map (fun d => d.parameters.length) = some 0 := ⟨by decide +kernel, by decide +kernel, by decide +kernel⟩
set_option maxRecDepth 100000 in
theorem wd_629 : Cond.methodLink "LearnLoans$Run" 164 yX4_payAhead ∈ am_ws := am_wt3 (List.mem_of_getElem? (i := 92) (by rfl)) (by decide +kernel)
set_option maxRecDepth 100000 in
theorem wd_631 : Cond.instanceMethod yX4_payAhead ∈ am_ws := am_wt3 (List.mem_of_getElem? (i := 94) (by rfl)) (by decide +kernel)
set_option maxRecDepth 100000 in
theorem wd_9 : Cond.selects "LearnLoans$Run" yX4_payAhead yX4_payAhead ∈ am_ws := am_wsi (List.mem_of_getElem? (i := 9) (by rfl)) (by decide +kernel)
set_option maxRecDepth 100000 in
theorem wd_632 : Cond.code yX4_payAhead cX4_payAhead 5 none ∈ am_ws := am_wt3 (List.mem_of_getElem? (i := 95) (by rfl)) (by decide +kernel)
theorem hy_X4_takeAll : yX4_takeAll.cls ≠ "java/lang/invoke/MethodHandle" ∧ yX4_takeAll.cls ≠ "java/lang/invoke/VarHandle" ∧ (parseMethodDescriptor yX4_takeAll.desc).map (fun d => d.parameters.length) = some 1 := ⟨by decide +kernel, by decide +kernel, by decide +kernel⟩
set_option maxRecDepth 100000 in
theorem wd_633 : Cond.methodLink "LearnLoans$Run" 167 yX4_takeAll ∈ am_ws := am_wt3 (List.mem_of_getElem? (i := 96) (by rfl)) (by decide +kernel)
set_option maxRecDepth 100000 in
theorem wd_635 : Cond.instanceMethod yX4_takeAll ∈ am_ws := am_wt3 (List.mem_of_getElem? (i := 98) (by rfl)) (by decide +kernel)
set_option maxRecDepth 100000 in
theorem wd_10 : Cond.selects "LearnLoans$Run" yX4_takeAll yX4_takeAll ∈ am_ws := am_wsi (List.mem_of_getElem? (i := 10) (by rfl)) (by decide +kernel)
set_option maxRecDepth 100000 in
theorem wd_636 : Cond.code yX4_takeAll cX4_takeAll 11 none ∈ am_ws := am_wt3 (List.mem_of_getElem? (i := 99) (by rfl)) (by decide +kernel)
def rwX4_turn : List dz_r := [(0, .iconst 0, 1), (1, .istore_n 2, 1), (2, .iload_n 2, 1), (3, .aload_n 0, 1), (4, .getfield 56, 3), (7, .if_icmp .ge 105, 3), (10, .aload_n 0, 1), (11, .getfield 26, 3), (14, .iload_n 2, 1), (15, .iaload, 1), (16, .istore_n 3, 1), (17, .aload_n 0, 1), (18, .getfield 22, 3), (21, .iconst 0, 1), (22, .iload_n 3, 1), (23, .iadd, 1), (24, .laload, 1), (25, .lstore 4, 2), (27, .aload_n 0, 1), (28, .iload_n 3, 1), (29, .iload_n 1, 1), (30, .invokevirtual 148, 3), (33, .istore 6, 2), (35, .aload_n 0, 1), (36, .getfield 22, 3), (39, .bipush 60, 2), (41, .iload_n 3, 1), (42, .iadd, 1), (43, .iload 6, 2), (45, .ifCond .eq 8, 3), (48, .lload 4, 2), (50, .goto 4, 3), (53, .lconst 0, 1), (54, .lastore, 1), (55, .aload_n 0, 1), (56, .getfield 22, 3), (59, .bipush 120, 2), (61, .iload_n 3, 1), (62, .iadd, 1), (63, .lconst 0, 1), (64, .lastore, 1), (65, .iload 6, 2), (67, .ifCond .eq 15, 3), (70, .aload_n 0, 1), (71, .getfield 22, 3), (74, .iconst 0, 1), (75, .iload_n 3, 1), (76, .iadd, 1), (77, .lconst 0, 1), (78, .lastore, 1), (79, .goto 27, 3), (82, .lload 4, 2), (84, .lconst 0, 1), (85, .lcmp, 1), (86, .ifCond .le 14, 3), (89, .aload_n 0, 1), (90, .iload_n 3, 1), (91, .aload_n 0, 1), (92, .iload_n 3, 1), (93, .iload_n 1, 1), (94, .invokevirtual 151, 3), (97, .invokevirtual 154, 3), (100, .aload_n 0, 1), (101, .iload_n 3, 1), (102, .iload_n 1, 1), (103, .invokevirtual 158, 3), (106, .iinc 2 1, 3), (109, .goto (-107), 3), (112, .aload_n 0, 1), (113, .iload_n 1, 1), (114, .invokevirtual 161, 3), (117, .aload_n 0, 1), (118, .getfield 94, 3), (121, .lconst 0, 1), (122, .lcmp, 1), (123, .ifCond .le 7, 3), (126, .aload_n 0, 1), (127, .invokevirtual 164, 3), (130, .aload_n 0, 1), (131, .iload_n 1, 1), (132, .invokevirtual 167, 3), (135, .return_, 1)]
theorem dzX4_turn : dz cX4_turn rwX4_turn := dz_all 0 (by decide +kernel)
def kX4_turn (live : am_E) (Ret : am_R) : am_code := [(0, am_const (.int 0) 1), (1, am_istore 2 7 2), (2, am_iload 2 3), (3, am_aload 0 4), (4, am_getI live 4 7 7), (7, am_if2 (fun x y => y ≤ x) 112 10), (10, am_aload 0 11), (11, am_getR live 4 3 14), (14, am_iload 2 15), (15, am_ald live 0 16), (16, am_istore 3 7 17), (17, am_aload 0 18), (18, am_getR live 4 2 21), (21, am_const (.int 0) 22), (22, am_iload 3 23), (23, am_i2 (fun x y => x + y) 24), (24, am_lald live 1 25), (25, am_lstore 4 7 27), (27, am_aload 0 28), (28, am_iload 3 29), (29, am_iload 1 30), (30, am_callV live 4 2 TX4_isStruck 33), (33, am_istore 6 7 35), (35, am_aload 0 36), (36, am_getR live 4 2 39), (39, am_const (.int 60) 41), (41, am_iload 3 42), (42, am_i2 (fun x y => x + y) 43), (43, am_iload 6 45), (45, am_if1 (fun x => x = 0) 53 48), (48, am_lload 4 50), (50, am_goto 54), (53, am_const (.long 0) 54), (54, am_last live 1 55), (55, am_aload 0 56), (56, am_getR live 4 2 59), (59, am_const (.int 120) 61), (61, am_iload 3 62), (62, am_i2 (fun x y => x + y) 63), (63, am_const (.long 0) 64), (64, am_last live 1 65), (65, am_iload 6 67), (67, am_if1 (fun x => x = 0) 82 70), (70, am_aload 0 71), (71, am_getR live 4 2 74), (74, am_const (.int 0) 75), (75, am_iload 3 76), (76, am_i2 (fun x y => x + y) 77), (77, am_const (.long 0) 78), (78, am_last live 1 79), (79, am_goto 106), (82, am_lload 4 84), (84, am_const (.long 0) 85), (85, am_lcmp 86), (86, am_if1 (fun x => x ≤ 0) 100 89), (89, am_aload 0 90), (90, am_iload 3 91), (91, am_aload 0 92), (92, am_iload 3 93), (93, am_iload 1 94), (94, am_callV live 4 2 TX4_rateOf 97), (97, am_callV live 4 2 TX4_grow 100), (100, am_aload 0 101), (101, am_iload 3 102), (102, am_iload 1 103), (103, am_callV live 4 2 TX4_draw 106), (106, am_iinc 2 7 1 109), (109, am_goto 2), (112, am_aload 0 113), (113, am_iload 1 114), (114, am_callV live 4 1 TX4_lineUp 117), (117, am_aload 0 118), (118, am_getJ live 4 14 121), (121, am_const (.long 0) 122), (122, am_lcmp 123), (123, am_if1 (fun x => x ≤ 0) 130 126), (126, am_aload 0 127), (127, am_callV live 4 0 TX4_payAhead 130), (130, am_aload 0 131), (131, am_iload 1 132), (132, am_callV live 4 1 TX4_takeAll 135), (135, am_retV Ret)]
theorem koX4_turn (live : am_E) (Ret : am_R) : ∀ q ∈ kX4_turn live Ret, am_ok RX4 cX4_turn 7 none 3 76 live Ret q.1 q.2 :=
  am_kz dzX4_turn <|
  am_kd (fun d => ak_iconst d (by decide +kernel) rfl) <|
  am_kd (fun d => ak_istore_n d rfl rfl) <|
  am_kd (fun d => ak_iload_n d rfl rfl) <|
  am_kd (fun d => ak_aload_n d rfl rfl) <|
  am_kd (fun d => ak_getI (C := RX4) (T := TX4) (N := 19) rfl inX4w (by decide) rfl rfl rfl wd_303 d rfl) <|
  am_kd (fun d => ak_icmp_ge d (by decide +kernel) rfl) <|
  am_kd (fun d => ak_aload_n d rfl rfl) <|
  am_kd (fun d => ak_getR (C := RX4) (T := TX4) (N := 19) rfl inX4w (by decide) rfl rfl rfl wd_299 d rfl) <|
  am_kd (fun d => ak_iload_n d rfl rfl) <|
  am_kd (fun d => ak_iald (t := 0) (fun _ => rfl) rfl d rfl) <|
  am_kd (fun d => ak_istore_n d rfl rfl) <|
  am_kd (fun d => ak_aload_n d rfl rfl) <|
  am_kd (fun d => ak_getR (C := RX4) (T := TX4) (N := 19) rfl inX4w (by decide) rfl rfl rfl wd_296 d rfl) <|
  am_kd (fun d => ak_iconst d (by decide +kernel) rfl) <|
  am_kd (fun d => ak_iload_n d rfl rfl) <|
  am_kd (fun d => ak_iadd d rfl) <|
  am_kd (fun d => ak_lald (t := 1) (fun _ => rfl) rfl d rfl) <|
  am_kd (fun d => ak_lstore d rfl) <|
  am_kd (fun d => ak_aload_n d rfl rfl) <|
  am_kd (fun d => ak_iload_n d rfl rfl) <|
  am_kd (fun d => ak_iload_n d rfl rfl) <|
  am_kd (fun d => ak_callV (C := RX4) (F := TX4) (N := 19) metX4_isStruck rfl ⟨rfl, hy_X4_isStruck⟩ (am_w5 wd_576 wd_578 wd_3 wd_60 wd_579) (by decide) d rfl) <|
  am_kd (fun d => ak_istore d rfl) <|
  am_kd (fun d => ak_aload_n d rfl rfl) <|
  am_kd (fun d => ak_getR (C := RX4) (T := TX4) (N := 19) rfl inX4w (by decide) rfl rfl rfl wd_296 d rfl) <|
  am_kd (fun d => ak_bipush d (by decide +kernel) rfl) <|
  am_kd (fun d => ak_iload_n d rfl rfl) <|
  am_kd (fun d => ak_iadd d rfl) <|
  am_kd (fun d => ak_iload d rfl) <|
  am_kd (fun d => ak_if_eq d (by decide +kernel) rfl) <|
  am_kd (fun d => ak_lload d rfl) <|
  am_kd (fun d => ak_goto d (by decide +kernel)) <|
  am_kd (fun d => ak_lconst d (by decide +kernel) rfl) <|
  am_kd (fun d => ak_last (t := 1) (fun _ => rfl) rfl d rfl) <|
  am_kd (fun d => ak_aload_n d rfl rfl) <|
  am_kd (fun d => ak_getR (C := RX4) (T := TX4) (N := 19) rfl inX4w (by decide) rfl rfl rfl wd_296 d rfl) <|
  am_kd (fun d => ak_bipush d (by decide +kernel) rfl) <|
  am_kd (fun d => ak_iload_n d rfl rfl) <|
  am_kd (fun d => ak_iadd d rfl) <|
  am_kd (fun d => ak_lconst d (by decide +kernel) rfl) <|
  am_kd (fun d => ak_last (t := 1) (fun _ => rfl) rfl d rfl) <|
  am_kd (fun d => ak_iload d rfl) <|
  am_kd (fun d => ak_if_eq d (by decide +kernel) rfl) <|
  am_kd (fun d => ak_aload_n d rfl rfl) <|
  am_kd (fun d => ak_getR (C := RX4) (T := TX4) (N := 19) rfl inX4w (by decide) rfl rfl rfl wd_296 d rfl) <|
  am_kd (fun d => ak_iconst d (by decide +kernel) rfl) <|
  am_kd (fun d => ak_iload_n d rfl rfl) <|
  am_kd (fun d => ak_iadd d rfl) <|
  am_kd (fun d => ak_lconst d (by decide +kernel) rfl) <|
  am_kd (fun d => ak_last (t := 1) (fun _ => rfl) rfl d rfl) <|
  am_kd (fun d => ak_goto d (by decide +kernel)) <|
  am_kd (fun d => ak_lload d rfl) <|
  am_kd (fun d => ak_lconst d (by decide +kernel) rfl) <|
  am_kd (fun d => ak_lcmp d rfl) <|
  am_kd (fun d => ak_if_le d (by decide +kernel) rfl) <|
  am_kd (fun d => ak_aload_n d rfl rfl) <|
  am_kd (fun d => ak_iload_n d rfl rfl) <|
  am_kd (fun d => ak_aload_n d rfl rfl) <|
  am_kd (fun d => ak_iload_n d rfl rfl) <|
  am_kd (fun d => ak_iload_n d rfl rfl) <|
  am_kd (fun d => ak_callV (C := RX4) (F := TX4) (N := 19) metX4_rateOf rfl ⟨rfl, hy_X4_rateOf⟩ (am_w5 wd_588 wd_589 wd_590 wd_60 wd_591) (by decide) d rfl) <|
  am_kd (fun d => ak_callV (C := RX4) (F := TX4) (N := 19) metX4_grow rfl ⟨rfl, hy_X4_grow⟩ (am_w5 wd_613 wd_615 wd_6 wd_60 wd_616) (by decide) d rfl) <|
  am_kd (fun d => ak_aload_n d rfl rfl) <|
  am_kd (fun d => ak_iload_n d rfl rfl) <|
  am_kd (fun d => ak_iload_n d rfl rfl) <|
  am_kd (fun d => ak_callV (C := RX4) (F := TX4) (N := 19) metX4_draw rfl ⟨rfl, hy_X4_draw⟩ (am_w5 wd_619 wd_621 wd_7 wd_60 wd_622) (by decide) d rfl) <|
  am_kd (fun d => ak_iinc d (by decide +kernel) rfl) <|
  am_kd (fun d => ak_goto d (by decide +kernel)) <|
  am_kd (fun d => ak_aload_n d rfl rfl) <|
  am_kd (fun d => ak_iload_n d rfl rfl) <|
  am_kd (fun d => ak_callV (C := RX4) (F := TX4) (N := 19) metX4_lineUp rfl ⟨rfl, hy_X4_lineUp⟩ (am_w5 wd_624 wd_626 wd_8 wd_60 wd_627) (by decide) d rfl) <|
  am_kd (fun d => ak_aload_n d rfl rfl) <|
  am_kd (fun d => ak_getJ (C := RX4) (T := TX4) (N := 19) rfl inX4w (by decide) rfl rfl rfl wd_310 d rfl) <|
  am_kd (fun d => ak_lconst d (by decide +kernel) rfl) <|
  am_kd (fun d => ak_lcmp d rfl) <|
  am_kd (fun d => ak_if_le d (by decide +kernel) rfl) <|
  am_kd (fun d => ak_aload_n d rfl rfl) <|
  am_kd (fun d => ak_callV (C := RX4) (F := TX4) (N := 19) metX4_payAhead rfl ⟨rfl, hy_X4_payAhead⟩ (am_w5 wd_629 wd_631 wd_9 wd_60 wd_632) (by decide) d rfl) <|
  am_kd (fun d => ak_aload_n d rfl rfl) <|
  am_kd (fun d => ak_iload_n d rfl rfl) <|
  am_kd (fun d => ak_callV (C := RX4) (F := TX4) (N := 19) metX4_takeAll rfl ⟨rfl, hy_X4_takeAll⟩ (am_w5 wd_633 wd_635 wd_10 wd_60 wd_636) (by decide) d rfl) <|
  am_kd (fun d => ak_retV d) <| am_kdn
def TX4_turn : am_T := fun live as M R => match as with
  | [.ref n, .int y] => am_mn live ∧ n = 4 ∧ am_in y 40 ∧ g_rI M ∧ ∀ M', g_sc M M' → g_rI M' → R none M'
  | _ => False
def JX4_turn : am_E → List Value → am_M → am_R → am_inv := fun live as M0 _ pc => match as with
  | [.ref n, .int y] => (match pc with
    | 2 => some ([0, 1, 2], fun k L st M => ∃ i : Int32, L = [(0, .ref 4), (1, .int y), (2, .int i)] ∧ st = [] ∧ k = ((31 - i.toInt).toNat, 0) ∧ 0 ≤ i.toInt ∧ g_sc M0 M ∧ g_rI M)
    | _ => none)
  | _ => none
set_option maxRecDepth 100000 in
set_option maxHeartbeats 4000000 in
theorem metX4_turn : am_Met yX4_turn cX4_turn 7 none (3) (76) TX4_turn := by
  refine am_met (own := RX4) (by decide +kernel) rfl kX4_turn koX4_turn 150 JX4_turn ?_ ?_
  · intro live as M Ret h
    unfold TX4_turn at h
    split at h
    · next n y =>
      refine ⟨Nat.le_of_ble_eq_true rfl, ?_⟩
      change am_wp _ _ _ _ [(0, Value.ref n), (1, Value.int y)] _ _
      obtain ⟨hmn, rfl, hy, hr, h⟩ := h
      repeat' (first | apply And.intro | exact rfl | intro hx | (refine Exists.intro _ (And.intro rfl ?_)))
      all_goals try first | (with_reducible change am_tI _ _) | (change Ret _ _) | (change Ret _ _ _) | (change Exists _)
      all_goals try dsimp only at *
      all_goals try (with_reducible exact absurd ‹(1000 : Int64) = 0› am_z1000)
      exact ⟨_, _, rfl, rfl, rfl, by decide, g_sc.rf, hr⟩
    · exact h.elim
  · intro live as M0 Ret h k pc I hI L st M hi
    unfold TX4_turn at h
    split at h
    · next n y =>
      obtain ⟨hmn, rfl, hy, hr, h⟩ := h
      have hmn2 := hmn
      obtain ⟨i1, i2, rfl⟩ := hmn2
      change (match pc with | 2 => _ | _ => none) = _ at hI
      split at hI
      · cases hI
        obtain ⟨i, rfl, rfl, rfl, e1, e2, e3⟩ := hi
        by_cases hz : M.1 4 7 ≤ i
        · skip
          repeat' (first | (with_reducible exact hmn) | (with_reducible exact hy) | (with_reducible exact e3) | apply And.intro | exact rfl | (intro hx; with_reducible exact absurd hz hx) | ((with_reducible change g_rI _); (with_reducible assumption)) | intro hx | (refine Exists.intro _ (And.intro rfl ?_)))
          all_goals try first | (with_reducible change am_tI _ _) | (change Ret _ _) | (change Ret _ _ _) | (change Exists _)
          all_goals try dsimp only at *
          all_goals try (with_reducible exact absurd ‹(1000 : Int64) = 0› am_z1000)
          all_goals exact h _ (by (repeat' (first | (with_reducible exact g_sc.rf) | (with_reducible assumption) | ((with_reducible change g_sc _ (am_wI _ _ _ _)); refine g_sc.wI ?_ rfl) | ((with_reducible change g_sc _ (am_wJ _ _ _ _)); refine g_sc.wJ ?_ rfl) | ((with_reducible change g_sc _ (am_cI _ _ _)); refine g_sc.cI ?_ rfl) | ((with_reducible change g_sc _ (am_cJ _ _ _)); refine g_sc.cJ ?_ rfl) | (refine g_sc.tr ?_ (by with_reducible assumption)) | (refine g_sc.st ?_ (by with_reducible assumption))))) (by (repeat' (first | (with_reducible assumption) | ((with_reducible change g_rI (am_wJ _ _ _ _)); refine g_rI.wJ ?_) | ((with_reducible change g_rI (am_cJ _ _ _)); refine g_rI.cJ ?_) | ((with_reducible change g_rI (am_wI _ 5 _ _)); refine g_rI.w5 ?_) | ((with_reducible change g_rI (am_wI _ _ _ _)); refine g_rI.wF ?_ rfl) | (refine g_rI.st ?_ (by with_reducible assumption)) | (refine g_rI.we ?_ (by with_reducible assumption)))))
        · have q := e3.s.sz
          have hz2 := hz
          simp only [i_le] at hz2
          have ha : am_in i 30 := ⟨e1, by omega⟩
          have hb := e3.s.mi (g_cl ha)
          have hp := e3.pln hb hy
          have hi := i_inc (x := i) (by omega) (by omega)
          have f0 := g_ix hb 0 0 rfl (by decide)
          have f60 := g_ix hb 60 60 rfl (by decide)
          have f120 := g_ix hb 120 120 rfl (by decide)
          have l6 : am_len 6 = 180 := rfl
          have l7 : am_len 7 = 30 := rfl
          repeat' (first | (with_reducible exact hmn) | (with_reducible exact hb) | (with_reducible exact hy) | (with_reducible exact hp) | apply And.intro | exact rfl | (intro hx; with_reducible exact absurd hx hz) | ((with_reducible change g_rI _); (with_reducible assumption)) | (intro hx; exact absurd hx (by decide)) | (intro hx; exact absurd (by decide) hx) | decide | intro hx | (refine Exists.intro _ (And.intro rfl ?_)))
          all_goals try first | (with_reducible change am_tI _ _) | (change Ret _ _) | (change Ret _ _ _) | (change Exists _)
          all_goals try dsimp only at *
          all_goals try (with_reducible exact absurd ‹(1000 : Int64) = 0› am_z1000)
          all_goals first
            | omega
            | (rw [l7]; exact ha.2)
            | (with_reducible exact f0.1)
            | (rw [l6]; exact f0.2.1)
            | (with_reducible exact f60.1)
            | (rw [l6]; exact f60.2.1)
            | (with_reducible exact f120.1)
            | (rw [l6]; exact f120.2.1)
            | (left; rfl)
            | (right; rfl)
            | exact f0.1
            | exact f60.1
            | exact f120.1
            | exact ⟨_, am_lt_l (by omega), _, rfl, rfl, rfl, by omega, by (repeat' (first | (with_reducible exact g_sc.rf) | (with_reducible assumption) | ((with_reducible change g_sc _ (am_wI _ _ _ _)); refine g_sc.wI ?_ rfl) | ((with_reducible change g_sc _ (am_wJ _ _ _ _)); refine g_sc.wJ ?_ rfl) | ((with_reducible change g_sc _ (am_cI _ _ _)); refine g_sc.cI ?_ rfl) | ((with_reducible change g_sc _ (am_cJ _ _ _)); refine g_sc.cJ ?_ rfl) | (refine g_sc.tr ?_ (by with_reducible assumption)) | (refine g_sc.st ?_ (by with_reducible assumption)))), by (repeat' (first | (with_reducible assumption) | ((with_reducible change g_rI (am_wJ _ _ _ _)); refine g_rI.wJ ?_) | ((with_reducible change g_rI (am_cJ _ _ _)); refine g_rI.cJ ?_) | ((with_reducible change g_rI (am_wI _ 5 _ _)); refine g_rI.w5 ?_) | ((with_reducible change g_rI (am_wI _ _ _ _)); refine g_rI.wF ?_ rfl) | (refine g_rI.st ?_ (by with_reducible assumption)) | (refine g_rI.we ?_ (by with_reducible assumption))))⟩
            | (change g_rI _; (repeat' (first | (with_reducible assumption) | ((with_reducible change g_rI (am_wJ _ _ _ _)); refine g_rI.wJ ?_) | ((with_reducible change g_rI (am_cJ _ _ _)); refine g_rI.cJ ?_) | ((with_reducible change g_rI (am_wI _ 5 _ _)); refine g_rI.w5 ?_) | ((with_reducible change g_rI (am_wI _ _ _ _)); refine g_rI.wF ?_ rfl) | (refine g_rI.st ?_ (by with_reducible assumption)) | (refine g_rI.we ?_ (by with_reducible assumption)))))
            | skip
      · cases hI
    · exact h.elim
end
-- part 26.run6.lean.txt
section
/-! Run: what is safe of it, IV -/
theorem hy_X4_look : yX4_look.cls ≠ "java/lang/invoke/MethodHandle" ∧ yX4_look.cls ≠ "java/lang/invoke/VarHandle" ∧ (parseMethodDescriptor yX4_look.desc).map (fun d => d.parameters.length) = some 1 := ⟨by decide +kernel, by decide +kernel, by decide +kernel⟩
set_option maxRecDepth 100000 in
theorem wd_563 : Cond.methodLink "LearnLoans$Run" 101 yX4_look ∈ am_ws := am_wt3 (List.mem_of_getElem? (i := 26) (by rfl)) (by decide +kernel)
set_option maxRecDepth 100000 in
theorem wd_564 : Cond.instanceMethod yX4_look ∈ am_ws := am_wt3 (List.mem_of_getElem? (i := 27) (by rfl)) (by decide +kernel)
set_option maxRecDepth 100000 in
theorem wd_565 : Cond.selects "LearnLoans$Run" yX4_look yX4_look ∈ am_ws := am_wt3 (List.mem_of_getElem? (i := 28) (by rfl)) (by decide +kernel)
set_option maxRecDepth 100000 in
theorem wd_566 : Cond.code yX4_look cX4_look 2 none ∈ am_ws := am_wt3 (List.mem_of_getElem? (i := 29) (by rfl)) (by decide +kernel)
theorem hy_X4_turn : yX4_turn.cls ≠ "java/lang/invoke/MethodHandle" ∧ yX4_turn.cls ≠ "java/lang/invoke/VarHandle" ∧ (parseMethodDescriptor yX4_turn.desc).map (fun d => d.parameters.length) = some 1 := ⟨by decide +kernel, by decide +kernel, by decide +kernel⟩
set_option maxRecDepth 100000 in
theorem wd_572 : Cond.methodLink "LearnLoans$Run" 104 yX4_turn ∈ am_ws := am_wt3 (List.mem_of_getElem? (i := 35) (by rfl)) (by decide +kernel)
set_option maxRecDepth 100000 in
theorem wd_573 : Cond.instanceMethod yX4_turn ∈ am_ws := am_wt3 (List.mem_of_getElem? (i := 36) (by rfl)) (by decide +kernel)
set_option maxRecDepth 100000 in
theorem wd_574 : Cond.selects "LearnLoans$Run" yX4_turn yX4_turn ∈ am_ws := am_wt3 (List.mem_of_getElem? (i := 37) (by rfl)) (by decide +kernel)
set_option maxRecDepth 100000 in
theorem wd_575 : Cond.code yX4_turn cX4_turn 7 none ∈ am_ws := am_wt3 (List.mem_of_getElem? (i := 38) (by rfl)) (by decide +kernel)
def rwX4_go : List dz_r := [(0, .aload_n 0, 1), (1, .getfield 49, 3), (4, .istore_n 2, 1), (5, .iload_n 2, 1), (6, .iload_n 1, 1), (7, .if_icmp .gt 32, 3), (10, .iload_n 2, 1), (11, .bipush 40, 2), (13, .if_icmp .ge 26, 3), (16, .aload_n 0, 1), (17, .iload_n 2, 1), (18, .invokevirtual 101, 3), (21, .aload_n 0, 1), (22, .iload_n 2, 1), (23, .invokevirtual 104, 3), (26, .aload_n 0, 1), (27, .iload_n 2, 1), (28, .iconst 1, 1), (29, .iadd, 1), (30, .putfield 49, 3), (33, .iinc 2 1, 3), (36, .goto (-31), 3), (39, .return_, 1)]
theorem dzX4_go : dz cX4_go rwX4_go := dz_all 0 (by decide +kernel)
def kX4_go (live : am_E) (Ret : am_R) : am_code := [(0, am_aload 0 1), (1, am_getI live 4 10 4), (4, am_istore 2 3 5), (5, am_iload 2 6), (6, am_iload 1 7), (7, am_if2 (fun x y => y < x) 39 10), (10, am_iload 2 11), (11, am_const (.int 40) 13), (13, am_if2 (fun x y => y ≤ x) 39 16), (16, am_aload 0 17), (17, am_iload 2 18), (18, am_callV live 4 1 TX4_look 21), (21, am_aload 0 22), (22, am_iload 2 23), (23, am_callV live 4 1 TX4_turn 26), (26, am_aload 0 27), (27, am_iload 2 28), (28, am_const (.int 1) 29), (29, am_i2 (fun x y => x + y) 30), (30, am_putI live 4 10 33), (33, am_iinc 2 3 1 36), (36, am_goto 5), (39, am_retV Ret)]
theorem koX4_go (live : am_E) (Ret : am_R) : ∀ q ∈ kX4_go live Ret, am_ok RX4 cX4_go 3 none 4 102 live Ret q.1 q.2 :=
  am_kz dzX4_go <|
  am_kd (fun d => ak_aload_n d rfl rfl) <|
  am_kd (fun d => ak_getI (C := RX4) (T := TX4) (N := 19) rfl inX4w (by decide) rfl rfl rfl wd_306 d rfl) <|
  am_kd (fun d => ak_istore_n d rfl rfl) <|
  am_kd (fun d => ak_iload_n d rfl rfl) <|
  am_kd (fun d => ak_iload_n d rfl rfl) <|
  am_kd (fun d => ak_icmp_gt d (by decide +kernel) rfl) <|
  am_kd (fun d => ak_iload_n d rfl rfl) <|
  am_kd (fun d => ak_bipush d (by decide +kernel) rfl) <|
  am_kd (fun d => ak_icmp_ge d (by decide +kernel) rfl) <|
  am_kd (fun d => ak_aload_n d rfl rfl) <|
  am_kd (fun d => ak_iload_n d rfl rfl) <|
  am_kd (fun d => ak_callV (C := RX4) (F := TX4) (N := 19) metX4_look rfl ⟨rfl, hy_X4_look⟩ (am_w5 wd_563 wd_564 wd_565 wd_60 wd_566) (by decide) d rfl) <|
  am_kd (fun d => ak_aload_n d rfl rfl) <|
  am_kd (fun d => ak_iload_n d rfl rfl) <|
  am_kd (fun d => ak_callV (C := RX4) (F := TX4) (N := 19) metX4_turn rfl ⟨rfl, hy_X4_turn⟩ (am_w5 wd_572 wd_573 wd_574 wd_60 wd_575) (by decide) d rfl) <|
  am_kd (fun d => ak_aload_n d rfl rfl) <|
  am_kd (fun d => ak_iload_n d rfl rfl) <|
  am_kd (fun d => ak_iconst d (by decide +kernel) rfl) <|
  am_kd (fun d => ak_iadd d rfl) <|
  am_kd (fun d => ak_putI (C := RX4) (T := TX4) (N := 19) rfl inX4w tyX4_ok nmX4 (by decide) rfl rfl rfl rfl (by decide +kernel) wd_306 d rfl) <|
  am_kd (fun d => ak_iinc d (by decide +kernel) rfl) <|
  am_kd (fun d => ak_goto d (by decide +kernel)) <|
  am_kd (fun d => ak_retV d) <| am_kdn
def TX4_go : am_T := fun live as M R => match as with
  | [.ref n, .int u] => am_mn live ∧ n = 4 ∧ g_rI M ∧ ∀ M', g_sc M M' → g_rI M' → R none M'
  | _ => False
def JX4_go : am_E → List Value → am_M → am_R → am_inv := fun live as M0 _ pc => match as with
  | [.ref n, .int u] => (match pc with
    | 5 => some ([0, 1, 2], fun k L st M => ∃ y : Int32, L = [(0, .ref 4), (1, .int u), (2, .int y)] ∧ st = [] ∧ k = ((41 - y.toInt).toNat, 0) ∧ 0 ≤ y.toInt ∧ g_sc M0 M ∧ g_rI M)
    | _ => none)
  | _ => none
set_option maxRecDepth 100000 in
set_option maxHeartbeats 4000000 in
theorem metX4_go : am_Met yX4_go cX4_go 3 none (4) (102) TX4_go := by
  refine am_met (own := RX4) (by decide +kernel) rfl kX4_go koX4_go 100 JX4_go ?_ ?_
  · intro live as M Ret h
    unfold TX4_go at h
    split at h
    · next n u =>
      refine ⟨Nat.le_of_ble_eq_true rfl, ?_⟩
      change am_wp _ _ _ _ [(0, Value.ref n), (1, Value.int u)] _ _
      obtain ⟨hmn, rfl, hr, h⟩ := h
      have hmn2 := hmn
      obtain ⟨i1, i2, rfl⟩ := hmn2
      repeat' (first | (with_reducible exact hmn) | apply And.intro | exact rfl | intro hx | (refine Exists.intro _ (And.intro rfl ?_)))
      all_goals try first | (with_reducible change am_tI _ _) | (change Ret _ _) | (change Ret _ _ _) | (change Exists _)
      all_goals try dsimp only at *
      all_goals try (with_reducible exact absurd ‹(1000 : Int64) = 0› am_z1000)
      exact ⟨_, _, rfl, rfl, rfl, hr.s.ny, g_sc.rf, hr⟩
    · exact h.elim
  · intro live as M0 Ret h k pc I hI L st M hi
    unfold TX4_go at h
    split at h
    · next n u =>
      obtain ⟨hmn, rfl, hr, h⟩ := h
      have hmn2 := hmn
      obtain ⟨i1, i2, rfl⟩ := hmn2
      change (match pc with | 5 => _ | _ => none) = _ at hI
      split at hI
      · cases hI
        obtain ⟨y, rfl, rfl, rfl, e1, e2, e3⟩ := hi
        by_cases hz : (40 : Int32) ≤ y
        · skip
          repeat' (first | apply And.intro | exact rfl | (intro hx; with_reducible exact absurd hz hx) | intro hx | (refine Exists.intro _ (And.intro rfl ?_)))
          all_goals try first | (with_reducible change am_tI _ _) | (change Ret _ _) | (change Ret _ _ _) | (change Exists _)
          all_goals try dsimp only at *
          all_goals try (with_reducible exact absurd ‹(1000 : Int64) = 0› am_z1000)
          all_goals exact h _ e2 e3
        · have hz2 := hz
          simp only [i_le, Int32.reduceToInt] at hz2
          have hy : am_in y 40 := ⟨e1, by omega⟩
          have hi := i_inc (x := y) (by omega) (by omega)
          repeat' (first | (with_reducible exact hmn) | (with_reducible exact hy) | (with_reducible exact e3) | apply And.intro | exact rfl | (intro hx; with_reducible exact absurd hx hz) | ((with_reducible change g_rI _); (with_reducible assumption)) | intro hx | (refine Exists.intro _ (And.intro rfl ?_)))
          all_goals try first | (with_reducible change am_tI _ _) | (change Ret _ _) | (change Ret _ _ _) | (change Exists _)
          all_goals try dsimp only at *
          all_goals try (with_reducible exact absurd ‹(1000 : Int64) = 0› am_z1000)
          · exact h _ e2 e3
          · exact ⟨_, am_lt_l (by omega), _, rfl, rfl, rfl, by omega, by (repeat' (first | (with_reducible exact g_sc.rf) | (with_reducible assumption) | ((with_reducible change g_sc _ (am_wI _ _ _ _)); refine g_sc.wI ?_ rfl) | ((with_reducible change g_sc _ (am_wJ _ _ _ _)); refine g_sc.wJ ?_ rfl) | ((with_reducible change g_sc _ (am_cI _ _ _)); refine g_sc.cI ?_ rfl) | ((with_reducible change g_sc _ (am_cJ _ _ _)); refine g_sc.cJ ?_ rfl) | (refine g_sc.tr ?_ (by with_reducible assumption)) | (refine g_sc.st ?_ (by with_reducible assumption)))), g_rI.w410 hx (by omega)⟩
      · cases hI
    · exact h.elim
theorem hy_X4_turnTo : yX4_turnTo.cls ≠ "java/lang/invoke/MethodHandle" ∧ yX4_turnTo.cls ≠ "java/lang/invoke/VarHandle" ∧ (parseMethodDescriptor yX4_turnTo.desc).map (fun d => d.parameters.length) = some 3 := ⟨by decide +kernel, by decide +kernel, by decide +kernel⟩
set_option maxRecDepth 100000 in
theorem wd_550 : Cond.methodLink "LearnLoans$Run" 52 yX4_turnTo ∈ am_ws := am_wt3 (List.mem_of_getElem? (i := 13) (by rfl)) (by decide +kernel)
set_option maxRecDepth 100000 in
theorem wd_551 : Cond.instanceMethod yX4_turnTo ∈ am_ws := am_wt3 (List.mem_of_getElem? (i := 14) (by rfl)) (by decide +kernel)
set_option maxRecDepth 100000 in
theorem wd_552 : Cond.selects "LearnLoans$Run" yX4_turnTo yX4_turnTo ∈ am_ws := am_wt3 (List.mem_of_getElem? (i := 15) (by rfl)) (by decide +kernel)
set_option maxRecDepth 100000 in
theorem wd_553 : Cond.code yX4_turnTo cX4_turnTo 5 none ∈ am_ws := am_wt3 (List.mem_of_getElem? (i := 16) (by rfl)) (by decide +kernel)
theorem hy_X4_layNumbers : yX4_layNumbers.cls ≠ "java/lang/invoke/MethodHandle" ∧ yX4_layNumbers.cls ≠ "java/lang/invoke/VarHandle" ∧ (parseMethodDescriptor yX4_layNumbers.desc).map (fun d => d.parameters.length) = some 1 := ⟨by decide +kernel, by decide +kernel, by decide +kernel⟩
set_option maxRecDepth 100000 in
theorem wd_558 : Cond.methodLink "LearnLoans$Run" 70 yX4_layNumbers ∈ am_ws := am_wt3 (List.mem_of_getElem? (i := 21) (by rfl)) (by decide +kernel)
set_option maxRecDepth 100000 in
theorem wd_494 : Cond.instanceMethod yX4_layNumbers ∈ am_ws := am_wt2 (List.mem_of_getElem? (i := 197) (by rfl)) (by decide +kernel)
set_option maxRecDepth 100000 in
theorem wd_495 : Cond.selects "LearnLoans$Run" yX4_layNumbers yX4_layNumbers ∈ am_ws := am_wt2 (List.mem_of_getElem? (i := 198) (by rfl)) (by decide +kernel)
set_option maxRecDepth 100000 in
theorem wd_496 : Cond.code yX4_layNumbers cX4_layNumbers 5 none ∈ am_ws := am_wt2 (List.mem_of_getElem? (i := 199) (by rfl)) (by decide +kernel)
def rwX4_begin : List dz_r := [(0, .aload_n 0, 1), (1, .iload_n 1, 1), (2, .putfield 42, 3), (5, .aload_n 0, 1), (6, .iload_n 2, 1), (7, .putfield 46, 3), (10, .aload_n 0, 1), (11, .iconst 0, 1), (12, .putfield 49, 3), (15, .aload_n 0, 1), (16, .iconst (-1), 1), (17, .iconst (-1), 1), (18, .lconst 0, 1), (19, .invokevirtual 52, 3), (22, .aload_n 0, 1), (23, .iconst 0, 1), (24, .putfield 56, 3), (27, .iconst 0, 1), (28, .istore_n 3, 1), (29, .iload_n 3, 1), (30, .aload_n 0, 1), (31, .getfield 12, 3), (34, .getfield 59, 3), (37, .getfield 63, 3), (40, .if_icmp .ge 80, 3), (43, .iload_n 3, 1), (44, .bipush 30, 2), (46, .if_icmp .ge 74, 3), (49, .aload_n 0, 1), (50, .getfield 12, 3), (53, .getfield 59, 3), (56, .iload_n 3, 1), (57, .iconst 0, 1), (58, .invokevirtual 66, 3), (61, .iload_n 1, 1), (62, .if_icmp .ne 52, 3), (65, .aload_n 0, 1), (66, .getfield 26, 3), (69, .aload_n 0, 1), (70, .getfield 56, 3), (73, .iload_n 3, 1), (74, .iastore, 1), (75, .aload_n 0, 1), (76, .dup, 1), (77, .getfield 56, 3), (80, .iconst 1, 1), (81, .iadd, 1), (82, .putfield 56, 3), (85, .iconst 0, 1), (86, .istore 4, 2), (88, .iload 4, 2), (90, .bipush 6, 2), (92, .if_icmp .ge 22, 3), (95, .aload_n 0, 1), (96, .getfield 22, 3), (99, .iload 4, 2), (101, .bipush 30, 2), (103, .imul, 1), (104, .iload_n 3, 1), (105, .iadd, 1), (106, .lconst 0, 1), (107, .lastore, 1), (108, .iinc 4 1, 3), (111, .goto (-23), 3), (114, .iinc 3 1, 3), (117, .goto (-88), 3), (120, .aload_n 0, 1), (121, .getfield 56, 3), (124, .ifCond .le 8, 3), (127, .aload_n 0, 1), (128, .iload_n 1, 1), (129, .invokevirtual 70, 3), (132, .return_, 1)]
theorem dzX4_begin : dz cX4_begin rwX4_begin := dz_all 0 (by decide +kernel)
def kX4_begin (live : am_E) (Ret : am_R) : am_code := [(0, am_aload 0 1), (1, am_iload 1 2), (2, am_putI live 4 8 5), (5, am_aload 0 6), (6, am_iload 2 7), (7, am_putI live 4 9 10), (10, am_aload 0 11), (11, am_const (.int 0) 12), (12, am_putI live 4 10 15), (15, am_aload 0 16), (16, am_const (.int (-1)) 17), (17, am_const (.int (-1)) 18), (18, am_const (.long 0) 19), (19, am_callV live 4 3 TX4_turnTo 22), (22, am_aload 0 23), (23, am_const (.int 0) 24), (24, am_putI live 4 7 27), (27, am_const (.int 0) 28), (28, am_istore 3 5 29), (29, am_iload 3 30), (30, am_aload 0 31), (31, am_getR live 4 0 34), (34, am_getR live 0 4 37), (37, am_getI live 3 2 40), (40, am_if2 (fun x y => y ≤ x) 120 43), (43, am_iload 3 44), (44, am_const (.int 30) 46), (46, am_if2 (fun x y => y ≤ x) 120 49), (49, am_aload 0 50), (50, am_getR live 4 0 53), (53, am_getR live 0 4 56), (56, am_iload 3 57), (57, am_const (.int 0) 58), (58, am_callV live 3 2 TX3_at 61), (61, am_iload 1 62), (62, am_if2 (fun x y => x = y) 65 114), (65, am_aload 0 66), (66, am_getR live 4 3 69), (69, am_aload 0 70), (70, am_getI live 4 7 73), (73, am_iload 3 74), (74, am_ast live 0 75), (75, am_aload 0 76), (76, am_dup 77), (77, am_getI live 4 7 80), (80, am_const (.int 1) 81), (81, am_i2 (fun x y => x + y) 82), (82, am_putI live 4 7 85), (85, am_const (.int 0) 86), (86, am_istore 4 5 88), (88, am_iload 4 90), (90, am_const (.int 6) 92), (92, am_if2 (fun x y => y ≤ x) 114 95), (95, am_aload 0 96), (96, am_getR live 4 2 99), (99, am_iload 4 101), (101, am_const (.int 30) 103), (103, am_i2 (fun x y => x * y) 104), (104, am_iload 3 105), (105, am_i2 (fun x y => x + y) 106), (106, am_const (.long 0) 107), (107, am_last live 1 108), (108, am_iinc 4 5 1 111), (111, am_goto 88), (114, am_iinc 3 5 1 117), (117, am_goto 29), (120, am_aload 0 121), (121, am_getI live 4 7 124), (124, am_if1 (fun x => x ≤ 0) 132 127), (127, am_aload 0 128), (128, am_iload 1 129), (129, am_callV live 4 1 TX4_layNumbers 132), (132, am_retV Ret)]
theorem koX4_begin (live : am_E) (Ret : am_R) : ∀ q ∈ kX4_begin live Ret, am_ok RX4 cX4_begin 5 none 3 72 live Ret q.1 q.2 :=
  am_kz dzX4_begin <|
  am_kd (fun d => ak_aload_n d rfl rfl) <|
  am_kd (fun d => ak_iload_n d rfl rfl) <|
  am_kd (fun d => ak_putI (C := RX4) (T := TX4) (N := 19) rfl inX4w tyX4_ok nmX4 (by decide) rfl rfl rfl rfl (by decide +kernel) wd_304 d rfl) <|
  am_kd (fun d => ak_aload_n d rfl rfl) <|
  am_kd (fun d => ak_iload_n d rfl rfl) <|
  am_kd (fun d => ak_putI (C := RX4) (T := TX4) (N := 19) rfl inX4w tyX4_ok nmX4 (by decide) rfl rfl rfl rfl (by decide +kernel) wd_305 d rfl) <|
  am_kd (fun d => ak_aload_n d rfl rfl) <|
  am_kd (fun d => ak_iconst d (by decide +kernel) rfl) <|
  am_kd (fun d => ak_putI (C := RX4) (T := TX4) (N := 19) rfl inX4w tyX4_ok nmX4 (by decide) rfl rfl rfl rfl (by decide +kernel) wd_306 d rfl) <|
  am_kd (fun d => ak_aload_n d rfl rfl) <|
  am_kd (fun d => ak_iconst d (by decide +kernel) rfl) <|
  am_kd (fun d => ak_iconst d (by decide +kernel) rfl) <|
  am_kd (fun d => ak_lconst d (by decide +kernel) rfl) <|
  am_kd (fun d => ak_callV (C := RX4) (F := TX4) (N := 19) metX4_turnTo rfl ⟨rfl, hy_X4_turnTo⟩ (am_w5 wd_550 wd_551 wd_552 wd_60 wd_553) (by decide) d rfl) <|
  am_kd (fun d => ak_aload_n d rfl rfl) <|
  am_kd (fun d => ak_iconst d (by decide +kernel) rfl) <|
  am_kd (fun d => ak_putI (C := RX4) (T := TX4) (N := 19) rfl inX4w tyX4_ok nmX4 (by decide) rfl rfl rfl rfl (by decide +kernel) wd_303 d rfl) <|
  am_kd (fun d => ak_iconst d (by decide +kernel) rfl) <|
  am_kd (fun d => ak_istore_n d rfl rfl) <|
  am_kd (fun d => ak_iload_n d rfl rfl) <|
  am_kd (fun d => ak_aload_n d rfl rfl) <|
  am_kd (fun d => ak_getR (C := RX4) (T := TX4) (N := 19) rfl inX4w (by decide) rfl rfl rfl wd_291 d rfl) <|
  am_kd (fun d => ak_getR (C := RX0) (T := TX0) (N := 13) rfl inX0w (by decide) rfl rfl rfl wd_206 d rfl) <|
  am_kd (fun d => ak_getI (C := RX3) (T := TX3) (N := 3) rfl inX3w (by decide) rfl rfl rfl wd_149 d rfl) <|
  am_kd (fun d => ak_icmp_ge d (by decide +kernel) rfl) <|
  am_kd (fun d => ak_iload_n d rfl rfl) <|
  am_kd (fun d => ak_bipush d (by decide +kernel) rfl) <|
  am_kd (fun d => ak_icmp_ge d (by decide +kernel) rfl) <|
  am_kd (fun d => ak_aload_n d rfl rfl) <|
  am_kd (fun d => ak_getR (C := RX4) (T := TX4) (N := 19) rfl inX4w (by decide) rfl rfl rfl wd_291 d rfl) <|
  am_kd (fun d => ak_getR (C := RX0) (T := TX0) (N := 13) rfl inX0w (by decide) rfl rfl rfl wd_206 d rfl) <|
  am_kd (fun d => ak_iload_n d rfl rfl) <|
  am_kd (fun d => ak_iconst d (by decide +kernel) rfl) <|
  am_kd (fun d => ak_callV (C := RX3) (F := TX3) (N := 3) metX3_at rfl ⟨rfl, hy_X3_at⟩ (am_w5 wd_502 wd_503 wd_504 wd_64 wd_505) (by decide) d rfl) <|
  am_kd (fun d => ak_iload_n d rfl rfl) <|
  am_kd (fun d => ak_icmp_ne d (by decide +kernel) rfl) <|
  am_kd (fun d => ak_aload_n d rfl rfl) <|
  am_kd (fun d => ak_getR (C := RX4) (T := TX4) (N := 19) rfl inX4w (by decide) rfl rfl rfl wd_299 d rfl) <|
  am_kd (fun d => ak_aload_n d rfl rfl) <|
  am_kd (fun d => ak_getI (C := RX4) (T := TX4) (N := 19) rfl inX4w (by decide) rfl rfl rfl wd_303 d rfl) <|
  am_kd (fun d => ak_iload_n d rfl rfl) <|
  am_kd (fun d => ak_iast (t := 0) (fun _ => rfl) rfl d rfl) <|
  am_kd (fun d => ak_aload_n d rfl rfl) <|
  am_kd (fun d => ak_dup d rfl) <|
  am_kd (fun d => ak_getI (C := RX4) (T := TX4) (N := 19) rfl inX4w (by decide) rfl rfl rfl wd_303 d rfl) <|
  am_kd (fun d => ak_iconst d (by decide +kernel) rfl) <|
  am_kd (fun d => ak_iadd d rfl) <|
  am_kd (fun d => ak_putI (C := RX4) (T := TX4) (N := 19) rfl inX4w tyX4_ok nmX4 (by decide) rfl rfl rfl rfl (by decide +kernel) wd_303 d rfl) <|
  am_kd (fun d => ak_iconst d (by decide +kernel) rfl) <|
  am_kd (fun d => ak_istore d rfl) <|
  am_kd (fun d => ak_iload d rfl) <|
  am_kd (fun d => ak_bipush d (by decide +kernel) rfl) <|
  am_kd (fun d => ak_icmp_ge d (by decide +kernel) rfl) <|
  am_kd (fun d => ak_aload_n d rfl rfl) <|
  am_kd (fun d => ak_getR (C := RX4) (T := TX4) (N := 19) rfl inX4w (by decide) rfl rfl rfl wd_296 d rfl) <|
  am_kd (fun d => ak_iload d rfl) <|
  am_kd (fun d => ak_bipush d (by decide +kernel) rfl) <|
  am_kd (fun d => ak_imul d rfl) <|
  am_kd (fun d => ak_iload_n d rfl rfl) <|
  am_kd (fun d => ak_iadd d rfl) <|
  am_kd (fun d => ak_lconst d (by decide +kernel) rfl) <|
  am_kd (fun d => ak_last (t := 1) (fun _ => rfl) rfl d rfl) <|
  am_kd (fun d => ak_iinc d (by decide +kernel) rfl) <|
  am_kd (fun d => ak_goto d (by decide +kernel)) <|
  am_kd (fun d => ak_iinc d (by decide +kernel) rfl) <|
  am_kd (fun d => ak_goto d (by decide +kernel)) <|
  am_kd (fun d => ak_aload_n d rfl rfl) <|
  am_kd (fun d => ak_getI (C := RX4) (T := TX4) (N := 19) rfl inX4w (by decide) rfl rfl rfl wd_303 d rfl) <|
  am_kd (fun d => ak_if_le d (by decide +kernel) rfl) <|
  am_kd (fun d => ak_aload_n d rfl rfl) <|
  am_kd (fun d => ak_iload_n d rfl rfl) <|
  am_kd (fun d => ak_callV (C := RX4) (F := TX4) (N := 19) metX4_layNumbers rfl ⟨rfl, hy_X4_layNumbers⟩ (am_w5 wd_558 wd_494 wd_495 wd_60 wd_496) (by decide) d rfl) <|
  am_kd (fun d => ak_retV d) <| am_kdn
def TX4_begin : am_T := fun live as M R => match as with
  | [.ref n, .int p, .int w] => am_mn live ∧ n = 4 ∧ am_in p 12 ∧ g_rI M ∧ ∀ M', g_sc M M' → g_rI M' → R none M'
  | _ => False
def JX4_begin : am_E → List Value → am_M → am_R → am_inv := fun live as M0 _ pc => match as with
  | [.ref n, .int p, .int w] => (match pc with
    | 29 => some ([0, 1, 3], fun k L st M => ∃ l : Int32, L = [(0, .ref 4), (1, .int p), (3, .int l)] ∧ st = [] ∧ k = ((31 - l.toInt).toNat * 2, 0) ∧ 0 ≤ l.toInt ∧ (M.1 4 7).toInt ≤ l.toInt ∧ g_sc M0 M ∧ g_rI M)
    | 88 => some ([0, 1, 3, 4], fun k L st M => ∃ l o : Int32, L = [(0, .ref 4), (1, .int p), (3, .int l), (4, .int o)] ∧ st = [] ∧ k = ((31 - l.toInt).toNat * 2 - 1, (6 - o.toInt).toNat) ∧ (0 ≤ l.toInt ∧ l.toInt < 30) ∧ (M.1 4 7).toInt ≤ l.toInt + 1 ∧ 0 ≤ o.toInt ∧ g_sc M0 M ∧ g_rI M)
    | _ => none)
  | _ => none
set_option maxRecDepth 100000 in
set_option maxHeartbeats 4000000 in
theorem metX4_begin : am_Met yX4_begin cX4_begin 5 none (3) (72) TX4_begin := by
  refine am_met (own := RX4) (by decide +kernel) rfl kX4_begin koX4_begin 150 JX4_begin ?_ ?_
  · intro live as M Ret h
    unfold TX4_begin at h
    split at h
    · next n p w =>
      refine ⟨Nat.le_of_ble_eq_true rfl, ?_⟩
      change am_wp _ _ _ _ [(0, Value.ref n), (1, Value.int p), (2, Value.int w)] _ _
      obtain ⟨hmn, rfl, hp, hr, h⟩ := h
      have hmn2 := hmn
      obtain ⟨i1, i2, rfl⟩ := hmn2
      repeat' (first | (with_reducible exact hmn) | (with_reducible exact hp) | apply And.intro | exact rfl | intro hx | (refine Exists.intro _ (And.intro rfl ?_)))
      all_goals try first | (with_reducible change am_tI _ _) | (change Ret _ _) | (change Ret _ _ _) | (change Exists _)
      all_goals try dsimp only at *
      all_goals try (with_reducible exact absurd ‹(1000 : Int64) = 0› am_z1000)
      all_goals first | (with_reducible exact hp.1) | (with_reducible exact hp.2) | exact hp.1 | exact hp.2 | skip
      refine ⟨_, _, rfl, rfl, rfl, by decide, by rw [am_wI_self]; decide, by (repeat' (first | (with_reducible exact g_sc.rf) | (with_reducible assumption) | ((with_reducible change g_sc _ (am_wI _ _ _ _)); refine g_sc.wI ?_ rfl) | ((with_reducible change g_sc _ (am_wJ _ _ _ _)); refine g_sc.wJ ?_ rfl) | ((with_reducible change g_sc _ (am_cI _ _ _)); refine g_sc.cI ?_ rfl) | ((with_reducible change g_sc _ (am_cJ _ _ _)); refine g_sc.cJ ?_ rfl) | (refine g_sc.tr ?_ (by with_reducible assumption)) | (refine g_sc.st ?_ (by with_reducible assumption)))), ?_⟩
      exact g_rI.w47 (g_rI.wJ (g_rI.wJ (g_rI.w413 (g_rI.w412 (g_rI.w411 (g_rI.w410 (g_rI.wF (g_rI.w48 hr hp) rfl) (by decide)) (Or.inl rfl)) (Or.inl rfl)) (g_i2 _)))) ⟨(), by decide, by decide⟩
    · exact h.elim
  · intro live as M0 Ret h k pc I hI L st M hi
    unfold TX4_begin at h
    split at h
    · next n p w =>
      obtain ⟨hmn, rfl, hp, hr, h⟩ := h
      have hmn2 := hmn
      obtain ⟨i1, i2, rfl⟩ := hmn2
      change (match pc with | 29 => _ | 88 => _ | _ => none) = _ at hI
      split at hI
      · cases hI
        obtain ⟨l, rfl, rfl, rfl, e1, e4, e2, e3⟩ := hi
        by_cases hz : (30 : Int32) ≤ l
        · skip
          repeat' (first | (with_reducible exact hmn) | (with_reducible exact hp) | (with_reducible exact e3) | apply And.intro | exact rfl | (intro hx; with_reducible exact absurd hz hx) | ((with_reducible change g_rI _); (with_reducible assumption)) | intro hx | (refine Exists.intro _ (And.intro rfl ?_)))
          all_goals try first | (with_reducible change am_tI _ _) | (change Ret _ _) | (change Ret _ _ _) | (change Exists _)
          all_goals try dsimp only at *
          all_goals try (with_reducible exact absurd ‹(1000 : Int64) = 0› am_z1000)
          all_goals exact h _ (by (repeat' (first | (with_reducible exact g_sc.rf) | (with_reducible assumption) | ((with_reducible change g_sc _ (am_wI _ _ _ _)); refine g_sc.wI ?_ rfl) | ((with_reducible change g_sc _ (am_wJ _ _ _ _)); refine g_sc.wJ ?_ rfl) | ((with_reducible change g_sc _ (am_cI _ _ _)); refine g_sc.cI ?_ rfl) | ((with_reducible change g_sc _ (am_cJ _ _ _)); refine g_sc.cJ ?_ rfl) | (refine g_sc.tr ?_ (by with_reducible assumption)) | (refine g_sc.st ?_ (by with_reducible assumption))))) (by (repeat' (first | (with_reducible assumption) | ((with_reducible change g_rI (am_wJ _ _ _ _)); refine g_rI.wJ ?_) | ((with_reducible change g_rI (am_cJ _ _ _)); refine g_rI.cJ ?_) | ((with_reducible change g_rI (am_wI _ 5 _ _)); refine g_rI.w5 ?_) | ((with_reducible change g_rI (am_wI _ _ _ _)); refine g_rI.wF ?_ rfl) | (refine g_rI.st ?_ (by with_reducible assumption)) | (refine g_rI.we ?_ (by with_reducible assumption)))))
        · have hz2 := hz
          simp only [i_le, Int32.reduceToInt] at hz2
          have hi := i_inc (x := l) (by omega) (by omega)
          have hl : am_in l 30 := ⟨e1, by omega⟩
          have hs := e3.s.sz
          have hsi := i_inc (x := M.1 4 7) (by omega) (by omega)
          have e47 : ∀ k v, (am_wI M 7 k v).1 4 7 = M.1 4 7 := fun k v => by rw [am_wI_1, if_neg (fun q => absurd q.1 (by decide))]
          have l7 : am_len 7 = 30 := rfl
          repeat' (first | (with_reducible exact hmn) | (with_reducible exact hp) | (with_reducible exact e3) | apply And.intro | exact rfl | (intro hx; with_reducible exact absurd hx hz) | ((with_reducible change g_rI _); (with_reducible assumption)) | intro hx | (refine Exists.intro _ (And.intro rfl ?_)))
          all_goals try first | (with_reducible change am_tI _ _) | (change Ret _ _) | (change Ret _ _ _) | (change Exists _)
          all_goals try dsimp only at *
          all_goals try (with_reducible exact absurd ‹(1000 : Int64) = 0› am_z1000)
          all_goals first
            | omega
            | (rw [l7]; omega)
            | exact h _ (by (repeat' (first | (with_reducible exact g_sc.rf) | (with_reducible assumption) | ((with_reducible change g_sc _ (am_wI _ _ _ _)); refine g_sc.wI ?_ rfl) | ((with_reducible change g_sc _ (am_wJ _ _ _ _)); refine g_sc.wJ ?_ rfl) | ((with_reducible change g_sc _ (am_cI _ _ _)); refine g_sc.cI ?_ rfl) | ((with_reducible change g_sc _ (am_cJ _ _ _)); refine g_sc.cJ ?_ rfl) | (refine g_sc.tr ?_ (by with_reducible assumption)) | (refine g_sc.st ?_ (by with_reducible assumption))))) (by (repeat' (first | (with_reducible assumption) | ((with_reducible change g_rI (am_wJ _ _ _ _)); refine g_rI.wJ ?_) | ((with_reducible change g_rI (am_cJ _ _ _)); refine g_rI.cJ ?_) | ((with_reducible change g_rI (am_wI _ 5 _ _)); refine g_rI.w5 ?_) | ((with_reducible change g_rI (am_wI _ _ _ _)); refine g_rI.wF ?_ rfl) | (refine g_rI.st ?_ (by with_reducible assumption)) | (refine g_rI.we ?_ (by with_reducible assumption)))))
            | exact ⟨_, am_lt_l (by omega), _, rfl, rfl, rfl, by omega, by omega, e2, e3⟩
            | skip
          refine ⟨_, am_lt_l (by omega), _, _, rfl, rfl, rfl, ⟨e1, by omega⟩, ?_, by decide, by (repeat' (first | (with_reducible exact g_sc.rf) | (with_reducible assumption) | ((with_reducible change g_sc _ (am_wI _ _ _ _)); refine g_sc.wI ?_ rfl) | ((with_reducible change g_sc _ (am_wJ _ _ _ _)); refine g_sc.wJ ?_ rfl) | ((with_reducible change g_sc _ (am_cI _ _ _)); refine g_sc.cI ?_ rfl) | ((with_reducible change g_sc _ (am_cJ _ _ _)); refine g_sc.cJ ?_ rfl) | (refine g_sc.tr ?_ (by with_reducible assumption)) | (refine g_sc.st ?_ (by with_reducible assumption)))), g_rI.w47 (g_rI.w7 e3 hl) ?_⟩
          · rw [am_wI_self, e47]; omega
          · rw [e47]; exact ⟨(), by omega, by omega⟩
      · cases hI
        obtain ⟨l, o, rfl, rfl, rfl, ⟨e1, e5⟩, e4, e6, e2, e3⟩ := hi
        have hi := i_inc (x := l) (by omega) (by omega)
        by_cases hz : (6 : Int32) ≤ o
        · skip
          repeat' (first | apply And.intro | exact rfl | (intro hx; with_reducible exact absurd hz hx) | intro hx | (refine Exists.intro _ (And.intro rfl ?_)))
          all_goals try first | (with_reducible change am_tI _ _) | (change Ret _ _) | (change Ret _ _ _) | (change Exists _)
          all_goals try dsimp only at *
          all_goals try (with_reducible exact absurd ‹(1000 : Int64) = 0› am_z1000)
          exact ⟨_, am_lt_l (by omega), _, rfl, rfl, rfl, by omega, by omega, e2, e3⟩
        · have hz2 := hz
          simp only [i_le, Int32.reduceToInt] at hz2
          have ho := i_inc (x := o) (by omega) (by omega)
          have e30 := i_mul (x := o) (y := 30) (by simp only [Int32.reduceToInt]; omega) (by simp only [Int32.reduceToInt]; omega)
          simp only [Int32.reduceToInt] at e30
          have e := i_add (x := o * 30) (y := l) (by rw [e30]; omega) (by rw [e30]; omega)
          have l6 : am_len 6 = 180 := rfl
          repeat' (first | apply And.intro | exact rfl | (intro hx; with_reducible exact absurd hx hz) | intro hx | (refine Exists.intro _ (And.intro rfl ?_)))
          all_goals try first | (with_reducible change am_tI _ _) | (change Ret _ _) | (change Ret _ _ _) | (change Exists _)
          all_goals try dsimp only at *
          all_goals try (with_reducible exact absurd ‹(1000 : Int64) = 0› am_z1000)
          all_goals first
            | omega
            | (rw [l6]; omega)
            | exact ⟨_, am_lt_r (by omega), _, _, rfl, rfl, rfl, ⟨e1, e5⟩, e4, by omega, by (repeat' (first | (with_reducible exact g_sc.rf) | (with_reducible assumption) | ((with_reducible change g_sc _ (am_wI _ _ _ _)); refine g_sc.wI ?_ rfl) | ((with_reducible change g_sc _ (am_wJ _ _ _ _)); refine g_sc.wJ ?_ rfl) | ((with_reducible change g_sc _ (am_cI _ _ _)); refine g_sc.cI ?_ rfl) | ((with_reducible change g_sc _ (am_cJ _ _ _)); refine g_sc.cJ ?_ rfl) | (refine g_sc.tr ?_ (by with_reducible assumption)) | (refine g_sc.st ?_ (by with_reducible assumption)))), by (repeat' (first | (with_reducible assumption) | ((with_reducible change g_rI (am_wJ _ _ _ _)); refine g_rI.wJ ?_) | ((with_reducible change g_rI (am_cJ _ _ _)); refine g_rI.cJ ?_) | ((with_reducible change g_rI (am_wI _ 5 _ _)); refine g_rI.w5 ?_) | ((with_reducible change g_rI (am_wI _ _ _ _)); refine g_rI.wF ?_ rfl) | (refine g_rI.st ?_ (by with_reducible assumption)) | (refine g_rI.we ?_ (by with_reducible assumption))))⟩
            | skip
      · cases hI
    · exact h.elim
end
