/-! Run: what is safe of it, II -/
set_option maxRecDepth 100000 in
theorem wd_219 : Cond.fieldLink "LearnLoans$Run" 126 "LearnLoans$House" "lives" "[I" ∈ am_ws := am_wsi (List.mem_of_getElem? (i := 219) (by rfl)) (by decide +kernel)
set_option maxRecDepth 100000 in
theorem wd_567 : Cond.methodLink "LearnLoans$Run" 129 yX4_suppose ∈ am_ws := am_wsi (List.mem_of_getElem? (i := 567) (by rfl)) (by decide +kernel)
set_option maxRecDepth 100000 in
theorem wd_568 : Cond.instanceMethod yX4_suppose ∈ am_ws := am_wsi (List.mem_of_getElem? (i := 568) (by rfl)) (by decide +kernel)
set_option maxRecDepth 100000 in
theorem wd_569 : Cond.selects "LearnLoans$Run" yX4_suppose yX4_suppose ∈ am_ws := am_wsi (List.mem_of_getElem? (i := 569) (by rfl)) (by decide +kernel)
set_option maxRecDepth 100000 in
theorem wd_570 : Cond.code yX4_suppose cX4_suppose 4 none ∈ am_ws := am_wsi (List.mem_of_getElem? (i := 570) (by rfl)) (by decide +kernel)
set_option maxRecDepth 100000 in
theorem wd_305 : Cond.fieldLink "LearnLoans$Run" 46 "LearnLoans$Run" "known" "I" ∈ am_ws := am_wsi (List.mem_of_getElem? (i := 305) (by rfl)) (by decide +kernel)
set_option maxRecDepth 100000 in
theorem wd_571 : Cond.methodLink "LearnLoans$Run" 133 yX2_earned ∈ am_ws := am_wsi (List.mem_of_getElem? (i := 571) (by rfl)) (by decide +kernel)
set_option maxRecDepth 100000 in
theorem wd_459 : Cond.instanceMethod yX2_earned ∈ am_ws := am_wsi (List.mem_of_getElem? (i := 459) (by rfl)) (by decide +kernel)
set_option maxRecDepth 100000 in
theorem wd_460 : Cond.selects "LearnLoans$People" yX2_earned yX2_earned ∈ am_ws := am_wsi (List.mem_of_getElem? (i := 460) (by rfl)) (by decide +kernel)
set_option maxRecDepth 100000 in
theorem wd_461 : Cond.code yX2_earned cX2_earned 5 (some .int) ∈ am_ws := am_wsi (List.mem_of_getElem? (i := 461) (by rfl)) (by decide +kernel)
set_option maxRecDepth 100000 in
theorem wd_112 : Cond.fieldLink "LearnLoans$Run" 137 "LearnLoans$People" "lands" "[I" ∈ am_ws := am_wsi (List.mem_of_getElem? (i := 112) (by rfl)) (by decide +kernel)
theorem dX4_look_0 : decode cX4_look 0 = .ok (.aload_n 0, 1) := by decide +kernel
theorem dX4_look_1 : decode cX4_look 1 = .ok (.getfield 74, 3) := by decide +kernel
theorem dX4_look_4 : decode cX4_look 4 = .ok (.iconst (-1), 1) := by decide +kernel
theorem dX4_look_5 : decode cX4_look 5 = .ok (.if_icmp .eq 32, 3) := by decide +kernel
theorem dX4_look_8 : decode cX4_look 8 = .ok (.aload_n 0, 1) := by decide +kernel
theorem dX4_look_9 : decode cX4_look 9 = .ok (.aload_n 0, 1) := by decide +kernel
theorem dX4_look_10 : decode cX4_look 10 = .ok (.getfield 12, 3) := by decide +kernel
theorem dX4_look_13 : decode cX4_look 13 = .ok (.getfield 126, 3) := by decide +kernel
theorem dX4_look_16 : decode cX4_look 16 = .ok (.aload_n 0, 1) := by decide +kernel
theorem dX4_look_17 : decode cX4_look 17 = .ok (.getfield 74, 3) := by decide +kernel
theorem dX4_look_20 : decode cX4_look 20 = .ok (.bipush 40, 2) := by decide +kernel
theorem dX4_look_22 : decode cX4_look 22 = .ok (.imul, 1) := by decide +kernel
theorem dX4_look_23 : decode cX4_look 23 = .ok (.iload_n 1, 1) := by decide +kernel
theorem dX4_look_24 : decode cX4_look 24 = .ok (.iadd, 1) := by decide +kernel
theorem dX4_look_25 : decode cX4_look 25 = .ok (.iaload, 1) := by decide +kernel
theorem dX4_look_26 : decode cX4_look 26 = .ok (.iconst 0, 1) := by decide +kernel
theorem dX4_look_27 : decode cX4_look 27 = .ok (.aload_n 0, 1) := by decide +kernel
theorem dX4_look_28 : decode cX4_look 28 = .ok (.getfield 90, 3) := by decide +kernel
theorem dX4_look_31 : decode cX4_look 31 = .ok (.invokevirtual 129, 3) := by decide +kernel
theorem dX4_look_34 : decode cX4_look 34 = .ok (.goto 61, 3) := by decide +kernel
theorem dX4_look_37 : decode cX4_look 37 = .ok (.aload_n 0, 1) := by decide +kernel
theorem dX4_look_38 : decode cX4_look 38 = .ok (.aload_n 0, 1) := by decide +kernel
theorem dX4_look_39 : decode cX4_look 39 = .ok (.getfield 12, 3) := by decide +kernel
theorem dX4_look_42 : decode cX4_look 42 = .ok (.getfield 80, 3) := by decide +kernel
theorem dX4_look_45 : decode cX4_look 45 = .ok (.aload_n 0, 1) := by decide +kernel
theorem dX4_look_46 : decode cX4_look 46 = .ok (.getfield 42, 3) := by decide +kernel
theorem dX4_look_49 : decode cX4_look 49 = .ok (.iload_n 1, 1) := by decide +kernel
theorem dX4_look_50 : decode cX4_look 50 = .ok (.aload_n 0, 1) := by decide +kernel
theorem dX4_look_51 : decode cX4_look 51 = .ok (.getfield 46, 3) := by decide +kernel
theorem dX4_look_54 : decode cX4_look 54 = .ok (.invokevirtual 133, 3) := by decide +kernel
theorem dX4_look_57 : decode cX4_look 57 = .ok (.aload_n 0, 1) := by decide +kernel
theorem dX4_look_58 : decode cX4_look 58 = .ok (.getfield 12, 3) := by decide +kernel
theorem dX4_look_61 : decode cX4_look 61 = .ok (.getfield 80, 3) := by decide +kernel
theorem dX4_look_64 : decode cX4_look 64 = .ok (.getfield 137, 3) := by decide +kernel
theorem dX4_look_67 : decode cX4_look 67 = .ok (.aload_n 0, 1) := by decide +kernel
theorem dX4_look_68 : decode cX4_look 68 = .ok (.getfield 42, 3) := by decide +kernel
theorem dX4_look_71 : decode cX4_look 71 = .ok (.bipush 40, 2) := by decide +kernel
theorem dX4_look_73 : decode cX4_look 73 = .ok (.imul, 1) := by decide +kernel
theorem dX4_look_74 : decode cX4_look 74 = .ok (.iload_n 1, 1) := by decide +kernel
theorem dX4_look_75 : decode cX4_look 75 = .ok (.iadd, 1) := by decide +kernel
theorem dX4_look_76 : decode cX4_look 76 = .ok (.iaload, 1) := by decide +kernel
theorem dX4_look_77 : decode cX4_look 77 = .ok (.aload_n 0, 1) := by decide +kernel
theorem dX4_look_78 : decode cX4_look 78 = .ok (.getfield 12, 3) := by decide +kernel
theorem dX4_look_81 : decode cX4_look 81 = .ok (.getfield 80, 3) := by decide +kernel
theorem dX4_look_84 : decode cX4_look 84 = .ok (.aload_n 0, 1) := by decide +kernel
theorem dX4_look_85 : decode cX4_look 85 = .ok (.getfield 42, 3) := by decide +kernel
theorem dX4_look_88 : decode cX4_look 88 = .ok (.iload_n 1, 1) := by decide +kernel
theorem dX4_look_89 : decode cX4_look 89 = .ok (.invokevirtual 84, 3) := by decide +kernel
theorem dX4_look_92 : decode cX4_look 92 = .ok (.invokevirtual 129, 3) := by decide +kernel
theorem dX4_look_95 : decode cX4_look 95 = .ok (.return_, 1) := by decide +kernel
def kX4_look (live : am_E) (Ret : am_R) : am_code := [(0, am_aload 0 1), (1, am_getI live 4 11 4), (4, am_const (.int (-1)) 5), (5, am_if2 (fun x y => x = y) 37 8), (8, am_aload 0 9), (9, am_aload 0 10), (10, am_getR live 4 0 13), (13, am_getR live 0 9 16), (16, am_aload 0 17), (17, am_getI live 4 11 20), (20, am_const (.int 40) 22), (22, am_i2 (fun x y => x * y) 23), (23, am_iload 1 24), (24, am_i2 (fun x y => x + y) 25), (25, am_ald live 0 26), (26, am_const (.int 0) 27), (27, am_aload 0 28), (28, am_getI live 4 13 31), (31, am_callV live 4 3 TX4_suppose 34), (34, am_goto 95), (37, am_aload 0 38), (38, am_aload 0 39), (39, am_getR live 4 0 42), (42, am_getR live 0 0 45), (45, am_aload 0 46), (46, am_getI live 4 8 49), (49, am_iload 1 50), (50, am_aload 0 51), (51, am_getI live 4 9 54), (54, am_callV live 2 3 TX2_earned 57), (57, am_aload 0 58), (58, am_getR live 4 0 61), (61, am_getR live 0 0 64), (64, am_getR live 2 2 67), (67, am_aload 0 68), (68, am_getI live 4 8 71), (71, am_const (.int 40) 73), (73, am_i2 (fun x y => x * y) 74), (74, am_iload 1 75), (75, am_i2 (fun x y => x + y) 76), (76, am_ald live 0 77), (77, am_aload 0 78), (78, am_getR live 4 0 81), (81, am_getR live 0 0 84), (84, am_aload 0 85), (85, am_getI live 4 8 88), (88, am_iload 1 89), (89, am_callV live 2 2 TX2_isDead 92), (92, am_callV live 4 3 TX4_suppose 95), (95, am_retV Ret)]
theorem koX4_look (live : am_E) (Ret : am_R) : ∀ q ∈ kX4_look live Ret, am_ok RX4 cX4_look 2 none 1 24 live Ret q.1 q.2 :=
  am_kc (ak_aload_n dX4_look_0 rfl rfl) <|
  am_kc (ak_getI (C := RX4) (T := TX4) (N := 19) rfl inX4w (by decide) rfl rfl rfl wd_307 dX4_look_1 rfl) <|
  am_kc (ak_iconst dX4_look_4 (by decide +kernel) rfl) <|
  am_kc (ak_icmp_eq dX4_look_5 (by decide +kernel) rfl) <|
  am_kc (ak_aload_n dX4_look_8 rfl rfl) <|
  am_kc (ak_aload_n dX4_look_9 rfl rfl) <|
  am_kc (ak_getR (C := RX4) (T := TX4) (N := 19) rfl inX4w (by decide) rfl rfl rfl wd_291 dX4_look_10 rfl) <|
  am_kc (ak_getR (C := RX0) (T := TX0) (N := 13) rfl inX0w (by decide) rfl rfl rfl wd_219 dX4_look_13 rfl) <|
  am_kc (ak_aload_n dX4_look_16 rfl rfl) <|
  am_kc (ak_getI (C := RX4) (T := TX4) (N := 19) rfl inX4w (by decide) rfl rfl rfl wd_307 dX4_look_17 rfl) <|
  am_kc (ak_bipush dX4_look_20 (by decide +kernel) rfl) <|
  am_kc (ak_imul dX4_look_22 rfl) <|
  am_kc (ak_iload_n dX4_look_23 rfl rfl) <|
  am_kc (ak_iadd dX4_look_24 rfl) <|
  am_kc (ak_iald (t := 0) (fun _ => rfl) rfl dX4_look_25 rfl) <|
  am_kc (ak_iconst dX4_look_26 (by decide +kernel) rfl) <|
  am_kc (ak_aload_n dX4_look_27 rfl rfl) <|
  am_kc (ak_getI (C := RX4) (T := TX4) (N := 19) rfl inX4w (by decide) rfl rfl rfl wd_309 dX4_look_28 rfl) <|
  am_kc (ak_callV (C := RX4) (F := TX4) (N := 19) metX4_suppose rfl ⟨rfl, by decide +kernel, by decide +kernel, by decide +kernel⟩ (am_w5 wd_567 wd_568 wd_569 wd_60 wd_570) (by decide) dX4_look_31 rfl) <|
  am_kc (ak_goto dX4_look_34 (by decide +kernel)) <|
  am_kc (ak_aload_n dX4_look_37 rfl rfl) <|
  am_kc (ak_aload_n dX4_look_38 rfl rfl) <|
  am_kc (ak_getR (C := RX4) (T := TX4) (N := 19) rfl inX4w (by decide) rfl rfl rfl wd_291 dX4_look_39 rfl) <|
  am_kc (ak_getR (C := RX0) (T := TX0) (N := 13) rfl inX0w (by decide) rfl rfl rfl wd_195 dX4_look_42 rfl) <|
  am_kc (ak_aload_n dX4_look_45 rfl rfl) <|
  am_kc (ak_getI (C := RX4) (T := TX4) (N := 19) rfl inX4w (by decide) rfl rfl rfl wd_304 dX4_look_46 rfl) <|
  am_kc (ak_iload_n dX4_look_49 rfl rfl) <|
  am_kc (ak_aload_n dX4_look_50 rfl rfl) <|
  am_kc (ak_getI (C := RX4) (T := TX4) (N := 19) rfl inX4w (by decide) rfl rfl rfl wd_305 dX4_look_51 rfl) <|
  am_kc (ak_callV (C := RX2) (F := TX2) (N := 8) metX2_earned rfl ⟨rfl, by decide +kernel, by decide +kernel, by decide +kernel⟩ (am_w5 wd_571 wd_459 wd_460 wd_62 wd_461) (by decide) dX4_look_54 rfl) <|
  am_kc (ak_aload_n dX4_look_57 rfl rfl) <|
  am_kc (ak_getR (C := RX4) (T := TX4) (N := 19) rfl inX4w (by decide) rfl rfl rfl wd_291 dX4_look_58 rfl) <|
  am_kc (ak_getR (C := RX0) (T := TX0) (N := 13) rfl inX0w (by decide) rfl rfl rfl wd_195 dX4_look_61 rfl) <|
  am_kc (ak_getR (C := RX2) (T := TX2) (N := 8) rfl inX2w (by decide) rfl rfl rfl wd_112 dX4_look_64 rfl) <|
  am_kc (ak_aload_n dX4_look_67 rfl rfl) <|
  am_kc (ak_getI (C := RX4) (T := TX4) (N := 19) rfl inX4w (by decide) rfl rfl rfl wd_304 dX4_look_68 rfl) <|
  am_kc (ak_bipush dX4_look_71 (by decide +kernel) rfl) <|
  am_kc (ak_imul dX4_look_73 rfl) <|
  am_kc (ak_iload_n dX4_look_74 rfl rfl) <|
  am_kc (ak_iadd dX4_look_75 rfl) <|
  am_kc (ak_iald (t := 0) (fun _ => rfl) rfl dX4_look_76 rfl) <|
  am_kc (ak_aload_n dX4_look_77 rfl rfl) <|
  am_kc (ak_getR (C := RX4) (T := TX4) (N := 19) rfl inX4w (by decide) rfl rfl rfl wd_291 dX4_look_78 rfl) <|
  am_kc (ak_getR (C := RX0) (T := TX0) (N := 13) rfl inX0w (by decide) rfl rfl rfl wd_195 dX4_look_81 rfl) <|
  am_kc (ak_aload_n dX4_look_84 rfl rfl) <|
  am_kc (ak_getI (C := RX4) (T := TX4) (N := 19) rfl inX4w (by decide) rfl rfl rfl wd_304 dX4_look_85 rfl) <|
  am_kc (ak_iload_n dX4_look_88 rfl rfl) <|
  am_kc (ak_callV (C := RX2) (F := TX2) (N := 8) metX2_isDead rfl ⟨rfl, by decide +kernel, by decide +kernel, by decide +kernel⟩ (am_w5 wd_554 wd_555 wd_556 wd_62 wd_557) (by decide) dX4_look_89 rfl) <|
  am_kc (ak_callV (C := RX4) (F := TX4) (N := 19) metX4_suppose rfl ⟨rfl, by decide +kernel, by decide +kernel, by decide +kernel⟩ (am_w5 wd_567 wd_568 wd_569 wd_60 wd_570) (by decide) dX4_look_92 rfl) <|
  am_kc (ak_retV dX4_look_95) <| am_kn
def TX4_look : am_T := fun live as M R => match as with
  | [.ref n, .int y] => am_mn live ∧ n = 4 ∧ am_in y 40 ∧ g_rI M ∧ ∀ M', g_sc M M' → g_rI M' → R none M'
  | _ => False
theorem g_40 {a y : Int32} {n : Nat} (hn : n ≤ 100) (h1 : am_in a n) (h2 : am_in y 40) : (a * 40 + y).toInt = a.toInt * 40 + y.toInt := by
  obtain ⟨a1, a2⟩ := h1
  obtain ⟨b1, b2⟩ := h2
  have e := i_mul (x := a) (y := 40) (by simp only [Int32.reduceToInt]; omega) (by simp only [Int32.reduceToInt]; omega)
  simp only [Int32.reduceToInt] at e
  rw [i_add (by rw [e]; omega) (by rw [e]; omega), e]
theorem g_01 (q : Prop) [Decidable q] : (if q then (1 : Int32) else 0) = 0 ∨ (if q then (1 : Int32) else 0) = 1 := by
  split
  · exact Or.inr rfl
  · exact Or.inl rfl
theorem g_d2 {x : Int32} (h : am_in x 2) : x = 0 ∨ x = 1 := by
  obtain ⟨h1, h2⟩ := h
  simp only [i_eq, Int32.reduceToInt]
  omega
set_option maxRecDepth 100000 in
set_option maxHeartbeats 4000000 in
theorem metX4_look : am_Met yX4_look cX4_look 2 none (1) (24) TX4_look := by
  refine am_met (own := RX4) (by decide +kernel) rfl kX4_look koX4_look 100 (fun _ _ _ _ _ => none) (fun live as M Ret h => ?_) (fun _ _ _ _ _ _ _ _ hI => by cases hI)
  unfold TX4_look at h
  split at h
  · next n y =>
    refine ⟨Nat.le_of_ble_eq_true rfl, ?_⟩
    change am_wp _ _ _ _ [(0, Value.ref n), (1, Value.int y)] _ _
    obtain ⟨hmn, rfl, hy, hr, h⟩ := h
    have hmn2 := hmn
    obtain ⟨i1, i2, rfl⟩ := hmn2
    have l56 : am_len 56 = 160 := rfl
    have l24 : am_len 24 = 480 := rfl
    have hp := hr.s.pe
    have ep := g_40 (by decide) hp hy
    have hy1 := hy.1
    have hy2 := hy.2
    have hp1 := hp.1
    have hp2 := hp.2
    have hld := hr.t.ld (k := (M.1 4 8 * 40 + y).toNatClampNeg) (by have := i_clamp (x := M.1 4 8 * 40 + y) (by omega); omega)
    by_cases hz : M.1 4 11 = -1
    · skip
      repeat' (first | (with_reducible exact hmn) | (with_reducible exact hp) | apply And.intro | exact rfl | (intro hx; with_reducible exact absurd hz hx) | intro hx | (refine Exists.intro _ (And.intro rfl ?_)))
      all_goals try first | (with_reducible change am_tI _ _) | (change Ret _ _) | (change Ret _ _ _) | (change Exists _)
      all_goals try dsimp only at *
      all_goals try exact absurd ‹(1000 : Int64) = 0› (by decide)
      all_goals first
        | exact hp.1
        | exact hp.2
        | exact g_01 _
        | (rw [ep]; omega)
        | (rw [ep, l24]; omega)
        | skip
      exact h _ (((g_sc.rf.wI rfl).wI rfl).wI rfl) (((hr.wF rfl).w417 hld).wF rfl)
    · have hl := hr.s.li.resolve_left hz
      have el := g_40 (by decide) hl hy
      have hl1 := hl.1
      have hl2 := hl.2
      repeat' (first | (with_reducible exact hmn) | apply And.intro | exact rfl | (intro hx; with_reducible exact absurd hx hz) | intro hx | (refine Exists.intro _ (And.intro rfl ?_)))
      all_goals try first | (with_reducible change am_tI _ _) | (change Ret _ _) | (change Ret _ _ _) | (change Exists _)
      all_goals try dsimp only at *
      all_goals try exact absurd ‹(1000 : Int64) = 0› (by decide)
      all_goals first
        | (left; rfl)
        | (rw [el]; omega)
        | (rw [el, l56]; omega)
        | exact g_d2 hr.s.da
        | skip
      exact h _ (((g_sc.rf.wI rfl).wI rfl).wI rfl) (((hr.wF rfl).w417 ⟨by decide, by decide⟩).wF rfl)
  · exact h.elim
set_option maxRecDepth 100000 in
theorem wd_214 : Cond.fieldLink "LearnLoans$Run" 193 "LearnLoans$House" "texts" "[LLearnLoans$Text;" ∈ am_ws := am_wsi (List.mem_of_getElem? (i := 214) (by rfl)) (by decide +kernel)
set_option maxRecDepth 100000 in
theorem wd_176 : Cond.fieldLink "LearnLoans$Run" 197 "LearnLoans$Text" "wrong" "I" ∈ am_ws := am_wsi (List.mem_of_getElem? (i := 176) (by rfl)) (by decide +kernel)
set_option maxRecDepth 100000 in
theorem wd_301 : Cond.fieldLink "LearnLoans$Run" 35 "LearnLoans$Run" "letters" "LLearnLoans$Letters;" ∈ am_ws := am_wsi (List.mem_of_getElem? (i := 301) (by rfl)) (by decide +kernel)
set_option maxRecDepth 100000 in
theorem wd_262 : Cond.fieldLink "LearnLoans$Run" 202 "LearnLoans$Letters" "rate" "J" ∈ am_ws := am_wsi (List.mem_of_getElem? (i := 262) (by rfl)) (by decide +kernel)
set_option maxRecDepth 100000 in
theorem wd_201 : Cond.fieldLink "LearnLoans$Run" 205 "LearnLoans$House" "prices" "[I" ∈ am_ws := am_wsi (List.mem_of_getElem? (i := 201) (by rfl)) (by decide +kernel)
set_option maxRecDepth 100000 in
theorem wd_264 : Cond.fieldLink "LearnLoans$Run" 208 "LearnLoans$Letters" "prices" "J" ∈ am_ws := am_wsi (List.mem_of_getElem? (i := 264) (by rfl)) (by decide +kernel)
set_option maxRecDepth 100000 in
theorem wd_266 : Cond.fieldLink "LearnLoans$Run" 210 "LearnLoans$Letters" "earned" "J" ∈ am_ws := am_wsi (List.mem_of_getElem? (i := 266) (by rfl)) (by decide +kernel)
set_option maxRecDepth 100000 in
theorem wd_268 : Cond.fieldLink "LearnLoans$Run" 212 "LearnLoans$Letters" "line" "J" ∈ am_ws := am_wsi (List.mem_of_getElem? (i := 268) (by rfl)) (by decide +kernel)
set_option maxRecDepth 100000 in
theorem wd_270 : Cond.fieldLink "LearnLoans$Run" 215 "LearnLoans$Letters" "years" "J" ∈ am_ws := am_wsi (List.mem_of_getElem? (i := 270) (by rfl)) (by decide +kernel)
set_option maxRecDepth 100000 in
theorem wd_272 : Cond.fieldLink "LearnLoans$Run" 218 "LearnLoans$Letters" "owed" "J" ∈ am_ws := am_wsi (List.mem_of_getElem? (i := 272) (by rfl)) (by decide +kernel)
set_option maxRecDepth 100000 in
theorem wd_274 : Cond.fieldLink "LearnLoans$Run" 221 "LearnLoans$Letters" "land" "J" ∈ am_ws := am_wsi (List.mem_of_getElem? (i := 274) (by rfl)) (by decide +kernel)
set_option maxRecDepth 100000 in
theorem wd_302 : Cond.fieldLink "LearnLoans$Run" 39 "LearnLoans$Run" "stack" "[J" ∈ am_ws := am_wsi (List.mem_of_getElem? (i := 302) (by rfl)) (by decide +kernel)
set_option maxRecDepth 100000 in
theorem wd_592 : Cond.methodLink "LearnLoans$Run" 223 yX5_worked ∈ am_ws := am_wsi (List.mem_of_getElem? (i := 592) (by rfl)) (by decide +kernel)
set_option maxRecDepth 100000 in
theorem wd_593 : Cond.instanceMethod yX5_worked ∈ am_ws := am_wsi (List.mem_of_getElem? (i := 593) (by rfl)) (by decide +kernel)
set_option maxRecDepth 100000 in
theorem wd_594 : Cond.selects "LearnLoans$Text" yX5_worked yX5_worked ∈ am_ws := am_wsi (List.mem_of_getElem? (i := 594) (by rfl)) (by decide +kernel)
set_option maxRecDepth 100000 in
theorem wd_595 : Cond.code yX5_worked cX5_worked 7 (some .long) ∈ am_ws := am_wsi (List.mem_of_getElem? (i := 595) (by rfl)) (by decide +kernel)
set_option maxRecDepth 100000 in
theorem wd_606 : Cond.constantLong "LearnLoans$Run" 227 500 ∈ am_ws := am_wsi (List.mem_of_getElem? (i := 606) (by rfl)) (by decide +kernel)
theorem dX4_rateOf_0 : decode cX4_rateOf 0 = .ok (.aload_n 0, 1) := by decide +kernel
theorem dX4_rateOf_1 : decode cX4_rateOf 1 = .ok (.iload_n 1, 1) := by decide +kernel
theorem dX4_rateOf_2 : decode cX4_rateOf 2 = .ok (.iload_n 2, 1) := by decide +kernel
theorem dX4_rateOf_3 : decode cX4_rateOf 3 = .ok (.invokevirtual 170, 3) := by decide +kernel
theorem dX4_rateOf_6 : decode cX4_rateOf 6 = .ok (.istore_n 3, 1) := by decide +kernel
theorem dX4_rateOf_7 : decode cX4_rateOf 7 = .ok (.aload_n 0, 1) := by decide +kernel
theorem dX4_rateOf_8 : decode cX4_rateOf 8 = .ok (.getfield 12, 3) := by decide +kernel
theorem dX4_rateOf_11 : decode cX4_rateOf 11 = .ok (.getfield 193, 3) := by decide +kernel
theorem dX4_rateOf_14 : decode cX4_rateOf 14 = .ok (.aload_n 0, 1) := by decide +kernel
theorem dX4_rateOf_15 : decode cX4_rateOf 15 = .ok (.iload_n 1, 1) := by decide +kernel
theorem dX4_rateOf_16 : decode cX4_rateOf 16 = .ok (.iload_n 2, 1) := by decide +kernel
theorem dX4_rateOf_17 : decode cX4_rateOf 17 = .ok (.invokevirtual 190, 3) := by decide +kernel
theorem dX4_rateOf_20 : decode cX4_rateOf 20 = .ok (.aaload, 1) := by decide +kernel
theorem dX4_rateOf_21 : decode cX4_rateOf 21 = .ok (.astore 4, 2) := by decide +kernel
theorem dX4_rateOf_23 : decode cX4_rateOf 23 = .ok (.aload 4, 2) := by decide +kernel
theorem dX4_rateOf_25 : decode cX4_rateOf 25 = .ok (.getfield 197, 3) := by decide +kernel
theorem dX4_rateOf_28 : decode cX4_rateOf 28 = .ok (.iconst (-1), 1) := by decide +kernel
theorem dX4_rateOf_29 : decode cX4_rateOf 29 = .ok (.if_icmp .eq 12, 3) := by decide +kernel
theorem dX4_rateOf_32 : decode cX4_rateOf 32 = .ok (.aload_n 0, 1) := by decide +kernel
theorem dX4_rateOf_33 : decode cX4_rateOf 33 = .ok (.getfield 18, 3) := by decide +kernel
theorem dX4_rateOf_36 : decode cX4_rateOf 36 = .ok (.iload_n 3, 1) := by decide +kernel
theorem dX4_rateOf_37 : decode cX4_rateOf 37 = .ok (.iconst 2, 1) := by decide +kernel
theorem dX4_rateOf_38 : decode cX4_rateOf 38 = .ok (.iadd, 1) := by decide +kernel
theorem dX4_rateOf_39 : decode cX4_rateOf 39 = .ok (.iaload, 1) := by decide +kernel
theorem dX4_rateOf_40 : decode cX4_rateOf 40 = .ok (.ireturn, 1) := by decide +kernel
theorem dX4_rateOf_41 : decode cX4_rateOf 41 = .ok (.aload_n 0, 1) := by decide +kernel
theorem dX4_rateOf_42 : decode cX4_rateOf 42 = .ok (.getfield 35, 3) := by decide +kernel
theorem dX4_rateOf_45 : decode cX4_rateOf 45 = .ok (.aload_n 0, 1) := by decide +kernel
theorem dX4_rateOf_46 : decode cX4_rateOf 46 = .ok (.getfield 18, 3) := by decide +kernel
theorem dX4_rateOf_49 : decode cX4_rateOf 49 = .ok (.iload_n 3, 1) := by decide +kernel
theorem dX4_rateOf_50 : decode cX4_rateOf 50 = .ok (.iconst 2, 1) := by decide +kernel
theorem dX4_rateOf_51 : decode cX4_rateOf 51 = .ok (.iadd, 1) := by decide +kernel
theorem dX4_rateOf_52 : decode cX4_rateOf 52 = .ok (.iaload, 1) := by decide +kernel
theorem dX4_rateOf_53 : decode cX4_rateOf 53 = .ok (.i2l, 1) := by decide +kernel
theorem dX4_rateOf_54 : decode cX4_rateOf 54 = .ok (.putfield 202, 3) := by decide +kernel
theorem dX4_rateOf_57 : decode cX4_rateOf 57 = .ok (.aload_n 0, 1) := by decide +kernel
theorem dX4_rateOf_58 : decode cX4_rateOf 58 = .ok (.getfield 35, 3) := by decide +kernel
theorem dX4_rateOf_61 : decode cX4_rateOf 61 = .ok (.aload_n 0, 1) := by decide +kernel
theorem dX4_rateOf_62 : decode cX4_rateOf 62 = .ok (.getfield 12, 3) := by decide +kernel
theorem dX4_rateOf_65 : decode cX4_rateOf 65 = .ok (.getfield 205, 3) := by decide +kernel
theorem dX4_rateOf_68 : decode cX4_rateOf 68 = .ok (.iload_n 2, 1) := by decide +kernel
theorem dX4_rateOf_69 : decode cX4_rateOf 69 = .ok (.iaload, 1) := by decide +kernel
theorem dX4_rateOf_70 : decode cX4_rateOf 70 = .ok (.i2l, 1) := by decide +kernel
theorem dX4_rateOf_71 : decode cX4_rateOf 71 = .ok (.putfield 208, 3) := by decide +kernel
theorem dX4_rateOf_74 : decode cX4_rateOf 74 = .ok (.aload_n 0, 1) := by decide +kernel
theorem dX4_rateOf_75 : decode cX4_rateOf 75 = .ok (.getfield 35, 3) := by decide +kernel
theorem dX4_rateOf_78 : decode cX4_rateOf 78 = .ok (.aload_n 0, 1) := by decide +kernel
theorem dX4_rateOf_79 : decode cX4_rateOf 79 = .ok (.getfield 140, 3) := by decide +kernel
theorem dX4_rateOf_82 : decode cX4_rateOf 82 = .ok (.i2l, 1) := by decide +kernel
theorem dX4_rateOf_83 : decode cX4_rateOf 83 = .ok (.putfield 210, 3) := by decide +kernel
theorem dX4_rateOf_86 : decode cX4_rateOf 86 = .ok (.aload_n 0, 1) := by decide +kernel
theorem dX4_rateOf_87 : decode cX4_rateOf 87 = .ok (.getfield 35, 3) := by decide +kernel
theorem dX4_rateOf_90 : decode cX4_rateOf 90 = .ok (.aload_n 0, 1) := by decide +kernel
theorem dX4_rateOf_91 : decode cX4_rateOf 91 = .ok (.getfield 18, 3) := by decide +kernel
theorem dX4_rateOf_94 : decode cX4_rateOf 94 = .ok (.iload_n 3, 1) := by decide +kernel
theorem dX4_rateOf_95 : decode cX4_rateOf 95 = .ok (.iconst 0, 1) := by decide +kernel
theorem dX4_rateOf_96 : decode cX4_rateOf 96 = .ok (.iadd, 1) := by decide +kernel
theorem dX4_rateOf_97 : decode cX4_rateOf 97 = .ok (.iaload, 1) := by decide +kernel
theorem dX4_rateOf_98 : decode cX4_rateOf 98 = .ok (.i2l, 1) := by decide +kernel
theorem dX4_rateOf_99 : decode cX4_rateOf 99 = .ok (.putfield 212, 3) := by decide +kernel
theorem dX4_rateOf_102 : decode cX4_rateOf 102 = .ok (.aload_n 0, 1) := by decide +kernel
theorem dX4_rateOf_103 : decode cX4_rateOf 103 = .ok (.getfield 35, 3) := by decide +kernel
theorem dX4_rateOf_106 : decode cX4_rateOf 106 = .ok (.iload_n 2, 1) := by decide +kernel
theorem dX4_rateOf_107 : decode cX4_rateOf 107 = .ok (.aload_n 0, 1) := by decide +kernel
theorem dX4_rateOf_108 : decode cX4_rateOf 108 = .ok (.getfield 12, 3) := by decide +kernel
theorem dX4_rateOf_111 : decode cX4_rateOf 111 = .ok (.getfield 59, 3) := by decide +kernel
theorem dX4_rateOf_114 : decode cX4_rateOf 114 = .ok (.iload_n 1, 1) := by decide +kernel
theorem dX4_rateOf_115 : decode cX4_rateOf 115 = .ok (.iconst 2, 1) := by decide +kernel
theorem dX4_rateOf_116 : decode cX4_rateOf 116 = .ok (.invokevirtual 66, 3) := by decide +kernel
theorem dX4_rateOf_119 : decode cX4_rateOf 119 = .ok (.isub, 1) := by decide +kernel
theorem dX4_rateOf_120 : decode cX4_rateOf 120 = .ok (.i2l, 1) := by decide +kernel
theorem dX4_rateOf_121 : decode cX4_rateOf 121 = .ok (.putfield 215, 3) := by decide +kernel
theorem dX4_rateOf_124 : decode cX4_rateOf 124 = .ok (.aload_n 0, 1) := by decide +kernel
theorem dX4_rateOf_125 : decode cX4_rateOf 125 = .ok (.getfield 35, 3) := by decide +kernel
theorem dX4_rateOf_128 : decode cX4_rateOf 128 = .ok (.aload_n 0, 1) := by decide +kernel
theorem dX4_rateOf_129 : decode cX4_rateOf 129 = .ok (.getfield 22, 3) := by decide +kernel
theorem dX4_rateOf_132 : decode cX4_rateOf 132 = .ok (.iconst 0, 1) := by decide +kernel
theorem dX4_rateOf_133 : decode cX4_rateOf 133 = .ok (.iload_n 1, 1) := by decide +kernel
theorem dX4_rateOf_134 : decode cX4_rateOf 134 = .ok (.iadd, 1) := by decide +kernel
theorem dX4_rateOf_135 : decode cX4_rateOf 135 = .ok (.laload, 1) := by decide +kernel
theorem dX4_rateOf_136 : decode cX4_rateOf 136 = .ok (.putfield 218, 3) := by decide +kernel
theorem dX4_rateOf_139 : decode cX4_rateOf 139 = .ok (.aload_n 0, 1) := by decide +kernel
theorem dX4_rateOf_140 : decode cX4_rateOf 140 = .ok (.getfield 35, 3) := by decide +kernel
theorem dX4_rateOf_143 : decode cX4_rateOf 143 = .ok (.aload_n 0, 1) := by decide +kernel
theorem dX4_rateOf_144 : decode cX4_rateOf 144 = .ok (.getfield 142, 3) := by decide +kernel
theorem dX4_rateOf_147 : decode cX4_rateOf 147 = .ok (.i2l, 1) := by decide +kernel
theorem dX4_rateOf_148 : decode cX4_rateOf 148 = .ok (.putfield 221, 3) := by decide +kernel
theorem dX4_rateOf_151 : decode cX4_rateOf 151 = .ok (.aload 4, 2) := by decide +kernel
theorem dX4_rateOf_153 : decode cX4_rateOf 153 = .ok (.aload_n 0, 1) := by decide +kernel
theorem dX4_rateOf_154 : decode cX4_rateOf 154 = .ok (.getfield 35, 3) := by decide +kernel
theorem dX4_rateOf_157 : decode cX4_rateOf 157 = .ok (.aload_n 0, 1) := by decide +kernel
theorem dX4_rateOf_158 : decode cX4_rateOf 158 = .ok (.getfield 39, 3) := by decide +kernel
theorem dX4_rateOf_161 : decode cX4_rateOf 161 = .ok (.invokevirtual 223, 3) := by decide +kernel
theorem dX4_rateOf_164 : decode cX4_rateOf 164 = .ok (.lstore 5, 2) := by decide +kernel
theorem dX4_rateOf_166 : decode cX4_rateOf 166 = .ok (.lconst 0, 1) := by decide +kernel
theorem dX4_rateOf_167 : decode cX4_rateOf 167 = .ok (.ldc2_w 227, 3) := by decide +kernel
theorem dX4_rateOf_170 : decode cX4_rateOf 170 = .ok (.lload 5, 2) := by decide +kernel
theorem dX4_rateOf_172 : decode cX4_rateOf 172 = .ok (.invokestatic 177, 3) := by decide +kernel
theorem dX4_rateOf_175 : decode cX4_rateOf 175 = .ok (.invokestatic 229, 3) := by decide +kernel
theorem dX4_rateOf_178 : decode cX4_rateOf 178 = .ok (.l2i, 1) := by decide +kernel
theorem dX4_rateOf_179 : decode cX4_rateOf 179 = .ok (.ireturn, 1) := by decide +kernel
def kX4_rateOf (live : am_E) (Ret : am_R) : am_code := [(0, am_aload 0 1), (1, am_iload 1 2), (2, am_iload 2 3), (3, am_callV live 4 2 TX4_cellOf 6), (6, am_istore 3 7 7), (7, am_aload 0 8), (8, am_getR live 4 0 11), (11, am_getR live 0 7 14), (14, am_aload 0 15), (15, am_iload 1 16), (16, am_iload 2 17), (17, am_callV live 4 2 TX4_planIn 20), (20, am_aald live 3 21), (21, am_astore 4 7 23), (23, am_aload 4 25), (25, am_getI live 5 6 28), (28, am_const (.int (-1)) 29), (29, am_if2 (fun x y => x = y) 41 32), (32, am_aload 0 33), (33, am_getR live 4 1 36), (36, am_iload 3 37), (37, am_const (.int 2) 38), (38, am_i2 (fun x y => x + y) 39), (39, am_ald live 0 40), (40, am_retI Ret), (41, am_aload 0 42), (42, am_getR live 4 5 45), (45, am_aload 0 46), (46, am_getR live 4 1 49), (49, am_iload 3 50), (50, am_const (.int 2) 51), (51, am_i2 (fun x y => x + y) 52), (52, am_ald live 0 53), (53, am_i2l 54), (54, am_putJ live 1 0 57), (57, am_aload 0 58), (58, am_getR live 4 5 61), (61, am_aload 0 62), (62, am_getR live 4 0 65), (65, am_getR live 0 2 68), (68, am_iload 2 69), (69, am_ald live 0 70), (70, am_i2l 71), (71, am_putJ live 1 1 74), (74, am_aload 0 75), (75, am_getR live 4 5 78), (78, am_aload 0 79), (79, am_getI live 4 16 82), (82, am_i2l 83), (83, am_putJ live 1 2 86), (86, am_aload 0 87), (87, am_getR live 4 5 90), (90, am_aload 0 91), (91, am_getR live 4 1 94), (94, am_iload 3 95), (95, am_const (.int 0) 96), (96, am_i2 (fun x y => x + y) 97), (97, am_ald live 0 98), (98, am_i2l 99), (99, am_putJ live 1 3 102), (102, am_aload 0 103), (103, am_getR live 4 5 106), (106, am_iload 2 107), (107, am_aload 0 108), (108, am_getR live 4 0 111), (111, am_getR live 0 4 114), (114, am_iload 1 115), (115, am_const (.int 2) 116), (116, am_callV live 3 2 TX3_at 119), (119, am_i2 (fun x y => x - y) 120), (120, am_i2l 121), (121, am_putJ live 1 4 124), (124, am_aload 0 125), (125, am_getR live 4 5 128), (128, am_aload 0 129), (129, am_getR live 4 2 132), (132, am_const (.int 0) 133), (133, am_iload 1 134), (134, am_i2 (fun x y => x + y) 135), (135, am_lald live 1 136), (136, am_putJ live 1 5 139), (139, am_aload 0 140), (140, am_getR live 4 5 143), (143, am_aload 0 144), (144, am_getI live 4 17 147), (147, am_i2l 148), (148, am_putJ live 1 6 151), (151, am_aload 4 153), (153, am_aload 0 154), (154, am_getR live 4 5 157), (157, am_aload 0 158), (158, am_getR live 4 6 161), (161, am_callV live 5 2 TX5_worked 164), (164, am_lstore 5 7 166), (166, am_const (.long 0) 167), (167, am_const (.long 500) 170), (170, am_lload 5 172), (172, am_mathl (fun x y => if y < x then y else x) 50 175), (175, am_mathl (fun x y => if y < x then x else y) 50 178), (178, am_l2i 179), (179, am_retI Ret)]
theorem koX4_rateOf (live : am_E) (Ret : am_R) : ∀ q ∈ kX4_rateOf live Ret, am_ok RX4 cX4_rateOf 7 (some .int) 2 50 live Ret q.1 q.2 :=
  am_kc (ak_aload_n dX4_rateOf_0 rfl rfl) <|
  am_kc (ak_iload_n dX4_rateOf_1 rfl rfl) <|
  am_kc (ak_iload_n dX4_rateOf_2 rfl rfl) <|
  am_kc (ak_callV (C := RX4) (F := TX4) (N := 19) metX4_cellOf rfl ⟨rfl, by decide +kernel, by decide +kernel, by decide +kernel⟩ (am_w5 wd_580 wd_582 wd_4 wd_60 wd_583) (by decide) dX4_rateOf_3 rfl) <|
  am_kc (ak_istore_n dX4_rateOf_6 rfl rfl) <|
  am_kc (ak_aload_n dX4_rateOf_7 rfl rfl) <|
  am_kc (ak_getR (C := RX4) (T := TX4) (N := 19) rfl inX4w (by decide) rfl rfl rfl wd_291 dX4_rateOf_8 rfl) <|
  am_kc (ak_getR (C := RX0) (T := TX0) (N := 13) rfl inX0w (by decide) rfl rfl rfl wd_214 dX4_rateOf_11 rfl) <|
  am_kc (ak_aload_n dX4_rateOf_14 rfl rfl) <|
  am_kc (ak_iload_n dX4_rateOf_15 rfl rfl) <|
  am_kc (ak_iload_n dX4_rateOf_16 rfl rfl) <|
  am_kc (ak_callV (C := RX4) (F := TX4) (N := 19) metX4_planIn rfl ⟨rfl, by decide +kernel, by decide +kernel, by decide +kernel⟩ (am_w5 wd_584 wd_586 wd_5 wd_60 wd_587) (by decide) dX4_rateOf_17 rfl) <|
  am_kc (ak_aald (t := 3) (fun _ => rfl) rfl dX4_rateOf_20 rfl) <|
  am_kc (ak_astore dX4_rateOf_21 rfl) <|
  am_kc (ak_aload dX4_rateOf_23 rfl) <|
  am_kc (ak_getI (C := RX5) (T := TX5) (N := 7) rfl inX5w (by decide) rfl rfl rfl wd_176 dX4_rateOf_25 rfl) <|
  am_kc (ak_iconst dX4_rateOf_28 (by decide +kernel) rfl) <|
  am_kc (ak_icmp_eq dX4_rateOf_29 (by decide +kernel) rfl) <|
  am_kc (ak_aload_n dX4_rateOf_32 rfl rfl) <|
  am_kc (ak_getR (C := RX4) (T := TX4) (N := 19) rfl inX4w (by decide) rfl rfl rfl wd_294 dX4_rateOf_33 rfl) <|
  am_kc (ak_iload_n dX4_rateOf_36 rfl rfl) <|
  am_kc (ak_iconst dX4_rateOf_37 (by decide +kernel) rfl) <|
  am_kc (ak_iadd dX4_rateOf_38 rfl) <|
  am_kc (ak_iald (t := 0) (fun _ => rfl) rfl dX4_rateOf_39 rfl) <|
  am_kc (ak_retI dX4_rateOf_40) <|
  am_kc (ak_aload_n dX4_rateOf_41 rfl rfl) <|
  am_kc (ak_getR (C := RX4) (T := TX4) (N := 19) rfl inX4w (by decide) rfl rfl rfl wd_301 dX4_rateOf_42 rfl) <|
  am_kc (ak_aload_n dX4_rateOf_45 rfl rfl) <|
  am_kc (ak_getR (C := RX4) (T := TX4) (N := 19) rfl inX4w (by decide) rfl rfl rfl wd_294 dX4_rateOf_46 rfl) <|
  am_kc (ak_iload_n dX4_rateOf_49 rfl rfl) <|
  am_kc (ak_iconst dX4_rateOf_50 (by decide +kernel) rfl) <|
  am_kc (ak_iadd dX4_rateOf_51 rfl) <|
  am_kc (ak_iald (t := 0) (fun _ => rfl) rfl dX4_rateOf_52 rfl) <|
  am_kc (ak_i2l dX4_rateOf_53 rfl) <|
  am_kc (ak_putJ (C := RX1) (T := TX1) (N := 7) rfl inX1w tyX1_ok nmX1 (by decide) rfl rfl rfl rfl (by decide +kernel) wd_262 dX4_rateOf_54 rfl) <|
  am_kc (ak_aload_n dX4_rateOf_57 rfl rfl) <|
  am_kc (ak_getR (C := RX4) (T := TX4) (N := 19) rfl inX4w (by decide) rfl rfl rfl wd_301 dX4_rateOf_58 rfl) <|
  am_kc (ak_aload_n dX4_rateOf_61 rfl rfl) <|
  am_kc (ak_getR (C := RX4) (T := TX4) (N := 19) rfl inX4w (by decide) rfl rfl rfl wd_291 dX4_rateOf_62 rfl) <|
  am_kc (ak_getR (C := RX0) (T := TX0) (N := 13) rfl inX0w (by decide) rfl rfl rfl wd_201 dX4_rateOf_65 rfl) <|
  am_kc (ak_iload_n dX4_rateOf_68 rfl rfl) <|
  am_kc (ak_iald (t := 0) (fun _ => rfl) rfl dX4_rateOf_69 rfl) <|
  am_kc (ak_i2l dX4_rateOf_70 rfl) <|
  am_kc (ak_putJ (C := RX1) (T := TX1) (N := 7) rfl inX1w tyX1_ok nmX1 (by decide) rfl rfl rfl rfl (by decide +kernel) wd_264 dX4_rateOf_71 rfl) <|
  am_kc (ak_aload_n dX4_rateOf_74 rfl rfl) <|
  am_kc (ak_getR (C := RX4) (T := TX4) (N := 19) rfl inX4w (by decide) rfl rfl rfl wd_301 dX4_rateOf_75 rfl) <|
  am_kc (ak_aload_n dX4_rateOf_78 rfl rfl) <|
  am_kc (ak_getI (C := RX4) (T := TX4) (N := 19) rfl inX4w (by decide) rfl rfl rfl wd_313 dX4_rateOf_79 rfl) <|
  am_kc (ak_i2l dX4_rateOf_82 rfl) <|
  am_kc (ak_putJ (C := RX1) (T := TX1) (N := 7) rfl inX1w tyX1_ok nmX1 (by decide) rfl rfl rfl rfl (by decide +kernel) wd_266 dX4_rateOf_83 rfl) <|
  am_kc (ak_aload_n dX4_rateOf_86 rfl rfl) <|
  am_kc (ak_getR (C := RX4) (T := TX4) (N := 19) rfl inX4w (by decide) rfl rfl rfl wd_301 dX4_rateOf_87 rfl) <|
  am_kc (ak_aload_n dX4_rateOf_90 rfl rfl) <|
  am_kc (ak_getR (C := RX4) (T := TX4) (N := 19) rfl inX4w (by decide) rfl rfl rfl wd_294 dX4_rateOf_91 rfl) <|
  am_kc (ak_iload_n dX4_rateOf_94 rfl rfl) <|
  am_kc (ak_iconst dX4_rateOf_95 (by decide +kernel) rfl) <|
  am_kc (ak_iadd dX4_rateOf_96 rfl) <|
  am_kc (ak_iald (t := 0) (fun _ => rfl) rfl dX4_rateOf_97 rfl) <|
  am_kc (ak_i2l dX4_rateOf_98 rfl) <|
  am_kc (ak_putJ (C := RX1) (T := TX1) (N := 7) rfl inX1w tyX1_ok nmX1 (by decide) rfl rfl rfl rfl (by decide +kernel) wd_268 dX4_rateOf_99 rfl) <|
  am_kc (ak_aload_n dX4_rateOf_102 rfl rfl) <|
  am_kc (ak_getR (C := RX4) (T := TX4) (N := 19) rfl inX4w (by decide) rfl rfl rfl wd_301 dX4_rateOf_103 rfl) <|
  am_kc (ak_iload_n dX4_rateOf_106 rfl rfl) <|
  am_kc (ak_aload_n dX4_rateOf_107 rfl rfl) <|
  am_kc (ak_getR (C := RX4) (T := TX4) (N := 19) rfl inX4w (by decide) rfl rfl rfl wd_291 dX4_rateOf_108 rfl) <|
  am_kc (ak_getR (C := RX0) (T := TX0) (N := 13) rfl inX0w (by decide) rfl rfl rfl wd_206 dX4_rateOf_111 rfl) <|
  am_kc (ak_iload_n dX4_rateOf_114 rfl rfl) <|
  am_kc (ak_iconst dX4_rateOf_115 (by decide +kernel) rfl) <|
  am_kc (ak_callV (C := RX3) (F := TX3) (N := 3) metX3_at rfl ⟨rfl, by decide +kernel, by decide +kernel, by decide +kernel⟩ (am_w5 wd_502 wd_503 wd_504 wd_64 wd_505) (by decide) dX4_rateOf_116 rfl) <|
  am_kc (ak_isub dX4_rateOf_119 rfl) <|
  am_kc (ak_i2l dX4_rateOf_120 rfl) <|
  am_kc (ak_putJ (C := RX1) (T := TX1) (N := 7) rfl inX1w tyX1_ok nmX1 (by decide) rfl rfl rfl rfl (by decide +kernel) wd_270 dX4_rateOf_121 rfl) <|
  am_kc (ak_aload_n dX4_rateOf_124 rfl rfl) <|
  am_kc (ak_getR (C := RX4) (T := TX4) (N := 19) rfl inX4w (by decide) rfl rfl rfl wd_301 dX4_rateOf_125 rfl) <|
  am_kc (ak_aload_n dX4_rateOf_128 rfl rfl) <|
  am_kc (ak_getR (C := RX4) (T := TX4) (N := 19) rfl inX4w (by decide) rfl rfl rfl wd_296 dX4_rateOf_129 rfl) <|
  am_kc (ak_iconst dX4_rateOf_132 (by decide +kernel) rfl) <|
  am_kc (ak_iload_n dX4_rateOf_133 rfl rfl) <|
  am_kc (ak_iadd dX4_rateOf_134 rfl) <|
  am_kc (ak_lald (t := 1) (fun _ => rfl) rfl dX4_rateOf_135 rfl) <|
  am_kc (ak_putJ (C := RX1) (T := TX1) (N := 7) rfl inX1w tyX1_ok nmX1 (by decide) rfl rfl rfl rfl (by decide +kernel) wd_272 dX4_rateOf_136 rfl) <|
  am_kc (ak_aload_n dX4_rateOf_139 rfl rfl) <|
  am_kc (ak_getR (C := RX4) (T := TX4) (N := 19) rfl inX4w (by decide) rfl rfl rfl wd_301 dX4_rateOf_140 rfl) <|
  am_kc (ak_aload_n dX4_rateOf_143 rfl rfl) <|
  am_kc (ak_getI (C := RX4) (T := TX4) (N := 19) rfl inX4w (by decide) rfl rfl rfl wd_314 dX4_rateOf_144 rfl) <|
  am_kc (ak_i2l dX4_rateOf_147 rfl) <|
  am_kc (ak_putJ (C := RX1) (T := TX1) (N := 7) rfl inX1w tyX1_ok nmX1 (by decide) rfl rfl rfl rfl (by decide +kernel) wd_274 dX4_rateOf_148 rfl) <|
  am_kc (ak_aload dX4_rateOf_151 rfl) <|
  am_kc (ak_aload_n dX4_rateOf_153 rfl rfl) <|
  am_kc (ak_getR (C := RX4) (T := TX4) (N := 19) rfl inX4w (by decide) rfl rfl rfl wd_301 dX4_rateOf_154 rfl) <|
  am_kc (ak_aload_n dX4_rateOf_157 rfl rfl) <|
  am_kc (ak_getR (C := RX4) (T := TX4) (N := 19) rfl inX4w (by decide) rfl rfl rfl wd_302 dX4_rateOf_158 rfl) <|
  am_kc (ak_callV (C := RX5) (F := TX5) (N := 7) metX5_worked rfl ⟨rfl, by decide +kernel, by decide +kernel, by decide +kernel⟩ (am_w5 wd_592 wd_593 wd_594 wd_65 wd_595) (by decide) dX4_rateOf_161 rfl) <|
  am_kc (ak_lstore dX4_rateOf_164 rfl) <|
  am_kc (ak_lconst dX4_rateOf_166 (by decide +kernel) rfl) <|
  am_kc (ak_ldc2 wd_606 dX4_rateOf_167 rfl) <|
  am_kc (ak_lload dX4_rateOf_170 rfl) <|
  am_kc (ak_lmin (am_w4 wd_607 wd_608 wd_68 wd_609) (by decide) dX4_rateOf_172 rfl) <|
  am_kc (ak_lmax (am_w4 wd_610 wd_611 wd_68 wd_612) (by decide) dX4_rateOf_175 rfl) <|
  am_kc (ak_l2i dX4_rateOf_178 rfl) <|
  am_kc (ak_retI dX4_rateOf_179) <| am_kn
def TX4_rateOf : am_T := fun live as M R => match as with
  | [.ref n, .int l, .int y] => am_mn live ∧ n = 4 ∧ am_in l 30 ∧ am_in y 40 ∧ g_rI M ∧ ∀ v M', g_sc M M' → g_rI M' → R (some (.int v)) M'
  | _ => False
set_option maxRecDepth 100000 in
set_option maxHeartbeats 4000000 in
theorem metX4_rateOf : am_Met yX4_rateOf cX4_rateOf 7 (some .int) (2) (50) TX4_rateOf := by
  refine am_met (own := RX4) (by decide +kernel) rfl kX4_rateOf koX4_rateOf 150 (fun _ _ _ _ _ => none) (fun live as M Ret h => ?_) (fun _ _ _ _ _ _ _ _ hI => by cases hI)
  unfold TX4_rateOf at h
  split at h
  · next n l y =>
    refine ⟨Nat.le_of_ble_eq_true rfl, ?_⟩
    change am_wp _ _ _ _ [(0, Value.ref n), (1, Value.int l), (2, Value.int y)] _ _
    obtain ⟨hmn, rfl, hl, hy, hr, h⟩ := h
    have hp := hr.pln hl hy
    obtain ⟨t, s, c, h2, k1, k2, k3, h1, ht, -, -, -, k4⟩ := g_txt hmn hp
    have hmn2 := hmn
    obtain ⟨i1, i2, rfl⟩ := hmn2
    have e0 := am_celly hy hp (k := 0) ⟨by decide, by decide⟩
    have e2 := am_celly hy hp (k := 2) ⟨by decide, by decide⟩
    have f0 := g_ix hl 0 0 rfl (by decide)
    have l5 : am_len 5 = 1200 := rfl
    have l6 : am_len 6 = 180 := rfl
    have l30 : am_len 30 = 40 := rfl
    have l38 : am_len 38 = 5 := rfl
    have k0 : Int32.toInt 0 = 0 := rfl
    have k22 : Int32.toInt 2 = 2 := rfl
    have hy1 := hy.1
    have hy2 := hy.2
    have hp1 := hp.1
    have hp2 := hp.2
    repeat' (first | (with_reducible exact hmn) | (with_reducible exact hl) | (with_reducible exact hy) | (with_reducible exact h1) | (with_reducible exact h2) | (refine Exists.intro _ (And.intro h2 ?_)) | apply And.intro | exact rfl | intro hx | (refine Exists.intro _ (And.intro rfl ?_)) | (refine am_tP_in k1 k2 k3 ?_) | ((with_reducible change _ = true); simp only [h1, h2, Bool.true_and]; rfl))
    all_goals try first | (with_reducible change am_tI _ _) | (change Ret _ _) | (change Ret _ _ _) | (change Exists _)
    all_goals try dsimp only at *
    all_goals try exact absurd ‹(1000 : Int64) = 0› (by decide)
    all_goals first
      | omega
      | (rw [l5]; omega)
      | (rw [l38]; omega)
      | (rw [l30]; omega)
      | exact f0.1
      | (rw [l6]; exact f0.2.1)
      | exact k4 _ hr.t
      | exact h _ _ g_sc.rf hr
      | skip
    exact h _ _ ((((((((g_sc.rf.wJ rfl).wJ rfl).wJ rfl).wJ rfl).wJ rfl).wJ rfl).wJ rfl).st (by with_reducible assumption)) (g_rI.st (((((((hr.wJ).wJ).wJ).wJ).wJ).wJ).wJ) (by with_reducible assumption))
  · exact h.elim
theorem dX4_lineUp_0 : decode cX4_lineUp 0 = .ok (.iconst 0, 1) := by decide +kernel
theorem dX4_lineUp_1 : decode cX4_lineUp 1 = .ok (.istore_n 2, 1) := by decide +kernel
theorem dX4_lineUp_2 : decode cX4_lineUp 2 = .ok (.iconst 0, 1) := by decide +kernel
theorem dX4_lineUp_3 : decode cX4_lineUp 3 = .ok (.istore_n 3, 1) := by decide +kernel
theorem dX4_lineUp_4 : decode cX4_lineUp 4 = .ok (.iload_n 3, 1) := by decide +kernel
theorem dX4_lineUp_5 : decode cX4_lineUp 5 = .ok (.getstatic 232, 3) := by decide +kernel
theorem dX4_lineUp_8 : decode cX4_lineUp 8 = .ok (.iconst 4, 1) := by decide +kernel
theorem dX4_lineUp_9 : decode cX4_lineUp 9 = .ok (.iaload, 1) := by decide +kernel
theorem dX4_lineUp_10 : decode cX4_lineUp 10 = .ok (.if_icmp .gt 72, 3) := by decide +kernel
theorem dX4_lineUp_13 : decode cX4_lineUp 13 = .ok (.iconst 0, 1) := by decide +kernel
theorem dX4_lineUp_14 : decode cX4_lineUp 14 = .ok (.istore 4, 2) := by decide +kernel
theorem dX4_lineUp_16 : decode cX4_lineUp 16 = .ok (.iload 4, 2) := by decide +kernel
theorem dX4_lineUp_18 : decode cX4_lineUp 18 = .ok (.aload_n 0, 1) := by decide +kernel
theorem dX4_lineUp_19 : decode cX4_lineUp 19 = .ok (.getfield 56, 3) := by decide +kernel
theorem dX4_lineUp_22 : decode cX4_lineUp 22 = .ok (.if_icmp .ge 54, 3) := by decide +kernel
theorem dX4_lineUp_25 : decode cX4_lineUp 25 = .ok (.iload_n 2, 1) := by decide +kernel
theorem dX4_lineUp_26 : decode cX4_lineUp 26 = .ok (.bipush 30, 2) := by decide +kernel
theorem dX4_lineUp_28 : decode cX4_lineUp 28 = .ok (.if_icmp .ge 48, 3) := by decide +kernel
theorem dX4_lineUp_31 : decode cX4_lineUp 31 = .ok (.aload_n 0, 1) := by decide +kernel
theorem dX4_lineUp_32 : decode cX4_lineUp 32 = .ok (.getfield 18, 3) := by decide +kernel
theorem dX4_lineUp_35 : decode cX4_lineUp 35 = .ok (.aload_n 0, 1) := by decide +kernel
theorem dX4_lineUp_36 : decode cX4_lineUp 36 = .ok (.aload_n 0, 1) := by decide +kernel
theorem dX4_lineUp_37 : decode cX4_lineUp 37 = .ok (.getfield 26, 3) := by decide +kernel
theorem dX4_lineUp_40 : decode cX4_lineUp 40 = .ok (.iload 4, 2) := by decide +kernel
theorem dX4_lineUp_42 : decode cX4_lineUp 42 = .ok (.iaload, 1) := by decide +kernel
theorem dX4_lineUp_43 : decode cX4_lineUp 43 = .ok (.iload_n 1, 1) := by decide +kernel
theorem dX4_lineUp_44 : decode cX4_lineUp 44 = .ok (.invokevirtual 170, 3) := by decide +kernel
theorem dX4_lineUp_47 : decode cX4_lineUp 47 = .ok (.iconst 4, 1) := by decide +kernel
theorem dX4_lineUp_48 : decode cX4_lineUp 48 = .ok (.iadd, 1) := by decide +kernel
theorem dX4_lineUp_49 : decode cX4_lineUp 49 = .ok (.iaload, 1) := by decide +kernel
theorem dX4_lineUp_50 : decode cX4_lineUp 50 = .ok (.iload_n 3, 1) := by decide +kernel
theorem dX4_lineUp_51 : decode cX4_lineUp 51 = .ok (.if_icmp .ne 19, 3) := by decide +kernel
theorem dX4_lineUp_54 : decode cX4_lineUp 54 = .ok (.aload_n 0, 1) := by decide +kernel
theorem dX4_lineUp_55 : decode cX4_lineUp 55 = .ok (.getfield 29, 3) := by decide +kernel
theorem dX4_lineUp_58 : decode cX4_lineUp 58 = .ok (.iload_n 2, 1) := by decide +kernel
theorem dX4_lineUp_59 : decode cX4_lineUp 59 = .ok (.aload_n 0, 1) := by decide +kernel
theorem dX4_lineUp_60 : decode cX4_lineUp 60 = .ok (.getfield 26, 3) := by decide +kernel
theorem dX4_lineUp_63 : decode cX4_lineUp 63 = .ok (.iload 4, 2) := by decide +kernel
theorem dX4_lineUp_65 : decode cX4_lineUp 65 = .ok (.iaload, 1) := by decide +kernel
theorem dX4_lineUp_66 : decode cX4_lineUp 66 = .ok (.iastore, 1) := by decide +kernel
theorem dX4_lineUp_67 : decode cX4_lineUp 67 = .ok (.iinc 2 1, 3) := by decide +kernel
theorem dX4_lineUp_70 : decode cX4_lineUp 70 = .ok (.iinc 4 1, 3) := by decide +kernel
theorem dX4_lineUp_73 : decode cX4_lineUp 73 = .ok (.goto (-57), 3) := by decide +kernel
theorem dX4_lineUp_76 : decode cX4_lineUp 76 = .ok (.iinc 3 1, 3) := by decide +kernel
theorem dX4_lineUp_79 : decode cX4_lineUp 79 = .ok (.goto (-75), 3) := by decide +kernel
theorem dX4_lineUp_82 : decode cX4_lineUp 82 = .ok (.return_, 1) := by decide +kernel
def kX4_lineUp (live : am_E) (Ret : am_R) : am_code := [(0, am_const (.int 0) 1), (1, am_istore 2 5 2), (2, am_const (.int 0) 3), (3, am_istore 3 5 4), (4, am_iload 3 5), (5, am_const (.ref 1002) 8), (8, am_const (.int 4) 9), (9, am_sld 2 10), (10, am_if2 (fun x y => y < x) 82 13), (13, am_const (.int 0) 14), (14, am_istore 4 5 16), (16, am_iload 4 18), (18, am_aload 0 19), (19, am_getI live 4 7 22), (22, am_if2 (fun x y => y ≤ x) 76 25), (25, am_iload 2 26), (26, am_const (.int 30) 28), (28, am_if2 (fun x y => y ≤ x) 76 31), (31, am_aload 0 32), (32, am_getR live 4 1 35), (35, am_aload 0 36), (36, am_aload 0 37), (37, am_getR live 4 3 40), (40, am_iload 4 42), (42, am_ald live 0 43), (43, am_iload 1 44), (44, am_callV live 4 2 TX4_cellOf 47), (47, am_const (.int 4) 48), (48, am_i2 (fun x y => x + y) 49), (49, am_ald live 0 50), (50, am_iload 3 51), (51, am_if2 (fun x y => x = y) 54 70), (54, am_aload 0 55), (55, am_getR live 4 4 58), (58, am_iload 2 59), (59, am_aload 0 60), (60, am_getR live 4 3 63), (63, am_iload 4 65), (65, am_ald live 0 66), (66, am_ast live 0 67), (67, am_iinc 2 5 1 70), (70, am_iinc 4 5 1 73), (73, am_goto 16), (76, am_iinc 3 5 1 79), (79, am_goto 4), (82, am_retV Ret)]
theorem koX4_lineUp (live : am_E) (Ret : am_R) : ∀ q ∈ kX4_lineUp live Ret, am_ok RX4 cX4_lineUp 5 none 2 44 live Ret q.1 q.2 :=
  am_kc (ak_iconst dX4_lineUp_0 (by decide +kernel) rfl) <|
  am_kc (ak_istore_n dX4_lineUp_1 rfl rfl) <|
  am_kc (ak_iconst dX4_lineUp_2 (by decide +kernel) rfl) <|
  am_kc (ak_istore_n dX4_lineUp_3 rfl rfl) <|
  am_kc (ak_iload_n dX4_lineUp_4 rfl rfl) <|
  am_kc (ak_getsN (k := 2) (C := "LearnLoans") (n := "MOST") (d := "[I") (host := "LearnLoans") (by decide) rfl (by decide +kernel) dX4_lineUp_5 rfl) <|
  am_kc (ak_iconst dX4_lineUp_8 (by decide +kernel) rfl) <|
  am_kc (ak_sld (by decide) dX4_lineUp_9 rfl) <|
  am_kc (ak_icmp_gt dX4_lineUp_10 (by decide +kernel) rfl) <|
  am_kc (ak_iconst dX4_lineUp_13 (by decide +kernel) rfl) <|
  am_kc (ak_istore dX4_lineUp_14 rfl) <|
  am_kc (ak_iload dX4_lineUp_16 rfl) <|
  am_kc (ak_aload_n dX4_lineUp_18 rfl rfl) <|
  am_kc (ak_getI (C := RX4) (T := TX4) (N := 19) rfl inX4w (by decide) rfl rfl rfl wd_303 dX4_lineUp_19 rfl) <|
  am_kc (ak_icmp_ge dX4_lineUp_22 (by decide +kernel) rfl) <|
  am_kc (ak_iload_n dX4_lineUp_25 rfl rfl) <|
  am_kc (ak_bipush dX4_lineUp_26 (by decide +kernel) rfl) <|
  am_kc (ak_icmp_ge dX4_lineUp_28 (by decide +kernel) rfl) <|
  am_kc (ak_aload_n dX4_lineUp_31 rfl rfl) <|
  am_kc (ak_getR (C := RX4) (T := TX4) (N := 19) rfl inX4w (by decide) rfl rfl rfl wd_294 dX4_lineUp_32 rfl) <|
  am_kc (ak_aload_n dX4_lineUp_35 rfl rfl) <|
  am_kc (ak_aload_n dX4_lineUp_36 rfl rfl) <|
  am_kc (ak_getR (C := RX4) (T := TX4) (N := 19) rfl inX4w (by decide) rfl rfl rfl wd_299 dX4_lineUp_37 rfl) <|
  am_kc (ak_iload dX4_lineUp_40 rfl) <|
  am_kc (ak_iald (t := 0) (fun _ => rfl) rfl dX4_lineUp_42 rfl) <|
  am_kc (ak_iload_n dX4_lineUp_43 rfl rfl) <|
  am_kc (ak_callV (C := RX4) (F := TX4) (N := 19) metX4_cellOf rfl ⟨rfl, by decide +kernel, by decide +kernel, by decide +kernel⟩ (am_w5 wd_580 wd_582 wd_4 wd_60 wd_583) (by decide) dX4_lineUp_44 rfl) <|
  am_kc (ak_iconst dX4_lineUp_47 (by decide +kernel) rfl) <|
  am_kc (ak_iadd dX4_lineUp_48 rfl) <|
  am_kc (ak_iald (t := 0) (fun _ => rfl) rfl dX4_lineUp_49 rfl) <|
  am_kc (ak_iload_n dX4_lineUp_50 rfl rfl) <|
  am_kc (ak_icmp_ne dX4_lineUp_51 (by decide +kernel) rfl) <|
  am_kc (ak_aload_n dX4_lineUp_54 rfl rfl) <|
  am_kc (ak_getR (C := RX4) (T := TX4) (N := 19) rfl inX4w (by decide) rfl rfl rfl wd_300 dX4_lineUp_55 rfl) <|
  am_kc (ak_iload_n dX4_lineUp_58 rfl rfl) <|
  am_kc (ak_aload_n dX4_lineUp_59 rfl rfl) <|
  am_kc (ak_getR (C := RX4) (T := TX4) (N := 19) rfl inX4w (by decide) rfl rfl rfl wd_299 dX4_lineUp_60 rfl) <|
  am_kc (ak_iload dX4_lineUp_63 rfl) <|
  am_kc (ak_iald (t := 0) (fun _ => rfl) rfl dX4_lineUp_65 rfl) <|
  am_kc (ak_iast (t := 0) (fun _ => rfl) rfl dX4_lineUp_66 rfl) <|
  am_kc (ak_iinc dX4_lineUp_67 (by decide +kernel) rfl) <|
  am_kc (ak_iinc dX4_lineUp_70 (by decide +kernel) rfl) <|
  am_kc (ak_goto dX4_lineUp_73 (by decide +kernel)) <|
  am_kc (ak_iinc dX4_lineUp_76 (by decide +kernel) rfl) <|
  am_kc (ak_goto dX4_lineUp_79 (by decide +kernel)) <|
  am_kc (ak_retV dX4_lineUp_82) <| am_kn
def TX4_lineUp : am_T := fun live as M R => match as with
  | [.ref n, .int y] => am_mn live ∧ n = 4 ∧ am_in y 40 ∧ g_rI M ∧ ∀ M', g_sc M M' → g_rI M' → R none M'
  | _ => False
def JX4_lineUp : am_E → List Value → am_M → am_R → am_inv := fun live as M0 _ pc => match as with
  | [.ref n, .int y] => (match pc with
    | 4 => some ([0, 1, 2, 3], fun k L st M => ∃ d o : Int32, L = [(0, .ref 4), (1, .int y), (2, .int d), (3, .int o)] ∧ st = [] ∧ k = ((11 - o.toInt).toNat, 31) ∧ 0 ≤ o.toInt ∧ (0 ≤ d.toInt ∧ d.toInt ≤ 30) ∧ g_sc M0 M ∧ g_rI M)
    | 16 => some ([0, 1, 2, 3, 4], fun k L st M => ∃ d o i : Int32, L = [(0, .ref 4), (1, .int y), (2, .int d), (3, .int o), (4, .int i)] ∧ st = [] ∧ k = ((11 - o.toInt).toNat, (30 - i.toInt).toNat) ∧ (0 ≤ o.toInt ∧ o.toInt ≤ 9) ∧ (0 ≤ d.toInt ∧ d.toInt ≤ 30) ∧ 0 ≤ i.toInt ∧ g_sc M0 M ∧ g_rI M)
    | _ => none)
  | _ => none
set_option maxRecDepth 100000 in
set_option maxHeartbeats 4000000 in
theorem metX4_lineUp : am_Met yX4_lineUp cX4_lineUp 5 none (2) (44) TX4_lineUp := by
  refine am_met (own := RX4) (by decide +kernel) rfl kX4_lineUp koX4_lineUp 100 JX4_lineUp ?_ ?_
  · intro live as M Ret h
    unfold TX4_lineUp at h
    split at h
    · next n y =>
      refine ⟨Nat.le_of_ble_eq_true rfl, ?_⟩
      change am_wp _ _ _ _ [(0, Value.ref n), (1, Value.int y)] _ _
      obtain ⟨hmn, rfl, hy, hr, h⟩ := h
      repeat' (first | apply And.intro | exact rfl | intro hx | (refine Exists.intro _ (And.intro rfl ?_)))
      all_goals try first | (with_reducible change am_tI _ _) | (change Ret _ _) | (change Ret _ _ _) | (change Exists _)
      all_goals try dsimp only at *
      all_goals try exact absurd ‹(1000 : Int64) = 0› (by decide)
      exact ⟨_, _, _, rfl, rfl, rfl, by decide, ⟨by decide, by decide⟩, g_sc.rf, hr⟩
    · exact h.elim
  · intro live as M0 Ret h k pc I hI L st M hi
    unfold TX4_lineUp at h
    split at h
    · next n y =>
      obtain ⟨hmn, rfl, hy, hr, h⟩ := h
      have hmn2 := hmn
      obtain ⟨i1, i2, rfl⟩ := hmn2
      change (match pc with | 4 => _ | 16 => _ | _ => none) = _ at hI
      split at hI
      · cases hI
        obtain ⟨d, o, rfl, rfl, rfl, e0, e1, e2, e3⟩ := hi
        have s24 : am_sf 2 (4 : Int32).toNatClampNeg = 9 := rfl
        by_cases hz : am_sf 2 (4 : Int32).toNatClampNeg < o
        · skip
          repeat' (first | apply And.intro | exact rfl | (intro hx; with_reducible exact absurd hz hx) | (intro hx; exact absurd hx (by decide)) | (intro hx; exact absurd (by decide) hx) | decide | intro hx | (refine Exists.intro _ (And.intro rfl ?_)))
          all_goals try first | (with_reducible change am_tI _ _) | (change Ret _ _) | (change Ret _ _ _) | (change Exists _)
          all_goals try dsimp only at *
          all_goals try exact absurd ‹(1000 : Int64) = 0› (by decide)
          all_goals exact h _ e2 e3
        · have hz2 := hz
          rw [s24] at hz2
          simp only [i_lt, Int32.reduceToInt] at hz2
          repeat' (first | apply And.intro | exact rfl | (intro hx; with_reducible exact absurd hx hz) | (intro hx; exact absurd hx (by decide)) | (intro hx; exact absurd (by decide) hx) | decide | intro hx | (refine Exists.intro _ (And.intro rfl ?_)))
          all_goals try first | (with_reducible change am_tI _ _) | (change Ret _ _) | (change Ret _ _ _) | (change Exists _)
          all_goals try dsimp only at *
          all_goals try exact absurd ‹(1000 : Int64) = 0› (by decide)
          all_goals exact ⟨_, am_lt_r (by simp only [Int32.reduceToInt]; omega), _, _, _, rfl, rfl, rfl, ⟨e0, by omega⟩, e1, by decide, e2, e3⟩
      · cases hI
        obtain ⟨d, o, i, rfl, rfl, rfl, ⟨e0, e4⟩, ⟨e5, e6⟩, e1, e2, e3⟩ := hi
        have ho := i_inc (x := o) (by omega) (by omega)
        by_cases hz : M.1 4 7 ≤ i
        · skip
          repeat' (first | apply And.intro | exact rfl | (intro hx; with_reducible exact absurd hz hx) | intro hx | (refine Exists.intro _ (And.intro rfl ?_)))
          all_goals try first | (with_reducible change am_tI _ _) | (change Ret _ _) | (change Ret _ _ _) | (change Exists _)
          all_goals try dsimp only at *
          all_goals try exact absurd ‹(1000 : Int64) = 0› (by decide)
          exact ⟨_, am_lt_l (by omega), _, _, rfl, rfl, rfl, by omega, ⟨e5, e6⟩, e2, e3⟩
        · have q := e3.s.sz
          have hz2 := hz
          simp only [i_le] at hz2
          have ha : am_in i 30 := ⟨e1, by omega⟩
          have hb := e3.s.mi (g_cl ha)
          have hp := e3.pln hb hy
          have c4 := am_celly hy hp (k := 4) ⟨by decide, by decide⟩
          have hi := i_inc (x := i) (by omega) (by omega)
          have l5 : am_len 5 = 1200 := rfl
          have l7 : am_len 7 = 30 := rfl
          have l8 : am_len 8 = 30 := rfl
          have k4 : Int32.toInt 4 = 4 := rfl
          have hy1 := hy.1
          have hy2 := hy.2
          have hp1 := hp.1
          have hp2 := hp.2
          by_cases hd : (30 : Int32) ≤ d
          · skip
            repeat' (first | apply And.intro | exact rfl | (intro hx; with_reducible exact absurd hx hz) | (intro hx; with_reducible exact absurd hd hx) | intro hx | (refine Exists.intro _ (And.intro rfl ?_)))
            all_goals try first | (with_reducible change am_tI _ _) | (change Ret _ _) | (change Ret _ _ _) | (change Exists _)
            all_goals try dsimp only at *
            all_goals try exact absurd ‹(1000 : Int64) = 0› (by decide)
            exact ⟨_, am_lt_l (by omega), _, _, rfl, rfl, rfl, by omega, ⟨e5, e6⟩, e2, e3⟩
          · have hd2 := hd
            simp only [i_le, Int32.reduceToInt] at hd2
            have hdi := i_inc (x := d) (by omega) (by omega)
            repeat' (first | (with_reducible exact hmn) | (with_reducible exact hb) | (with_reducible exact hy) | apply And.intro | exact rfl | (intro hx; with_reducible exact absurd hx hz) | (intro hx; with_reducible exact absurd hx hd) | intro hx | (refine Exists.intro _ (And.intro rfl ?_)))
            all_goals try first | (with_reducible change am_tI _ _) | (change Ret _ _) | (change Ret _ _ _) | (change Exists _)
            all_goals try dsimp only at *
            all_goals try exact absurd ‹(1000 : Int64) = 0› (by decide)
            all_goals first
              | omega
              | (rw [l7]; exact ha.2)
              | (rw [l5]; omega)
              | (rw [l8]; omega)
              | exact ⟨_, am_lt_r (by omega), _, _, _, rfl, rfl, rfl, ⟨e0, e4⟩, ⟨by omega, by omega⟩, by omega, e2.wI rfl, e3.w8 hb⟩
              | exact ⟨_, am_lt_r (by omega), _, _, _, rfl, rfl, rfl, ⟨e0, e4⟩, ⟨e5, e6⟩, by omega, e2, e3⟩
              | skip
      · cases hI
    · exact h.elim
set_option maxRecDepth 100000 in
theorem wd_637 : Cond.methodLink "LearnLoans$Run" 235 yX4_asked ∈ am_ws := am_wsi (List.mem_of_getElem? (i := 637) (by rfl)) (by decide +kernel)
set_option maxRecDepth 100000 in
theorem wd_639 : Cond.instanceMethod yX4_asked ∈ am_ws := am_wsi (List.mem_of_getElem? (i := 639) (by rfl)) (by decide +kernel)
set_option maxRecDepth 100000 in
theorem wd_11 : Cond.selects "LearnLoans$Run" yX4_asked yX4_asked ∈ am_ws := am_wsi (List.mem_of_getElem? (i := 11) (by rfl)) (by decide +kernel)
set_option maxRecDepth 100000 in
theorem wd_640 : Cond.code yX4_asked cX4_asked 4 (some .long) ∈ am_ws := am_wsi (List.mem_of_getElem? (i := 640) (by rfl)) (by decide +kernel)
theorem dX4_takeAll_0 : decode cX4_takeAll 0 = .ok (.lconst 0, 1) := by decide +kernel
theorem dX4_takeAll_1 : decode cX4_takeAll 1 = .ok (.lstore_n 2, 1) := by decide +kernel
theorem dX4_takeAll_2 : decode cX4_takeAll 2 = .ok (.iconst 0, 1) := by decide +kernel
theorem dX4_takeAll_3 : decode cX4_takeAll 3 = .ok (.istore 4, 2) := by decide +kernel
theorem dX4_takeAll_5 : decode cX4_takeAll 5 = .ok (.iload 4, 2) := by decide +kernel
theorem dX4_takeAll_7 : decode cX4_takeAll 7 = .ok (.aload_n 0, 1) := by decide +kernel
theorem dX4_takeAll_8 : decode cX4_takeAll 8 = .ok (.getfield 56, 3) := by decide +kernel
theorem dX4_takeAll_11 : decode cX4_takeAll 11 = .ok (.if_icmp .ge 143, 3) := by decide +kernel
theorem dX4_takeAll_14 : decode cX4_takeAll 14 = .ok (.aload_n 0, 1) := by decide +kernel
theorem dX4_takeAll_15 : decode cX4_takeAll 15 = .ok (.getfield 29, 3) := by decide +kernel
theorem dX4_takeAll_18 : decode cX4_takeAll 18 = .ok (.iload 4, 2) := by decide +kernel
theorem dX4_takeAll_20 : decode cX4_takeAll 20 = .ok (.iaload, 1) := by decide +kernel
theorem dX4_takeAll_21 : decode cX4_takeAll 21 = .ok (.istore 5, 2) := by decide +kernel
theorem dX4_takeAll_23 : decode cX4_takeAll 23 = .ok (.lconst 0, 1) := by decide +kernel
theorem dX4_takeAll_24 : decode cX4_takeAll 24 = .ok (.aload_n 0, 1) := by decide +kernel
theorem dX4_takeAll_25 : decode cX4_takeAll 25 = .ok (.aload_n 0, 1) := by decide +kernel
theorem dX4_takeAll_26 : decode cX4_takeAll 26 = .ok (.iload 5, 2) := by decide +kernel
theorem dX4_takeAll_28 : decode cX4_takeAll 28 = .ok (.iload_n 1, 1) := by decide +kernel
theorem dX4_takeAll_29 : decode cX4_takeAll 29 = .ok (.invokevirtual 170, 3) := by decide +kernel
theorem dX4_takeAll_32 : decode cX4_takeAll 32 = .ok (.invokevirtual 235, 3) := by decide +kernel
theorem dX4_takeAll_35 : decode cX4_takeAll 35 = .ok (.lload_n 2, 1) := by decide +kernel
theorem dX4_takeAll_36 : decode cX4_takeAll 36 = .ok (.lsub, 1) := by decide +kernel
theorem dX4_takeAll_37 : decode cX4_takeAll 37 = .ok (.invokestatic 229, 3) := by decide +kernel
theorem dX4_takeAll_40 : decode cX4_takeAll 40 = .ok (.lstore 6, 2) := by decide +kernel
theorem dX4_takeAll_42 : decode cX4_takeAll 42 = .ok (.lload 6, 2) := by decide +kernel
theorem dX4_takeAll_44 : decode cX4_takeAll 44 = .ok (.aload_n 0, 1) := by decide +kernel
theorem dX4_takeAll_45 : decode cX4_takeAll 45 = .ok (.getfield 22, 3) := by decide +kernel
theorem dX4_takeAll_48 : decode cX4_takeAll 48 = .ok (.iconst 0, 1) := by decide +kernel
theorem dX4_takeAll_49 : decode cX4_takeAll 49 = .ok (.iload 5, 2) := by decide +kernel
theorem dX4_takeAll_51 : decode cX4_takeAll 51 = .ok (.iadd, 1) := by decide +kernel
theorem dX4_takeAll_52 : decode cX4_takeAll 52 = .ok (.laload, 1) := by decide +kernel
theorem dX4_takeAll_53 : decode cX4_takeAll 53 = .ok (.invokestatic 177, 3) := by decide +kernel
theorem dX4_takeAll_56 : decode cX4_takeAll 56 = .ok (.lstore 8, 2) := by decide +kernel
theorem dX4_takeAll_58 : decode cX4_takeAll 58 = .ok (.lload_n 2, 1) := by decide +kernel
theorem dX4_takeAll_59 : decode cX4_takeAll 59 = .ok (.lload 8, 2) := by decide +kernel
theorem dX4_takeAll_61 : decode cX4_takeAll 61 = .ok (.ladd, 1) := by decide +kernel
theorem dX4_takeAll_62 : decode cX4_takeAll 62 = .ok (.lstore_n 2, 1) := by decide +kernel
theorem dX4_takeAll_63 : decode cX4_takeAll 63 = .ok (.aload_n 0, 1) := by decide +kernel
theorem dX4_takeAll_64 : decode cX4_takeAll 64 = .ok (.getfield 22, 3) := by decide +kernel
theorem dX4_takeAll_67 : decode cX4_takeAll 67 = .ok (.iconst 0, 1) := by decide +kernel
theorem dX4_takeAll_68 : decode cX4_takeAll 68 = .ok (.iload 5, 2) := by decide +kernel
theorem dX4_takeAll_70 : decode cX4_takeAll 70 = .ok (.iadd, 1) := by decide +kernel
theorem dX4_takeAll_71 : decode cX4_takeAll 71 = .ok (.dup2, 1) := by decide +kernel
theorem dX4_takeAll_72 : decode cX4_takeAll 72 = .ok (.laload, 1) := by decide +kernel
theorem dX4_takeAll_73 : decode cX4_takeAll 73 = .ok (.lload 8, 2) := by decide +kernel
theorem dX4_takeAll_75 : decode cX4_takeAll 75 = .ok (.lsub, 1) := by decide +kernel
theorem dX4_takeAll_76 : decode cX4_takeAll 76 = .ok (.lastore, 1) := by decide +kernel
theorem dX4_takeAll_77 : decode cX4_takeAll 77 = .ok (.aload_n 0, 1) := by decide +kernel
theorem dX4_takeAll_78 : decode cX4_takeAll 78 = .ok (.getfield 22, 3) := by decide +kernel
theorem dX4_takeAll_81 : decode cX4_takeAll 81 = .ok (.bipush 30, 2) := by decide +kernel
theorem dX4_takeAll_83 : decode cX4_takeAll 83 = .ok (.iload 5, 2) := by decide +kernel
theorem dX4_takeAll_85 : decode cX4_takeAll 85 = .ok (.iadd, 1) := by decide +kernel
theorem dX4_takeAll_86 : decode cX4_takeAll 86 = .ok (.lload 8, 2) := by decide +kernel
theorem dX4_takeAll_88 : decode cX4_takeAll 88 = .ok (.lastore, 1) := by decide +kernel
theorem dX4_takeAll_89 : decode cX4_takeAll 89 = .ok (.aload_n 0, 1) := by decide +kernel
theorem dX4_takeAll_90 : decode cX4_takeAll 90 = .ok (.getfield 22, 3) := by decide +kernel
theorem dX4_takeAll_93 : decode cX4_takeAll 93 = .ok (.bipush 90, 2) := by decide +kernel
theorem dX4_takeAll_95 : decode cX4_takeAll 95 = .ok (.iload 5, 2) := by decide +kernel
theorem dX4_takeAll_97 : decode cX4_takeAll 97 = .ok (.iadd, 1) := by decide +kernel
theorem dX4_takeAll_98 : decode cX4_takeAll 98 = .ok (.dup2, 1) := by decide +kernel
theorem dX4_takeAll_99 : decode cX4_takeAll 99 = .ok (.laload, 1) := by decide +kernel
theorem dX4_takeAll_100 : decode cX4_takeAll 100 = .ok (.lload 8, 2) := by decide +kernel
theorem dX4_takeAll_102 : decode cX4_takeAll 102 = .ok (.ladd, 1) := by decide +kernel
theorem dX4_takeAll_103 : decode cX4_takeAll 103 = .ok (.lastore, 1) := by decide +kernel
theorem dX4_takeAll_104 : decode cX4_takeAll 104 = .ok (.aload_n 0, 1) := by decide +kernel
theorem dX4_takeAll_105 : decode cX4_takeAll 105 = .ok (.getfield 12, 3) := by decide +kernel
theorem dX4_takeAll_108 : decode cX4_takeAll 108 = .ok (.getfield 59, 3) := by decide +kernel
theorem dX4_takeAll_111 : decode cX4_takeAll 111 = .ok (.iload 5, 2) := by decide +kernel
theorem dX4_takeAll_113 : decode cX4_takeAll 113 = .ok (.bipush 7, 2) := by decide +kernel
theorem dX4_takeAll_115 : decode cX4_takeAll 115 = .ok (.invokevirtual 66, 3) := by decide +kernel
theorem dX4_takeAll_118 : decode cX4_takeAll 118 = .ok (.istore 10, 2) := by decide +kernel
theorem dX4_takeAll_120 : decode cX4_takeAll 120 = .ok (.iload 10, 2) := by decide +kernel
theorem dX4_takeAll_122 : decode cX4_takeAll 122 = .ok (.iconst (-1), 1) := by decide +kernel
theorem dX4_takeAll_123 : decode cX4_takeAll 123 = .ok (.if_icmp .eq 25, 3) := by decide +kernel
theorem dX4_takeAll_126 : decode cX4_takeAll 126 = .ok (.iload_n 1, 1) := by decide +kernel
theorem dX4_takeAll_127 : decode cX4_takeAll 127 = .ok (.iload 10, 2) := by decide +kernel
theorem dX4_takeAll_129 : decode cX4_takeAll 129 = .ok (.if_icmp .lt 19, 3) := by decide +kernel
theorem dX4_takeAll_132 : decode cX4_takeAll 132 = .ok (.aload_n 0, 1) := by decide +kernel
theorem dX4_takeAll_133 : decode cX4_takeAll 133 = .ok (.getfield 22, 3) := by decide +kernel
theorem dX4_takeAll_136 : decode cX4_takeAll 136 = .ok (.sipush 150, 3) := by decide +kernel
theorem dX4_takeAll_139 : decode cX4_takeAll 139 = .ok (.iload 5, 2) := by decide +kernel
theorem dX4_takeAll_141 : decode cX4_takeAll 141 = .ok (.iadd, 1) := by decide +kernel
theorem dX4_takeAll_142 : decode cX4_takeAll 142 = .ok (.dup2, 1) := by decide +kernel
theorem dX4_takeAll_143 : decode cX4_takeAll 143 = .ok (.laload, 1) := by decide +kernel
theorem dX4_takeAll_144 : decode cX4_takeAll 144 = .ok (.lload 8, 2) := by decide +kernel
theorem dX4_takeAll_146 : decode cX4_takeAll 146 = .ok (.ladd, 1) := by decide +kernel
theorem dX4_takeAll_147 : decode cX4_takeAll 147 = .ok (.lastore, 1) := by decide +kernel
theorem dX4_takeAll_148 : decode cX4_takeAll 148 = .ok (.iinc 4 1, 3) := by decide +kernel
theorem dX4_takeAll_151 : decode cX4_takeAll 151 = .ok (.goto (-146), 3) := by decide +kernel
theorem dX4_takeAll_154 : decode cX4_takeAll 154 = .ok (.return_, 1) := by decide +kernel
def kX4_takeAll (live : am_E) (Ret : am_R) : am_code := [(0, am_const (.long 0) 1), (1, am_lstore 2 11 2), (2, am_const (.int 0) 3), (3, am_istore 4 11 5), (5, am_iload 4 7), (7, am_aload 0 8), (8, am_getI live 4 7 11), (11, am_if2 (fun x y => y ≤ x) 154 14), (14, am_aload 0 15), (15, am_getR live 4 4 18), (18, am_iload 4 20), (20, am_ald live 0 21), (21, am_istore 5 11 23), (23, am_const (.long 0) 24), (24, am_aload 0 25), (25, am_aload 0 26), (26, am_iload 5 28), (28, am_iload 1 29), (29, am_callV live 4 2 TX4_cellOf 32), (32, am_callV live 4 1 TX4_asked 35), (35, am_lload 2 36), (36, am_l2 (fun x y => x - y) 37), (37, am_mathl (fun x y => if y < x then x else y) 46 40), (40, am_lstore 6 11 42), (42, am_lload 6 44), (44, am_aload 0 45), (45, am_getR live 4 2 48), (48, am_const (.int 0) 49), (49, am_iload 5 51), (51, am_i2 (fun x y => x + y) 52), (52, am_lald live 1 53), (53, am_mathl (fun x y => if y < x then y else x) 46 56), (56, am_lstore 8 11 58), (58, am_lload 2 59), (59, am_lload 8 61), (61, am_l2 (fun x y => x + y) 62), (62, am_lstore 2 11 63), (63, am_aload 0 64), (64, am_getR live 4 2 67), (67, am_const (.int 0) 68), (68, am_iload 5 70), (70, am_i2 (fun x y => x + y) 71), (71, am_dup2 72), (72, am_lald live 1 73), (73, am_lload 8 75), (75, am_l2 (fun x y => x - y) 76), (76, am_last live 1 77), (77, am_aload 0 78), (78, am_getR live 4 2 81), (81, am_const (.int 30) 83), (83, am_iload 5 85), (85, am_i2 (fun x y => x + y) 86), (86, am_lload 8 88), (88, am_last live 1 89), (89, am_aload 0 90), (90, am_getR live 4 2 93), (93, am_const (.int 90) 95), (95, am_iload 5 97), (97, am_i2 (fun x y => x + y) 98), (98, am_dup2 99), (99, am_lald live 1 100), (100, am_lload 8 102), (102, am_l2 (fun x y => x + y) 103), (103, am_last live 1 104), (104, am_aload 0 105), (105, am_getR live 4 0 108), (108, am_getR live 0 4 111), (111, am_iload 5 113), (113, am_const (.int 7) 115), (115, am_callV live 3 2 TX3_at 118), (118, am_istore 10 11 120), (120, am_iload 10 122), (122, am_const (.int (-1)) 123), (123, am_if2 (fun x y => x = y) 148 126), (126, am_iload 1 127), (127, am_iload 10 129), (129, am_if2 (fun x y => x < y) 148 132), (132, am_aload 0 133), (133, am_getR live 4 2 136), (136, am_const (.int 150) 139), (139, am_iload 5 141), (141, am_i2 (fun x y => x + y) 142), (142, am_dup2 143), (143, am_lald live 1 144), (144, am_lload 8 146), (146, am_l2 (fun x y => x + y) 147), (147, am_last live 1 148), (148, am_iinc 4 11 1 151), (151, am_goto 5), (154, am_retV Ret)]
theorem koX4_takeAll (live : am_E) (Ret : am_R) : ∀ q ∈ kX4_takeAll live Ret, am_ok RX4 cX4_takeAll 11 none 2 46 live Ret q.1 q.2 :=
  am_kc (ak_lconst dX4_takeAll_0 (by decide +kernel) rfl) <|
  am_kc (ak_lstore_n dX4_takeAll_1 rfl rfl) <|
  am_kc (ak_iconst dX4_takeAll_2 (by decide +kernel) rfl) <|
  am_kc (ak_istore dX4_takeAll_3 rfl) <|
  am_kc (ak_iload dX4_takeAll_5 rfl) <|
  am_kc (ak_aload_n dX4_takeAll_7 rfl rfl) <|
  am_kc (ak_getI (C := RX4) (T := TX4) (N := 19) rfl inX4w (by decide) rfl rfl rfl wd_303 dX4_takeAll_8 rfl) <|
  am_kc (ak_icmp_ge dX4_takeAll_11 (by decide +kernel) rfl) <|
  am_kc (ak_aload_n dX4_takeAll_14 rfl rfl) <|
  am_kc (ak_getR (C := RX4) (T := TX4) (N := 19) rfl inX4w (by decide) rfl rfl rfl wd_300 dX4_takeAll_15 rfl) <|
  am_kc (ak_iload dX4_takeAll_18 rfl) <|
  am_kc (ak_iald (t := 0) (fun _ => rfl) rfl dX4_takeAll_20 rfl) <|
  am_kc (ak_istore dX4_takeAll_21 rfl) <|
  am_kc (ak_lconst dX4_takeAll_23 (by decide +kernel) rfl) <|
  am_kc (ak_aload_n dX4_takeAll_24 rfl rfl) <|
  am_kc (ak_aload_n dX4_takeAll_25 rfl rfl) <|
  am_kc (ak_iload dX4_takeAll_26 rfl) <|
  am_kc (ak_iload_n dX4_takeAll_28 rfl rfl) <|
  am_kc (ak_callV (C := RX4) (F := TX4) (N := 19) metX4_cellOf rfl ⟨rfl, by decide +kernel, by decide +kernel, by decide +kernel⟩ (am_w5 wd_580 wd_582 wd_4 wd_60 wd_583) (by decide) dX4_takeAll_29 rfl) <|
  am_kc (ak_callV (C := RX4) (F := TX4) (N := 19) metX4_asked rfl ⟨rfl, by decide +kernel, by decide +kernel, by decide +kernel⟩ (am_w5 wd_637 wd_639 wd_11 wd_60 wd_640) (by decide) dX4_takeAll_32 rfl) <|
  am_kc (ak_lload_n dX4_takeAll_35 rfl rfl) <|
  am_kc (ak_lsub dX4_takeAll_36 rfl) <|
  am_kc (ak_lmax (am_w4 wd_610 wd_611 wd_68 wd_612) (by decide) dX4_takeAll_37 rfl) <|
  am_kc (ak_lstore dX4_takeAll_40 rfl) <|
  am_kc (ak_lload dX4_takeAll_42 rfl) <|
  am_kc (ak_aload_n dX4_takeAll_44 rfl rfl) <|
  am_kc (ak_getR (C := RX4) (T := TX4) (N := 19) rfl inX4w (by decide) rfl rfl rfl wd_296 dX4_takeAll_45 rfl) <|
  am_kc (ak_iconst dX4_takeAll_48 (by decide +kernel) rfl) <|
  am_kc (ak_iload dX4_takeAll_49 rfl) <|
  am_kc (ak_iadd dX4_takeAll_51 rfl) <|
  am_kc (ak_lald (t := 1) (fun _ => rfl) rfl dX4_takeAll_52 rfl) <|
  am_kc (ak_lmin (am_w4 wd_607 wd_608 wd_68 wd_609) (by decide) dX4_takeAll_53 rfl) <|
  am_kc (ak_lstore dX4_takeAll_56 rfl) <|
  am_kc (ak_lload_n dX4_takeAll_58 rfl rfl) <|
  am_kc (ak_lload dX4_takeAll_59 rfl) <|
  am_kc (ak_ladd dX4_takeAll_61 rfl) <|
  am_kc (ak_lstore_n dX4_takeAll_62 rfl rfl) <|
  am_kc (ak_aload_n dX4_takeAll_63 rfl rfl) <|
  am_kc (ak_getR (C := RX4) (T := TX4) (N := 19) rfl inX4w (by decide) rfl rfl rfl wd_296 dX4_takeAll_64 rfl) <|
  am_kc (ak_iconst dX4_takeAll_67 (by decide +kernel) rfl) <|
  am_kc (ak_iload dX4_takeAll_68 rfl) <|
  am_kc (ak_iadd dX4_takeAll_70 rfl) <|
  am_kc (ak_dup2 dX4_takeAll_71 rfl) <|
  am_kc (ak_lald (t := 1) (fun _ => rfl) rfl dX4_takeAll_72 rfl) <|
  am_kc (ak_lload dX4_takeAll_73 rfl) <|
  am_kc (ak_lsub dX4_takeAll_75 rfl) <|
  am_kc (ak_last (t := 1) (fun _ => rfl) rfl dX4_takeAll_76 rfl) <|
  am_kc (ak_aload_n dX4_takeAll_77 rfl rfl) <|
  am_kc (ak_getR (C := RX4) (T := TX4) (N := 19) rfl inX4w (by decide) rfl rfl rfl wd_296 dX4_takeAll_78 rfl) <|
  am_kc (ak_bipush dX4_takeAll_81 (by decide +kernel) rfl) <|
  am_kc (ak_iload dX4_takeAll_83 rfl) <|
  am_kc (ak_iadd dX4_takeAll_85 rfl) <|
  am_kc (ak_lload dX4_takeAll_86 rfl) <|
  am_kc (ak_last (t := 1) (fun _ => rfl) rfl dX4_takeAll_88 rfl) <|
  am_kc (ak_aload_n dX4_takeAll_89 rfl rfl) <|
  am_kc (ak_getR (C := RX4) (T := TX4) (N := 19) rfl inX4w (by decide) rfl rfl rfl wd_296 dX4_takeAll_90 rfl) <|
  am_kc (ak_bipush dX4_takeAll_93 (by decide +kernel) rfl) <|
  am_kc (ak_iload dX4_takeAll_95 rfl) <|
  am_kc (ak_iadd dX4_takeAll_97 rfl) <|
  am_kc (ak_dup2 dX4_takeAll_98 rfl) <|
  am_kc (ak_lald (t := 1) (fun _ => rfl) rfl dX4_takeAll_99 rfl) <|
  am_kc (ak_lload dX4_takeAll_100 rfl) <|
  am_kc (ak_ladd dX4_takeAll_102 rfl) <|
  am_kc (ak_last (t := 1) (fun _ => rfl) rfl dX4_takeAll_103 rfl) <|
  am_kc (ak_aload_n dX4_takeAll_104 rfl rfl) <|
  am_kc (ak_getR (C := RX4) (T := TX4) (N := 19) rfl inX4w (by decide) rfl rfl rfl wd_291 dX4_takeAll_105 rfl) <|
  am_kc (ak_getR (C := RX0) (T := TX0) (N := 13) rfl inX0w (by decide) rfl rfl rfl wd_206 dX4_takeAll_108 rfl) <|
  am_kc (ak_iload dX4_takeAll_111 rfl) <|
  am_kc (ak_bipush dX4_takeAll_113 (by decide +kernel) rfl) <|
  am_kc (ak_callV (C := RX3) (F := TX3) (N := 3) metX3_at rfl ⟨rfl, by decide +kernel, by decide +kernel, by decide +kernel⟩ (am_w5 wd_502 wd_503 wd_504 wd_64 wd_505) (by decide) dX4_takeAll_115 rfl) <|
  am_kc (ak_istore dX4_takeAll_118 rfl) <|
  am_kc (ak_iload dX4_takeAll_120 rfl) <|
  am_kc (ak_iconst dX4_takeAll_122 (by decide +kernel) rfl) <|
  am_kc (ak_icmp_eq dX4_takeAll_123 (by decide +kernel) rfl) <|
  am_kc (ak_iload_n dX4_takeAll_126 rfl rfl) <|
  am_kc (ak_iload dX4_takeAll_127 rfl) <|
  am_kc (ak_icmp_lt dX4_takeAll_129 (by decide +kernel) rfl) <|
  am_kc (ak_aload_n dX4_takeAll_132 rfl rfl) <|
  am_kc (ak_getR (C := RX4) (T := TX4) (N := 19) rfl inX4w (by decide) rfl rfl rfl wd_296 dX4_takeAll_133 rfl) <|
  am_kc (ak_sipush dX4_takeAll_136 (by decide +kernel) rfl) <|
  am_kc (ak_iload dX4_takeAll_139 rfl) <|
  am_kc (ak_iadd dX4_takeAll_141 rfl) <|
  am_kc (ak_dup2 dX4_takeAll_142 rfl) <|
  am_kc (ak_lald (t := 1) (fun _ => rfl) rfl dX4_takeAll_143 rfl) <|
  am_kc (ak_lload dX4_takeAll_144 rfl) <|
  am_kc (ak_ladd dX4_takeAll_146 rfl) <|
  am_kc (ak_last (t := 1) (fun _ => rfl) rfl dX4_takeAll_147 rfl) <|
  am_kc (ak_iinc dX4_takeAll_148 (by decide +kernel) rfl) <|
  am_kc (ak_goto dX4_takeAll_151 (by decide +kernel)) <|
  am_kc (ak_retV dX4_takeAll_154) <| am_kn
def TX4_takeAll : am_T := fun live as M R => match as with
  | [.ref n, .int y] => am_mn live ∧ n = 4 ∧ am_in y 40 ∧ g_rI M ∧ ∀ M', g_sc M M' → g_rI M' → R none M'
  | _ => False
def JX4_takeAll : am_E → List Value → am_M → am_R → am_inv := fun live as M0 _ pc => match as with
  | [.ref n, .int y] => (match pc with
    | 5 => some ([0, 1, 2, 4], fun k L st M => ∃ (v : Int64) (i : Int32), L = [(0, .ref 4), (1, .int y), (2, .long v), (4, .int i)] ∧ st = [] ∧ k = ((31 - i.toInt).toNat, 0) ∧ 0 ≤ i.toInt ∧ g_sc M0 M ∧ g_rI M)
    | _ => none)
  | _ => none
set_option maxRecDepth 100000 in
set_option maxHeartbeats 4000000 in
theorem metX4_takeAll : am_Met yX4_takeAll cX4_takeAll 11 none (2) (46) TX4_takeAll := by
  refine am_met (own := RX4) (by decide +kernel) rfl kX4_takeAll koX4_takeAll 150 JX4_takeAll ?_ ?_
  · intro live as M Ret h
    unfold TX4_takeAll at h
    split at h
    · next n y =>
      refine ⟨Nat.le_of_ble_eq_true rfl, ?_⟩
      change am_wp _ _ _ _ [(0, Value.ref n), (1, Value.int y)] _ _
      obtain ⟨hmn, rfl, hy, hr, h⟩ := h
      repeat' (first | apply And.intro | exact rfl | intro hx | (refine Exists.intro _ (And.intro rfl ?_)))
      all_goals try first | (with_reducible change am_tI _ _) | (change Ret _ _) | (change Ret _ _ _) | (change Exists _)
      all_goals try dsimp only at *
      all_goals try exact absurd ‹(1000 : Int64) = 0› (by decide)
      exact ⟨_, _, _, rfl, rfl, rfl, by decide, g_sc.rf, hr⟩
    · exact h.elim
  · intro live as M0 Ret h k pc I hI L st M hi
    unfold TX4_takeAll at h
    split at h
    · next n y =>
      obtain ⟨hmn, rfl, hy, hr, h⟩ := h
      have hmn2 := hmn
      obtain ⟨i1, i2, rfl⟩ := hmn2
      change (match pc with | 5 => _ | _ => none) = _ at hI
      split at hI
      · cases hI
        obtain ⟨v, i, rfl, rfl, rfl, e1, e2, e3⟩ := hi
        by_cases hz : M.1 4 7 ≤ i
        · skip
          repeat' (first | apply And.intro | exact rfl | (intro hx; with_reducible exact absurd hz hx) | intro hx | (refine Exists.intro _ (And.intro rfl ?_)))
          all_goals try first | (with_reducible change am_tI _ _) | (change Ret _ _) | (change Ret _ _ _) | (change Exists _)
          all_goals try dsimp only at *
          all_goals try exact absurd ‹(1000 : Int64) = 0› (by decide)
          exact h _ e2 e3
        · have q := e3.s.sz
          have hz2 := hz
          simp only [i_le] at hz2
          have ha : am_in i 30 := ⟨e1, by omega⟩
          have hb := e3.s.qu (g_cl ha)
          have hp := e3.pln hb hy
          have hla := e3.s.la
          have hi := i_inc (x := i) (by omega) (by omega)
          have f0 := g_ix hb 0 0 rfl (by decide)
          have f30 := g_ix hb 30 30 rfl (by decide)
          have f90 := g_ix hb 90 90 rfl (by decide)
          have f150 := g_ix hb 150 150 rfl (by decide)
          have l6 : am_len 6 = 180 := rfl
          have l8 : am_len 8 = 30 := rfl
          have e0 := am_celly hy hp (k := 0) ⟨by decide, by decide⟩
          have k0 : Int32.toInt 0 = 0 := rfl
          rw [Int32.add_zero] at e0
          have hy1 := hy.1
          have hy2 := hy.2
          have hp1 := hp.1
          have hp2 := hp.2
          repeat' (first | (with_reducible exact hmn) | (with_reducible exact hb) | (with_reducible exact hy) | (with_reducible exact hla) | apply And.intro | exact rfl | (intro hx; with_reducible exact absurd hx hz) | intro hx | (refine Exists.intro _ (And.intro rfl ?_)))
          all_goals try first | (with_reducible change am_tI _ _) | (change Ret _ _) | (change Ret _ _ _) | (change Exists _)
          all_goals try dsimp only at *
          all_goals try exact absurd ‹(1000 : Int64) = 0› (by decide)
          all_goals first
            | omega
            | (rw [l8]; exact ha.2)
            | exact f0.1
            | (rw [l6]; exact f0.2.1)
            | exact f30.1
            | (rw [l6]; exact f30.2.1)
            | exact f90.1
            | (rw [l6]; exact f90.2.1)
            | exact f150.1
            | (rw [l6]; exact f150.2.1)
            | exact ⟨_, am_lt_l (by omega), _, _, rfl, rfl, rfl, by omega, (((e2.wJ rfl).wJ rfl).wJ rfl), ((e3.wJ).wJ).wJ⟩
            | exact ⟨_, am_lt_l (by omega), _, _, rfl, rfl, rfl, by omega, ((((e2.wJ rfl).wJ rfl).wJ rfl).wJ rfl), (((e3.wJ).wJ).wJ).wJ⟩
            | skip
      · cases hI
    · exact h.elim
