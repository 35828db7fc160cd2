/-! p1: the class's calls on a new object, go on -/
theorem am_ch.addAct {S : Nat → Nat → Prop} {M M' : am_M} {p w v f b e : Int32} (h : am_ch S M M') (h1 : ∀ k, S 31 k) (h2 : ∀ k, S 32 k) : am_ch S M (am_addAct M' p w v f b e) := (((h.radd h2 (h1 2)).rput h2).rput h2).rput h2
theorem am_addAct_21 (M : am_M) (p w v f b e : Int32) : (am_addAct M p w v f b e).1 21 7 = M.1 21 7 := (am_ch.addAct (S := fun a _ => a = 31 ∨ a = 32) am_ch.rf (fun _ => Or.inl rfl) (fun _ => Or.inr rfl)).1 21 7 (by intro z; rcases z with z | z <;> exact absurd z (by decide))
theorem wd_204 : Cond.fieldLink "LearnLoans" 104 "LearnLoans$House" "acts" "LLearnLoans$Rows;" ∈ am_ws := am_wsi (List.mem_of_getElem? (i := 204) (by decide +kernel)) (by decide +kernel)
theorem wd_476 : Cond.methodLink "LearnLoans" 111 yX0_addAct ∈ am_ws := am_wsi (List.mem_of_getElem? (i := 476) (by decide +kernel)) (by decide +kernel)
theorem wd_477 : Cond.instanceMethod yX0_addAct ∈ am_ws := am_wsi (List.mem_of_getElem? (i := 477) (by decide +kernel)) (by decide +kernel)
theorem wd_478 : Cond.selects "LearnLoans$House" yX0_addAct yX0_addAct ∈ am_ws := am_wsi (List.mem_of_getElem? (i := 478) (by decide +kernel)) (by decide +kernel)
theorem wd_479 : Cond.code yX0_addAct cX0_addAct 8 (some .int) ∈ am_ws := am_wsi (List.mem_of_getElem? (i := 479) (by decide +kernel)) (by decide +kernel)
theorem dX7_act_0 : decode cX7_act 0 = .ok (.iload_n 1, 1) := by decide +kernel
theorem dX7_act_1 : decode cX7_act 1 = .ok (.invokestatic 98, 3) := by decide +kernel
theorem dX7_act_4 : decode cX7_act 4 = .ok (.ifCond .eq 29, 3) := by decide +kernel
theorem dX7_act_7 : decode cX7_act 7 = .ok (.iload_n 2, 1) := by decide +kernel
theorem dX7_act_8 : decode cX7_act 8 = .ok (.iload_n 3, 1) := by decide +kernel
theorem dX7_act_9 : decode cX7_act 9 = .ok (.invokestatic 101, 3) := by decide +kernel
theorem dX7_act_12 : decode cX7_act 12 = .ok (.ifCond .eq 21, 3) := by decide +kernel
theorem dX7_act_15 : decode cX7_act 15 = .ok (.iload 4, 2) := by decide +kernel
theorem dX7_act_17 : decode cX7_act 17 = .ok (.invokestatic 34, 3) := by decide +kernel
theorem dX7_act_20 : decode cX7_act 20 = .ok (.ifCond .eq 13, 3) := by decide +kernel
theorem dX7_act_23 : decode cX7_act 23 = .ok (.iload 5, 2) := by decide +kernel
theorem dX7_act_25 : decode cX7_act 25 = .ok (.iload 6, 2) := by decide +kernel
theorem dX7_act_27 : decode cX7_act 27 = .ok (.invokestatic 59, 3) := by decide +kernel
theorem dX7_act_30 : decode cX7_act 30 = .ok (.ifCond .ne 6, 3) := by decide +kernel
theorem dX7_act_33 : decode cX7_act 33 = .ok (.bipush (-2), 2) := by decide +kernel
theorem dX7_act_35 : decode cX7_act 35 = .ok (.ireturn, 1) := by decide +kernel
theorem dX7_act_36 : decode cX7_act 36 = .ok (.aload_n 0, 1) := by decide +kernel
theorem dX7_act_37 : decode cX7_act 37 = .ok (.getfield 27, 3) := by decide +kernel
theorem dX7_act_40 : decode cX7_act 40 = .ok (.getfield 104, 3) := by decide +kernel
theorem dX7_act_43 : decode cX7_act 43 = .ok (.getfield 108, 3) := by decide +kernel
theorem dX7_act_46 : decode cX7_act 46 = .ok (.bipush 60, 2) := by decide +kernel
theorem dX7_act_48 : decode cX7_act 48 = .ok (.if_icmp .lt 6, 3) := by decide +kernel
theorem dX7_act_51 : decode cX7_act 51 = .ok (.bipush (-4), 2) := by decide +kernel
theorem dX7_act_53 : decode cX7_act 53 = .ok (.ireturn, 1) := by decide +kernel
theorem dX7_act_54 : decode cX7_act 54 = .ok (.aload_n 0, 1) := by decide +kernel
theorem dX7_act_55 : decode cX7_act 55 = .ok (.getfield 27, 3) := by decide +kernel
theorem dX7_act_58 : decode cX7_act 58 = .ok (.iload_n 1, 1) := by decide +kernel
theorem dX7_act_59 : decode cX7_act 59 = .ok (.iload_n 2, 1) := by decide +kernel
theorem dX7_act_60 : decode cX7_act 60 = .ok (.iload_n 3, 1) := by decide +kernel
theorem dX7_act_61 : decode cX7_act 61 = .ok (.iload 4, 2) := by decide +kernel
theorem dX7_act_63 : decode cX7_act 63 = .ok (.iload 5, 2) := by decide +kernel
theorem dX7_act_65 : decode cX7_act 65 = .ok (.iload 6, 2) := by decide +kernel
theorem dX7_act_67 : decode cX7_act 67 = .ok (.invokevirtual 111, 3) := by decide +kernel
theorem dX7_act_70 : decode cX7_act 70 = .ok (.ireturn, 1) := by decide +kernel
def kX7_act (live : am_E) (Ret : am_R) : am_code := [(0, am_iload 1 1), (1, am_callS live 1 TX7_isPlan 4), (4, am_if1 (fun x => x = 0) 33 7), (7, am_iload 2 8), (8, am_iload 3 9), (9, am_callS live 2 TX7_isNumber 12), (12, am_if1 (fun x => x = 0) 33 15), (15, am_iload 4 17), (17, am_callS live 1 TX7_isYear 20), (20, am_if1 (fun x => x = 0) 33 23), (23, am_iload 5 25), (25, am_iload 6 27), (27, am_callS live 2 TX7_isSpan 30), (30, am_if1 (fun x => x = 0) 33 36), (33, am_const (.int (-2)) 35), (35, am_retI Ret), (36, am_aload 0 37), (37, am_getR live 7 0 40), (40, am_getR live 0 3 43), (43, am_getI live 3 2 46), (46, am_const (.int 60) 48), (48, am_if2 (fun x y => x < y) 54 51), (51, am_const (.int (-4)) 53), (53, am_retI Ret), (54, am_aload 0 55), (55, am_getR live 7 0 58), (58, am_iload 1 59), (59, am_iload 2 60), (60, am_iload 3 61), (61, am_iload 4 63), (63, am_iload 5 65), (65, am_iload 6 67), (67, am_callV live 0 6 TX0_addAct 70), (70, am_retI Ret)]
theorem koX7_act (live : am_E) (Ret : am_R) : ∀ q ∈ kX7_act live Ret, am_ok RX7 cX7_act 7 (some .int) 3 74 live Ret q.1 q.2 :=
  am_kc (ak_iload_n dX7_act_0 rfl rfl) <|
  am_kc (ak_callS metX7_isPlan ⟨rfl, by decide +kernel, by decide +kernel, by decide +kernel⟩ (am_w4 wd_466 wd_467 wd_58 wd_468) (by decide) dX7_act_1 rfl) <|
  am_kc (ak_if_eq dX7_act_4 (by decide +kernel) rfl) <|
  am_kc (ak_iload_n dX7_act_7 rfl rfl) <|
  am_kc (ak_iload_n dX7_act_8 rfl rfl) <|
  am_kc (ak_callS metX7_isNumber ⟨rfl, by decide +kernel, by decide +kernel, by decide +kernel⟩ (am_w4 wd_469 wd_470 wd_58 wd_471) (by decide) dX7_act_9 rfl) <|
  am_kc (ak_if_eq dX7_act_12 (by decide +kernel) rfl) <|
  am_kc (ak_iload dX7_act_15 rfl) <|
  am_kc (ak_callS metX7_isYear ⟨rfl, by decide +kernel, by decide +kernel, by decide +kernel⟩ (am_w4 wd_407 wd_408 wd_58 wd_409) (by decide) dX7_act_17 rfl) <|
  am_kc (ak_if_eq dX7_act_20 (by decide +kernel) rfl) <|
  am_kc (ak_iload dX7_act_23 rfl) <|
  am_kc (ak_iload dX7_act_25 rfl) <|
  am_kc (ak_callS metX7_isSpan ⟨rfl, by decide +kernel, by decide +kernel, by decide +kernel⟩ (am_w4 wd_421 wd_422 wd_58 wd_423) (by decide) dX7_act_27 rfl) <|
  am_kc (ak_if_ne dX7_act_30 (by decide +kernel) rfl) <|
  am_kc (ak_bipush dX7_act_33 (by decide +kernel) rfl) <|
  am_kc (ak_retI dX7_act_35) <|
  am_kc (ak_aload_n dX7_act_36 rfl rfl) <|
  am_kc (ak_getR (C := RX7) (T := TX7) (N := 4) rfl inX7w (by decide) rfl rfl rfl wd_390 dX7_act_37 rfl) <|
  am_kc (ak_getR (C := RX0) (T := TX0) (N := 13) rfl inX0w (by decide) rfl rfl rfl wd_204 dX7_act_40 rfl) <|
  am_kc (ak_getI (C := RX3) (T := TX3) (N := 3) rfl inX3w (by decide) rfl rfl rfl wd_152 dX7_act_43 rfl) <|
  am_kc (ak_bipush dX7_act_46 (by decide +kernel) rfl) <|
  am_kc (ak_icmp_lt dX7_act_48 (by decide +kernel) rfl) <|
  am_kc (ak_bipush dX7_act_51 (by decide +kernel) rfl) <|
  am_kc (ak_retI dX7_act_53) <|
  am_kc (ak_aload_n dX7_act_54 rfl rfl) <|
  am_kc (ak_getR (C := RX7) (T := TX7) (N := 4) rfl inX7w (by decide) rfl rfl rfl wd_390 dX7_act_55 rfl) <|
  am_kc (ak_iload_n dX7_act_58 rfl rfl) <|
  am_kc (ak_iload_n dX7_act_59 rfl rfl) <|
  am_kc (ak_iload_n dX7_act_60 rfl rfl) <|
  am_kc (ak_iload dX7_act_61 rfl) <|
  am_kc (ak_iload dX7_act_63 rfl) <|
  am_kc (ak_iload dX7_act_65 rfl) <|
  am_kc (ak_callV (C := RX0) (F := TX0) (N := 13) metX0_addAct rfl ⟨rfl, by decide +kernel, by decide +kernel, by decide +kernel⟩ (am_w5 wd_476 wd_477 wd_478 wd_61 wd_479) (by decide) dX7_act_67 rfl) <|
  am_kc (ak_retI dX7_act_70) <| am_kn
def TX7_act : am_T := fun live as M R => match as with
  | [.ref n, .int p, .int w, .int v, .int f, .int b, .int e] => am_mn live ∧ n = 0 ∧ am_F7 M ∧ ∀ M', am_ch am_lo M M' → R (some (.int (a_act p w v f b e))) M'
  | _ => False
set_option maxRecDepth 100000 in
set_option maxHeartbeats 4000000 in
theorem metX7_act : am_Met yX7_act cX7_act 7 (some .int) (3) (74) TX7_act := by
  refine am_met (own := RX7) (by decide +kernel) rfl kX7_act koX7_act 300 (fun _ _ _ _ _ => none) (fun live as M Ret h => ?_) (fun _ _ _ _ _ _ _ _ hI => by cases hI)
  unfold TX7_act at h
  split at h
  · next n p w v f b e =>
    refine ⟨Nat.le_of_ble_eq_true rfl, ?_⟩
    change am_wp _ _ _ _ [(0, Value.ref n), (1, Value.int p), (2, Value.int w), (3, Value.int v), (4, Value.int f), (5, Value.int b), (6, Value.int e)] _ _
    obtain ⟨⟨i1, i2, rfl⟩, rfl, hF, h⟩ := h
    obtain ⟨s1, s2, s3, s4, s5, s6, s7, s8, s9, w1, w2, w3, w4⟩ := hF
    by_cases hc : (0 ≤ p ∧ p < 5) ∧ am_isN w v ∧ (0 ≤ f ∧ f < 40) ∧ (0 ≤ b ∧ b ≤ e ∧ e < 40)
    ·
      have hn0 : ¬ (if (0 ≤ p ∧ p < 5) then (1 : Int32) else 0) = 0 := by rw [if_pos hc.1]; decide
      have hn1 : am_isNum w v := hc.2.1
      have hn2 : ¬ (if (0 ≤ f ∧ f < 40) then (1 : Int32) else 0) = 0 := by rw [if_pos hc.2.2.1]; decide
      have hn3 : ¬ (if (0 ≤ b ∧ b ≤ e ∧ e < 40) then (1 : Int32) else 0) = 0 := by rw [if_pos hc.2.2.2]; decide
      have e : a_act p w v f b e = _ := if_pos hc
      rw [e] at h
      have hp : M.1 31 2 < 60 := by rw [s3]; decide
      repeat' (first | apply And.intro | exact rfl | (intro hx; with_reducible exact absurd hx hn0) | (intro hx; with_reducible exact absurd hx hn2) | (intro hx; with_reducible exact absurd hx hn3) | (intro hx; with_reducible exact absurd hn1 hx) | (intro hx; with_reducible exact absurd hp hx) | (intro hx; exact absurd hx (by decide)) | (intro hx; exact absurd (by decide) hx) | decide | intro hx | (refine Exists.intro _ (And.intro rfl ?_)))
      all_goals try first | (with_reducible change am_tI _ _) | (change Ret _ _) | (change Ret _ _ _) | (change Exists _)
      all_goals try dsimp only at *
      all_goals try exact absurd ‹(1000 : Int64) = 0› (by decide)
      all_goals first
        | exact h _ ((am_ch.rf).addAct (fun _ => by show (_ : Nat) < 200; decide) (fun _ => by show (_ : Nat) < 200; decide))
        | exact am_rI (h _ ((am_ch.rf).addAct (fun _ => by show (_ : Nat) < 200; decide) (fun _ => by show (_ : Nat) < 200; decide))) (by first | rfl | (simp only [s1, s2, s3, s4, s5, s6]; done) | exact s1.symm | exact s3.symm | exact s5.symm | exact s6.symm)
        | exact ⟨i1, i2, rfl⟩
        | (clear h; decide)
        | (clear h; omega)
    ·
      have e : a_act p w v f b e = _ := if_neg hc
      rw [e] at h
      repeat' (first | apply And.intro | exact rfl | (intro hx; exact absurd hx (by decide)) | (intro hx; exact absurd (by decide) hx) | decide | intro hx | (refine Exists.intro _ (And.intro rfl ?_)))
      all_goals try first | (with_reducible change am_tI _ _) | (change Ret _ _) | (change Ret _ _ _) | (change Exists _)
      all_goals try dsimp only at *
      all_goals try exact absurd ‹(1000 : Int64) = 0› (by decide)
      all_goals first
        | exact h _ am_ch.rf
        | exact ⟨i1, i2, rfl⟩
        | (exfalso; clear h e; refine hc ?_; simp only [am_b0, Classical.not_not, am_isNum, am_isN] at *; first | (simp only [*, and_self, true_and]; done) | (simp only [*, and_self, true_and]; decide))
  · exact h.elim
theorem wd_220 : Cond.fieldLink "LearnLoans" 206 "LearnLoans$House" "lives" "[I" ∈ am_ws := am_wsi (List.mem_of_getElem? (i := 220) (by decide +kernel)) (by decide +kernel)
theorem dX7_live_0 : decode cX7_live 0 = .ok (.iload_n 1, 1) := by decide +kernel
theorem dX7_live_1 : decode cX7_live 1 = .ok (.iconst 0, 1) := by decide +kernel
theorem dX7_live_2 : decode cX7_live 2 = .ok (.iconst 3, 1) := by decide +kernel
theorem dX7_live_3 : decode cX7_live 3 = .ok (.invokestatic 55, 3) := by decide +kernel
theorem dX7_live_6 : decode cX7_live 6 = .ok (.ifCond .eq 19, 3) := by decide +kernel
theorem dX7_live_9 : decode cX7_live 9 = .ok (.iload_n 2, 1) := by decide +kernel
theorem dX7_live_10 : decode cX7_live 10 = .ok (.iload_n 3, 1) := by decide +kernel
theorem dX7_live_11 : decode cX7_live 11 = .ok (.invokestatic 59, 3) := by decide +kernel
theorem dX7_live_14 : decode cX7_live 14 = .ok (.ifCond .eq 11, 3) := by decide +kernel
theorem dX7_live_17 : decode cX7_live 17 = .ok (.iload 4, 2) := by decide +kernel
theorem dX7_live_19 : decode cX7_live 19 = .ok (.invokestatic 79, 3) := by decide +kernel
theorem dX7_live_22 : decode cX7_live 22 = .ok (.ifCond .ne 6, 3) := by decide +kernel
theorem dX7_live_25 : decode cX7_live 25 = .ok (.bipush (-2), 2) := by decide +kernel
theorem dX7_live_27 : decode cX7_live 27 = .ok (.ireturn, 1) := by decide +kernel
theorem dX7_live_28 : decode cX7_live 28 = .ok (.aload_n 0, 1) := by decide +kernel
theorem dX7_live_29 : decode cX7_live 29 = .ok (.getfield 27, 3) := by decide +kernel
theorem dX7_live_32 : decode cX7_live 32 = .ok (.getfield 206, 3) := by decide +kernel
theorem dX7_live_35 : decode cX7_live 35 = .ok (.iload_n 1, 1) := by decide +kernel
theorem dX7_live_36 : decode cX7_live 36 = .ok (.bipush 40, 2) := by decide +kernel
theorem dX7_live_38 : decode cX7_live 38 = .ok (.imul, 1) := by decide +kernel
theorem dX7_live_39 : decode cX7_live 39 = .ok (.iload_n 2, 1) := by decide +kernel
theorem dX7_live_40 : decode cX7_live 40 = .ok (.iadd, 1) := by decide +kernel
theorem dX7_live_41 : decode cX7_live 41 = .ok (.iload_n 1, 1) := by decide +kernel
theorem dX7_live_42 : decode cX7_live 42 = .ok (.bipush 40, 2) := by decide +kernel
theorem dX7_live_44 : decode cX7_live 44 = .ok (.imul, 1) := by decide +kernel
theorem dX7_live_45 : decode cX7_live 45 = .ok (.iload_n 3, 1) := by decide +kernel
theorem dX7_live_46 : decode cX7_live 46 = .ok (.iadd, 1) := by decide +kernel
theorem dX7_live_47 : decode cX7_live 47 = .ok (.iload 4, 2) := by decide +kernel
theorem dX7_live_49 : decode cX7_live 49 = .ok (.invokestatic 66, 3) := by decide +kernel
theorem dX7_live_52 : decode cX7_live 52 = .ok (.iconst 1, 1) := by decide +kernel
theorem dX7_live_53 : decode cX7_live 53 = .ok (.ireturn, 1) := by decide +kernel
def kX7_live (live : am_E) (Ret : am_R) : am_code := [(0, am_iload 1 1), (1, am_const (.int 0) 2), (2, am_const (.int 3) 3), (3, am_callS live 3 TX7_within 6), (6, am_if1 (fun x => x = 0) 25 9), (9, am_iload 2 10), (10, am_iload 3 11), (11, am_callS live 2 TX7_isSpan 14), (14, am_if1 (fun x => x = 0) 25 17), (17, am_iload 4 19), (19, am_callS live 1 TX7_isPence 22), (22, am_if1 (fun x => x = 0) 25 28), (25, am_const (.int (-2)) 27), (27, am_retI Ret), (28, am_aload 0 29), (29, am_getR live 7 0 32), (32, am_getR live 0 9 35), (35, am_iload 1 36), (36, am_const (.int 40) 38), (38, am_i2 (fun x y => x * y) 39), (39, am_iload 2 40), (40, am_i2 (fun x y => x + y) 41), (41, am_iload 1 42), (42, am_const (.int 40) 44), (44, am_i2 (fun x y => x * y) 45), (45, am_iload 3 46), (46, am_i2 (fun x y => x + y) 47), (47, am_iload 4 49), (49, am_callS live 4 TX7_lay 52), (52, am_const (.int 1) 53), (53, am_retI Ret)]
theorem koX7_live (live : am_E) (Ret : am_R) : ∀ q ∈ kX7_live live Ret, am_ok RX7 cX7_live 5 (some .int) 2 47 live Ret q.1 q.2 :=
  am_kc (ak_iload_n dX7_live_0 rfl rfl) <|
  am_kc (ak_iconst dX7_live_1 (by decide +kernel) rfl) <|
  am_kc (ak_iconst dX7_live_2 (by decide +kernel) rfl) <|
  am_kc (ak_callS metX7_within ⟨rfl, by decide +kernel, by decide +kernel, by decide +kernel⟩ (am_w4 wd_418 wd_419 wd_58 wd_420) (by decide) dX7_live_3 rfl) <|
  am_kc (ak_if_eq dX7_live_6 (by decide +kernel) rfl) <|
  am_kc (ak_iload_n dX7_live_9 rfl rfl) <|
  am_kc (ak_iload_n dX7_live_10 rfl rfl) <|
  am_kc (ak_callS metX7_isSpan ⟨rfl, by decide +kernel, by decide +kernel, by decide +kernel⟩ (am_w4 wd_421 wd_422 wd_58 wd_423) (by decide) dX7_live_11 rfl) <|
  am_kc (ak_if_eq dX7_live_14 (by decide +kernel) rfl) <|
  am_kc (ak_iload dX7_live_17 rfl) <|
  am_kc (ak_callS metX7_isPence ⟨rfl, by decide +kernel, by decide +kernel, by decide +kernel⟩ (am_w4 wd_446 wd_447 wd_58 wd_448) (by decide) dX7_live_19 rfl) <|
  am_kc (ak_if_ne dX7_live_22 (by decide +kernel) rfl) <|
  am_kc (ak_bipush dX7_live_25 (by decide +kernel) rfl) <|
  am_kc (ak_retI dX7_live_27) <|
  am_kc (ak_aload_n dX7_live_28 rfl rfl) <|
  am_kc (ak_getR (C := RX7) (T := TX7) (N := 4) rfl inX7w (by decide) rfl rfl rfl wd_390 dX7_live_29 rfl) <|
  am_kc (ak_getR (C := RX0) (T := TX0) (N := 13) rfl inX0w (by decide) rfl rfl rfl wd_220 dX7_live_32 rfl) <|
  am_kc (ak_iload_n dX7_live_35 rfl rfl) <|
  am_kc (ak_bipush dX7_live_36 (by decide +kernel) rfl) <|
  am_kc (ak_imul dX7_live_38 rfl) <|
  am_kc (ak_iload_n dX7_live_39 rfl rfl) <|
  am_kc (ak_iadd dX7_live_40 rfl) <|
  am_kc (ak_iload_n dX7_live_41 rfl rfl) <|
  am_kc (ak_bipush dX7_live_42 (by decide +kernel) rfl) <|
  am_kc (ak_imul dX7_live_44 rfl) <|
  am_kc (ak_iload_n dX7_live_45 rfl rfl) <|
  am_kc (ak_iadd dX7_live_46 rfl) <|
  am_kc (ak_iload dX7_live_47 rfl) <|
  am_kc (ak_callS metX7_lay ⟨rfl, by decide +kernel, by decide +kernel, by decide +kernel⟩ (am_w4 wd_424 wd_425 wd_58 wd_426) (by decide) dX7_live_49 rfl) <|
  am_kc (ak_iconst dX7_live_52 (by decide +kernel) rfl) <|
  am_kc (ak_retI dX7_live_53) <| am_kn
def TX7_live : am_T := fun live as M R => match as with
  | [.ref n, .int l, .int f, .int t, .int p] => am_mn live ∧ n = 0 ∧ am_F7 M ∧ ∀ M', am_ch am_lo M M' → R (some (.int (a_live l f t p))) M'
  | _ => False
set_option maxRecDepth 100000 in
set_option maxHeartbeats 4000000 in
theorem metX7_live : am_Met yX7_live cX7_live 5 (some .int) (2) (47) TX7_live := by
  refine am_met (own := RX7) (by decide +kernel) rfl kX7_live koX7_live 300 (fun _ _ _ _ _ => none) (fun live as M Ret h => ?_) (fun _ _ _ _ _ _ _ _ hI => by cases hI)
  unfold TX7_live at h
  split at h
  · next n l f t p =>
    refine ⟨Nat.le_of_ble_eq_true rfl, ?_⟩
    change am_wp _ _ _ _ [(0, Value.ref n), (1, Value.int l), (2, Value.int f), (3, Value.int t), (4, Value.int p)] _ _
    obtain ⟨⟨i1, i2, rfl⟩, rfl, hF, h⟩ := h
    obtain ⟨s1, s2, s3, s4, s5, s6, s7, s8, s9, w1, w2, w3, w4⟩ := hF
    by_cases hc : (0 ≤ l ∧ l ≤ 3) ∧ (0 ≤ f ∧ f ≤ t ∧ t < 40) ∧ (0 ≤ p ∧ p ≤ 10000000)
    ·
      have hn0 : ¬ (if (0 ≤ l ∧ l ≤ 3) then (1 : Int32) else 0) = 0 := by rw [if_pos hc.1]; decide
      have hn1 : ¬ (if (0 ≤ f ∧ f ≤ t ∧ t < 40) then (1 : Int32) else 0) = 0 := by rw [if_pos hc.2.1]; decide
      have hn2 : ¬ (if (0 ≤ p ∧ p ≤ 10000000) then (1 : Int32) else 0) = 0 := by rw [if_pos hc.2.2]; decide
      have e : a_live l f t p = _ := if_pos hc
      rw [e] at h
      repeat' (first | apply And.intro | exact rfl | (intro hx; with_reducible exact absurd hx hn0) | (intro hx; with_reducible exact absurd hx hn1) | (intro hx; with_reducible exact absurd hx hn2) | intro hx | (refine Exists.intro _ (And.intro rfl ?_)))
      all_goals try first | (with_reducible change am_tI _ _) | (change Ret _ _) | (change Ret _ _ _) | (change Exists _)
      all_goals try dsimp only at *
      all_goals try exact absurd ‹(1000 : Int64) = 0› (by decide)
      all_goals first
        | exact h _ (by repeat (first | exact am_ch.rf | refine am_ch.wI ?_ (by show (_ : Nat) < 200; decide) | refine am_ch.rput ?_ (fun _ => by show (_ : Nat) < 200; decide) | refine am_ch.radd ?_ (fun _ => by show (_ : Nat) < 200; decide) (by show (_ : Nat) < 200; decide) | refine am_ch.lay ?_ (fun _ => by show (_ : Nat) < 200; decide) | refine am_ch.wIc ?_ (by show (_ : Nat) < 200; decide)))
        | exact am_rI (h _ (by repeat (first | exact am_ch.rf | refine am_ch.wI ?_ (by show (_ : Nat) < 200; decide) | refine am_ch.rput ?_ (fun _ => by show (_ : Nat) < 200; decide) | refine am_ch.radd ?_ (fun _ => by show (_ : Nat) < 200; decide) (by show (_ : Nat) < 200; decide) | refine am_ch.lay ?_ (fun _ => by show (_ : Nat) < 200; decide) | refine am_ch.wIc ?_ (by show (_ : Nat) < 200; decide)))) (by first | rfl | (simp only [s1, s2, s3, s4, s5, s6]; done) | exact s1.symm | exact s3.symm | exact s5.symm | exact s6.symm)
        | exact ⟨i1, i2, rfl⟩
        | (clear h; decide)
        | (clear h; omega)
    ·
      have e : a_live l f t p = _ := if_neg hc
      rw [e] at h
      repeat' (first | apply And.intro | exact rfl | intro hx | (refine Exists.intro _ (And.intro rfl ?_)))
      all_goals try first | (with_reducible change am_tI _ _) | (change Ret _ _) | (change Ret _ _ _) | (change Exists _)
      all_goals try dsimp only at *
      all_goals try exact absurd ‹(1000 : Int64) = 0› (by decide)
      all_goals first
        | exact h _ am_ch.rf
        | exact ⟨i1, i2, rfl⟩
        | (exfalso; clear h e; refine hc ?_; simp only [am_b0, Classical.not_not, am_isNum, am_isN] at *; first | (simp only [*, and_self, true_and]; done) | (simp only [*, and_self, true_and]; decide))
  · exact h.elim
theorem wd_773 : Cond.methodLink "LearnLoans" 217 yX7_isChance ∈ am_ws := am_wsi (List.mem_of_getElem? (i := 773) (by decide +kernel)) (by decide +kernel)
theorem wd_774 : Cond.static yX7_isChance ∈ am_ws := am_wsi (List.mem_of_getElem? (i := 774) (by decide +kernel)) (by decide +kernel)
theorem wd_775 : Cond.code yX7_isChance cX7_isChance 1 (some .boolean) ∈ am_ws := am_wsi (List.mem_of_getElem? (i := 775) (by decide +kernel)) (by decide +kernel)
theorem wd_223 : Cond.fieldLink "LearnLoans" 220 "LearnLoans$House" "chances" "[I" ∈ am_ws := am_wsi (List.mem_of_getElem? (i := 223) (by decide +kernel)) (by decide +kernel)
theorem dX7_chances_0 : decode cX7_chances 0 = .ok (.iload_n 1, 1) := by decide +kernel
theorem dX7_chances_1 : decode cX7_chances 1 = .ok (.iconst 0, 1) := by decide +kernel
theorem dX7_chances_2 : decode cX7_chances 2 = .ok (.iconst 2, 1) := by decide +kernel
theorem dX7_chances_3 : decode cX7_chances 3 = .ok (.invokestatic 55, 3) := by decide +kernel
theorem dX7_chances_6 : decode cX7_chances 6 = .ok (.ifCond .eq 17, 3) := by decide +kernel
theorem dX7_chances_9 : decode cX7_chances 9 = .ok (.iload_n 2, 1) := by decide +kernel
theorem dX7_chances_10 : decode cX7_chances 10 = .ok (.invokestatic 217, 3) := by decide +kernel
theorem dX7_chances_13 : decode cX7_chances 13 = .ok (.ifCond .eq 10, 3) := by decide +kernel
theorem dX7_chances_16 : decode cX7_chances 16 = .ok (.iload_n 3, 1) := by decide +kernel
theorem dX7_chances_17 : decode cX7_chances 17 = .ok (.invokestatic 217, 3) := by decide +kernel
theorem dX7_chances_20 : decode cX7_chances 20 = .ok (.ifCond .ne 6, 3) := by decide +kernel
theorem dX7_chances_23 : decode cX7_chances 23 = .ok (.bipush (-2), 2) := by decide +kernel
theorem dX7_chances_25 : decode cX7_chances 25 = .ok (.ireturn, 1) := by decide +kernel
theorem dX7_chances_26 : decode cX7_chances 26 = .ok (.iload 4, 2) := by decide +kernel
theorem dX7_chances_28 : decode cX7_chances 28 = .ok (.invokestatic 217, 3) := by decide +kernel
theorem dX7_chances_31 : decode cX7_chances 31 = .ok (.ifCond .eq 25, 3) := by decide +kernel
theorem dX7_chances_34 : decode cX7_chances 34 = .ok (.iload 5, 2) := by decide +kernel
theorem dX7_chances_36 : decode cX7_chances 36 = .ok (.invokestatic 217, 3) := by decide +kernel
theorem dX7_chances_39 : decode cX7_chances 39 = .ok (.ifCond .eq 17, 3) := by decide +kernel
theorem dX7_chances_42 : decode cX7_chances 42 = .ok (.iload_n 2, 1) := by decide +kernel
theorem dX7_chances_43 : decode cX7_chances 43 = .ok (.iload_n 3, 1) := by decide +kernel
theorem dX7_chances_44 : decode cX7_chances 44 = .ok (.iadd, 1) := by decide +kernel
theorem dX7_chances_45 : decode cX7_chances 45 = .ok (.iload 4, 2) := by decide +kernel
theorem dX7_chances_47 : decode cX7_chances 47 = .ok (.iadd, 1) := by decide +kernel
theorem dX7_chances_48 : decode cX7_chances 48 = .ok (.iload 5, 2) := by decide +kernel
theorem dX7_chances_50 : decode cX7_chances 50 = .ok (.iadd, 1) := by decide +kernel
theorem dX7_chances_51 : decode cX7_chances 51 = .ok (.bipush 10, 2) := by decide +kernel
theorem dX7_chances_53 : decode cX7_chances 53 = .ok (.if_icmp .eq 6, 3) := by decide +kernel
theorem dX7_chances_56 : decode cX7_chances 56 = .ok (.bipush (-2), 2) := by decide +kernel
theorem dX7_chances_58 : decode cX7_chances 58 = .ok (.ireturn, 1) := by decide +kernel
theorem dX7_chances_59 : decode cX7_chances 59 = .ok (.iload_n 1, 1) := by decide +kernel
theorem dX7_chances_60 : decode cX7_chances 60 = .ok (.iconst 4, 1) := by decide +kernel
theorem dX7_chances_61 : decode cX7_chances 61 = .ok (.imul, 1) := by decide +kernel
theorem dX7_chances_62 : decode cX7_chances 62 = .ok (.istore 6, 2) := by decide +kernel
theorem dX7_chances_64 : decode cX7_chances 64 = .ok (.aload_n 0, 1) := by decide +kernel
theorem dX7_chances_65 : decode cX7_chances 65 = .ok (.getfield 27, 3) := by decide +kernel
theorem dX7_chances_68 : decode cX7_chances 68 = .ok (.getfield 220, 3) := by decide +kernel
theorem dX7_chances_71 : decode cX7_chances 71 = .ok (.iload 6, 2) := by decide +kernel
theorem dX7_chances_73 : decode cX7_chances 73 = .ok (.iconst 0, 1) := by decide +kernel
theorem dX7_chances_74 : decode cX7_chances 74 = .ok (.iadd, 1) := by decide +kernel
theorem dX7_chances_75 : decode cX7_chances 75 = .ok (.iload_n 2, 1) := by decide +kernel
theorem dX7_chances_76 : decode cX7_chances 76 = .ok (.iastore, 1) := by decide +kernel
theorem dX7_chances_77 : decode cX7_chances 77 = .ok (.aload_n 0, 1) := by decide +kernel
theorem dX7_chances_78 : decode cX7_chances 78 = .ok (.getfield 27, 3) := by decide +kernel
theorem dX7_chances_81 : decode cX7_chances 81 = .ok (.getfield 220, 3) := by decide +kernel
theorem dX7_chances_84 : decode cX7_chances 84 = .ok (.iload 6, 2) := by decide +kernel
theorem dX7_chances_86 : decode cX7_chances 86 = .ok (.iconst 1, 1) := by decide +kernel
theorem dX7_chances_87 : decode cX7_chances 87 = .ok (.iadd, 1) := by decide +kernel
theorem dX7_chances_88 : decode cX7_chances 88 = .ok (.iload_n 3, 1) := by decide +kernel
theorem dX7_chances_89 : decode cX7_chances 89 = .ok (.iastore, 1) := by decide +kernel
theorem dX7_chances_90 : decode cX7_chances 90 = .ok (.aload_n 0, 1) := by decide +kernel
theorem dX7_chances_91 : decode cX7_chances 91 = .ok (.getfield 27, 3) := by decide +kernel
theorem dX7_chances_94 : decode cX7_chances 94 = .ok (.getfield 220, 3) := by decide +kernel
theorem dX7_chances_97 : decode cX7_chances 97 = .ok (.iload 6, 2) := by decide +kernel
theorem dX7_chances_99 : decode cX7_chances 99 = .ok (.iconst 2, 1) := by decide +kernel
theorem dX7_chances_100 : decode cX7_chances 100 = .ok (.iadd, 1) := by decide +kernel
theorem dX7_chances_101 : decode cX7_chances 101 = .ok (.iload 4, 2) := by decide +kernel
theorem dX7_chances_103 : decode cX7_chances 103 = .ok (.iastore, 1) := by decide +kernel
theorem dX7_chances_104 : decode cX7_chances 104 = .ok (.aload_n 0, 1) := by decide +kernel
theorem dX7_chances_105 : decode cX7_chances 105 = .ok (.getfield 27, 3) := by decide +kernel
theorem dX7_chances_108 : decode cX7_chances 108 = .ok (.getfield 220, 3) := by decide +kernel
theorem dX7_chances_111 : decode cX7_chances 111 = .ok (.iload 6, 2) := by decide +kernel
theorem dX7_chances_113 : decode cX7_chances 113 = .ok (.iconst 3, 1) := by decide +kernel
theorem dX7_chances_114 : decode cX7_chances 114 = .ok (.iadd, 1) := by decide +kernel
theorem dX7_chances_115 : decode cX7_chances 115 = .ok (.iload 5, 2) := by decide +kernel
theorem dX7_chances_117 : decode cX7_chances 117 = .ok (.iastore, 1) := by decide +kernel
theorem dX7_chances_118 : decode cX7_chances 118 = .ok (.iconst 1, 1) := by decide +kernel
theorem dX7_chances_119 : decode cX7_chances 119 = .ok (.ireturn, 1) := by decide +kernel
def kX7_chances (live : am_E) (Ret : am_R) : am_code := [(0, am_iload 1 1), (1, am_const (.int 0) 2), (2, am_const (.int 2) 3), (3, am_callS live 3 TX7_within 6), (6, am_if1 (fun x => x = 0) 23 9), (9, am_iload 2 10), (10, am_callS live 1 TX7_isChance 13), (13, am_if1 (fun x => x = 0) 23 16), (16, am_iload 3 17), (17, am_callS live 1 TX7_isChance 20), (20, am_if1 (fun x => x = 0) 23 26), (23, am_const (.int (-2)) 25), (25, am_retI Ret), (26, am_iload 4 28), (28, am_callS live 1 TX7_isChance 31), (31, am_if1 (fun x => x = 0) 56 34), (34, am_iload 5 36), (36, am_callS live 1 TX7_isChance 39), (39, am_if1 (fun x => x = 0) 56 42), (42, am_iload 2 43), (43, am_iload 3 44), (44, am_i2 (fun x y => x + y) 45), (45, am_iload 4 47), (47, am_i2 (fun x y => x + y) 48), (48, am_iload 5 50), (50, am_i2 (fun x y => x + y) 51), (51, am_const (.int 10) 53), (53, am_if2 (fun x y => x = y) 59 56), (56, am_const (.int (-2)) 58), (58, am_retI Ret), (59, am_iload 1 60), (60, am_const (.int 4) 61), (61, am_i2 (fun x y => x * y) 62), (62, am_istore 6 7 64), (64, am_aload 0 65), (65, am_getR live 7 0 68), (68, am_getR live 0 10 71), (71, am_iload 6 73), (73, am_const (.int 0) 74), (74, am_i2 (fun x y => x + y) 75), (75, am_iload 2 76), (76, am_ast live 0 77), (77, am_aload 0 78), (78, am_getR live 7 0 81), (81, am_getR live 0 10 84), (84, am_iload 6 86), (86, am_const (.int 1) 87), (87, am_i2 (fun x y => x + y) 88), (88, am_iload 3 89), (89, am_ast live 0 90), (90, am_aload 0 91), (91, am_getR live 7 0 94), (94, am_getR live 0 10 97), (97, am_iload 6 99), (99, am_const (.int 2) 100), (100, am_i2 (fun x y => x + y) 101), (101, am_iload 4 103), (103, am_ast live 0 104), (104, am_aload 0 105), (105, am_getR live 7 0 108), (108, am_getR live 0 10 111), (111, am_iload 6 113), (113, am_const (.int 3) 114), (114, am_i2 (fun x y => x + y) 115), (115, am_iload 5 117), (117, am_ast live 0 118), (118, am_const (.int 1) 119), (119, am_retI Ret)]
theorem koX7_chances (live : am_E) (Ret : am_R) : ∀ q ∈ kX7_chances live Ret, am_ok RX7 cX7_chances 7 (some .int) 1 22 live Ret q.1 q.2 :=
  am_kc (ak_iload_n dX7_chances_0 rfl rfl) <|
  am_kc (ak_iconst dX7_chances_1 (by decide +kernel) rfl) <|
  am_kc (ak_iconst dX7_chances_2 (by decide +kernel) rfl) <|
  am_kc (ak_callS metX7_within ⟨rfl, by decide +kernel, by decide +kernel, by decide +kernel⟩ (am_w4 wd_418 wd_419 wd_58 wd_420) (by decide) dX7_chances_3 rfl) <|
  am_kc (ak_if_eq dX7_chances_6 (by decide +kernel) rfl) <|
  am_kc (ak_iload_n dX7_chances_9 rfl rfl) <|
  am_kc (ak_callS metX7_isChance ⟨rfl, by decide +kernel, by decide +kernel, by decide +kernel⟩ (am_w4 wd_773 wd_774 wd_58 wd_775) (by decide) dX7_chances_10 rfl) <|
  am_kc (ak_if_eq dX7_chances_13 (by decide +kernel) rfl) <|
  am_kc (ak_iload_n dX7_chances_16 rfl rfl) <|
  am_kc (ak_callS metX7_isChance ⟨rfl, by decide +kernel, by decide +kernel, by decide +kernel⟩ (am_w4 wd_773 wd_774 wd_58 wd_775) (by decide) dX7_chances_17 rfl) <|
  am_kc (ak_if_ne dX7_chances_20 (by decide +kernel) rfl) <|
  am_kc (ak_bipush dX7_chances_23 (by decide +kernel) rfl) <|
  am_kc (ak_retI dX7_chances_25) <|
  am_kc (ak_iload dX7_chances_26 rfl) <|
  am_kc (ak_callS metX7_isChance ⟨rfl, by decide +kernel, by decide +kernel, by decide +kernel⟩ (am_w4 wd_773 wd_774 wd_58 wd_775) (by decide) dX7_chances_28 rfl) <|
  am_kc (ak_if_eq dX7_chances_31 (by decide +kernel) rfl) <|
  am_kc (ak_iload dX7_chances_34 rfl) <|
  am_kc (ak_callS metX7_isChance ⟨rfl, by decide +kernel, by decide +kernel, by decide +kernel⟩ (am_w4 wd_773 wd_774 wd_58 wd_775) (by decide) dX7_chances_36 rfl) <|
  am_kc (ak_if_eq dX7_chances_39 (by decide +kernel) rfl) <|
  am_kc (ak_iload_n dX7_chances_42 rfl rfl) <|
  am_kc (ak_iload_n dX7_chances_43 rfl rfl) <|
  am_kc (ak_iadd dX7_chances_44 rfl) <|
  am_kc (ak_iload dX7_chances_45 rfl) <|
  am_kc (ak_iadd dX7_chances_47 rfl) <|
  am_kc (ak_iload dX7_chances_48 rfl) <|
  am_kc (ak_iadd dX7_chances_50 rfl) <|
  am_kc (ak_bipush dX7_chances_51 (by decide +kernel) rfl) <|
  am_kc (ak_icmp_eq dX7_chances_53 (by decide +kernel) rfl) <|
  am_kc (ak_bipush dX7_chances_56 (by decide +kernel) rfl) <|
  am_kc (ak_retI dX7_chances_58) <|
  am_kc (ak_iload_n dX7_chances_59 rfl rfl) <|
  am_kc (ak_iconst dX7_chances_60 (by decide +kernel) rfl) <|
  am_kc (ak_imul dX7_chances_61 rfl) <|
  am_kc (ak_istore dX7_chances_62 rfl) <|
  am_kc (ak_aload_n dX7_chances_64 rfl rfl) <|
  am_kc (ak_getR (C := RX7) (T := TX7) (N := 4) rfl inX7w (by decide) rfl rfl rfl wd_390 dX7_chances_65 rfl) <|
  am_kc (ak_getR (C := RX0) (T := TX0) (N := 13) rfl inX0w (by decide) rfl rfl rfl wd_223 dX7_chances_68 rfl) <|
  am_kc (ak_iload dX7_chances_71 rfl) <|
  am_kc (ak_iconst dX7_chances_73 (by decide +kernel) rfl) <|
  am_kc (ak_iadd dX7_chances_74 rfl) <|
  am_kc (ak_iload_n dX7_chances_75 rfl rfl) <|
  am_kc (ak_iast (t := 0) (fun _ => rfl) rfl dX7_chances_76 rfl) <|
  am_kc (ak_aload_n dX7_chances_77 rfl rfl) <|
  am_kc (ak_getR (C := RX7) (T := TX7) (N := 4) rfl inX7w (by decide) rfl rfl rfl wd_390 dX7_chances_78 rfl) <|
  am_kc (ak_getR (C := RX0) (T := TX0) (N := 13) rfl inX0w (by decide) rfl rfl rfl wd_223 dX7_chances_81 rfl) <|
  am_kc (ak_iload dX7_chances_84 rfl) <|
  am_kc (ak_iconst dX7_chances_86 (by decide +kernel) rfl) <|
  am_kc (ak_iadd dX7_chances_87 rfl) <|
  am_kc (ak_iload_n dX7_chances_88 rfl rfl) <|
  am_kc (ak_iast (t := 0) (fun _ => rfl) rfl dX7_chances_89 rfl) <|
  am_kc (ak_aload_n dX7_chances_90 rfl rfl) <|
  am_kc (ak_getR (C := RX7) (T := TX7) (N := 4) rfl inX7w (by decide) rfl rfl rfl wd_390 dX7_chances_91 rfl) <|
  am_kc (ak_getR (C := RX0) (T := TX0) (N := 13) rfl inX0w (by decide) rfl rfl rfl wd_223 dX7_chances_94 rfl) <|
  am_kc (ak_iload dX7_chances_97 rfl) <|
  am_kc (ak_iconst dX7_chances_99 (by decide +kernel) rfl) <|
  am_kc (ak_iadd dX7_chances_100 rfl) <|
  am_kc (ak_iload dX7_chances_101 rfl) <|
  am_kc (ak_iast (t := 0) (fun _ => rfl) rfl dX7_chances_103 rfl) <|
  am_kc (ak_aload_n dX7_chances_104 rfl rfl) <|
  am_kc (ak_getR (C := RX7) (T := TX7) (N := 4) rfl inX7w (by decide) rfl rfl rfl wd_390 dX7_chances_105 rfl) <|
  am_kc (ak_getR (C := RX0) (T := TX0) (N := 13) rfl inX0w (by decide) rfl rfl rfl wd_223 dX7_chances_108 rfl) <|
  am_kc (ak_iload dX7_chances_111 rfl) <|
  am_kc (ak_iconst dX7_chances_113 (by decide +kernel) rfl) <|
  am_kc (ak_iadd dX7_chances_114 rfl) <|
  am_kc (ak_iload dX7_chances_115 rfl) <|
  am_kc (ak_iast (t := 0) (fun _ => rfl) rfl dX7_chances_117 rfl) <|
  am_kc (ak_iconst dX7_chances_118 (by decide +kernel) rfl) <|
  am_kc (ak_retI dX7_chances_119) <| am_kn
def TX7_chances : am_T := fun live as M R => match as with
  | [.ref n, .int s, .int w, .int g, .int a, .int d] => am_mn live ∧ n = 0 ∧ am_F7 M ∧ ∀ M', am_ch am_lo M M' → R (some (.int (a_chances s w g a d))) M'
  | _ => False
set_option maxRecDepth 100000 in
set_option maxHeartbeats 4000000 in
theorem metX7_chances : am_Met yX7_chances cX7_chances 7 (some .int) (1) (22) TX7_chances := by
  refine am_met (own := RX7) (by decide +kernel) rfl kX7_chances koX7_chances 300 (fun _ _ _ _ _ => none) (fun live as M Ret h => ?_) (fun _ _ _ _ _ _ _ _ hI => by cases hI)
  unfold TX7_chances at h
  split at h
  · next n s w g a d =>
    refine ⟨Nat.le_of_ble_eq_true rfl, ?_⟩
    change am_wp _ _ _ _ [(0, Value.ref n), (1, Value.int s), (2, Value.int w), (3, Value.int g), (4, Value.int a), (5, Value.int d)] _ _
    obtain ⟨⟨i1, i2, rfl⟩, rfl, hF, h⟩ := h
    obtain ⟨s1, s2, s3, s4, s5, s6, s7, s8, s9, w1, w2, w3, w4⟩ := hF
    by_cases hc : (0 ≤ s ∧ s ≤ 2) ∧ (0 ≤ w ∧ w ≤ 10) ∧ (0 ≤ g ∧ g ≤ 10) ∧ (0 ≤ a ∧ a ≤ 10) ∧ (0 ≤ d ∧ d ≤ 10) ∧ w + g + a + d = 10
    ·
      have hn0 : ¬ (if (0 ≤ s ∧ s ≤ 2) then (1 : Int32) else 0) = 0 := by rw [if_pos hc.1]; decide
      have hn1 : ¬ (if (0 ≤ w ∧ w ≤ 10) then (1 : Int32) else 0) = 0 := by rw [if_pos hc.2.1]; decide
      have hn2 : ¬ (if (0 ≤ g ∧ g ≤ 10) then (1 : Int32) else 0) = 0 := by rw [if_pos hc.2.2.1]; decide
      have hn3 : ¬ (if (0 ≤ a ∧ a ≤ 10) then (1 : Int32) else 0) = 0 := by rw [if_pos hc.2.2.2.1]; decide
      have hn4 : ¬ (if (0 ≤ d ∧ d ≤ 10) then (1 : Int32) else 0) = 0 := by rw [if_pos hc.2.2.2.2.1]; decide
      have hn5 := hc.2.2.2.2.2
      have e : a_chances s w g a d = _ := if_pos hc
      rw [e] at h
      have hs : s = 0 ∨ s = 1 ∨ s = 2 := by
        have z := hc.1
        simp only [i_le, i_eq, Int32.reduceToInt] at z ⊢
        omega
      rcases hs with rfl | rfl | rfl
      all_goals
        repeat' (first | apply And.intro | exact rfl | (intro hx; with_reducible exact absurd hx hn0) | (intro hx; with_reducible exact absurd hx hn1) | (intro hx; with_reducible exact absurd hx hn2) | (intro hx; with_reducible exact absurd hx hn3) | (intro hx; with_reducible exact absurd hx hn4) | (intro hx; with_reducible exact absurd hn5 hx) | (intro hx; exact absurd hx (by decide)) | (intro hx; exact absurd (by decide) hx) | decide | intro hx | (refine Exists.intro _ (And.intro rfl ?_)))
        all_goals try first | (with_reducible change am_tI _ _) | (change Ret _ _) | (change Ret _ _ _) | (change Exists _)
        all_goals try dsimp only at *
        all_goals try exact absurd ‹(1000 : Int64) = 0› (by decide)
      all_goals first
        | exact h _ (by repeat (first | exact am_ch.rf | refine am_ch.wI ?_ (by show (_ : Nat) < 200; decide) | refine am_ch.rput ?_ (fun _ => by show (_ : Nat) < 200; decide) | refine am_ch.radd ?_ (fun _ => by show (_ : Nat) < 200; decide) (by show (_ : Nat) < 200; decide) | refine am_ch.lay ?_ (fun _ => by show (_ : Nat) < 200; decide) | refine am_ch.wIc ?_ (by show (_ : Nat) < 200; decide)))
        | exact am_rI (h _ (by repeat (first | exact am_ch.rf | refine am_ch.wI ?_ (by show (_ : Nat) < 200; decide) | refine am_ch.rput ?_ (fun _ => by show (_ : Nat) < 200; decide) | refine am_ch.radd ?_ (fun _ => by show (_ : Nat) < 200; decide) (by show (_ : Nat) < 200; decide) | refine am_ch.lay ?_ (fun _ => by show (_ : Nat) < 200; decide) | refine am_ch.wIc ?_ (by show (_ : Nat) < 200; decide)))) (by first | rfl | (simp only [s1, s2, s3, s4, s5, s6]; done) | exact s1.symm | exact s3.symm | exact s5.symm | exact s6.symm)
        | exact ⟨i1, i2, rfl⟩
        | (clear h; decide)
        | (clear h; omega)
    ·
      have e : a_chances s w g a d = _ := if_neg hc
      rw [e] at h
      repeat' (first | apply And.intro | exact rfl | intro hx | (refine Exists.intro _ (And.intro rfl ?_)))
      all_goals try first | (with_reducible change am_tI _ _) | (change Ret _ _) | (change Ret _ _ _) | (change Exists _)
      all_goals try dsimp only at *
      all_goals try exact absurd ‹(1000 : Int64) = 0› (by decide)
      all_goals first
        | exact h _ am_ch.rf
        | exact ⟨i1, i2, rfl⟩
        | (exfalso; clear h e; refine hc ?_; simp only [am_b0, Classical.not_not, am_isNum, am_isN] at *; first | (simp only [*, and_self, true_and]; done) | (simp only [*, and_self, true_and]; decide))
  · exact h.elim
theorem dX7_untell_0 : decode cX7_untell 0 = .ok (.aload_n 0, 1) := by decide +kernel
theorem dX7_untell_1 : decode cX7_untell 1 = .ok (.getfield 27, 3) := by decide +kernel
theorem dX7_untell_4 : decode cX7_untell 4 = .ok (.getfield 243, 3) := by decide +kernel
theorem dX7_untell_7 : decode cX7_untell 7 = .ok (.istore_n 1, 1) := by decide +kernel
theorem dX7_untell_8 : decode cX7_untell 8 = .ok (.aload_n 0, 1) := by decide +kernel
theorem dX7_untell_9 : decode cX7_untell 9 = .ok (.getfield 27, 3) := by decide +kernel
theorem dX7_untell_12 : decode cX7_untell 12 = .ok (.iconst 0, 1) := by decide +kernel
theorem dX7_untell_13 : decode cX7_untell 13 = .ok (.putfield 243, 3) := by decide +kernel
theorem dX7_untell_16 : decode cX7_untell 16 = .ok (.iload_n 1, 1) := by decide +kernel
theorem dX7_untell_17 : decode cX7_untell 17 = .ok (.ireturn, 1) := by decide +kernel
def kX7_untell (live : am_E) (Ret : am_R) : am_code := [(0, am_aload 0 1), (1, am_getR live 7 0 4), (4, am_getI live 0 12 7), (7, am_istore 1 2 8), (8, am_aload 0 9), (9, am_getR live 7 0 12), (12, am_const (.int 0) 13), (13, am_putI live 0 12 16), (16, am_iload 1 17), (17, am_retI Ret)]
theorem koX7_untell (live : am_E) (Ret : am_R) : ∀ q ∈ kX7_untell live Ret, am_ok RX7 cX7_untell 2 (some .int) 0 0 live Ret q.1 q.2 :=
  am_kc (ak_aload_n dX7_untell_0 rfl rfl) <|
  am_kc (ak_getR (C := RX7) (T := TX7) (N := 4) rfl inX7w (by decide) rfl rfl rfl wd_390 dX7_untell_1 rfl) <|
  am_kc (ak_getI (C := RX0) (T := TX0) (N := 13) rfl inX0w (by decide) rfl rfl rfl wd_227 dX7_untell_4 rfl) <|
  am_kc (ak_istore_n dX7_untell_7 rfl rfl) <|
  am_kc (ak_aload_n dX7_untell_8 rfl rfl) <|
  am_kc (ak_getR (C := RX7) (T := TX7) (N := 4) rfl inX7w (by decide) rfl rfl rfl wd_390 dX7_untell_9 rfl) <|
  am_kc (ak_iconst dX7_untell_12 (by decide +kernel) rfl) <|
  am_kc (ak_putI (C := RX0) (T := TX0) (N := 13) rfl inX0w tyX0_ok nmX0 (by decide) rfl rfl rfl rfl (by decide +kernel) wd_227 dX7_untell_13 rfl) <|
  am_kc (ak_iload_n dX7_untell_16 rfl rfl) <|
  am_kc (ak_retI dX7_untell_17) <| am_kn
def TX7_untell : am_T := fun live as M R => match as with
  | [.ref n] => am_mn live ∧ n = 0 ∧ am_F7 M ∧ ∀ M', am_ch am_lo M M' → R (some (.int (a_untell))) M'
  | _ => False
set_option maxRecDepth 100000 in
set_option maxHeartbeats 4000000 in
theorem metX7_untell : am_Met yX7_untell cX7_untell 2 (some .int) (0) (0) TX7_untell := by
  refine am_met (own := RX7) (by decide +kernel) rfl kX7_untell koX7_untell 300 (fun _ _ _ _ _ => none) (fun live as M Ret h => ?_) (fun _ _ _ _ _ _ _ _ hI => by cases hI)
  unfold TX7_untell at h
  split at h
  · next n =>
    refine ⟨Nat.le_of_ble_eq_true rfl, ?_⟩
    change am_wp _ _ _ _ [(0, Value.ref n)] _ _
    obtain ⟨⟨i1, i2, rfl⟩, rfl, hF, h⟩ := h
    obtain ⟨s1, s2, s3, s4, s5, s6, s7, s8, s9, w1, w2, w3, w4⟩ := hF
    repeat' (first | apply And.intro | exact rfl | intro hx | (refine Exists.intro _ (And.intro rfl ?_)))
    all_goals try first | (with_reducible change am_tI _ _) | (change Ret _ _) | (change Ret _ _ _) | (change Exists _)
    all_goals try dsimp only at *
    all_goals try exact absurd ‹(1000 : Int64) = 0› (by decide)
    all_goals first
      | (refine am_rI (h _ (by repeat (first | exact am_ch.rf | refine am_ch.wI ?_ (by show (_ : Nat) < 200; decide) | refine am_ch.rput ?_ (fun _ => by show (_ : Nat) < 200; decide) | refine am_ch.radd ?_ (fun _ => by show (_ : Nat) < 200; decide) (by show (_ : Nat) < 200; decide) | refine am_ch.lay ?_ (fun _ => by show (_ : Nat) < 200; decide) | refine am_ch.wIc ?_ (by show (_ : Nat) < 200; decide)))) ?_; clear h; try simp only [am_wI_1, s6, am_b0, a_untell] at *; try first | rfl | (simp; done) | grind; done)
      | (clear h; simp only [am_b0, Classical.not_not, i_le, i_lt, s6, Int32.toInt_zero, Int32.reduceToInt] at *;  omega)
      | (clear h; simp only [s6, am_b0, Classical.not_not] at *; grind)
  · exact h.elim
