/-! p1: calls -/
theorem wd_106 : Cond.fieldLink "LearnLoans" 48 "LearnLoans$People" "began" "[I" ∈ am_ws := am_wsi (List.mem_of_getElem? (i := 106) (by decide +kernel)) (by decide +kernel)
theorem dX7_person_0 : decode cX7_person 0 = .ok (.iload_n 1, 1) := by decide +kernel
theorem dX7_person_1 : decode cX7_person 1 = .ok (.invokestatic 34, 3) := by decide +kernel
theorem dX7_person_4 : decode cX7_person 4 = .ok (.ifCond .ne 6, 3) := by decide +kernel
theorem dX7_person_7 : decode cX7_person 7 = .ok (.bipush (-2), 2) := by decide +kernel
theorem dX7_person_9 : decode cX7_person 9 = .ok (.ireturn, 1) := by decide +kernel
theorem dX7_person_10 : decode cX7_person 10 = .ok (.aload_n 0, 1) := by decide +kernel
theorem dX7_person_11 : decode cX7_person 11 = .ok (.getfield 27, 3) := by decide +kernel
theorem dX7_person_14 : decode cX7_person 14 = .ok (.getfield 38, 3) := by decide +kernel
theorem dX7_person_17 : decode cX7_person 17 = .ok (.astore_n 2, 1) := by decide +kernel
theorem dX7_person_18 : decode cX7_person 18 = .ok (.aload_n 2, 1) := by decide +kernel
theorem dX7_person_19 : decode cX7_person 19 = .ok (.getfield 42, 3) := by decide +kernel
theorem dX7_person_22 : decode cX7_person 22 = .ok (.bipush 12, 2) := by decide +kernel
theorem dX7_person_24 : decode cX7_person 24 = .ok (.if_icmp .lt 6, 3) := by decide +kernel
theorem dX7_person_27 : decode cX7_person 27 = .ok (.bipush (-4), 2) := by decide +kernel
theorem dX7_person_29 : decode cX7_person 29 = .ok (.ireturn, 1) := by decide +kernel
theorem dX7_person_30 : decode cX7_person 30 = .ok (.aload_n 2, 1) := by decide +kernel
theorem dX7_person_31 : decode cX7_person 31 = .ok (.getfield 48, 3) := by decide +kernel
theorem dX7_person_34 : decode cX7_person 34 = .ok (.aload_n 2, 1) := by decide +kernel
theorem dX7_person_35 : decode cX7_person 35 = .ok (.getfield 42, 3) := by decide +kernel
theorem dX7_person_38 : decode cX7_person 38 = .ok (.iload_n 1, 1) := by decide +kernel
theorem dX7_person_39 : decode cX7_person 39 = .ok (.iastore, 1) := by decide +kernel
theorem dX7_person_40 : decode cX7_person 40 = .ok (.aload_n 2, 1) := by decide +kernel
theorem dX7_person_41 : decode cX7_person 41 = .ok (.dup, 1) := by decide +kernel
theorem dX7_person_42 : decode cX7_person 42 = .ok (.getfield 42, 3) := by decide +kernel
theorem dX7_person_45 : decode cX7_person 45 = .ok (.iconst 1, 1) := by decide +kernel
theorem dX7_person_46 : decode cX7_person 46 = .ok (.iadd, 1) := by decide +kernel
theorem dX7_person_47 : decode cX7_person 47 = .ok (.putfield 42, 3) := by decide +kernel
theorem dX7_person_50 : decode cX7_person 50 = .ok (.aload_n 2, 1) := by decide +kernel
theorem dX7_person_51 : decode cX7_person 51 = .ok (.getfield 42, 3) := by decide +kernel
theorem dX7_person_54 : decode cX7_person 54 = .ok (.iconst 1, 1) := by decide +kernel
theorem dX7_person_55 : decode cX7_person 55 = .ok (.isub, 1) := by decide +kernel
theorem dX7_person_56 : decode cX7_person 56 = .ok (.ireturn, 1) := by decide +kernel
def kX7_person (live : am_E) (Ret : am_R) : am_code := [(0, am_iload 1 1), (1, am_callS live 1 TX7_isYear 4), (4, am_if1 (fun x => x = 0) 7 10), (7, am_const (.int (-2)) 9), (9, am_retI Ret), (10, am_aload 0 11), (11, am_getR live 7 0 14), (14, am_getR live 0 0 17), (17, am_astore 2 3 18), (18, am_aload 2 19), (19, am_getI live 2 7 22), (22, am_const (.int 12) 24), (24, am_if2 (fun x y => x < y) 30 27), (27, am_const (.int (-4)) 29), (29, am_retI Ret), (30, am_aload 2 31), (31, am_getR live 2 0 34), (34, am_aload 2 35), (35, am_getI live 2 7 38), (38, am_iload 1 39), (39, am_ast live 0 40), (40, am_aload 2 41), (41, am_dup 42), (42, am_getI live 2 7 45), (45, am_const (.int 1) 46), (46, am_i2 (fun x y => x + y) 47), (47, am_putI live 2 7 50), (50, am_aload 2 51), (51, am_getI live 2 7 54), (54, am_const (.int 1) 55), (55, am_i2 (fun x y => x - y) 56), (56, am_retI Ret)]
theorem koX7_person (live : am_E) (Ret : am_R) : ∀ q ∈ kX7_person live Ret, am_ok RX7 cX7_person 3 (some .int) 1 20 live Ret q.1 q.2 :=
  am_kc (ak_iload_n dX7_person_0 rfl rfl) <|
  am_kc (ak_callS metX7_isYear ⟨rfl, by decide +kernel, by decide +kernel, by decide +kernel⟩ (am_w4 wd_407 wd_408 wd_58 wd_409) (by decide) dX7_person_1 rfl) <|
  am_kc (ak_if_ne dX7_person_4 (by decide +kernel) rfl) <|
  am_kc (ak_bipush dX7_person_7 (by decide +kernel) rfl) <|
  am_kc (ak_retI dX7_person_9) <|
  am_kc (ak_aload_n dX7_person_10 rfl rfl) <|
  am_kc (ak_getR (C := RX7) (T := TX7) (N := 4) rfl inX7w (by decide) rfl rfl rfl wd_390 dX7_person_11 rfl) <|
  am_kc (ak_getR (C := RX0) (T := TX0) (N := 13) rfl inX0w (by decide) rfl rfl rfl wd_194 dX7_person_14 rfl) <|
  am_kc (ak_astore_n dX7_person_17 rfl rfl) <|
  am_kc (ak_aload_n dX7_person_18 rfl rfl) <|
  am_kc (ak_getI (C := RX2) (T := TX2) (N := 8) rfl inX2w (by decide) rfl rfl rfl wd_121 dX7_person_19 rfl) <|
  am_kc (ak_bipush dX7_person_22 (by decide +kernel) rfl) <|
  am_kc (ak_icmp_lt dX7_person_24 (by decide +kernel) rfl) <|
  am_kc (ak_bipush dX7_person_27 (by decide +kernel) rfl) <|
  am_kc (ak_retI dX7_person_29) <|
  am_kc (ak_aload_n dX7_person_30 rfl rfl) <|
  am_kc (ak_getR (C := RX2) (T := TX2) (N := 8) rfl inX2w (by decide) rfl rfl rfl wd_106 dX7_person_31 rfl) <|
  am_kc (ak_aload_n dX7_person_34 rfl rfl) <|
  am_kc (ak_getI (C := RX2) (T := TX2) (N := 8) rfl inX2w (by decide) rfl rfl rfl wd_121 dX7_person_35 rfl) <|
  am_kc (ak_iload_n dX7_person_38 rfl rfl) <|
  am_kc (ak_iast (t := 0) (fun _ => rfl) rfl dX7_person_39 rfl) <|
  am_kc (ak_aload_n dX7_person_40 rfl rfl) <|
  am_kc (ak_dup dX7_person_41 rfl) <|
  am_kc (ak_getI (C := RX2) (T := TX2) (N := 8) rfl inX2w (by decide) rfl rfl rfl wd_121 dX7_person_42 rfl) <|
  am_kc (ak_iconst dX7_person_45 (by decide +kernel) rfl) <|
  am_kc (ak_iadd dX7_person_46 rfl) <|
  am_kc (ak_putI (C := RX2) (T := TX2) (N := 8) rfl inX2w tyX2_ok nmX2 (by decide) rfl rfl rfl rfl (by decide +kernel) wd_121 dX7_person_47 rfl) <|
  am_kc (ak_aload_n dX7_person_50 rfl rfl) <|
  am_kc (ak_getI (C := RX2) (T := TX2) (N := 8) rfl inX2w (by decide) rfl rfl rfl wd_121 dX7_person_51 rfl) <|
  am_kc (ak_iconst dX7_person_54 (by decide +kernel) rfl) <|
  am_kc (ak_isub dX7_person_55 rfl) <|
  am_kc (ak_retI dX7_person_56) <| am_kn
def TX7_person : am_T := fun live as M R => match as with
  | [.ref n, .int b] => am_mn live ∧ n = 0 ∧ am_F7 M ∧ ∀ M', am_ch am_lo M M' → R (some (.int (a_person b))) M'
  | _ => False
set_option maxRecDepth 100000 in
set_option maxHeartbeats 4000000 in
theorem metX7_person : am_Met yX7_person cX7_person 3 (some .int) (1) (20) TX7_person := by
  refine am_met (own := RX7) (by decide +kernel) rfl kX7_person koX7_person 300 (fun _ _ _ _ _ => none) (fun live as M Ret h => ?_) (fun _ _ _ _ _ _ _ _ hI => by cases hI)
  unfold TX7_person at h
  split at h
  · next n b =>
    refine ⟨Nat.le_of_ble_eq_true rfl, ?_⟩
    change am_wp _ _ _ _ [(0, Value.ref n), (1, Value.int b)] _ _
    obtain ⟨⟨i1, i2, rfl⟩, rfl, hF, h⟩ := h
    obtain ⟨s1, s2, s3, s4, s5, s6, s7, s8, s9, w1, w2, w3, w4⟩ := hF
    have hp : M.1 21 7 < 12 := by rw [s1]; decide
    have l22 : (am_len 22 : Int) = 12 := rfl
    repeat' (first | apply And.intro | exact rfl | (intro hx; with_reducible exact absurd hp hx) | intro hx | (refine Exists.intro _ (And.intro rfl ?_)))
    all_goals try first | (with_reducible change am_tI _ _) | (change Ret _ _) | (change Ret _ _ _) | (change Exists _)
    all_goals try dsimp only at *
    all_goals try exact absurd ‹(1000 : Int64) = 0› (by decide)
    all_goals first
      | (refine am_rI (h _ (by repeat (first | exact am_ch.rf | refine am_ch.wI ?_ (by show (_ : Nat) < 200; decide) | refine am_ch.rput ?_ (fun _ => by show (_ : Nat) < 200; decide) | refine am_ch.radd ?_ (fun _ => by show (_ : Nat) < 200; decide) (by show (_ : Nat) < 200; decide) | refine am_ch.lay ?_ (fun _ => by show (_ : Nat) < 200; decide) | refine am_ch.wIc ?_ (by show (_ : Nat) < 200; decide)))) ?_; clear h; try simp only [am_wI_1, s1, l22, am_b0, a_person] at *; try first | rfl | (simp; done) | grind; done)
      | (clear h; simp only [am_b0, Classical.not_not, i_le, i_lt, s1, l22, Int32.toInt_zero, Int32.reduceToInt] at *;  omega)
      | (clear h; simp only [s1, l22, am_b0, Classical.not_not] at *; grind)
  · exact h.elim
theorem wd_197 : Cond.fieldLink "LearnLoans" 70 "LearnLoans$House" "scales" "[I" ∈ am_ws := am_wsi (List.mem_of_getElem? (i := 197) (by decide +kernel)) (by decide +kernel)
theorem dX7_scale_0 : decode cX7_scale 0 = .ok (.iload_n 1, 1) := by decide +kernel
theorem dX7_scale_1 : decode cX7_scale 1 = .ok (.iconst 0, 1) := by decide +kernel
theorem dX7_scale_2 : decode cX7_scale 2 = .ok (.iconst 3, 1) := by decide +kernel
theorem dX7_scale_3 : decode cX7_scale 3 = .ok (.invokestatic 55, 3) := by decide +kernel
theorem dX7_scale_6 : decode cX7_scale 6 = .ok (.ifCond .eq 14, 3) := by decide +kernel
theorem dX7_scale_9 : decode cX7_scale 9 = .ok (.iload_n 2, 1) := by decide +kernel
theorem dX7_scale_10 : decode cX7_scale 10 = .ok (.iconst 1, 1) := by decide +kernel
theorem dX7_scale_11 : decode cX7_scale 11 = .ok (.sipush 5000, 3) := by decide +kernel
theorem dX7_scale_14 : decode cX7_scale 14 = .ok (.invokestatic 55, 3) := by decide +kernel
theorem dX7_scale_17 : decode cX7_scale 17 = .ok (.ifCond .ne 6, 3) := by decide +kernel
theorem dX7_scale_20 : decode cX7_scale 20 = .ok (.bipush (-2), 2) := by decide +kernel
theorem dX7_scale_22 : decode cX7_scale 22 = .ok (.ireturn, 1) := by decide +kernel
theorem dX7_scale_23 : decode cX7_scale 23 = .ok (.aload_n 0, 1) := by decide +kernel
theorem dX7_scale_24 : decode cX7_scale 24 = .ok (.getfield 27, 3) := by decide +kernel
theorem dX7_scale_27 : decode cX7_scale 27 = .ok (.getfield 70, 3) := by decide +kernel
theorem dX7_scale_30 : decode cX7_scale 30 = .ok (.iload_n 1, 1) := by decide +kernel
theorem dX7_scale_31 : decode cX7_scale 31 = .ok (.iaload, 1) := by decide +kernel
theorem dX7_scale_32 : decode cX7_scale 32 = .ok (.istore_n 3, 1) := by decide +kernel
theorem dX7_scale_33 : decode cX7_scale 33 = .ok (.aload_n 0, 1) := by decide +kernel
theorem dX7_scale_34 : decode cX7_scale 34 = .ok (.getfield 27, 3) := by decide +kernel
theorem dX7_scale_37 : decode cX7_scale 37 = .ok (.getfield 70, 3) := by decide +kernel
theorem dX7_scale_40 : decode cX7_scale 40 = .ok (.iload_n 1, 1) := by decide +kernel
theorem dX7_scale_41 : decode cX7_scale 41 = .ok (.iload_n 2, 1) := by decide +kernel
theorem dX7_scale_42 : decode cX7_scale 42 = .ok (.iastore, 1) := by decide +kernel
theorem dX7_scale_43 : decode cX7_scale 43 = .ok (.iload_n 3, 1) := by decide +kernel
theorem dX7_scale_44 : decode cX7_scale 44 = .ok (.ireturn, 1) := by decide +kernel
def kX7_scale (live : am_E) (Ret : am_R) : am_code := [(0, am_iload 1 1), (1, am_const (.int 0) 2), (2, am_const (.int 3) 3), (3, am_callS live 3 TX7_within 6), (6, am_if1 (fun x => x = 0) 20 9), (9, am_iload 2 10), (10, am_const (.int 1) 11), (11, am_const (.int 5000) 14), (14, am_callS live 3 TX7_within 17), (17, am_if1 (fun x => x = 0) 20 23), (20, am_const (.int (-2)) 22), (22, am_retI Ret), (23, am_aload 0 24), (24, am_getR live 7 0 27), (27, am_getR live 0 1 30), (30, am_iload 1 31), (31, am_ald live 0 32), (32, am_istore 3 4 33), (33, am_aload 0 34), (34, am_getR live 7 0 37), (37, am_getR live 0 1 40), (40, am_iload 1 41), (41, am_iload 2 42), (42, am_ast live 0 43), (43, am_iload 3 44), (44, am_retI Ret)]
theorem koX7_scale (live : am_E) (Ret : am_R) : ∀ q ∈ kX7_scale live Ret, am_ok RX7 cX7_scale 4 (some .int) 1 22 live Ret q.1 q.2 :=
  am_kc (ak_iload_n dX7_scale_0 rfl rfl) <|
  am_kc (ak_iconst dX7_scale_1 (by decide +kernel) rfl) <|
  am_kc (ak_iconst dX7_scale_2 (by decide +kernel) rfl) <|
  am_kc (ak_callS metX7_within ⟨rfl, by decide +kernel, by decide +kernel, by decide +kernel⟩ (am_w4 wd_418 wd_419 wd_58 wd_420) (by decide) dX7_scale_3 rfl) <|
  am_kc (ak_if_eq dX7_scale_6 (by decide +kernel) rfl) <|
  am_kc (ak_iload_n dX7_scale_9 rfl rfl) <|
  am_kc (ak_iconst dX7_scale_10 (by decide +kernel) rfl) <|
  am_kc (ak_sipush dX7_scale_11 (by decide +kernel) rfl) <|
  am_kc (ak_callS metX7_within ⟨rfl, by decide +kernel, by decide +kernel, by decide +kernel⟩ (am_w4 wd_418 wd_419 wd_58 wd_420) (by decide) dX7_scale_14 rfl) <|
  am_kc (ak_if_ne dX7_scale_17 (by decide +kernel) rfl) <|
  am_kc (ak_bipush dX7_scale_20 (by decide +kernel) rfl) <|
  am_kc (ak_retI dX7_scale_22) <|
  am_kc (ak_aload_n dX7_scale_23 rfl rfl) <|
  am_kc (ak_getR (C := RX7) (T := TX7) (N := 4) rfl inX7w (by decide) rfl rfl rfl wd_390 dX7_scale_24 rfl) <|
  am_kc (ak_getR (C := RX0) (T := TX0) (N := 13) rfl inX0w (by decide) rfl rfl rfl wd_197 dX7_scale_27 rfl) <|
  am_kc (ak_iload_n dX7_scale_30 rfl rfl) <|
  am_kc (ak_iald (t := 0) (fun _ => rfl) rfl dX7_scale_31 rfl) <|
  am_kc (ak_istore_n dX7_scale_32 rfl rfl) <|
  am_kc (ak_aload_n dX7_scale_33 rfl rfl) <|
  am_kc (ak_getR (C := RX7) (T := TX7) (N := 4) rfl inX7w (by decide) rfl rfl rfl wd_390 dX7_scale_34 rfl) <|
  am_kc (ak_getR (C := RX0) (T := TX0) (N := 13) rfl inX0w (by decide) rfl rfl rfl wd_197 dX7_scale_37 rfl) <|
  am_kc (ak_iload_n dX7_scale_40 rfl rfl) <|
  am_kc (ak_iload_n dX7_scale_41 rfl rfl) <|
  am_kc (ak_iast (t := 0) (fun _ => rfl) rfl dX7_scale_42 rfl) <|
  am_kc (ak_iload_n dX7_scale_43 rfl rfl) <|
  am_kc (ak_retI dX7_scale_44) <| am_kn
def TX7_scale : am_T := fun live as M R => match as with
  | [.ref n, .int l, .int v] => am_mn live ∧ n = 0 ∧ am_F7 M ∧ ∀ M', am_ch am_lo M M' → R (some (.int (a_scale l v))) M'
  | _ => False
set_option maxRecDepth 100000 in
set_option maxHeartbeats 4000000 in
theorem metX7_scale : am_Met yX7_scale cX7_scale 4 (some .int) (1) (22) TX7_scale := by
  refine am_met (own := RX7) (by decide +kernel) rfl kX7_scale koX7_scale 300 (fun _ _ _ _ _ => none) (fun live as M Ret h => ?_) (fun _ _ _ _ _ _ _ _ hI => by cases hI)
  unfold TX7_scale at h
  split at h
  · next n l v =>
    refine ⟨Nat.le_of_ble_eq_true rfl, ?_⟩
    change am_wp _ _ _ _ [(0, Value.ref n), (1, Value.int l), (2, Value.int v)] _ _
    obtain ⟨⟨i1, i2, rfl⟩, rfl, hF, h⟩ := h
    obtain ⟨s1, s2, s3, s4, s5, s6, s7, s8, s9, w1, w2, w3, w4⟩ := hF
    have l29 : (am_len 29 : Int) = 4 := rfl
    have q7 : ∀ l : Int32, 0 ≤ l → l ≤ 3 → M.1 29 l.toNatClampNeg = 1000 := fun l z1 z2 => s7 _ (by have e := i_clamp (x := l) (by rw [i_le, Int32.toInt_zero] at z1; exact z1); rw [i_le] at z2; simp only [Int32.reduceToInt] at z2; omega)
    repeat' (first | apply And.intro | exact rfl | intro hx | (refine Exists.intro _ (And.intro rfl ?_)))
    all_goals try first | (with_reducible change am_tI _ _) | (change Ret _ _) | (change Ret _ _ _) | (change Exists _)
    all_goals try dsimp only at *
    all_goals try exact absurd ‹(1000 : Int64) = 0› (by decide)
    all_goals first
      | (refine am_rI (h _ (by repeat (first | exact am_ch.rf | refine am_ch.wI ?_ (by show (_ : Nat) < 200; decide) | refine am_ch.rput ?_ (fun _ => by show (_ : Nat) < 200; decide) | refine am_ch.radd ?_ (fun _ => by show (_ : Nat) < 200; decide) (by show (_ : Nat) < 200; decide) | refine am_ch.lay ?_ (fun _ => by show (_ : Nat) < 200; decide) | refine am_ch.wIc ?_ (by show (_ : Nat) < 200; decide)))) ?_; clear h; try simp only [am_wI_1, l29, am_b0, a_scale] at *; try first | rfl | (simp; done) | grind; done)
      | (clear h; simp only [am_b0, Classical.not_not, i_le, i_lt, l29, Int32.toInt_zero, Int32.reduceToInt] at *;  omega)
      | (clear h; simp only [l29, am_b0, Classical.not_not] at *; grind)
  · exact h.elim
theorem wd_200 : Cond.fieldLink "LearnLoans" 73 "LearnLoans$House" "prices" "[I" ∈ am_ws := am_wsi (List.mem_of_getElem? (i := 200) (by decide +kernel)) (by decide +kernel)
theorem dX7_prices_0 : decode cX7_prices 0 = .ok (.iload_n 1, 1) := by decide +kernel
theorem dX7_prices_1 : decode cX7_prices 1 = .ok (.invokestatic 34, 3) := by decide +kernel
theorem dX7_prices_4 : decode cX7_prices 4 = .ok (.ifCond .eq 15, 3) := by decide +kernel
theorem dX7_prices_7 : decode cX7_prices 7 = .ok (.iload_n 2, 1) := by decide +kernel
theorem dX7_prices_8 : decode cX7_prices 8 = .ok (.bipush (-100), 2) := by decide +kernel
theorem dX7_prices_10 : decode cX7_prices 10 = .ok (.sipush 500, 3) := by decide +kernel
theorem dX7_prices_13 : decode cX7_prices 13 = .ok (.invokestatic 55, 3) := by decide +kernel
theorem dX7_prices_16 : decode cX7_prices 16 = .ok (.ifCond .ne 7, 3) := by decide +kernel
theorem dX7_prices_19 : decode cX7_prices 19 = .ok (.sipush (-1000), 3) := by decide +kernel
theorem dX7_prices_22 : decode cX7_prices 22 = .ok (.ireturn, 1) := by decide +kernel
theorem dX7_prices_23 : decode cX7_prices 23 = .ok (.aload_n 0, 1) := by decide +kernel
theorem dX7_prices_24 : decode cX7_prices 24 = .ok (.getfield 27, 3) := by decide +kernel
theorem dX7_prices_27 : decode cX7_prices 27 = .ok (.getfield 73, 3) := by decide +kernel
theorem dX7_prices_30 : decode cX7_prices 30 = .ok (.iload_n 1, 1) := by decide +kernel
theorem dX7_prices_31 : decode cX7_prices 31 = .ok (.iaload, 1) := by decide +kernel
theorem dX7_prices_32 : decode cX7_prices 32 = .ok (.istore_n 3, 1) := by decide +kernel
theorem dX7_prices_33 : decode cX7_prices 33 = .ok (.aload_n 0, 1) := by decide +kernel
theorem dX7_prices_34 : decode cX7_prices 34 = .ok (.getfield 27, 3) := by decide +kernel
theorem dX7_prices_37 : decode cX7_prices 37 = .ok (.getfield 73, 3) := by decide +kernel
theorem dX7_prices_40 : decode cX7_prices 40 = .ok (.iload_n 1, 1) := by decide +kernel
theorem dX7_prices_41 : decode cX7_prices 41 = .ok (.iload_n 2, 1) := by decide +kernel
theorem dX7_prices_42 : decode cX7_prices 42 = .ok (.iastore, 1) := by decide +kernel
theorem dX7_prices_43 : decode cX7_prices 43 = .ok (.iload_n 3, 1) := by decide +kernel
theorem dX7_prices_44 : decode cX7_prices 44 = .ok (.ireturn, 1) := by decide +kernel
def kX7_prices (live : am_E) (Ret : am_R) : am_code := [(0, am_iload 1 1), (1, am_callS live 1 TX7_isYear 4), (4, am_if1 (fun x => x = 0) 19 7), (7, am_iload 2 8), (8, am_const (.int (-100)) 10), (10, am_const (.int 500) 13), (13, am_callS live 3 TX7_within 16), (16, am_if1 (fun x => x = 0) 19 23), (19, am_const (.int (-1000)) 22), (22, am_retI Ret), (23, am_aload 0 24), (24, am_getR live 7 0 27), (27, am_getR live 0 2 30), (30, am_iload 1 31), (31, am_ald live 0 32), (32, am_istore 3 4 33), (33, am_aload 0 34), (34, am_getR live 7 0 37), (37, am_getR live 0 2 40), (40, am_iload 1 41), (41, am_iload 2 42), (42, am_ast live 0 43), (43, am_iload 3 44), (44, am_retI Ret)]
theorem koX7_prices (live : am_E) (Ret : am_R) : ∀ q ∈ kX7_prices live Ret, am_ok RX7 cX7_prices 4 (some .int) 1 22 live Ret q.1 q.2 :=
  am_kc (ak_iload_n dX7_prices_0 rfl rfl) <|
  am_kc (ak_callS metX7_isYear ⟨rfl, by decide +kernel, by decide +kernel, by decide +kernel⟩ (am_w4 wd_407 wd_408 wd_58 wd_409) (by decide) dX7_prices_1 rfl) <|
  am_kc (ak_if_eq dX7_prices_4 (by decide +kernel) rfl) <|
  am_kc (ak_iload_n dX7_prices_7 rfl rfl) <|
  am_kc (ak_bipush dX7_prices_8 (by decide +kernel) rfl) <|
  am_kc (ak_sipush dX7_prices_10 (by decide +kernel) rfl) <|
  am_kc (ak_callS metX7_within ⟨rfl, by decide +kernel, by decide +kernel, by decide +kernel⟩ (am_w4 wd_418 wd_419 wd_58 wd_420) (by decide) dX7_prices_13 rfl) <|
  am_kc (ak_if_ne dX7_prices_16 (by decide +kernel) rfl) <|
  am_kc (ak_sipush dX7_prices_19 (by decide +kernel) rfl) <|
  am_kc (ak_retI dX7_prices_22) <|
  am_kc (ak_aload_n dX7_prices_23 rfl rfl) <|
  am_kc (ak_getR (C := RX7) (T := TX7) (N := 4) rfl inX7w (by decide) rfl rfl rfl wd_390 dX7_prices_24 rfl) <|
  am_kc (ak_getR (C := RX0) (T := TX0) (N := 13) rfl inX0w (by decide) rfl rfl rfl wd_200 dX7_prices_27 rfl) <|
  am_kc (ak_iload_n dX7_prices_30 rfl rfl) <|
  am_kc (ak_iald (t := 0) (fun _ => rfl) rfl dX7_prices_31 rfl) <|
  am_kc (ak_istore_n dX7_prices_32 rfl rfl) <|
  am_kc (ak_aload_n dX7_prices_33 rfl rfl) <|
  am_kc (ak_getR (C := RX7) (T := TX7) (N := 4) rfl inX7w (by decide) rfl rfl rfl wd_390 dX7_prices_34 rfl) <|
  am_kc (ak_getR (C := RX0) (T := TX0) (N := 13) rfl inX0w (by decide) rfl rfl rfl wd_200 dX7_prices_37 rfl) <|
  am_kc (ak_iload_n dX7_prices_40 rfl rfl) <|
  am_kc (ak_iload_n dX7_prices_41 rfl rfl) <|
  am_kc (ak_iast (t := 0) (fun _ => rfl) rfl dX7_prices_42 rfl) <|
  am_kc (ak_iload_n dX7_prices_43 rfl rfl) <|
  am_kc (ak_retI dX7_prices_44) <| am_kn
def TX7_prices : am_T := fun live as M R => match as with
  | [.ref n, .int y, .int v] => am_mn live ∧ n = 0 ∧ am_F7 M ∧ ∀ M', am_ch am_lo M M' → R (some (.int (a_prices y v))) M'
  | _ => False
set_option maxRecDepth 100000 in
set_option maxHeartbeats 4000000 in
theorem metX7_prices : am_Met yX7_prices cX7_prices 4 (some .int) (1) (22) TX7_prices := by
  refine am_met (own := RX7) (by decide +kernel) rfl kX7_prices koX7_prices 300 (fun _ _ _ _ _ => none) (fun live as M Ret h => ?_) (fun _ _ _ _ _ _ _ _ hI => by cases hI)
  unfold TX7_prices at h
  split at h
  · next n y v =>
    refine ⟨Nat.le_of_ble_eq_true rfl, ?_⟩
    change am_wp _ _ _ _ [(0, Value.ref n), (1, Value.int y), (2, Value.int v)] _ _
    obtain ⟨⟨i1, i2, rfl⟩, rfl, hF, h⟩ := h
    obtain ⟨s1, s2, s3, s4, s5, s6, s7, s8, s9, w1, w2, w3, w4⟩ := hF
    have l30 : (am_len 30 : Int) = 40 := rfl
    have q8 : ∀ l : Int32, 0 ≤ l → l < 40 → M.1 30 l.toNatClampNeg = 0 := fun l z1 z2 => s8 _ (by have e := i_clamp (x := l) (by rw [i_le, Int32.toInt_zero] at z1; exact z1); rw [i_lt] at z2; simp only [Int32.reduceToInt] at z2; omega)
    repeat' (first | apply And.intro | exact rfl | intro hx | (refine Exists.intro _ (And.intro rfl ?_)))
    all_goals try first | (with_reducible change am_tI _ _) | (change Ret _ _) | (change Ret _ _ _) | (change Exists _)
    all_goals try dsimp only at *
    all_goals try exact absurd ‹(1000 : Int64) = 0› (by decide)
    all_goals first
      | (refine am_rI (h _ (by repeat (first | exact am_ch.rf | refine am_ch.wI ?_ (by show (_ : Nat) < 200; decide) | refine am_ch.rput ?_ (fun _ => by show (_ : Nat) < 200; decide) | refine am_ch.radd ?_ (fun _ => by show (_ : Nat) < 200; decide) (by show (_ : Nat) < 200; decide) | refine am_ch.lay ?_ (fun _ => by show (_ : Nat) < 200; decide) | refine am_ch.wIc ?_ (by show (_ : Nat) < 200; decide)))) ?_; clear h; try simp only [am_wI_1, l30, am_b0, a_prices] at *; try first | rfl | (simp; done) | grind; done)
      | (clear h; simp only [am_b0, Classical.not_not, i_le, i_lt, l30, Int32.toInt_zero, Int32.reduceToInt] at *;  omega)
      | (clear h; simp only [l30, am_b0, Classical.not_not] at *; grind)
  · exact h.elim
theorem wd_217 : Cond.fieldLink "LearnLoans" 190 "LearnLoans$House" "promises" "LLearnLoans$Rows;" ∈ am_ws := am_wsi (List.mem_of_getElem? (i := 217) (by decide +kernel)) (by decide +kernel)
theorem dX7_promise_0 : decode cX7_promise 0 = .ok (.iload_n 1, 1) := by decide +kernel
theorem dX7_promise_1 : decode cX7_promise 1 = .ok (.iconst 0, 1) := by decide +kernel
theorem dX7_promise_2 : decode cX7_promise 2 = .ok (.iconst 3, 1) := by decide +kernel
theorem dX7_promise_3 : decode cX7_promise 3 = .ok (.invokestatic 55, 3) := by decide +kernel
theorem dX7_promise_6 : decode cX7_promise 6 = .ok (.ifCond .eq 20, 3) := by decide +kernel
theorem dX7_promise_9 : decode cX7_promise 9 = .ok (.iload_n 2, 1) := by decide +kernel
theorem dX7_promise_10 : decode cX7_promise 10 = .ok (.invokestatic 34, 3) := by decide +kernel
theorem dX7_promise_13 : decode cX7_promise 13 = .ok (.ifCond .eq 13, 3) := by decide +kernel
theorem dX7_promise_16 : decode cX7_promise 16 = .ok (.iload_n 3, 1) := by decide +kernel
theorem dX7_promise_17 : decode cX7_promise 17 = .ok (.iconst 1, 1) := by decide +kernel
theorem dX7_promise_18 : decode cX7_promise 18 = .ok (.ldc 189, 2) := by decide +kernel
theorem dX7_promise_20 : decode cX7_promise 20 = .ok (.invokestatic 55, 3) := by decide +kernel
theorem dX7_promise_23 : decode cX7_promise 23 = .ok (.ifCond .ne 6, 3) := by decide +kernel
theorem dX7_promise_26 : decode cX7_promise 26 = .ok (.bipush (-2), 2) := by decide +kernel
theorem dX7_promise_28 : decode cX7_promise 28 = .ok (.ireturn, 1) := by decide +kernel
theorem dX7_promise_29 : decode cX7_promise 29 = .ok (.aload_n 0, 1) := by decide +kernel
theorem dX7_promise_30 : decode cX7_promise 30 = .ok (.getfield 27, 3) := by decide +kernel
theorem dX7_promise_33 : decode cX7_promise 33 = .ok (.getfield 190, 3) := by decide +kernel
theorem dX7_promise_36 : decode cX7_promise 36 = .ok (.getfield 108, 3) := by decide +kernel
theorem dX7_promise_39 : decode cX7_promise 39 = .ok (.bipush 20, 2) := by decide +kernel
theorem dX7_promise_41 : decode cX7_promise 41 = .ok (.if_icmp .lt 6, 3) := by decide +kernel
theorem dX7_promise_44 : decode cX7_promise 44 = .ok (.bipush (-4), 2) := by decide +kernel
theorem dX7_promise_46 : decode cX7_promise 46 = .ok (.ireturn, 1) := by decide +kernel
theorem dX7_promise_47 : decode cX7_promise 47 = .ok (.aload_n 0, 1) := by decide +kernel
theorem dX7_promise_48 : decode cX7_promise 48 = .ok (.getfield 27, 3) := by decide +kernel
theorem dX7_promise_51 : decode cX7_promise 51 = .ok (.getfield 190, 3) := by decide +kernel
theorem dX7_promise_54 : decode cX7_promise 54 = .ok (.iload_n 1, 1) := by decide +kernel
theorem dX7_promise_55 : decode cX7_promise 55 = .ok (.iload_n 2, 1) := by decide +kernel
theorem dX7_promise_56 : decode cX7_promise 56 = .ok (.iload_n 3, 1) := by decide +kernel
theorem dX7_promise_57 : decode cX7_promise 57 = .ok (.invokevirtual 125, 3) := by decide +kernel
theorem dX7_promise_60 : decode cX7_promise 60 = .ok (.iconst 1, 1) := by decide +kernel
theorem dX7_promise_61 : decode cX7_promise 61 = .ok (.iadd, 1) := by decide +kernel
theorem dX7_promise_62 : decode cX7_promise 62 = .ok (.ireturn, 1) := by decide +kernel
def kX7_promise (live : am_E) (Ret : am_R) : am_code := [(0, am_iload 1 1), (1, am_const (.int 0) 2), (2, am_const (.int 3) 3), (3, am_callS live 3 TX7_within 6), (6, am_if1 (fun x => x = 0) 26 9), (9, am_iload 2 10), (10, am_callS live 1 TX7_isYear 13), (13, am_if1 (fun x => x = 0) 26 16), (16, am_iload 3 17), (17, am_const (.int 1) 18), (18, am_const (.int 1000000000) 20), (20, am_callS live 3 TX7_within 23), (23, am_if1 (fun x => x = 0) 26 29), (26, am_const (.int (-2)) 28), (28, am_retI Ret), (29, am_aload 0 30), (30, am_getR live 7 0 33), (33, am_getR live 0 8 36), (36, am_getI live 3 2 39), (39, am_const (.int 20) 41), (41, am_if2 (fun x y => x < y) 47 44), (44, am_const (.int (-4)) 46), (46, am_retI Ret), (47, am_aload 0 48), (48, am_getR live 7 0 51), (51, am_getR live 0 8 54), (54, am_iload 1 55), (55, am_iload 2 56), (56, am_iload 3 57), (57, am_callV live 3 3 TX3_add 60), (60, am_const (.int 1) 61), (61, am_i2 (fun x y => x + y) 62), (62, am_retI Ret)]
theorem koX7_promise (live : am_E) (Ret : am_R) : ∀ q ∈ kX7_promise live Ret, am_ok RX7 cX7_promise 4 (some .int) 2 47 live Ret q.1 q.2 :=
  am_kc (ak_iload_n dX7_promise_0 rfl rfl) <|
  am_kc (ak_iconst dX7_promise_1 (by decide +kernel) rfl) <|
  am_kc (ak_iconst dX7_promise_2 (by decide +kernel) rfl) <|
  am_kc (ak_callS metX7_within ⟨rfl, by decide +kernel, by decide +kernel, by decide +kernel⟩ (am_w4 wd_418 wd_419 wd_58 wd_420) (by decide) dX7_promise_3 rfl) <|
  am_kc (ak_if_eq dX7_promise_6 (by decide +kernel) rfl) <|
  am_kc (ak_iload_n dX7_promise_9 rfl rfl) <|
  am_kc (ak_callS metX7_isYear ⟨rfl, by decide +kernel, by decide +kernel, by decide +kernel⟩ (am_w4 wd_407 wd_408 wd_58 wd_409) (by decide) dX7_promise_10 rfl) <|
  am_kc (ak_if_eq dX7_promise_13 (by decide +kernel) rfl) <|
  am_kc (ak_iload_n dX7_promise_16 rfl rfl) <|
  am_kc (ak_iconst dX7_promise_17 (by decide +kernel) rfl) <|
  am_kc (ak_ldc wd_738 dX7_promise_18 rfl) <|
  am_kc (ak_callS metX7_within ⟨rfl, by decide +kernel, by decide +kernel, by decide +kernel⟩ (am_w4 wd_418 wd_419 wd_58 wd_420) (by decide) dX7_promise_20 rfl) <|
  am_kc (ak_if_ne dX7_promise_23 (by decide +kernel) rfl) <|
  am_kc (ak_bipush dX7_promise_26 (by decide +kernel) rfl) <|
  am_kc (ak_retI dX7_promise_28) <|
  am_kc (ak_aload_n dX7_promise_29 rfl rfl) <|
  am_kc (ak_getR (C := RX7) (T := TX7) (N := 4) rfl inX7w (by decide) rfl rfl rfl wd_390 dX7_promise_30 rfl) <|
  am_kc (ak_getR (C := RX0) (T := TX0) (N := 13) rfl inX0w (by decide) rfl rfl rfl wd_217 dX7_promise_33 rfl) <|
  am_kc (ak_getI (C := RX3) (T := TX3) (N := 3) rfl inX3w (by decide) rfl rfl rfl wd_152 dX7_promise_36 rfl) <|
  am_kc (ak_bipush dX7_promise_39 (by decide +kernel) rfl) <|
  am_kc (ak_icmp_lt dX7_promise_41 (by decide +kernel) rfl) <|
  am_kc (ak_bipush dX7_promise_44 (by decide +kernel) rfl) <|
  am_kc (ak_retI dX7_promise_46) <|
  am_kc (ak_aload_n dX7_promise_47 rfl rfl) <|
  am_kc (ak_getR (C := RX7) (T := TX7) (N := 4) rfl inX7w (by decide) rfl rfl rfl wd_390 dX7_promise_48 rfl) <|
  am_kc (ak_getR (C := RX0) (T := TX0) (N := 13) rfl inX0w (by decide) rfl rfl rfl wd_217 dX7_promise_51 rfl) <|
  am_kc (ak_iload_n dX7_promise_54 rfl rfl) <|
  am_kc (ak_iload_n dX7_promise_55 rfl rfl) <|
  am_kc (ak_iload_n dX7_promise_56 rfl rfl) <|
  am_kc (ak_callV (C := RX3) (F := TX3) (N := 3) metX3_add rfl ⟨rfl, by decide +kernel, by decide +kernel, by decide +kernel⟩ (am_w5 wd_514 wd_481 wd_482 wd_64 wd_483) (by decide) dX7_promise_57 rfl) <|
  am_kc (ak_iconst dX7_promise_60 (by decide +kernel) rfl) <|
  am_kc (ak_iadd dX7_promise_61 rfl) <|
  am_kc (ak_retI dX7_promise_62) <| am_kn
def TX7_promise : am_T := fun live as M R => match as with
  | [.ref n, .int b, .int y, .int p] => am_mn live ∧ n = 0 ∧ am_F7 M ∧ ∀ M', am_ch am_lo M M' → R (some (.int (a_promise b y p))) M'
  | _ => False
set_option maxRecDepth 100000 in
set_option maxHeartbeats 4000000 in
theorem metX7_promise : am_Met yX7_promise cX7_promise 4 (some .int) (2) (47) TX7_promise := by
  refine am_met (own := RX7) (by decide +kernel) rfl kX7_promise koX7_promise 300 (fun _ _ _ _ _ => none) (fun live as M Ret h => ?_) (fun _ _ _ _ _ _ _ _ hI => by cases hI)
  unfold TX7_promise at h
  split at h
  · next n b y p =>
    refine ⟨Nat.le_of_ble_eq_true rfl, ?_⟩
    change am_wp _ _ _ _ [(0, Value.ref n), (1, Value.int b), (2, Value.int y), (3, Value.int p)] _ _
    obtain ⟨⟨i1, i2, rfl⟩, rfl, hF, h⟩ := h
    obtain ⟨s1, s2, s3, s4, s5, s6, s7, s8, s9, w1, w2, w3, w4⟩ := hF
    have hp : M.1 54 2 < 20 := by rw [s5]; decide
    repeat' (first | apply And.intro | exact rfl | (intro hx; with_reducible exact absurd hp hx) | intro hx | (refine Exists.intro _ (And.intro rfl ?_)))
    all_goals try first | (with_reducible change am_tI _ _) | (change Ret _ _) | (change Ret _ _ _) | (change Exists _)
    all_goals try dsimp only at *
    all_goals try exact absurd ‹(1000 : Int64) = 0› (by decide)
    all_goals first
      | (refine am_rI (h _ (by repeat (first | exact am_ch.rf | refine am_ch.wI ?_ (by show (_ : Nat) < 200; decide) | refine am_ch.rput ?_ (fun _ => by show (_ : Nat) < 200; decide) | refine am_ch.radd ?_ (fun _ => by show (_ : Nat) < 200; decide) (by show (_ : Nat) < 200; decide) | refine am_ch.lay ?_ (fun _ => by show (_ : Nat) < 200; decide) | refine am_ch.wIc ?_ (by show (_ : Nat) < 200; decide)))) ?_; clear h; try simp only [am_wI_1, s5, am_b0, a_promise] at *; try first | rfl | (simp; done) | grind; done)
      | (clear h; simp only [am_b0, Classical.not_not, i_le, i_lt, s5, Int32.toInt_zero, Int32.reduceToInt] at *;  omega)
      | (clear h; simp only [s5, am_b0, Classical.not_not] at *; grind)
  · exact h.elim
theorem dX7_tell_0 : decode cX7_tell 0 = .ok (.iload_n 1, 1) := by decide +kernel
theorem dX7_tell_1 : decode cX7_tell 1 = .ok (.invokestatic 79, 3) := by decide +kernel
theorem dX7_tell_4 : decode cX7_tell 4 = .ok (.ifCond .ne 6, 3) := by decide +kernel
theorem dX7_tell_7 : decode cX7_tell 7 = .ok (.bipush (-2), 2) := by decide +kernel
theorem dX7_tell_9 : decode cX7_tell 9 = .ok (.ireturn, 1) := by decide +kernel
theorem dX7_tell_10 : decode cX7_tell 10 = .ok (.aload_n 0, 1) := by decide +kernel
theorem dX7_tell_11 : decode cX7_tell 11 = .ok (.getfield 27, 3) := by decide +kernel
theorem dX7_tell_14 : decode cX7_tell 14 = .ok (.getfield 243, 3) := by decide +kernel
theorem dX7_tell_17 : decode cX7_tell 17 = .ok (.bipush 9, 2) := by decide +kernel
theorem dX7_tell_19 : decode cX7_tell 19 = .ok (.if_icmp .lt 6, 3) := by decide +kernel
theorem dX7_tell_22 : decode cX7_tell 22 = .ok (.bipush (-4), 2) := by decide +kernel
theorem dX7_tell_24 : decode cX7_tell 24 = .ok (.ireturn, 1) := by decide +kernel
theorem dX7_tell_25 : decode cX7_tell 25 = .ok (.aload_n 0, 1) := by decide +kernel
theorem dX7_tell_26 : decode cX7_tell 26 = .ok (.getfield 27, 3) := by decide +kernel
theorem dX7_tell_29 : decode cX7_tell 29 = .ok (.getfield 246, 3) := by decide +kernel
theorem dX7_tell_32 : decode cX7_tell 32 = .ok (.aload_n 0, 1) := by decide +kernel
theorem dX7_tell_33 : decode cX7_tell 33 = .ok (.getfield 27, 3) := by decide +kernel
theorem dX7_tell_36 : decode cX7_tell 36 = .ok (.getfield 243, 3) := by decide +kernel
theorem dX7_tell_39 : decode cX7_tell 39 = .ok (.iload_n 1, 1) := by decide +kernel
theorem dX7_tell_40 : decode cX7_tell 40 = .ok (.iastore, 1) := by decide +kernel
theorem dX7_tell_41 : decode cX7_tell 41 = .ok (.aload_n 0, 1) := by decide +kernel
theorem dX7_tell_42 : decode cX7_tell 42 = .ok (.getfield 27, 3) := by decide +kernel
theorem dX7_tell_45 : decode cX7_tell 45 = .ok (.dup, 1) := by decide +kernel
theorem dX7_tell_46 : decode cX7_tell 46 = .ok (.getfield 243, 3) := by decide +kernel
theorem dX7_tell_49 : decode cX7_tell 49 = .ok (.iconst 1, 1) := by decide +kernel
theorem dX7_tell_50 : decode cX7_tell 50 = .ok (.iadd, 1) := by decide +kernel
theorem dX7_tell_51 : decode cX7_tell 51 = .ok (.putfield 243, 3) := by decide +kernel
theorem dX7_tell_54 : decode cX7_tell 54 = .ok (.aload_n 0, 1) := by decide +kernel
theorem dX7_tell_55 : decode cX7_tell 55 = .ok (.getfield 27, 3) := by decide +kernel
theorem dX7_tell_58 : decode cX7_tell 58 = .ok (.getfield 243, 3) := by decide +kernel
theorem dX7_tell_61 : decode cX7_tell 61 = .ok (.ireturn, 1) := by decide +kernel
def kX7_tell (live : am_E) (Ret : am_R) : am_code := [(0, am_iload 1 1), (1, am_callS live 1 TX7_isPence 4), (4, am_if1 (fun x => x = 0) 7 10), (7, am_const (.int (-2)) 9), (9, am_retI Ret), (10, am_aload 0 11), (11, am_getR live 7 0 14), (14, am_getI live 0 12 17), (17, am_const (.int 9) 19), (19, am_if2 (fun x y => x < y) 25 22), (22, am_const (.int (-4)) 24), (24, am_retI Ret), (25, am_aload 0 26), (26, am_getR live 7 0 29), (29, am_getR live 0 11 32), (32, am_aload 0 33), (33, am_getR live 7 0 36), (36, am_getI live 0 12 39), (39, am_iload 1 40), (40, am_ast live 0 41), (41, am_aload 0 42), (42, am_getR live 7 0 45), (45, am_dup 46), (46, am_getI live 0 12 49), (49, am_const (.int 1) 50), (50, am_i2 (fun x y => x + y) 51), (51, am_putI live 0 12 54), (54, am_aload 0 55), (55, am_getR live 7 0 58), (58, am_getI live 0 12 61), (61, am_retI Ret)]
theorem koX7_tell (live : am_E) (Ret : am_R) : ∀ q ∈ kX7_tell live Ret, am_ok RX7 cX7_tell 2 (some .int) 1 20 live Ret q.1 q.2 :=
  am_kc (ak_iload_n dX7_tell_0 rfl rfl) <|
  am_kc (ak_callS metX7_isPence ⟨rfl, by decide +kernel, by decide +kernel, by decide +kernel⟩ (am_w4 wd_446 wd_447 wd_58 wd_448) (by decide) dX7_tell_1 rfl) <|
  am_kc (ak_if_ne dX7_tell_4 (by decide +kernel) rfl) <|
  am_kc (ak_bipush dX7_tell_7 (by decide +kernel) rfl) <|
  am_kc (ak_retI dX7_tell_9) <|
  am_kc (ak_aload_n dX7_tell_10 rfl rfl) <|
  am_kc (ak_getR (C := RX7) (T := TX7) (N := 4) rfl inX7w (by decide) rfl rfl rfl wd_390 dX7_tell_11 rfl) <|
  am_kc (ak_getI (C := RX0) (T := TX0) (N := 13) rfl inX0w (by decide) rfl rfl rfl wd_227 dX7_tell_14 rfl) <|
  am_kc (ak_bipush dX7_tell_17 (by decide +kernel) rfl) <|
  am_kc (ak_icmp_lt dX7_tell_19 (by decide +kernel) rfl) <|
  am_kc (ak_bipush dX7_tell_22 (by decide +kernel) rfl) <|
  am_kc (ak_retI dX7_tell_24) <|
  am_kc (ak_aload_n dX7_tell_25 rfl rfl) <|
  am_kc (ak_getR (C := RX7) (T := TX7) (N := 4) rfl inX7w (by decide) rfl rfl rfl wd_390 dX7_tell_26 rfl) <|
  am_kc (ak_getR (C := RX0) (T := TX0) (N := 13) rfl inX0w (by decide) rfl rfl rfl wd_225 dX7_tell_29 rfl) <|
  am_kc (ak_aload_n dX7_tell_32 rfl rfl) <|
  am_kc (ak_getR (C := RX7) (T := TX7) (N := 4) rfl inX7w (by decide) rfl rfl rfl wd_390 dX7_tell_33 rfl) <|
  am_kc (ak_getI (C := RX0) (T := TX0) (N := 13) rfl inX0w (by decide) rfl rfl rfl wd_227 dX7_tell_36 rfl) <|
  am_kc (ak_iload_n dX7_tell_39 rfl rfl) <|
  am_kc (ak_iast (t := 0) (fun _ => rfl) rfl dX7_tell_40 rfl) <|
  am_kc (ak_aload_n dX7_tell_41 rfl rfl) <|
  am_kc (ak_getR (C := RX7) (T := TX7) (N := 4) rfl inX7w (by decide) rfl rfl rfl wd_390 dX7_tell_42 rfl) <|
  am_kc (ak_dup dX7_tell_45 rfl) <|
  am_kc (ak_getI (C := RX0) (T := TX0) (N := 13) rfl inX0w (by decide) rfl rfl rfl wd_227 dX7_tell_46 rfl) <|
  am_kc (ak_iconst dX7_tell_49 (by decide +kernel) rfl) <|
  am_kc (ak_iadd dX7_tell_50 rfl) <|
  am_kc (ak_putI (C := RX0) (T := TX0) (N := 13) rfl inX0w tyX0_ok nmX0 (by decide) rfl rfl rfl rfl (by decide +kernel) wd_227 dX7_tell_51 rfl) <|
  am_kc (ak_aload_n dX7_tell_54 rfl rfl) <|
  am_kc (ak_getR (C := RX7) (T := TX7) (N := 4) rfl inX7w (by decide) rfl rfl rfl wd_390 dX7_tell_55 rfl) <|
  am_kc (ak_getI (C := RX0) (T := TX0) (N := 13) rfl inX0w (by decide) rfl rfl rfl wd_227 dX7_tell_58 rfl) <|
  am_kc (ak_retI dX7_tell_61) <| am_kn
def TX7_tell : am_T := fun live as M R => match as with
  | [.ref n, .int v] => am_mn live ∧ n = 0 ∧ am_F7 M ∧ ∀ M', am_ch am_lo M M' → R (some (.int (a_tell v))) M'
  | _ => False
set_option maxRecDepth 100000 in
set_option maxHeartbeats 4000000 in
theorem metX7_tell : am_Met yX7_tell cX7_tell 2 (some .int) (1) (20) TX7_tell := by
  refine am_met (own := RX7) (by decide +kernel) rfl kX7_tell koX7_tell 300 (fun _ _ _ _ _ => none) (fun live as M Ret h => ?_) (fun _ _ _ _ _ _ _ _ hI => by cases hI)
  unfold TX7_tell at h
  split at h
  · next n v =>
    refine ⟨Nat.le_of_ble_eq_true rfl, ?_⟩
    change am_wp _ _ _ _ [(0, Value.ref n), (1, Value.int v)] _ _
    obtain ⟨⟨i1, i2, rfl⟩, rfl, hF, h⟩ := h
    obtain ⟨s1, s2, s3, s4, s5, s6, s7, s8, s9, w1, w2, w3, w4⟩ := hF
    have hp : M.1 20 12 < 9 := by rw [s6]; decide
    have l58 : (am_len 58 : Int) = 9 := rfl
    repeat' (first | apply And.intro | exact rfl | (intro hx; with_reducible exact absurd hp hx) | intro hx | (refine Exists.intro _ (And.intro rfl ?_)))
    all_goals try first | (with_reducible change am_tI _ _) | (change Ret _ _) | (change Ret _ _ _) | (change Exists _)
    all_goals try dsimp only at *
    all_goals try exact absurd ‹(1000 : Int64) = 0› (by decide)
    all_goals first
      | (refine am_rI (h _ (by repeat (first | exact am_ch.rf | refine am_ch.wI ?_ (by show (_ : Nat) < 200; decide) | refine am_ch.rput ?_ (fun _ => by show (_ : Nat) < 200; decide) | refine am_ch.radd ?_ (fun _ => by show (_ : Nat) < 200; decide) (by show (_ : Nat) < 200; decide) | refine am_ch.lay ?_ (fun _ => by show (_ : Nat) < 200; decide) | refine am_ch.wIc ?_ (by show (_ : Nat) < 200; decide)))) ?_; clear h; try simp only [am_wI_1, s6, l58, am_b0, a_tell] at *; try first | rfl | (simp; done) | grind; done)
      | (clear h; simp only [am_b0, Classical.not_not, i_le, i_lt, s6, l58, Int32.toInt_zero, Int32.reduceToInt] at *;  omega)
      | (clear h; simp only [s6, l58, am_b0, Classical.not_not] at *; grind)
  · exact h.elim
