-- part 79zpc.life5c.lean.txt
section
/-! exact: takenByLife -/
def kX7_takenByLifeE (live : am_E) (Ret : am_R) : am_code := [(0, am_aload 0 1), (1, am_getR live 7 2 4), (4, am_iload 1 5), (5, am_iload 5 7), (7, am_callV live 4 2 TE4_begin 10), (10, am_aload 0 11), (11, am_getR live 7 2 14), (14, am_iload 4 16), (16, am_const (.int 1) 17), (17, am_i2 (fun x y => x - y) 18), (18, am_callV live 4 1 TE4_go 21), (21, am_aload 0 22), (22, am_getR live 7 2 25), (25, am_const (.int 3) 26), (26, am_callV live 4 1 TE4_together 29), (29, am_lstore 7 9 31), (31, am_aload 0 32), (32, am_getR live 7 2 35), (35, am_iload 3 36), (36, am_iload 2 37), (37, am_iload 6 39), (39, am_i2l 40), (40, am_callV live 4 3 TX4_turnTo 43), (43, am_aload 0 44), (44, am_getR live 7 2 47), (47, am_const (.int 39) 49), (49, am_callV live 4 1 TE4_go 52), (52, am_aload 0 53), (53, am_getR live 7 2 56), (56, am_const (.int 3) 57), (57, am_callV live 4 1 TE4_together 60), (60, am_lload 7 62), (62, am_l2 (fun x y => x - y) 63), (63, am_retL Ret)]
theorem koX7_takenByLifeE (live : am_E) (Ret : am_R) : ∀ q ∈ kX7_takenByLifeE live Ret, am_ok RX7 cX7_takenByLife 9 (some .long) 5 124 live Ret q.1 q.2 :=
  am_kz dzX7_takenByLife <|
  am_kd (fun d => ak_aload_n d rfl rfl) <|
  am_kd (fun d => ak_getR (C := RX7) (T := TX7) (N := 4) rfl inX7w (by decide) rfl rfl rfl wd_392 d rfl) <|
  am_kd (fun d => ak_iload_n d rfl rfl) <|
  am_kd (fun d => ak_iload d rfl) <|
  am_kd (fun d => ak_callV (C := RX4) (F := TX4) (N := 19) metX4_beginE rfl ⟨rfl, hy_X4_begin⟩ (am_w5 wd_546 wd_547 wd_548 wd_60 wd_549) (by decide) d rfl) <|
  am_kd (fun d => ak_aload_n d rfl rfl) <|
  am_kd (fun d => ak_getR (C := RX7) (T := TX7) (N := 4) rfl inX7w (by decide) rfl rfl rfl wd_392 d rfl) <|
  am_kd (fun d => ak_iload d rfl) <|
  am_kd (fun d => ak_iconst d (by decide +kernel) rfl) <|
  am_kd (fun d => ak_isub d rfl) <|
  am_kd (fun d => ak_callV (C := RX4) (F := TX4) (N := 19) metX4_goE rfl ⟨rfl, hy_X4_go⟩ (am_w5 wd_559 wd_560 wd_561 wd_60 wd_562) (by decide) d rfl) <|
  am_kd (fun d => ak_aload_n d rfl rfl) <|
  am_kd (fun d => ak_getR (C := RX7) (T := TX7) (N := 4) rfl inX7w (by decide) rfl rfl rfl wd_392 d rfl) <|
  am_kd (fun d => ak_iconst d (by decide +kernel) rfl) <|
  am_kd (fun d => ak_callV (C := RX4) (F := TX4) (N := 19) metX4_togetherE rfl ⟨rfl, hy_X4_together⟩ (am_w5 wd_649 wd_650 wd_651 wd_60 wd_652) (by decide) d rfl) <|
  am_kd (fun d => ak_lstore d rfl) <|
  am_kd (fun d => ak_aload_n d rfl rfl) <|
  am_kd (fun d => ak_getR (C := RX7) (T := TX7) (N := 4) rfl inX7w (by decide) rfl rfl rfl wd_392 d rfl) <|
  am_kd (fun d => ak_iload_n d rfl rfl) <|
  am_kd (fun d => ak_iload_n d rfl rfl) <|
  am_kd (fun d => ak_iload d rfl) <|
  am_kd (fun d => ak_i2l d rfl) <|
  am_kd (fun d => ak_callV (C := RX4) (F := TX4) (N := 19) metX4_turnTo rfl ⟨rfl, hy_X4_turnTo⟩ (am_w5 wd_764 wd_551 wd_552 wd_60 wd_553) (by decide) d rfl) <|
  am_kd (fun d => ak_aload_n d rfl rfl) <|
  am_kd (fun d => ak_getR (C := RX7) (T := TX7) (N := 4) rfl inX7w (by decide) rfl rfl rfl wd_392 d rfl) <|
  am_kd (fun d => ak_bipush d (by decide +kernel) rfl) <|
  am_kd (fun d => ak_callV (C := RX4) (F := TX4) (N := 19) metX4_goE rfl ⟨rfl, hy_X4_go⟩ (am_w5 wd_559 wd_560 wd_561 wd_60 wd_562) (by decide) d rfl) <|
  am_kd (fun d => ak_aload_n d rfl rfl) <|
  am_kd (fun d => ak_getR (C := RX7) (T := TX7) (N := 4) rfl inX7w (by decide) rfl rfl rfl wd_392 d rfl) <|
  am_kd (fun d => ak_iconst d (by decide +kernel) rfl) <|
  am_kd (fun d => ak_callV (C := RX4) (F := TX4) (N := 19) metX4_togetherE rfl ⟨rfl, hy_X4_together⟩ (am_w5 wd_649 wd_650 wd_651 wd_60 wd_652) (by decide) d rfl) <|
  am_kd (fun d => ak_lload d rfl) <|
  am_kd (fun d => ak_lsub d rfl) <|
  am_kd (fun d => ak_retL d) <| am_kdn
def TE7_takenByLife : am_T := fun live as M R => match as with
  | [.ref n, .int p, .int pl, .int lf, .int y, .int k, .int s] => am_mn live ∧ n = 0 ∧ am_in p 12 ∧ p.toInt < (M.1 201 0).toInt ∧ (pl = -1 ∨ am_in pl 5) ∧ am_in lf 4 ∧ (am_in y 40 ∧ am_in k 40) ∧ 0 ≤ s.toInt ∧ (∃ i1 i2, LX i1 i2 M) ∧ ∀ v M', g_sc M M' → g_rI M' → v + M'.2 4 15 = r_livV (r_ld M pl y) p lf y.toNatClampNeg k s.toInt64 → (s = 0 → M'.2 4 15 = 0) → R (some (.long v)) M'
  | _ => False
set_option maxRecDepth 100000 in
set_option maxHeartbeats 4000000 in
theorem metX7_takenByLifeE : am_Met yX7_takenByLife cX7_takenByLife 9 (some .long) (5) (124) TE7_takenByLife := by
  refine am_met (own := RX7) (by decide +kernel) rfl kX7_takenByLifeE koX7_takenByLifeE 150 (fun _ _ _ _ _ => none) (fun live as M Ret h => ?_) (fun _ _ _ _ _ _ _ _ hI => by cases hI)
  unfold TE7_takenByLife at h
  split at h
  · next n p pl lf y k s =>
    refine ⟨Nat.le_of_ble_eq_true rfl, ?_⟩
    change am_wp _ _ _ _ [(0, Value.ref n), (1, Value.int p), (2, Value.int pl), (3, Value.int lf), (4, Value.int y), (5, Value.int k), (6, Value.int s)] _ _
    obtain ⟨hmn, rfl, hp, hp2, hpl, hlf, ⟨hy, hk⟩, hs, ⟨j1, j2, hX⟩, h⟩ := h
    have hmn2 := hmn
    obtain ⟨i1, i2, rfl⟩ := hmn2
    have hR := hX.li.g
    have hA := hX.li.cA
    have hn : 0 ≤ (M.1 33 2).toInt ∧ (M.1 33 2).toInt ≤ 30 := by rw [hX.li.e1]; exact hX.li.n1
    have w3 : am_in (3 : Int32) 6 := ⟨by decide, by decide⟩
    have hs64 : 0 ≤ s.toInt64.toInt := by rw [Int32.toInt_toInt64]; exact hs
    repeat' (first | (with_reducible exact hmn) | (with_reducible exact hp) | (with_reducible exact w3) | (with_reducible exact hR) | (with_reducible exact hA) | (with_reducible exact hn) | apply And.intro | exact rfl | ((with_reducible change g_rI _); (with_reducible assumption)) | intro hx | (refine Exists.intro _ (And.intro rfl ?_)))
    all_goals try first | (with_reducible change am_tI _ _) | (change Ret _ _) | (change Ret _ _ _) | (change Exists _)
    all_goals try dsimp only at *
    all_goals try (with_reducible exact absurd ‹(1000 : Int64) = 0› am_z1000)
    all_goals first
      | ((with_reducible change Ret _ _); skip)
      | (change g_rI _; exact g_rI.wJ (g_rI.wJ (g_rI.w413 (g_rI.w412 (g_rI.w411 (by with_reducible assumption) (Or.inr hlf)) hpl) (g_i2 _))))
      | ((with_reducible change 0 ≤ Int32.toInt _); exact (g_sI.pe (g_rI.s (by with_reducible assumption))).1)
      | ((with_reducible change Int32.toInt _ < _); exact (g_sI.pe (g_rI.s (by with_reducible assumption))).2)
      | ((with_reducible change Int32.toInt _ ≤ 40); (rw [(c_bg.f (by with_reducible assumption)).2.1]; decide))
      | ((with_reducible change Int32.toInt _ ≤ 40); exact LX.ttn (by with_reducible assumption) hy (by with_reducible assumption))
      | (change t_b _ _; exact hX.t0.g (c_bg.sc (by with_reducible assumption)))
      | (change t_b _ _; exact hX.tt (by with_reducible assumption) (by with_reducible assumption))
      | (change c_oa _; exact hX.coa hp hp2 hk (by with_reducible assumption) (by with_reducible assumption))
      | (change c_oa _; exact hX.tto hp (by with_reducible assumption) (by with_reducible assumption) (by with_reducible assumption) hlf hpl)
    rename_i N b1 r1 N2 g2 r2 s2 t2 N4 g4 r4 s4
    obtain ⟨v1, v2⟩ := hX.lived (sum := s.toInt64) hp hp2 hk b1 hy g2 s2 t2 hlf hpl hs64 rfl rfl g4 s4
    rw [show 30 * (3 : Int32).toNatClampNeg = 90 from rfl]
    exact h _ N4 (((c_bg.sc b1).tr (c_gn.sc g2)).tr (c_tt_sc.tr (c_gn.sc g4))) r4 v1 (fun z => v2 (by rw [z]; rfl))
  · exact h.elim
end
-- part 79zq.life6.lean.txt
section
/-! exact: choice, early -/
theorem r_liv_cg2 {M N : am_M} (h1 : N.1 201 = M.1 201) (h2 : N.1 200 = M.1 200) {p lf k : Int32} {y : Nat} {q : Int64} : r_livV N p lf y k q = r_livV M p lf y k q := r_liv_cg h1 (fun j _ _ => by rw [h2]) (fun l y => by unfold r_pl; rw [h1, h2])
def r_choiceV (M : am_M) (p q l y k : Int32) : Int64 := if 0 ≤ p ∧ p < M.1 201 0 then (if q = -1 ∨ (0 ≤ q ∧ q < 5) then (if 0 ≤ l ∧ l ≤ 3 then (if 0 ≤ y ∧ y < 40 then (if 0 ≤ k ∧ k < 40 then r_livV (r_ld M q y) p l y.toNatClampNeg k 0 else -2) else -2) else -2) else -2) else -2
def kX7_choiceE (live : am_E) (Ret : am_R) : am_code := [(0, am_aload 0 1), (1, am_iload 1 2), (2, am_callV live 7 1 TX7_isPerson 5), (5, am_if1 (fun x => x = 0) 29 8), (8, am_iload 2 9), (9, am_callS live 1 TX7_isPlan 12), (12, am_if1 (fun x => x = 0) 15 20), (15, am_iload 2 16), (16, am_const (.int (-1)) 17), (17, am_if2 (fun x y => x = y) 20 29), (20, am_iload 3 21), (21, am_const (.int 0) 22), (22, am_const (.int 3) 23), (23, am_callS live 3 TX7_within 26), (26, am_if1 (fun x => x = 0) 29 33), (29, am_const (.long (-2)) 32), (32, am_retL Ret), (33, am_iload 4 35), (35, am_callS live 1 TX7_isYear 38), (38, am_if1 (fun x => x = 0) 49 41), (41, am_iload 5 43), (43, am_callS live 1 TX7_isYear 46), (46, am_if1 (fun x => x = 0) 49 53), (49, am_const (.long (-2)) 52), (52, am_retL Ret), (53, am_aload 0 54), (54, am_iload 1 55), (55, am_iload 2 56), (56, am_iload 3 57), (57, am_iload 4 59), (59, am_iload 5 61), (61, am_const (.int 0) 62), (62, am_callV live 7 6 TE7_takenByLife 65), (65, am_retL Ret)]
theorem koX7_choiceE (live : am_E) (Ret : am_R) : ∀ q ∈ kX7_choiceE live Ret, am_ok RX7 cX7_choice 6 (some .long) 6 152 live Ret q.1 q.2 :=
  am_kz dzX7_choice <|
  am_kd (fun d => ak_aload_n d rfl rfl) <|
  am_kd (fun d => ak_iload_n d rfl rfl) <|
  am_kd (fun d => ak_callV (C := RX7) (F := TX7) (N := 4) metX7_isPerson rfl ⟨rfl, hy_X7_isPerson⟩ (am_w5 wd_414 wd_416 wd_0 wd_58 wd_417) (by decide) d rfl) <|
  am_kd (fun d => ak_if_eq d (by decide +kernel) rfl) <|
  am_kd (fun d => ak_iload_n d rfl rfl) <|
  am_kd (fun d => ak_callS metX7_isPlan ⟨rfl, hy_X7_isPlan⟩ (am_w4 wd_466 wd_467 wd_58 wd_468) (by decide) d rfl) <|
  am_kd (fun d => ak_if_ne d (by decide +kernel) rfl) <|
  am_kd (fun d => ak_iload_n d rfl rfl) <|
  am_kd (fun d => ak_iconst d (by decide +kernel) rfl) <|
  am_kd (fun d => ak_icmp_ne d (by decide +kernel) rfl) <|
  am_kd (fun d => ak_iload_n d rfl rfl) <|
  am_kd (fun d => ak_iconst d (by decide +kernel) rfl) <|
  am_kd (fun d => ak_iconst d (by decide +kernel) rfl) <|
  am_kd (fun d => ak_callS metX7_within ⟨rfl, hy_X7_within⟩ (am_w4 wd_418 wd_419 wd_58 wd_420) (by decide) d rfl) <|
  am_kd (fun d => ak_if_ne d (by decide +kernel) rfl) <|
  am_kd (fun d => ak_ldc2 wd_545 d rfl) <|
  am_kd (fun d => ak_retL d) <|
  am_kd (fun d => ak_iload d rfl) <|
  am_kd (fun d => ak_callS metX7_isYear ⟨rfl, hy_X7_isYear⟩ (am_w4 wd_407 wd_408 wd_58 wd_409) (by decide) d rfl) <|
  am_kd (fun d => ak_if_eq d (by decide +kernel) rfl) <|
  am_kd (fun d => ak_iload d rfl) <|
  am_kd (fun d => ak_callS metX7_isYear ⟨rfl, hy_X7_isYear⟩ (am_w4 wd_407 wd_408 wd_58 wd_409) (by decide) d rfl) <|
  am_kd (fun d => ak_if_ne d (by decide +kernel) rfl) <|
  am_kd (fun d => ak_ldc2 wd_545 d rfl) <|
  am_kd (fun d => ak_retL d) <|
  am_kd (fun d => ak_aload_n d rfl rfl) <|
  am_kd (fun d => ak_iload_n d rfl rfl) <|
  am_kd (fun d => ak_iload_n d rfl rfl) <|
  am_kd (fun d => ak_iload_n d rfl rfl) <|
  am_kd (fun d => ak_iload d rfl) <|
  am_kd (fun d => ak_iload d rfl) <|
  am_kd (fun d => ak_iconst d (by decide +kernel) rfl) <|
  am_kd (fun d => ak_callV (C := RX7) (F := TX7) (N := 4) metX7_takenByLifeE rfl ⟨rfl, hy_X7_takenByLife⟩ (am_w5 wd_760 wd_762 wd_24 wd_58 wd_763) (by decide) d rfl) <|
  am_kd (fun d => ak_retL d) <| am_kdn
def TE7_choice : am_T := fun live as M R => match as with
  | [.ref n, .int p, .int q, .int l, .int y, .int k] => am_mn live ∧ n = 0 ∧ (∃ i1 i2, LX i1 i2 M) ∧ ∀ M', g_sc M M' → g_rI M' → R (some (.long (r_choiceV M p q l y k))) M'
  | _ => False
set_option maxRecDepth 100000 in
set_option maxHeartbeats 4000000 in
theorem metX7_choiceE : am_Met yX7_choice cX7_choice 6 (some .long) (6) (152) TE7_choice := by
  refine am_met (own := RX7) (by decide +kernel) rfl kX7_choiceE koX7_choiceE 200 (fun _ _ _ _ _ => none) (fun live as M Ret h => ?_) (fun _ _ _ _ _ _ _ _ hI => by cases hI)
  unfold TE7_choice at h
  split at h
  · next n p q l y k =>
    refine ⟨Nat.le_of_ble_eq_true rfl, ?_⟩
    change am_wp _ _ _ _ [(0, Value.ref n), (1, Value.int p), (2, Value.int q), (3, Value.int l), (4, Value.int y), (5, Value.int k)] _ _
    obtain ⟨hmn, rfl, ⟨j1, j2, hX⟩, h⟩ := h
    have hmn2 := hmn
    obtain ⟨i1, i2, rfl⟩ := hmn2
    have hR := hX.li.g
    have le1 := hX.li.e1
    have le0 := hX.li.e0
    have n1 := hX.li.n1
    have n0 := hX.li.n0
    by_cases z0 : 0 ≤ p ∧ p < M.1 21 7
    rotate_left
    · skip
      have q0 : (if 0 ≤ p ∧ p < M.1 21 7 then (1 : Int32) else 0) = 0 := if_neg z0
      have e : r_choiceV M p q l y k = -2 := by unfold r_choiceV; rw [if_neg (fun q => z0 (by first | exact q | (rw [le1]; exact q) | (rw [le0]; exact q)))]
      rw [e] at h
      repeat' (first | (with_reducible exact hmn) | apply And.intro | exact rfl | (intro hx; with_reducible exact absurd q0 hx) | (intro hx; exact absurd hx (by decide)) | (intro hx; exact absurd (by decide) hx) | decide | intro hx | (refine Exists.intro _ (And.intro rfl ?_)))
      all_goals try first | (with_reducible change am_tI _ _) | (change Ret _ _) | (change Ret _ _ _) | (change Exists _)
      all_goals try dsimp only at *
      all_goals try (with_reducible exact absurd ‹(1000 : Int64) = 0› am_z1000)
      all_goals exact h _ g_sc.rf hR
    · skip
      have q0 : ¬ ((if 0 ≤ p ∧ p < M.1 21 7 then (1 : Int32) else 0) = 0) := by rw [if_pos z0]; decide
      have y0 : 0 ≤ p ∧ p < M.1 201 0 := by first | exact z0 | (rw [← le1]; exact z0) | (rw [← le0]; exact z0)
      by_cases z1 : q = -1 ∨ (0 ≤ q ∧ q < 5)
      rotate_left
      · skip
        have q8 : ¬ q = -1 := fun z => z1 (Or.inl z)
        have q9 : (if 0 ≤ q ∧ q < 5 then (1 : Int32) else 0) = 0 := if_neg (fun z => z1 (Or.inr z))
        have e : r_choiceV M p q l y k = -2 := by unfold r_choiceV; rw [if_pos y0, if_neg (fun q => z1 (by first | exact q | (rw [le1]; exact q) | (rw [le0]; exact q)))]
        rw [e] at h
        repeat' (first | (with_reducible exact hmn) | apply And.intro | exact rfl | (intro hx; with_reducible exact absurd hx q0) | (intro hx; with_reducible exact absurd hx q8) | (intro hx; with_reducible exact absurd q9 hx) | (intro hx; exact absurd hx (by decide)) | (intro hx; exact absurd (by decide) hx) | decide | intro hx | (refine Exists.intro _ (And.intro rfl ?_)))
        all_goals try first | (with_reducible change am_tI _ _) | (change Ret _ _) | (change Ret _ _ _) | (change Exists _)
        all_goals try dsimp only at *
        all_goals try (with_reducible exact absurd ‹(1000 : Int64) = 0› am_z1000)
        all_goals exact h _ g_sc.rf hR
      · skip
        have y1 : q = -1 ∨ (0 ≤ q ∧ q < 5) := by first | exact z1 | (rw [← le1]; exact z1) | (rw [← le0]; exact z1)
        by_cases z2 : 0 ≤ l ∧ l ≤ 3
        rotate_left
        · skip
          have q2 : (if 0 ≤ l ∧ l ≤ 3 then (1 : Int32) else 0) = 0 := if_neg z2
          have e : r_choiceV M p q l y k = -2 := by unfold r_choiceV; rw [if_pos y0, if_pos y1, if_neg (fun q => z2 (by first | exact q | (rw [le1]; exact q) | (rw [le0]; exact q)))]
          rw [e] at h
          repeat' (first | (with_reducible exact hmn) | apply And.intro | exact rfl | (intro hx; with_reducible exact absurd hx q0) | (intro hx; with_reducible exact absurd q2 hx) | (intro hx; exact absurd hx (by decide)) | (intro hx; exact absurd (by decide) hx) | decide | intro hx | (refine Exists.intro _ (And.intro rfl ?_)))
          all_goals try first | (with_reducible change am_tI _ _) | (change Ret _ _) | (change Ret _ _ _) | (change Exists _)
          all_goals try dsimp only at *
          all_goals try (with_reducible exact absurd ‹(1000 : Int64) = 0› am_z1000)
          all_goals exact h _ g_sc.rf hR
        · skip
          have q2 : ¬ ((if 0 ≤ l ∧ l ≤ 3 then (1 : Int32) else 0) = 0) := by rw [if_pos z2]; decide
          have y2 : 0 ≤ l ∧ l ≤ 3 := by first | exact z2 | (rw [← le1]; exact z2) | (rw [← le0]; exact z2)
          by_cases z3 : 0 ≤ y ∧ y < 40
          rotate_left
          · skip
            have q3 : (if 0 ≤ y ∧ y < 40 then (1 : Int32) else 0) = 0 := if_neg z3
            have e : r_choiceV M p q l y k = -2 := by unfold r_choiceV; rw [if_pos y0, if_pos y1, if_pos y2, if_neg (fun q => z3 (by first | exact q | (rw [le1]; exact q) | (rw [le0]; exact q)))]
            rw [e] at h
            repeat' (first | (with_reducible exact hmn) | apply And.intro | exact rfl | (intro hx; with_reducible exact absurd hx q0) | (intro hx; with_reducible exact absurd hx q2) | (intro hx; with_reducible exact absurd q3 hx) | (intro hx; exact absurd hx (by decide)) | (intro hx; exact absurd (by decide) hx) | decide | intro hx | (refine Exists.intro _ (And.intro rfl ?_)))
            all_goals try first | (with_reducible change am_tI _ _) | (change Ret _ _) | (change Ret _ _ _) | (change Exists _)
            all_goals try dsimp only at *
            all_goals try (with_reducible exact absurd ‹(1000 : Int64) = 0› am_z1000)
            all_goals exact h _ g_sc.rf hR
          · skip
            have q3 : ¬ ((if 0 ≤ y ∧ y < 40 then (1 : Int32) else 0) = 0) := by rw [if_pos z3]; decide
            have y3 : 0 ≤ y ∧ y < 40 := by first | exact z3 | (rw [← le1]; exact z3) | (rw [← le0]; exact z3)
            by_cases z4 : 0 ≤ k ∧ k < 40
            rotate_left
            · skip
              have q4 : (if 0 ≤ k ∧ k < 40 then (1 : Int32) else 0) = 0 := if_neg z4
              have e : r_choiceV M p q l y k = -2 := by unfold r_choiceV; rw [if_pos y0, if_pos y1, if_pos y2, if_pos y3, if_neg (fun q => z4 (by first | exact q | (rw [le1]; exact q) | (rw [le0]; exact q)))]
              rw [e] at h
              repeat' (first | (with_reducible exact hmn) | apply And.intro | exact rfl | (intro hx; with_reducible exact absurd hx q0) | (intro hx; with_reducible exact absurd hx q2) | (intro hx; with_reducible exact absurd hx q3) | (intro hx; with_reducible exact absurd q4 hx) | (intro hx; exact absurd hx (by decide)) | (intro hx; exact absurd (by decide) hx) | decide | intro hx | (refine Exists.intro _ (And.intro rfl ?_)))
              all_goals try first | (with_reducible change am_tI _ _) | (change Ret _ _) | (change Ret _ _ _) | (change Exists _)
              all_goals try dsimp only at *
              all_goals try (with_reducible exact absurd ‹(1000 : Int64) = 0› am_z1000)
              all_goals exact h _ g_sc.rf hR
            · skip
              have q4 : ¬ ((if 0 ≤ k ∧ k < 40 then (1 : Int32) else 0) = 0) := by rw [if_pos z4]; decide
              have y4 : 0 ≤ k ∧ k < 40 := by first | exact z4 | (rw [← le1]; exact z4) | (rw [← le0]; exact z4)
              have e : r_choiceV M p q l y k = r_livV (r_ld M q y) p l y.toNatClampNeg k 0 := by unfold r_choiceV; rw [if_pos y0, if_pos y1, if_pos y2, if_pos y3, if_pos y4]
              rw [e] at h
              have hp : am_in p 12 := ⟨by have q := y0.1; simp only [i_le, Int32.reduceToInt, Int32.toInt_zero] at q; omega, by have q := y0.2; simp only [i_lt] at q; omega⟩
              have hy : am_in y 40 := ⟨by have q := y3.1; simp only [i_le, Int32.reduceToInt, Int32.toInt_zero] at q; omega, by have q := y3.2; simp only [i_lt, Int32.reduceToInt] at q; omega⟩
              have hk : am_in k 40 := ⟨by have q := y4.1; simp only [i_le, Int32.reduceToInt, Int32.toInt_zero] at q; omega, by have q := y4.2; simp only [i_lt, Int32.reduceToInt] at q; omega⟩
              have hl : am_in l 4 := ⟨by have q := y2.1; simp only [i_le, Int32.reduceToInt, Int32.toInt_zero] at q; omega, by have q := y2.2; simp only [i_le, Int32.reduceToInt] at q; omega⟩
              have hq : q = -1 ∨ am_in q 5 := z1.imp id (fun z => ⟨by have w := z.1; simp only [i_le, Int32.reduceToInt, Int32.toInt_zero] at w; omega, by have w := z.2; simp only [i_lt, Int32.reduceToInt] at w; omega⟩)
              have hp2 : p.toInt < (M.1 201 0).toInt := by have q := y0.2; rw [i_lt] at q; exact q
              have s0 : 0 ≤ (0 : Int32).toInt := by decide
              have hyk : am_in y 40 ∧ am_in k 40 := ⟨hy, hk⟩
              rcases z1 with z8 | z9
              · skip
                subst z8
                have q9 : (if (0 : Int32) ≤ -1 ∧ (-1 : Int32) < 5 then (1 : Int32) else 0) = 0 := by decide
                have q8 : (-1 : Int32) = -1 := rfl
                repeat' (first | (with_reducible exact hmn) | (with_reducible exact hp) | (with_reducible exact hp2) | (with_reducible exact hq) | (with_reducible exact hl) | (with_reducible exact hyk) | (with_reducible exact s0) | apply And.intro | exact rfl | (intro hx; with_reducible exact absurd hx q0) | (intro hx; with_reducible exact absurd hx q2) | (intro hx; with_reducible exact absurd hx q3) | (intro hx; with_reducible exact absurd hx q4) | (intro hx; with_reducible exact absurd q9 hx) | (intro hx; with_reducible exact absurd q8 hx) | (intro hx; exact absurd hx (by decide)) | (intro hx; exact absurd (by decide) hx) | decide | intro hx | (refine Exists.intro _ (And.intro rfl ?_)))
                all_goals try first | (with_reducible change am_tI _ _) | (change Ret _ _) | (change Ret _ _ _) | (change Exists _)
                all_goals try dsimp only at *
                all_goals try (with_reducible exact absurd ‹(1000 : Int64) = 0› am_z1000)
                all_goals first
                  | exact ⟨_, _, hX⟩
                  | skip
                all_goals
                  rename_i v N c1 r1 e1
                  have w1 := hx
                  refine am_rL (h N c1 r1) ?_
                  rw [w1 rfl, Int64.add_zero] at e1
                  exact e1.symm
              · skip
                have q9 : ¬ ((if 0 ≤ q ∧ q < 5 then (1 : Int32) else 0) = 0) := by rw [if_pos z9]; decide
                have q8 : ¬ q = -1 := fun w => by rw [w] at z9; exact absurd z9 (by decide)
                repeat' (first | (with_reducible exact hmn) | (with_reducible exact hp) | (with_reducible exact hp2) | (with_reducible exact hq) | (with_reducible exact hl) | (with_reducible exact hyk) | (with_reducible exact s0) | apply And.intro | exact rfl | (intro hx; with_reducible exact absurd hx q0) | (intro hx; with_reducible exact absurd hx q9) | (intro hx; with_reducible exact absurd hx q8) | (intro hx; with_reducible exact absurd hx q2) | (intro hx; with_reducible exact absurd hx q3) | (intro hx; with_reducible exact absurd hx q4) | (intro hx; exact absurd hx (by decide)) | (intro hx; exact absurd (by decide) hx) | decide | intro hx | (refine Exists.intro _ (And.intro rfl ?_)))
                all_goals try first | (with_reducible change am_tI _ _) | (change Ret _ _) | (change Ret _ _ _) | (change Exists _)
                all_goals try dsimp only at *
                all_goals try (with_reducible exact absurd ‹(1000 : Int64) = 0› am_z1000)
                all_goals first
                  | exact ⟨_, _, hX⟩
                  | skip
                all_goals
                  rename_i v N c1 r1 e1
                  have w1 := hx
                  refine am_rL (h N c1 r1) ?_
                  rw [w1 rfl, Int64.add_zero] at e1
                  exact e1.symm
  · exact h.elim
def kX8_choiceE (live : am_E) (Ret : am_R) : am_code := [(0, am_aload 0 1), (1, am_iload 1 2), (2, am_callV live 8 1 TX8_isPerson 5), (5, am_if1 (fun x => x = 0) 43 8), (8, am_iload 2 9), (9, am_const (.int (-1)) 10), (10, am_if2 (fun x y => x = y) 20 13), (13, am_iload 2 14), (14, am_callS live 1 TX8_isPlan 17), (17, am_if1 (fun x => x = 0) 43 20), (20, am_iload 3 21), (21, am_callS live 1 TX8_isLife 24), (24, am_if1 (fun x => x = 0) 43 27), (27, am_iload 4 29), (29, am_callS live 1 TX8_isYear 32), (32, am_if1 (fun x => x = 0) 43 35), (35, am_iload 5 37), (37, am_callS live 1 TX8_isYear 40), (40, am_if1 (fun x => x = 0) 43 47), (43, am_const (.long (-2)) 46), (46, am_retL Ret), (47, am_aload 0 48), (48, am_iload 2 49), (49, am_putI live 8 7 52), (52, am_aload 0 53), (53, am_iload 4 55), (55, am_putI live 8 8 58), (58, am_aload 0 59), (59, am_iload 1 60), (60, am_iload 3 61), (61, am_iload 4 63), (63, am_iload 5 65), (65, am_const (.long 0) 66), (66, am_callV live 8 5 TE8_lived 69), (69, am_lstore 6 8 71), (71, am_aload 0 72), (72, am_const (.int (-1)) 73), (73, am_putI live 8 7 76), (76, am_lload 6 78), (78, am_retL Ret)]
theorem koX8_choiceE (live : am_E) (Ret : am_R) : ∀ q ∈ kX8_choiceE live Ret, am_ok RX8 cX8_choice 8 (some .long) 11 282 live Ret q.1 q.2 :=
  am_kz dzX8_choice <|
  am_kd (fun d => ak_aload_n d rfl rfl) <|
  am_kd (fun d => ak_iload_n d rfl rfl) <|
  am_kd (fun d => ak_callV (C := RX8) (F := TX8) (N := 27) metX8_isPerson rfl ⟨rfl, hy_X8_isPerson⟩ (am_w5 wd_993 wd_995 wd_27 wd_67 wd_996) (by decide) d rfl) <|
  am_kd (fun d => ak_if_eq d (by decide +kernel) rfl) <|
  am_kd (fun d => ak_iload_n d rfl rfl) <|
  am_kd (fun d => ak_iconst d (by decide +kernel) rfl) <|
  am_kd (fun d => ak_icmp_eq d (by decide +kernel) rfl) <|
  am_kd (fun d => ak_iload_n d rfl rfl) <|
  am_kd (fun d => ak_callS metX8_isPlan ⟨rfl, hy_X8_isPlan⟩ (am_w4 wd_1034 wd_1035 wd_67 wd_1036) (by decide) d rfl) <|
  am_kd (fun d => ak_if_eq d (by decide +kernel) rfl) <|
  am_kd (fun d => ak_iload_n d rfl rfl) <|
  am_kd (fun d => ak_callS metX8_isLife ⟨rfl, hy_X8_isLife⟩ (am_w4 wd_1225 wd_1226 wd_67 wd_1227) (by decide) d rfl) <|
  am_kd (fun d => ak_if_eq d (by decide +kernel) rfl) <|
  am_kd (fun d => ak_iload d rfl) <|
  am_kd (fun d => ak_callS metX8_isYear ⟨rfl, hy_X8_isYear⟩ (am_w4 wd_982 wd_983 wd_67 wd_984) (by decide) d rfl) <|
  am_kd (fun d => ak_if_eq d (by decide +kernel) rfl) <|
  am_kd (fun d => ak_iload d rfl) <|
  am_kd (fun d => ak_callS metX8_isYear ⟨rfl, hy_X8_isYear⟩ (am_w4 wd_982 wd_983 wd_67 wd_984) (by decide) d rfl) <|
  am_kd (fun d => ak_if_ne d (by decide +kernel) rfl) <|
  am_kd (fun d => ak_ldc2 wd_1153 d rfl) <|
  am_kd (fun d => ak_retL d) <|
  am_kd (fun d => ak_aload_n d rfl rfl) <|
  am_kd (fun d => ak_iload_n d rfl rfl) <|
  am_kd (fun d => ak_putI (C := RX8) (T := TX8) (N := 27) rfl inX8w tyX8_ok nmX8 (by decide) rfl rfl rfl rfl (by decide +kernel) wd_902 d rfl) <|
  am_kd (fun d => ak_aload_n d rfl rfl) <|
  am_kd (fun d => ak_iload d rfl) <|
  am_kd (fun d => ak_putI (C := RX8) (T := TX8) (N := 27) rfl inX8w tyX8_ok nmX8 (by decide) rfl rfl rfl rfl (by decide +kernel) wd_903 d rfl) <|
  am_kd (fun d => ak_aload_n d rfl rfl) <|
  am_kd (fun d => ak_iload_n d rfl rfl) <|
  am_kd (fun d => ak_iload_n d rfl rfl) <|
  am_kd (fun d => ak_iload d rfl) <|
  am_kd (fun d => ak_iload d rfl) <|
  am_kd (fun d => ak_lconst d (by decide +kernel) rfl) <|
  am_kd (fun d => ak_callV (C := RX8) (F := TX8) (N := 27) metX8_livedE rfl ⟨rfl, hy_X8_lived⟩ (am_w5 wd_1232 wd_1234 wd_51 wd_67 wd_1235) (by decide) d rfl) <|
  am_kd (fun d => ak_lstore d rfl) <|
  am_kd (fun d => ak_aload_n d rfl rfl) <|
  am_kd (fun d => ak_iconst d (by decide +kernel) rfl) <|
  am_kd (fun d => ak_putI (C := RX8) (T := TX8) (N := 27) rfl inX8w tyX8_ok nmX8 (by decide) rfl rfl rfl rfl (by decide +kernel) wd_902 d rfl) <|
  am_kd (fun d => ak_lload d rfl) <|
  am_kd (fun d => ak_retL d) <| am_kdn
def TE8_choice : am_T := fun live as M R => match as with
  | [.ref n, .int p, .int q, .int l, .int y, .int k] => am_mn live ∧ n = 200 ∧ (∃ i1 i2, LX i1 i2 M) ∧ ∀ M', r_sc M M' → r_I M' → R (some (.long (r_choiceV M p q l y k))) M'
  | _ => False
set_option maxRecDepth 100000 in
set_option maxHeartbeats 4000000 in
theorem metX8_choiceE : am_Met yX8_choice cX8_choice 8 (some .long) (11) (282) TE8_choice := by
  refine am_met (own := RX8) (by decide +kernel) rfl kX8_choiceE koX8_choiceE 200 (fun _ _ _ _ _ => none) (fun live as M Ret h => ?_) (fun _ _ _ _ _ _ _ _ hI => by cases hI)
  unfold TE8_choice at h
  split at h
  · next n p q l y k =>
    refine ⟨Nat.le_of_ble_eq_true rfl, ?_⟩
    change am_wp _ _ _ _ [(0, Value.ref n), (1, Value.int p), (2, Value.int q), (3, Value.int l), (4, Value.int y), (5, Value.int k)] _ _
    obtain ⟨hmn, rfl, ⟨j1, j2, hX⟩, h⟩ := h
    have hmn2 := hmn
    obtain ⟨i1, i2, rfl⟩ := hmn2
    have l201 : am_len 201 = 3760 := rfl
    have hR := hX.li.i
    have le1 := hX.li.e1
    have le0 := hX.li.e0
    have n0 := hR.n0
    have n1 := hR.n1
    have n030 : 0 ≤ (M.1 201 0).toInt ∧ (M.1 201 0).toInt ≤ 30 := ⟨n0.1, by omega⟩
    by_cases z0 : 0 ≤ p ∧ p < M.1 201 0
    rotate_left
    · skip
      have q0 : (if 0 ≤ p ∧ p < M.1 201 0 then (1 : Int32) else 0) = 0 := if_neg z0
      have e : r_choiceV M p q l y k = -2 := by unfold r_choiceV; rw [if_neg (fun q => z0 (by first | exact q | (rw [le1]; exact q) | (rw [le0]; exact q)))]
      rw [e] at h
      repeat' (first | (with_reducible exact hmn) | (with_reducible exact n030) | (with_reducible exact n1) | apply And.intro | exact rfl | (intro hx; with_reducible exact absurd q0 hx) | (intro hx; exact absurd hx (by decide)) | (intro hx; exact absurd (by decide) hx) | decide | intro hx | (refine Exists.intro _ (And.intro rfl ?_)))
      all_goals try first | (with_reducible change am_tI _ _) | (change Ret _ _) | (change Ret _ _ _) | (change Exists _)
      all_goals try dsimp only at *
      all_goals try (with_reducible exact absurd ‹(1000 : Int64) = 0› am_z1000)
      all_goals exact h _ r_sc.rf hR
    · skip
      have q0 : ¬ ((if 0 ≤ p ∧ p < M.1 201 0 then (1 : Int32) else 0) = 0) := by rw [if_pos z0]; decide
      have y0 : 0 ≤ p ∧ p < M.1 201 0 := by first | exact z0 | (rw [← le1]; exact z0) | (rw [← le0]; exact z0)
      by_cases z1 : q = -1 ∨ (0 ≤ q ∧ q < 5)
      rotate_left
      · skip
        have q8 : ¬ q = -1 := fun z => z1 (Or.inl z)
        have q9 : (if 0 ≤ q ∧ q < 5 then (1 : Int32) else 0) = 0 := if_neg (fun z => z1 (Or.inr z))
        have e : r_choiceV M p q l y k = -2 := by unfold r_choiceV; rw [if_pos y0, if_neg (fun q => z1 (by first | exact q | (rw [le1]; exact q) | (rw [le0]; exact q)))]
        rw [e] at h
        repeat' (first | (with_reducible exact hmn) | (with_reducible exact n030) | (with_reducible exact n1) | apply And.intro | exact rfl | (intro hx; with_reducible exact absurd hx q0) | (intro hx; with_reducible exact absurd hx q8) | (intro hx; with_reducible exact absurd q9 hx) | (intro hx; exact absurd hx (by decide)) | (intro hx; exact absurd (by decide) hx) | decide | intro hx | (refine Exists.intro _ (And.intro rfl ?_)))
        all_goals try first | (with_reducible change am_tI _ _) | (change Ret _ _) | (change Ret _ _ _) | (change Exists _)
        all_goals try dsimp only at *
        all_goals try (with_reducible exact absurd ‹(1000 : Int64) = 0› am_z1000)
        all_goals exact h _ r_sc.rf hR
      · skip
        have y1 : q = -1 ∨ (0 ≤ q ∧ q < 5) := by first | exact z1 | (rw [← le1]; exact z1) | (rw [← le0]; exact z1)
        by_cases z2 : 0 ≤ l ∧ l ≤ 3
        rotate_left
        · skip
          have q2 : (if 0 ≤ l ∧ l ≤ 3 then (1 : Int32) else 0) = 0 := if_neg z2
          have e : r_choiceV M p q l y k = -2 := by unfold r_choiceV; rw [if_pos y0, if_pos y1, if_neg (fun q => z2 (by first | exact q | (rw [le1]; exact q) | (rw [le0]; exact q)))]
          rw [e] at h
          repeat' (first | (with_reducible exact hmn) | (with_reducible exact n030) | (with_reducible exact n1) | apply And.intro | exact rfl | (intro hx; with_reducible exact absurd hx q0) | (intro hx; with_reducible exact absurd q2 hx) | (intro hx; exact absurd hx (by decide)) | (intro hx; exact absurd (by decide) hx) | decide | intro hx | (refine Exists.intro _ (And.intro rfl ?_)))
          all_goals try first | (with_reducible change am_tI _ _) | (change Ret _ _) | (change Ret _ _ _) | (change Exists _)
          all_goals try dsimp only at *
          all_goals try (with_reducible exact absurd ‹(1000 : Int64) = 0› am_z1000)
          all_goals exact h _ r_sc.rf hR
        · skip
          have q2 : ¬ ((if 0 ≤ l ∧ l ≤ 3 then (1 : Int32) else 0) = 0) := by rw [if_pos z2]; decide
          have y2 : 0 ≤ l ∧ l ≤ 3 := by first | exact z2 | (rw [← le1]; exact z2) | (rw [← le0]; exact z2)
          by_cases z3 : 0 ≤ y ∧ y < 40
          rotate_left
          · skip
            have q3 : (if 0 ≤ y ∧ y < 40 then (1 : Int32) else 0) = 0 := if_neg z3
            have e : r_choiceV M p q l y k = -2 := by unfold r_choiceV; rw [if_pos y0, if_pos y1, if_pos y2, if_neg (fun q => z3 (by first | exact q | (rw [le1]; exact q) | (rw [le0]; exact q)))]
            rw [e] at h
            repeat' (first | (with_reducible exact hmn) | (with_reducible exact n030) | (with_reducible exact n1) | apply And.intro | exact rfl | (intro hx; with_reducible exact absurd hx q0) | (intro hx; with_reducible exact absurd hx q2) | (intro hx; with_reducible exact absurd q3 hx) | (intro hx; exact absurd hx (by decide)) | (intro hx; exact absurd (by decide) hx) | decide | intro hx | (refine Exists.intro _ (And.intro rfl ?_)))
            all_goals try first | (with_reducible change am_tI _ _) | (change Ret _ _) | (change Ret _ _ _) | (change Exists _)
            all_goals try dsimp only at *
            all_goals try (with_reducible exact absurd ‹(1000 : Int64) = 0› am_z1000)
            all_goals exact h _ r_sc.rf hR
          · skip
            have q3 : ¬ ((if 0 ≤ y ∧ y < 40 then (1 : Int32) else 0) = 0) := by rw [if_pos z3]; decide
            have y3 : 0 ≤ y ∧ y < 40 := by first | exact z3 | (rw [← le1]; exact z3) | (rw [← le0]; exact z3)
            by_cases z4 : 0 ≤ k ∧ k < 40
            rotate_left
            · skip
              have q4 : (if 0 ≤ k ∧ k < 40 then (1 : Int32) else 0) = 0 := if_neg z4
              have e : r_choiceV M p q l y k = -2 := by unfold r_choiceV; rw [if_pos y0, if_pos y1, if_pos y2, if_pos y3, if_neg (fun q => z4 (by first | exact q | (rw [le1]; exact q) | (rw [le0]; exact q)))]
              rw [e] at h
              repeat' (first | (with_reducible exact hmn) | (with_reducible exact n030) | (with_reducible exact n1) | apply And.intro | exact rfl | (intro hx; with_reducible exact absurd hx q0) | (intro hx; with_reducible exact absurd hx q2) | (intro hx; with_reducible exact absurd hx q3) | (intro hx; with_reducible exact absurd q4 hx) | (intro hx; exact absurd hx (by decide)) | (intro hx; exact absurd (by decide) hx) | decide | intro hx | (refine Exists.intro _ (And.intro rfl ?_)))
              all_goals try first | (with_reducible change am_tI _ _) | (change Ret _ _) | (change Ret _ _ _) | (change Exists _)
              all_goals try dsimp only at *
              all_goals try (with_reducible exact absurd ‹(1000 : Int64) = 0› am_z1000)
              all_goals exact h _ r_sc.rf hR
            · skip
              have q4 : ¬ ((if 0 ≤ k ∧ k < 40 then (1 : Int32) else 0) = 0) := by rw [if_pos z4]; decide
              have y4 : 0 ≤ k ∧ k < 40 := by first | exact z4 | (rw [← le1]; exact z4) | (rw [← le0]; exact z4)
              have e : r_choiceV M p q l y k = r_livV (r_ld M q y) p l y.toNatClampNeg k 0 := by unfold r_choiceV; rw [if_pos y0, if_pos y1, if_pos y2, if_pos y3, if_pos y4]
              rw [e] at h
              have hp : am_in p 12 := ⟨by have q := y0.1; simp only [i_le, Int32.reduceToInt, Int32.toInt_zero] at q; omega, by have q := y0.2; simp only [i_lt] at q; omega⟩
              have hy : am_in y 40 := ⟨by have q := y3.1; simp only [i_le, Int32.reduceToInt, Int32.toInt_zero] at q; omega, by have q := y3.2; simp only [i_lt, Int32.reduceToInt] at q; omega⟩
              have hk : am_in k 40 := ⟨by have q := y4.1; simp only [i_le, Int32.reduceToInt, Int32.toInt_zero] at q; omega, by have q := y4.2; simp only [i_lt, Int32.reduceToInt] at q; omega⟩
              have hl : am_in l 4 := ⟨by have q := y2.1; simp only [i_le, Int32.reduceToInt, Int32.toInt_zero] at q; omega, by have q := y2.2; simp only [i_le, Int32.reduceToInt] at q; omega⟩
              have hq : q = -1 ∨ am_in q 5 := z1.imp id (fun z => ⟨by have w := z.1; simp only [i_le, Int32.reduceToInt, Int32.toInt_zero] at w; omega, by have w := z.2; simp only [i_lt, Int32.reduceToInt] at w; omega⟩)
              have hp2 : p.toInt < (M.1 201 0).toInt := by have q := y0.2; rw [i_lt] at q; exact q
              have hn3 := hX.li.n7
              have hr7 : r_I (am_wI (am_wI M 200 7 q) 200 8 y) := (hR.w7 hq).wI rfl
              have ho7 : r_oa (am_wI (am_wI M 200 7 q) 200 8 y) p := r_oa_ld hX.roa
              rcases z1 with z8 | z9
              · skip
                subst z8
                have q9 : (if (0 : Int32) ≤ -1 ∧ (-1 : Int32) < 5 then (1 : Int32) else 0) = 0 := by decide
                have q8 : (-1 : Int32) = -1 := rfl
                repeat' (first | (with_reducible exact hmn) | (with_reducible exact n030) | (with_reducible exact n1) | (with_reducible exact hp) | (with_reducible exact hl) | (with_reducible exact hy) | (with_reducible exact hr7) | (with_reducible exact ho7) | apply And.intro | exact rfl | (intro hx; with_reducible exact absurd hx q0) | (intro hx; with_reducible exact absurd hx q2) | (intro hx; with_reducible exact absurd hx q3) | (intro hx; with_reducible exact absurd hx q4) | (intro hx; with_reducible exact absurd q9 hx) | (intro hx; with_reducible exact absurd q8 hx) | ((with_reducible change r_I _); (with_reducible assumption)) | (intro hx; exact absurd hx (by decide)) | (intro hx; exact absurd (by decide) hx) | decide | intro hx | (refine Exists.intro _ (And.intro rfl ?_)))
                all_goals try first | (with_reducible change am_tI _ _) | (change Ret _ _) | (change Ret _ _ _) | (change Exists _)
                all_goals try dsimp only at *
                all_goals try (with_reducible exact absurd ‹(1000 : Int64) = 0› am_z1000)
                all_goals
                  rename_i N ky
                  have rN := hx
                  exact h _ (r_sc.w7 ky.sc hn3) (r_I.w7 rN (Or.inl rfl))
              · skip
                have q9 : ¬ ((if 0 ≤ q ∧ q < 5 then (1 : Int32) else 0) = 0) := by rw [if_pos z9]; decide
                have q8 : ¬ q = -1 := fun w => by rw [w] at z9; exact absurd z9 (by decide)
                repeat' (first | (with_reducible exact hmn) | (with_reducible exact n030) | (with_reducible exact n1) | (with_reducible exact hp) | (with_reducible exact hl) | (with_reducible exact hy) | (with_reducible exact hr7) | (with_reducible exact ho7) | apply And.intro | exact rfl | (intro hx; with_reducible exact absurd hx q0) | (intro hx; with_reducible exact absurd hx q9) | (intro hx; with_reducible exact absurd hx q8) | (intro hx; with_reducible exact absurd hx q2) | (intro hx; with_reducible exact absurd hx q3) | (intro hx; with_reducible exact absurd hx q4) | ((with_reducible change r_I _); (with_reducible assumption)) | (intro hx; exact absurd hx (by decide)) | (intro hx; exact absurd (by decide) hx) | decide | intro hx | (refine Exists.intro _ (And.intro rfl ?_)))
                all_goals try first | (with_reducible change am_tI _ _) | (change Ret _ _) | (change Ret _ _ _) | (change Exists _)
                all_goals try dsimp only at *
                all_goals try (with_reducible exact absurd ‹(1000 : Int64) = 0› am_z1000)
                all_goals
                  rename_i N ky
                  have rN := hx
                  exact h _ (r_sc.w7 ky.sc hn3) (r_I.w7 rN (Or.inl rfl))
  · exact h.elim
/-- one bit for each life -/
def r_bits (M : am_M) (p s y k : Int32) : Nat → Int32
  | 0 => 0
  | n + 1 => r_bits M p s y k n ||| (if r_livV M p (Int32.ofNat n) y.toNatClampNeg k s.toInt64 < r_livV M p (Int32.ofNat n) y.toNatClampNeg k 0 then 1 <<< (Int32.ofNat n &&& 31) else 0)
theorem r_bits_y {M : am_M} {p s y k l : Int32} (hl : am_in l 4) (z : r_livV M p l y.toNatClampNeg k s.toInt64 < r_livV M p l y.toNatClampNeg k 0) : r_bits M p s y k (l.toNatClampNeg + 1) = r_bits M p s y k l.toNatClampNeg ||| (1 <<< (l &&& 31)) := by
  show r_bits M p s y k l.toNatClampNeg ||| _ = _
  rw [o_cl hl (by decide), if_pos z]
theorem r_bits_n {M : am_M} {p s y k l : Int32} (hl : am_in l 4) (z : ¬ r_livV M p l y.toNatClampNeg k s.toInt64 < r_livV M p l y.toNatClampNeg k 0) : r_bits M p s y k (l.toNatClampNeg + 1) = r_bits M p s y k l.toNatClampNeg := by
  show r_bits M p s y k l.toNatClampNeg ||| _ = _
  rw [o_cl hl (by decide), if_neg z, Int32.or_zero]
theorem r_bits_n0 {M : am_M} {p s y k l : Int32} (hl : am_in l 4) (z : ¬ r_livV M p l y.toNatClampNeg k s.toInt64 < r_livV M p l y.toNatClampNeg k 0) : r_bits M p s y k (l.toNatClampNeg + 1) = r_bits M p s y k l.toNatClampNeg ||| 0 := by
  show r_bits M p s y k l.toNatClampNeg ||| _ = _
  rw [o_cl hl (by decide), if_neg z]
theorem r_bits_cg {M N : am_M} (h1 : N.1 201 = M.1 201) (h2 : N.1 200 = M.1 200) {p s y k : Int32} : ∀ n : Nat, r_bits N p s y k n = r_bits M p s y k n
  | 0 => rfl
  | n + 1 => by
    unfold r_bits
    rw [r_bits_cg h1 h2 n, r_liv_cg2 h1 h2, r_liv_cg2 h1 h2]
def r_earlyV (M : am_M) (p s y k : Int32) : Int32 := if 0 ≤ p ∧ p < M.1 201 0 then (if 1 ≤ s ∧ s ≤ 1000000000 then (if 0 ≤ y ∧ y < 40 then (if 0 ≤ k ∧ k < 40 then r_bits M p s y k 4 else -2) else -2) else -2) else -2
def kX7_earlyE (live : am_E) (Ret : am_R) : am_code := [(0, am_aload 0 1), (1, am_iload 1 2), (2, am_callV live 7 1 TX7_isPerson 5), (5, am_if1 (fun x => x = 0) 33 8), (8, am_iload 2 9), (9, am_const (.int 1) 10), (10, am_const (.int 1000000000) 12), (12, am_callS live 3 TX7_within 15), (15, am_if1 (fun x => x = 0) 33 18), (18, am_iload 3 19), (19, am_callS live 1 TX7_isYear 22), (22, am_if1 (fun x => x = 0) 33 25), (25, am_iload 4 27), (27, am_callS live 1 TX7_isYear 30), (30, am_if1 (fun x => x = 0) 33 36), (33, am_const (.int (-2)) 35), (35, am_retI Ret), (36, am_const (.int 0) 37), (37, am_istore 5 11 39), (39, am_const (.int 0) 40), (40, am_istore 6 11 42), (42, am_iload 6 44), (44, am_const (.int 4) 45), (45, am_if2 (fun x y => y ≤ x) 107 48), (48, am_aload 0 49), (49, am_iload 1 50), (50, am_const (.int (-1)) 51), (51, am_iload 6 53), (53, am_iload 3 54), (54, am_iload 4 56), (56, am_const (.int 0) 57), (57, am_callV live 7 6 TE7_takenByLife 60), (60, am_lstore 7 11 62), (62, am_aload 0 63), (63, am_iload 1 64), (64, am_const (.int (-1)) 65), (65, am_iload 6 67), (67, am_iload 3 68), (68, am_iload 4 70), (70, am_iload 2 71), (71, am_callV live 7 6 TE7_takenByLife 74), (74, am_aload 0 75), (75, am_getR live 7 2 78), (78, am_getJ live 4 15 81), (81, am_l2 (fun x y => x + y) 82), (82, am_lstore 9 11 84), (84, am_lload 9 86), (86, am_lload 7 88), (88, am_lcmp 89), (89, am_if1 (fun x => 0 ≤ x) 101 92), (92, am_iload 5 94), (94, am_const (.int 1) 95), (95, am_iload 6 97), (97, am_i2 (fun x y => x <<< (y &&& 31)) 98), (98, am_i2 (fun x y => x ||| y) 99), (99, am_istore 5 11 101), (101, am_iinc 6 11 1 104), (104, am_goto 42), (107, am_iload 5 109), (109, am_retI Ret)]
theorem koX7_earlyE (live : am_E) (Ret : am_R) : ∀ q ∈ kX7_earlyE live Ret, am_ok RX7 cX7_early 11 (some .int) 6 152 live Ret q.1 q.2 :=
  am_kz dzX7_early <|
  am_kd (fun d => ak_aload_n d rfl rfl) <|
  am_kd (fun d => ak_iload_n d rfl rfl) <|
  am_kd (fun d => ak_callV (C := RX7) (F := TX7) (N := 4) metX7_isPerson rfl ⟨rfl, hy_X7_isPerson⟩ (am_w5 wd_414 wd_416 wd_0 wd_58 wd_417) (by decide) d rfl) <|
  am_kd (fun d => ak_if_eq d (by decide +kernel) rfl) <|
  am_kd (fun d => ak_iload_n d rfl rfl) <|
  am_kd (fun d => ak_iconst d (by decide +kernel) rfl) <|
  am_kd (fun d => ak_ldc wd_738 d rfl) <|
  am_kd (fun d => ak_callS metX7_within ⟨rfl, hy_X7_within⟩ (am_w4 wd_418 wd_419 wd_58 wd_420) (by decide) d rfl) <|
  am_kd (fun d => ak_if_eq d (by decide +kernel) rfl) <|
  am_kd (fun d => ak_iload_n d rfl rfl) <|
  am_kd (fun d => ak_callS metX7_isYear ⟨rfl, hy_X7_isYear⟩ (am_w4 wd_407 wd_408 wd_58 wd_409) (by decide) d rfl) <|
  am_kd (fun d => ak_if_eq d (by decide +kernel) rfl) <|
  am_kd (fun d => ak_iload d rfl) <|
  am_kd (fun d => ak_callS metX7_isYear ⟨rfl, hy_X7_isYear⟩ (am_w4 wd_407 wd_408 wd_58 wd_409) (by decide) d rfl) <|
  am_kd (fun d => ak_if_ne d (by decide +kernel) rfl) <|
  am_kd (fun d => ak_bipush d (by decide +kernel) rfl) <|
  am_kd (fun d => ak_retI d) <|
  am_kd (fun d => ak_iconst d (by decide +kernel) rfl) <|
  am_kd (fun d => ak_istore d rfl) <|
  am_kd (fun d => ak_iconst d (by decide +kernel) rfl) <|
  am_kd (fun d => ak_istore d rfl) <|
  am_kd (fun d => ak_iload d rfl) <|
  am_kd (fun d => ak_iconst d (by decide +kernel) rfl) <|
  am_kd (fun d => ak_icmp_ge d (by decide +kernel) rfl) <|
  am_kd (fun d => ak_aload_n d rfl rfl) <|
  am_kd (fun d => ak_iload_n d rfl rfl) <|
  am_kd (fun d => ak_iconst d (by decide +kernel) rfl) <|
  am_kd (fun d => ak_iload d rfl) <|
  am_kd (fun d => ak_iload_n d rfl rfl) <|
  am_kd (fun d => ak_iload d rfl) <|
  am_kd (fun d => ak_iconst d (by decide +kernel) rfl) <|
  am_kd (fun d => ak_callV (C := RX7) (F := TX7) (N := 4) metX7_takenByLifeE rfl ⟨rfl, hy_X7_takenByLife⟩ (am_w5 wd_760 wd_762 wd_24 wd_58 wd_763) (by decide) d rfl) <|
  am_kd (fun d => ak_lstore d rfl) <|
  am_kd (fun d => ak_aload_n d rfl rfl) <|
  am_kd (fun d => ak_iload_n d rfl rfl) <|
  am_kd (fun d => ak_iconst d (by decide +kernel) rfl) <|
  am_kd (fun d => ak_iload d rfl) <|
  am_kd (fun d => ak_iload_n d rfl rfl) <|
  am_kd (fun d => ak_iload d rfl) <|
  am_kd (fun d => ak_iload_n d rfl rfl) <|
  am_kd (fun d => ak_callV (C := RX7) (F := TX7) (N := 4) metX7_takenByLifeE rfl ⟨rfl, hy_X7_takenByLife⟩ (am_w5 wd_760 wd_762 wd_24 wd_58 wd_763) (by decide) d rfl) <|
  am_kd (fun d => ak_aload_n d rfl rfl) <|
  am_kd (fun d => ak_getR (C := RX7) (T := TX7) (N := 4) rfl inX7w (by decide) rfl rfl rfl wd_392 d rfl) <|
  am_kd (fun d => ak_getJ (C := RX4) (T := TX4) (N := 19) rfl inX4w (by decide) rfl rfl rfl wd_312 d rfl) <|
  am_kd (fun d => ak_ladd d rfl) <|
  am_kd (fun d => ak_lstore d rfl) <|
  am_kd (fun d => ak_lload d rfl) <|
  am_kd (fun d => ak_lload d rfl) <|
  am_kd (fun d => ak_lcmp d rfl) <|
  am_kd (fun d => ak_if_ge d (by decide +kernel) rfl) <|
  am_kd (fun d => ak_iload d rfl) <|
  am_kd (fun d => ak_iconst d (by decide +kernel) rfl) <|
  am_kd (fun d => ak_iload d rfl) <|
  am_kd (fun d => ak_ishl d rfl) <|
  am_kd (fun d => ak_ior d rfl) <|
  am_kd (fun d => ak_istore d rfl) <|
  am_kd (fun d => ak_iinc d (by decide +kernel) rfl) <|
  am_kd (fun d => ak_goto d (by decide +kernel)) <|
  am_kd (fun d => ak_iload d rfl) <|
  am_kd (fun d => ak_retI d) <| am_kdn
def TE7_early : am_T := fun live as M R => match as with
  | [.ref n, .int p, .int s, .int y, .int k] => am_mn live ∧ n = 0 ∧ (∃ i1 i2, LX i1 i2 M) ∧ ∀ M', g_sc M M' → g_rI M' → R (some (.int (r_earlyV M p s y k))) M'
  | _ => False
def JE7_early : am_E → List Value → am_M → am_R → am_inv := fun live as M0 _ pc => match as with
  | [.ref n, .int p, .int s, .int y, .int k] => (match pc with
    | 42 => some ([0, 1, 2, 3, 4, 5, 6], fun u L st M => ∃ o l : Int32, L = [(0, .ref 0), (1, .int p), (2, .int s), (3, .int y), (4, .int k), (5, .int o), (6, .int l)] ∧ st = [] ∧ u = ((5 - l.toInt).toNat, 0) ∧ (0 ≤ l.toInt ∧ l.toInt ≤ 4) ∧ (am_in p 12 ∧ p.toInt < (M0.1 201 0).toInt ∧ 1 ≤ s.toInt ∧ am_in y 40 ∧ am_in k 40) ∧ r_earlyV M0 p s y k = r_bits M0 p s y k 4 ∧ o = r_bits M0 p s y k l.toNatClampNeg ∧ g_sc M0 M ∧ g_rI M)
    | _ => none)
  | _ => none
set_option maxRecDepth 100000 in
set_option maxHeartbeats 4000000 in
theorem metX7_earlyE : am_Met yX7_early cX7_early 11 (some .int) (6) (152) TE7_early := by
  refine am_met (own := RX7) (by decide +kernel) rfl kX7_earlyE koX7_earlyE 200 JE7_early ?_ ?_
  · intro live as M Ret h
    unfold TE7_early at h
    split at h
    · next n p s y k =>
      refine ⟨Nat.le_of_ble_eq_true rfl, ?_⟩
      change am_wp _ _ _ _ [(0, Value.ref n), (1, Value.int p), (2, Value.int s), (3, Value.int y), (4, Value.int k)] _ _
      obtain ⟨hmn, rfl, ⟨j1, j2, hX⟩, h⟩ := h
      have hmn2 := hmn
      obtain ⟨i1, i2, rfl⟩ := hmn2
      have hR := hX.li.g
      have le1 := hX.li.e1
      have le0 := hX.li.e0
      have n1 := hX.li.n1
      have n0 := hX.li.n0
      by_cases z0 : 0 ≤ p ∧ p < M.1 21 7
      rotate_left
      · skip
        have q0 : (if 0 ≤ p ∧ p < M.1 21 7 then (1 : Int32) else 0) = 0 := if_neg z0
        have e : r_earlyV M p s y k = -2 := by unfold r_earlyV; rw [if_neg (fun q => z0 (by first | exact q | (rw [le1]; exact q) | (rw [le0]; exact q)))]
        rw [e] at h
        repeat' (first | (with_reducible exact hmn) | apply And.intro | exact rfl | (intro hx; with_reducible exact absurd q0 hx) | (intro hx; exact absurd hx (by decide)) | (intro hx; exact absurd (by decide) hx) | decide | intro hx | (refine Exists.intro _ (And.intro rfl ?_)))
        all_goals try first | (with_reducible change am_tI _ _) | (change Ret _ _) | (change Ret _ _ _) | (change Exists _)
        all_goals try dsimp only at *
        all_goals try (with_reducible exact absurd ‹(1000 : Int64) = 0› am_z1000)
        all_goals exact h _ g_sc.rf hR
      · skip
        have q0 : ¬ ((if 0 ≤ p ∧ p < M.1 21 7 then (1 : Int32) else 0) = 0) := by rw [if_pos z0]; decide
        have y0 : 0 ≤ p ∧ p < M.1 201 0 := by first | exact z0 | (rw [← le1]; exact z0) | (rw [← le0]; exact z0)
        by_cases z1 : 1 ≤ s ∧ s ≤ 1000000000
        rotate_left
        · skip
          have q1 : (if 1 ≤ s ∧ s ≤ 1000000000 then (1 : Int32) else 0) = 0 := if_neg z1
          have e : r_earlyV M p s y k = -2 := by unfold r_earlyV; rw [if_pos y0, if_neg (fun q => z1 (by first | exact q | (rw [le1]; exact q) | (rw [le0]; exact q)))]
          rw [e] at h
          repeat' (first | (with_reducible exact hmn) | apply And.intro | exact rfl | (intro hx; with_reducible exact absurd hx q0) | (intro hx; with_reducible exact absurd q1 hx) | (intro hx; exact absurd hx (by decide)) | (intro hx; exact absurd (by decide) hx) | decide | intro hx | (refine Exists.intro _ (And.intro rfl ?_)))
          all_goals try first | (with_reducible change am_tI _ _) | (change Ret _ _) | (change Ret _ _ _) | (change Exists _)
          all_goals try dsimp only at *
          all_goals try (with_reducible exact absurd ‹(1000 : Int64) = 0› am_z1000)
          all_goals exact h _ g_sc.rf hR
        · skip
          have q1 : ¬ ((if 1 ≤ s ∧ s ≤ 1000000000 then (1 : Int32) else 0) = 0) := by rw [if_pos z1]; decide
          have y1 : 1 ≤ s ∧ s ≤ 1000000000 := by first | exact z1 | (rw [← le1]; exact z1) | (rw [← le0]; exact z1)
          by_cases z2 : 0 ≤ y ∧ y < 40
          rotate_left
          · skip
            have q2 : (if 0 ≤ y ∧ y < 40 then (1 : Int32) else 0) = 0 := if_neg z2
            have e : r_earlyV M p s y k = -2 := by unfold r_earlyV; rw [if_pos y0, if_pos y1, if_neg (fun q => z2 (by first | exact q | (rw [le1]; exact q) | (rw [le0]; exact q)))]
            rw [e] at h
            repeat' (first | (with_reducible exact hmn) | apply And.intro | exact rfl | (intro hx; with_reducible exact absurd hx q0) | (intro hx; with_reducible exact absurd hx q1) | (intro hx; with_reducible exact absurd q2 hx) | (intro hx; exact absurd hx (by decide)) | (intro hx; exact absurd (by decide) hx) | decide | intro hx | (refine Exists.intro _ (And.intro rfl ?_)))
            all_goals try first | (with_reducible change am_tI _ _) | (change Ret _ _) | (change Ret _ _ _) | (change Exists _)
            all_goals try dsimp only at *
            all_goals try (with_reducible exact absurd ‹(1000 : Int64) = 0› am_z1000)
            all_goals exact h _ g_sc.rf hR
          · skip
            have q2 : ¬ ((if 0 ≤ y ∧ y < 40 then (1 : Int32) else 0) = 0) := by rw [if_pos z2]; decide
            have y2 : 0 ≤ y ∧ y < 40 := by first | exact z2 | (rw [← le1]; exact z2) | (rw [← le0]; exact z2)
            by_cases z3 : 0 ≤ k ∧ k < 40
            rotate_left
            · skip
              have q3 : (if 0 ≤ k ∧ k < 40 then (1 : Int32) else 0) = 0 := if_neg z3
              have e : r_earlyV M p s y k = -2 := by unfold r_earlyV; rw [if_pos y0, if_pos y1, if_pos y2, if_neg (fun q => z3 (by first | exact q | (rw [le1]; exact q) | (rw [le0]; exact q)))]
              rw [e] at h
              repeat' (first | (with_reducible exact hmn) | apply And.intro | exact rfl | (intro hx; with_reducible exact absurd hx q0) | (intro hx; with_reducible exact absurd hx q1) | (intro hx; with_reducible exact absurd hx q2) | (intro hx; with_reducible exact absurd q3 hx) | (intro hx; exact absurd hx (by decide)) | (intro hx; exact absurd (by decide) hx) | decide | intro hx | (refine Exists.intro _ (And.intro rfl ?_)))
              all_goals try first | (with_reducible change am_tI _ _) | (change Ret _ _) | (change Ret _ _ _) | (change Exists _)
              all_goals try dsimp only at *
              all_goals try (with_reducible exact absurd ‹(1000 : Int64) = 0› am_z1000)
              all_goals exact h _ g_sc.rf hR
            · skip
              have q3 : ¬ ((if 0 ≤ k ∧ k < 40 then (1 : Int32) else 0) = 0) := by rw [if_pos z3]; decide
              have y3 : 0 ≤ k ∧ k < 40 := by first | exact z3 | (rw [← le1]; exact z3) | (rw [← le0]; exact z3)
              have e : r_earlyV M p s y k = r_bits M p s y k 4 := by unfold r_earlyV; rw [if_pos y0, if_pos y1, if_pos y2, if_pos y3]
              rw [e] at h
              have hp : am_in p 12 := ⟨by have q := y0.1; simp only [i_le, Int32.reduceToInt, Int32.toInt_zero] at q; omega, by have q := y0.2; simp only [i_lt] at q; omega⟩
              have hs : 1 ≤ s.toInt ∧ s.toInt ≤ 1000000000 := ⟨by have q := y1.1; simp only [i_le, Int32.reduceToInt] at q; omega, by have q := y1.2; simp only [i_le, Int32.reduceToInt] at q; omega⟩
              have hy : am_in y 40 := ⟨by have q := y2.1; simp only [i_le, Int32.reduceToInt, Int32.toInt_zero] at q; omega, by have q := y2.2; simp only [i_lt, Int32.reduceToInt] at q; omega⟩
              have hk : am_in k 40 := ⟨by have q := y3.1; simp only [i_le, Int32.reduceToInt, Int32.toInt_zero] at q; omega, by have q := y3.2; simp only [i_lt, Int32.reduceToInt] at q; omega⟩
              have hp2 : p.toInt < (M.1 201 0).toInt := by have q := y0.2; rw [i_lt] at q; exact q
              repeat' (first | (with_reducible exact hmn) | apply And.intro | exact rfl | (intro hx; with_reducible exact absurd hx q0) | (intro hx; with_reducible exact absurd hx q1) | (intro hx; with_reducible exact absurd hx q2) | (intro hx; with_reducible exact absurd hx q3) | (intro hx; exact absurd hx (by decide)) | (intro hx; exact absurd (by decide) hx) | decide | intro hx | (refine Exists.intro _ (And.intro rfl ?_)))
              all_goals try first | (with_reducible change am_tI _ _) | (change Ret _ _) | (change Ret _ _ _) | (change Exists _)
              all_goals try dsimp only at *
              all_goals try (with_reducible exact absurd ‹(1000 : Int64) = 0› am_z1000)
              all_goals exact ⟨_, _, _, rfl, rfl, rfl, ⟨by decide, by decide⟩, ⟨hp, hp2, hs.1, hy, hk⟩, e, rfl, g_sc.rf, hR⟩
    · exact h.elim
  · intro live as M0 Ret h k pc I hI L st M hi
    unfold TE7_early at h
    split at h
    · next n p s y k =>
      obtain ⟨hmn, rfl, ⟨j1, j2, hX⟩, h⟩ := h
      have hmn2 := hmn
      obtain ⟨i1, i2, rfl⟩ := hmn2
      change (match pc with | 42 => _ | _ => none) = _ at hI
      split at hI
      · cases hI
        obtain ⟨o, l, rfl, rfl, rfl, ⟨e1, e4⟩, ⟨hp, hp2, hs1, hy, hk⟩, eV, eo, e2, e3⟩ := hi
        have hX2 := hX.sc e2 e3
        have c201 : M.1 201 = M0.1 201 := e2.r1 (by decide)
        have c200 : M.1 200 = M0.1 200 := e2.r1 (by decide)
        have cl := i_clamp e1
        by_cases hz : (4 : Int32) ≤ l
        · have hz2 := hz
          simp only [i_le, Int32.reduceToInt] at hz2
          have hh := h M e2 e3
          rw [eV, show (4 : Nat) = l.toNatClampNeg by omega, ← eo] at hh
          repeat' (first | (with_reducible exact hmn) | apply And.intro | exact rfl | (intro hx; with_reducible exact absurd hz hx) | intro hx | (refine Exists.intro _ (And.intro rfl ?_)))
          all_goals try first | (with_reducible change am_tI _ _) | (change Ret _ _) | (change Ret _ _ _) | (change Exists _)
          all_goals try dsimp only at *
          all_goals try (with_reducible exact absurd ‹(1000 : Int64) = 0› am_z1000)
          all_goals exact hh
        · have hz2 := hz
          simp only [i_le, Int32.reduceToInt] at hz2
          have hi := i_inc (x := l) (by omega) (by omega)
          have cl1 := i_clamp (x := l + 1) (by omega)
          have hl : am_in l 4 := ⟨e1, by omega⟩
          have hq : (-1 : Int32) = -1 ∨ am_in (-1 : Int32) 5 := Or.inl rfl
          have hyk : am_in y 40 ∧ am_in k 40 := ⟨hy, hk⟩
          have s0 : 0 ≤ (0 : Int32).toInt := by decide
          have s1 : 0 ≤ s.toInt := by omega
          have hpM : p.toInt < (M.1 201 0).toInt := by rw [c201]; exact hp2
          have h7 := hX.li.n7
          have lv : ∀ q : Int64, r_livV (r_ld M (-1) y) p l y.toNatClampNeg k q = r_livV M0 p l y.toNatClampNeg k q := fun q => (r_liv_ld c201 c200).trans (r_liv_n h7)
          have fin : ∀ (v v2 : Int64) (N N2 : am_M), v + N.2 4 15 = r_livV (r_ld M (-1) y) p l y.toNatClampNeg k (0 : Int32).toInt64 → ((0 : Int32) = 0 → N.2 4 15 = 0) → g_sc M N → v2 + N2.2 4 15 = r_livV (r_ld N (-1) y) p l y.toNatClampNeg k s.toInt64 → (v = r_livV M0 p l y.toNatClampNeg k 0 ∧ v2 + N2.2 4 15 = r_livV M0 p l y.toNatClampNeg k s.toInt64) := fun v v2 N N2 a1 a2 a3 a4 => by
            rw [a2 rfl, Int64.add_zero, lv] at a1
            refine ⟨a1, ?_⟩
            rw [a4, r_liv_ld (a3.r1 (by decide)) (a3.r1 (by decide)), lv]
          repeat' (first | (with_reducible exact hmn) | (with_reducible exact hp) | (with_reducible exact hpM) | (with_reducible exact hq) | (with_reducible exact hl) | (with_reducible exact hyk) | (with_reducible exact s0) | (with_reducible exact s1) | (with_reducible exact e3) | apply And.intro | exact rfl | (intro hx; with_reducible exact absurd hx hz) | ((with_reducible change g_rI _); (with_reducible assumption)) | (intro hx; exact absurd hx (by decide)) | (intro hx; exact absurd (by decide) hx) | decide | intro hx | (refine Exists.intro _ (And.intro rfl ?_)))
          all_goals try first | (with_reducible change am_tI _ _) | (change Ret _ _) | (change Ret _ _ _) | (change Exists _)
          all_goals try dsimp only at *
          all_goals try (with_reducible exact absurd ‹(1000 : Int64) = 0› am_z1000)
          all_goals first
            | exact ⟨_, _, hX2⟩
            | exact ⟨_, _, hX2.sc (by with_reducible assumption) (by with_reducible assumption)⟩
            | (rw [g_sc.r1 (by with_reducible assumption) (show 11 ≤ 201 by decide)]; exact hpM)
            | skip
          · rename_i v N c1 r1 a1 a2 v2 N2 c2 r2 a3 a4
            have b := hx
            obtain ⟨f1, f2⟩ := fin v v2 N N2 a1 a2 c1 a3
            rw [f1, f2] at b
            simp only [lc_eq, lc_lt, lc_ge, lc_gt, lc_le] at b
            refine ⟨_, am_lt_l (by omega), _, _, rfl, rfl, rfl, ⟨by omega, by omega⟩, ⟨hp, hp2, hs1, hy, hk⟩, eV, ?_, (e2.tr c1).tr c2, r2⟩
            rw [show (l + 1).toNatClampNeg = l.toNatClampNeg + 1 by omega, eo]
            first
              | exact (r_bits_n hl (Int64.not_lt.mpr b)).symm
              | exact (r_bits_y hl (Int64.not_le.mp b)).symm
          · rename_i v N c1 r1 a1 a2 v2 N2 c2 r2 a3 a4
            have b := hx
            obtain ⟨f1, f2⟩ := fin v v2 N N2 a1 a2 c1 a3
            rw [f1, f2] at b
            simp only [lc_eq, lc_lt, lc_ge, lc_gt, lc_le] at b
            refine ⟨_, am_lt_l (by omega), _, _, rfl, rfl, rfl, ⟨by omega, by omega⟩, ⟨hp, hp2, hs1, hy, hk⟩, eV, ?_, (e2.tr c1).tr c2, r2⟩
            rw [show (l + 1).toNatClampNeg = l.toNatClampNeg + 1 by omega, eo]
            first
              | exact (r_bits_n hl (Int64.not_lt.mpr b)).symm
              | exact (r_bits_y hl (Int64.not_le.mp b)).symm
      · cases hI
    · exact h.elim
def kX8_earlyE (live : am_E) (Ret : am_R) : am_code := [(0, am_aload 0 1), (1, am_iload 1 2), (2, am_callV live 8 1 TX8_isPerson 5), (5, am_if1 (fun x => x = 0) 35 8), (8, am_iload 2 9), (9, am_i2l 10), (10, am_const (.long 1) 11), (11, am_const (.long 1000000000) 14), (14, am_callS live 3 TX8_in 17), (17, am_if1 (fun x => x = 0) 35 20), (20, am_iload 3 21), (21, am_callS live 1 TX8_isYear 24), (24, am_if1 (fun x => x = 0) 35 27), (27, am_iload 4 29), (29, am_callS live 1 TX8_isYear 32), (32, am_if1 (fun x => x = 0) 35 38), (35, am_const (.int (-2)) 37), (37, am_retI Ret), (38, am_const (.int 0) 39), (39, am_istore 5 7 41), (41, am_const (.int 0) 42), (42, am_istore 6 7 44), (44, am_iload 6 46), (46, am_const (.int 4) 47), (47, am_if2 (fun x y => y ≤ x) 96 50), (50, am_iload 5 52), (52, am_aload 0 53), (53, am_iload 1 54), (54, am_iload 6 56), (56, am_iload 3 57), (57, am_iload 4 59), (59, am_iload 2 60), (60, am_i2l 61), (61, am_callV live 8 5 TE8_lived 64), (64, am_aload 0 65), (65, am_iload 1 66), (66, am_iload 6 68), (68, am_iload 3 69), (69, am_iload 4 71), (71, am_const (.long 0) 72), (72, am_callV live 8 5 TE8_lived 75), (75, am_lcmp 76), (76, am_if1 (fun x => 0 ≤ x) 86 79), (79, am_const (.int 1) 80), (80, am_iload 6 82), (82, am_i2 (fun x y => x <<< (y &&& 31)) 83), (83, am_goto 87), (86, am_const (.int 0) 87), (87, am_i2 (fun x y => x ||| y) 88), (88, am_istore 5 7 90), (90, am_iinc 6 7 1 93), (93, am_goto 44), (96, am_iload 5 98), (98, am_retI Ret)]
theorem koX8_earlyE (live : am_E) (Ret : am_R) : ∀ q ∈ kX8_earlyE live Ret, am_ok RX8 cX8_early 7 (some .int) 11 282 live Ret q.1 q.2 :=
  am_kz dzX8_early <|
  am_kd (fun d => ak_aload_n d rfl rfl) <|
  am_kd (fun d => ak_iload_n d rfl rfl) <|
  am_kd (fun d => ak_callV (C := RX8) (F := TX8) (N := 27) metX8_isPerson rfl ⟨rfl, hy_X8_isPerson⟩ (am_w5 wd_993 wd_995 wd_27 wd_67 wd_996) (by decide) d rfl) <|
  am_kd (fun d => ak_if_eq d (by decide +kernel) rfl) <|
  am_kd (fun d => ak_iload_n d rfl rfl) <|
  am_kd (fun d => ak_i2l d rfl) <|
  am_kd (fun d => ak_lconst d (by decide +kernel) rfl) <|
  am_kd (fun d => ak_ldc2 wd_1216 d rfl) <|
  am_kd (fun d => ak_callS metX8_in ⟨rfl, hy_X8_in⟩ (am_w4 wd_986 wd_987 wd_67 wd_988) (by decide) d rfl) <|
  am_kd (fun d => ak_if_eq d (by decide +kernel) rfl) <|
  am_kd (fun d => ak_iload_n d rfl rfl) <|
  am_kd (fun d => ak_callS metX8_isYear ⟨rfl, hy_X8_isYear⟩ (am_w4 wd_982 wd_983 wd_67 wd_984) (by decide) d rfl) <|
  am_kd (fun d => ak_if_eq d (by decide +kernel) rfl) <|
  am_kd (fun d => ak_iload d rfl) <|
  am_kd (fun d => ak_callS metX8_isYear ⟨rfl, hy_X8_isYear⟩ (am_w4 wd_982 wd_983 wd_67 wd_984) (by decide) d rfl) <|
  am_kd (fun d => ak_if_ne d (by decide +kernel) rfl) <|
  am_kd (fun d => ak_bipush d (by decide +kernel) rfl) <|
  am_kd (fun d => ak_retI d) <|
  am_kd (fun d => ak_iconst d (by decide +kernel) rfl) <|
  am_kd (fun d => ak_istore d rfl) <|
  am_kd (fun d => ak_iconst d (by decide +kernel) rfl) <|
  am_kd (fun d => ak_istore d rfl) <|
  am_kd (fun d => ak_iload d rfl) <|
  am_kd (fun d => ak_iconst d (by decide +kernel) rfl) <|
  am_kd (fun d => ak_icmp_ge d (by decide +kernel) rfl) <|
  am_kd (fun d => ak_iload d rfl) <|
  am_kd (fun d => ak_aload_n d rfl rfl) <|
  am_kd (fun d => ak_iload_n d rfl rfl) <|
  am_kd (fun d => ak_iload d rfl) <|
  am_kd (fun d => ak_iload_n d rfl rfl) <|
  am_kd (fun d => ak_iload d rfl) <|
  am_kd (fun d => ak_iload_n d rfl rfl) <|
  am_kd (fun d => ak_i2l d rfl) <|
  am_kd (fun d => ak_callV (C := RX8) (F := TX8) (N := 27) metX8_livedE rfl ⟨rfl, hy_X8_lived⟩ (am_w5 wd_1232 wd_1234 wd_51 wd_67 wd_1235) (by decide) d rfl) <|
  am_kd (fun d => ak_aload_n d rfl rfl) <|
  am_kd (fun d => ak_iload_n d rfl rfl) <|
  am_kd (fun d => ak_iload d rfl) <|
  am_kd (fun d => ak_iload_n d rfl rfl) <|
  am_kd (fun d => ak_iload d rfl) <|
  am_kd (fun d => ak_lconst d (by decide +kernel) rfl) <|
  am_kd (fun d => ak_callV (C := RX8) (F := TX8) (N := 27) metX8_livedE rfl ⟨rfl, hy_X8_lived⟩ (am_w5 wd_1232 wd_1234 wd_51 wd_67 wd_1235) (by decide) d rfl) <|
  am_kd (fun d => ak_lcmp d rfl) <|
  am_kd (fun d => ak_if_ge d (by decide +kernel) rfl) <|
  am_kd (fun d => ak_iconst d (by decide +kernel) rfl) <|
  am_kd (fun d => ak_iload d rfl) <|
  am_kd (fun d => ak_ishl d rfl) <|
  am_kd (fun d => ak_goto d (by decide +kernel)) <|
  am_kd (fun d => ak_iconst d (by decide +kernel) rfl) <|
  am_kd (fun d => ak_ior d rfl) <|
  am_kd (fun d => ak_istore d rfl) <|
  am_kd (fun d => ak_iinc d (by decide +kernel) rfl) <|
  am_kd (fun d => ak_goto d (by decide +kernel)) <|
  am_kd (fun d => ak_iload d rfl) <|
  am_kd (fun d => ak_retI d) <| am_kdn
def TE8_early : am_T := fun live as M R => match as with
  | [.ref n, .int p, .int s, .int y, .int k] => am_mn live ∧ n = 200 ∧ (∃ i1 i2, LX i1 i2 M) ∧ ∀ M', r_sc M M' → r_I M' → R (some (.int (r_earlyV M p s y k))) M'
  | _ => False
def JE8_early : am_E → List Value → am_M → am_R → am_inv := fun live as M0 _ pc => match as with
  | [.ref n, .int p, .int s, .int y, .int k] => (match pc with
    | 44 => some ([0, 1, 2, 3, 4, 5, 6], fun u L st M => ∃ o l : Int32, L = [(0, .ref 200), (1, .int p), (2, .int s), (3, .int y), (4, .int k), (5, .int o), (6, .int l)] ∧ st = [] ∧ u = ((5 - l.toInt).toNat, 0) ∧ (0 ≤ l.toInt ∧ l.toInt ≤ 4) ∧ (am_in p 12 ∧ am_in y 40) ∧ r_earlyV M0 p s y k = r_bits M0 p s y k 4 ∧ o = r_bits M0 p s y k l.toNatClampNeg ∧ r_ky M0 M ∧ r_I M)
    | _ => none)
  | _ => none
set_option maxRecDepth 100000 in
set_option maxHeartbeats 4000000 in
theorem metX8_earlyE : am_Met yX8_early cX8_early 7 (some .int) (11) (282) TE8_early := by
  refine am_met (own := RX8) (by decide +kernel) rfl kX8_earlyE koX8_earlyE 200 JE8_early ?_ ?_
  · intro live as M Ret h
    unfold TE8_early at h
    split at h
    · next n p s y k =>
      refine ⟨Nat.le_of_ble_eq_true rfl, ?_⟩
      change am_wp _ _ _ _ [(0, Value.ref n), (1, Value.int p), (2, Value.int s), (3, Value.int y), (4, Value.int k)] _ _
      obtain ⟨hmn, rfl, ⟨j1, j2, hX⟩, h⟩ := h
      have hmn2 := hmn
      obtain ⟨i1, i2, rfl⟩ := hmn2
      have l201 : am_len 201 = 3760 := rfl
      have hR := hX.li.i
      have le1 := hX.li.e1
      have le0 := hX.li.e0
      have n0 := hR.n0
      have n1 := hR.n1
      have n030 : 0 ≤ (M.1 201 0).toInt ∧ (M.1 201 0).toInt ≤ 30 := ⟨n0.1, by omega⟩
      by_cases z0 : 0 ≤ p ∧ p < M.1 201 0
      rotate_left
      · skip
        have q0 : (if 0 ≤ p ∧ p < M.1 201 0 then (1 : Int32) else 0) = 0 := if_neg z0
        have e : r_earlyV M p s y k = -2 := by unfold r_earlyV; rw [if_neg (fun q => z0 (by first | exact q | (rw [le1]; exact q) | (rw [le0]; exact q)))]
        rw [e] at h
        repeat' (first | (with_reducible exact hmn) | (with_reducible exact n030) | (with_reducible exact n1) | apply And.intro | exact rfl | (intro hx; with_reducible exact absurd q0 hx) | (intro hx; exact absurd hx (by decide)) | (intro hx; exact absurd (by decide) hx) | decide | intro hx | (refine Exists.intro _ (And.intro rfl ?_)))
        all_goals try first | (with_reducible change am_tI _ _) | (change Ret _ _) | (change Ret _ _ _) | (change Exists _)
        all_goals try dsimp only at *
        all_goals try (with_reducible exact absurd ‹(1000 : Int64) = 0› am_z1000)
        all_goals exact h _ r_sc.rf hR
      · skip
        have q0 : ¬ ((if 0 ≤ p ∧ p < M.1 201 0 then (1 : Int32) else 0) = 0) := by rw [if_pos z0]; decide
        have y0 : 0 ≤ p ∧ p < M.1 201 0 := by first | exact z0 | (rw [← le1]; exact z0) | (rw [← le0]; exact z0)
        by_cases z1 : 1 ≤ s ∧ s ≤ 1000000000
        rotate_left
        · skip
          have q1 : (if (1 : Int64) ≤ s.toInt64 ∧ s.toInt64 ≤ (1000000000 : Int64) then (1 : Int32) else 0) = 0 := if_neg (fun r => z1 (by simp only [i_le, i_lt, j_le, Int32.toInt_toInt64, Int32.reduceToInt, Int64.reduceToInt, Int32.toInt_zero] at r ⊢; omega))
          have e : r_earlyV M p s y k = -2 := by unfold r_earlyV; rw [if_pos y0, if_neg (fun q => z1 (by first | exact q | (rw [le1]; exact q) | (rw [le0]; exact q)))]
          rw [e] at h
          repeat' (first | (with_reducible exact hmn) | (with_reducible exact n030) | (with_reducible exact n1) | apply And.intro | exact rfl | (intro hx; with_reducible exact absurd hx q0) | (intro hx; with_reducible exact absurd q1 hx) | (intro hx; exact absurd hx (by decide)) | (intro hx; exact absurd (by decide) hx) | decide | intro hx | (refine Exists.intro _ (And.intro rfl ?_)))
          all_goals try first | (with_reducible change am_tI _ _) | (change Ret _ _) | (change Ret _ _ _) | (change Exists _)
          all_goals try dsimp only at *
          all_goals try (with_reducible exact absurd ‹(1000 : Int64) = 0› am_z1000)
          all_goals exact h _ r_sc.rf hR
        · skip
          have q1 : ¬ ((if (1 : Int64) ≤ s.toInt64 ∧ s.toInt64 ≤ (1000000000 : Int64) then (1 : Int32) else 0) = 0) := by rw [if_pos (by have q := z1; simp only [i_le, i_lt, j_le, Int32.toInt_toInt64, Int32.reduceToInt, Int64.reduceToInt, Int32.toInt_zero] at q ⊢; omega)]; decide
          have y1 : 1 ≤ s ∧ s ≤ 1000000000 := by first | exact z1 | (rw [← le1]; exact z1) | (rw [← le0]; exact z1)
          by_cases z2 : 0 ≤ y ∧ y < 40
          rotate_left
          · skip
            have q2 : (if 0 ≤ y ∧ y < 40 then (1 : Int32) else 0) = 0 := if_neg z2
            have e : r_earlyV M p s y k = -2 := by unfold r_earlyV; rw [if_pos y0, if_pos y1, if_neg (fun q => z2 (by first | exact q | (rw [le1]; exact q) | (rw [le0]; exact q)))]
            rw [e] at h
            repeat' (first | (with_reducible exact hmn) | (with_reducible exact n030) | (with_reducible exact n1) | apply And.intro | exact rfl | (intro hx; with_reducible exact absurd hx q0) | (intro hx; with_reducible exact absurd hx q1) | (intro hx; with_reducible exact absurd q2 hx) | (intro hx; exact absurd hx (by decide)) | (intro hx; exact absurd (by decide) hx) | decide | intro hx | (refine Exists.intro _ (And.intro rfl ?_)))
            all_goals try first | (with_reducible change am_tI _ _) | (change Ret _ _) | (change Ret _ _ _) | (change Exists _)
            all_goals try dsimp only at *
            all_goals try (with_reducible exact absurd ‹(1000 : Int64) = 0› am_z1000)
            all_goals exact h _ r_sc.rf hR
          · skip
            have q2 : ¬ ((if 0 ≤ y ∧ y < 40 then (1 : Int32) else 0) = 0) := by rw [if_pos z2]; decide
            have y2 : 0 ≤ y ∧ y < 40 := by first | exact z2 | (rw [← le1]; exact z2) | (rw [← le0]; exact z2)
            by_cases z3 : 0 ≤ k ∧ k < 40
            rotate_left
            · skip
              have q3 : (if 0 ≤ k ∧ k < 40 then (1 : Int32) else 0) = 0 := if_neg z3
              have e : r_earlyV M p s y k = -2 := by unfold r_earlyV; rw [if_pos y0, if_pos y1, if_pos y2, if_neg (fun q => z3 (by first | exact q | (rw [le1]; exact q) | (rw [le0]; exact q)))]
              rw [e] at h
              repeat' (first | (with_reducible exact hmn) | (with_reducible exact n030) | (with_reducible exact n1) | apply And.intro | exact rfl | (intro hx; with_reducible exact absurd hx q0) | (intro hx; with_reducible exact absurd hx q1) | (intro hx; with_reducible exact absurd hx q2) | (intro hx; with_reducible exact absurd q3 hx) | (intro hx; exact absurd hx (by decide)) | (intro hx; exact absurd (by decide) hx) | decide | intro hx | (refine Exists.intro _ (And.intro rfl ?_)))
              all_goals try first | (with_reducible change am_tI _ _) | (change Ret _ _) | (change Ret _ _ _) | (change Exists _)
              all_goals try dsimp only at *
              all_goals try (with_reducible exact absurd ‹(1000 : Int64) = 0› am_z1000)
              all_goals exact h _ r_sc.rf hR
            · skip
              have q3 : ¬ ((if 0 ≤ k ∧ k < 40 then (1 : Int32) else 0) = 0) := by rw [if_pos z3]; decide
              have y3 : 0 ≤ k ∧ k < 40 := by first | exact z3 | (rw [← le1]; exact z3) | (rw [← le0]; exact z3)
              have e : r_earlyV M p s y k = r_bits M p s y k 4 := by unfold r_earlyV; rw [if_pos y0, if_pos y1, if_pos y2, if_pos y3]
              rw [e] at h
              have hp : am_in p 12 := ⟨by have q := y0.1; simp only [i_le, Int32.reduceToInt, Int32.toInt_zero] at q; omega, by have q := y0.2; simp only [i_lt] at q; omega⟩
              have hy : am_in y 40 := ⟨by have q := y2.1; simp only [i_le, Int32.reduceToInt, Int32.toInt_zero] at q; omega, by have q := y2.2; simp only [i_lt, Int32.reduceToInt] at q; omega⟩
              repeat' (first | (with_reducible exact hmn) | (with_reducible exact n030) | (with_reducible exact n1) | apply And.intro | exact rfl | (intro hx; with_reducible exact absurd hx q0) | (intro hx; with_reducible exact absurd hx q1) | (intro hx; with_reducible exact absurd hx q2) | (intro hx; with_reducible exact absurd hx q3) | (intro hx; exact absurd hx (by decide)) | (intro hx; exact absurd (by decide) hx) | decide | intro hx | (refine Exists.intro _ (And.intro rfl ?_)))
              all_goals try first | (with_reducible change am_tI _ _) | (change Ret _ _) | (change Ret _ _ _) | (change Exists _)
              all_goals try dsimp only at *
              all_goals try (with_reducible exact absurd ‹(1000 : Int64) = 0› am_z1000)
              all_goals exact ⟨_, _, _, rfl, rfl, rfl, ⟨by decide, by decide⟩, ⟨hp, hy⟩, e, rfl, r_ky.rf, hR⟩
    · exact h.elim
  · intro live as M0 Ret h k pc I hI L st M hi
    unfold TE8_early at h
    split at h
    · next n p s y k =>
      obtain ⟨hmn, rfl, ⟨j1, j2, hX⟩, h⟩ := h
      have hmn2 := hmn
      obtain ⟨i1, i2, rfl⟩ := hmn2
      change (match pc with | 44 => _ | _ => none) = _ at hI
      split at hI
      · cases hI
        obtain ⟨o, l, rfl, rfl, rfl, ⟨e1, e4⟩, ⟨hp, hy⟩, eV, eo, e2, e3⟩ := hi
        have cl := i_clamp e1
        by_cases hz : (4 : Int32) ≤ l
        · have hz2 := hz
          simp only [i_le, Int32.reduceToInt] at hz2
          have hh := h M e2.sc e3
          rw [eV, show (4 : Nat) = l.toNatClampNeg by omega, ← eo] at hh
          repeat' (first | (with_reducible exact hmn) | apply And.intro | exact rfl | (intro hx; with_reducible exact absurd hz hx) | intro hx | (refine Exists.intro _ (And.intro rfl ?_)))
          all_goals try first | (with_reducible change am_tI _ _) | (change Ret _ _) | (change Ret _ _ _) | (change Exists _)
          all_goals try dsimp only at *
          all_goals try (with_reducible exact absurd ‹(1000 : Int64) = 0› am_z1000)
          all_goals exact hh
        · have hz2 := hz
          simp only [i_le, Int32.reduceToInt] at hz2
          have hi := i_inc (x := l) (by omega) (by omega)
          have cl1 := i_clamp (x := l + 1) (by omega)
          have hl : am_in l 4 := ⟨e1, by omega⟩
          have hoa : r_oa M p := e2.oa hX.roa
          repeat' (first | (with_reducible exact hmn) | (with_reducible exact hp) | (with_reducible exact hl) | (with_reducible exact hy) | (with_reducible exact e3) | (with_reducible exact hoa) | apply And.intro | exact rfl | (intro hx; with_reducible exact absurd hx hz) | ((with_reducible change r_I _); (with_reducible assumption)) | (intro hx; exact absurd hx (by decide)) | (intro hx; exact absurd (by decide) hx) | decide | intro hx | (refine Exists.intro _ (And.intro rfl ?_)))
          all_goals try first | (with_reducible change am_tI _ _) | (change Ret _ _) | (change Ret _ _ _) | (change Exists _)
          all_goals try dsimp only at *
          all_goals try (with_reducible exact absurd ‹(1000 : Int64) = 0› am_z1000)
          all_goals first
            | exact (show r_ky M _ by with_reducible assumption).oa hoa
            | skip
          all_goals
            rename_i N ky rN N2 ky2 rN2
            have b := hx
            have c1 : r_livV N p l y.toNatClampNeg k 0 = r_livV M0 p l y.toNatClampNeg k 0 := (e2.tr ky).liv
            have c2 : r_livV M p l y.toNatClampNeg k s.toInt64 = r_livV M0 p l y.toNatClampNeg k s.toInt64 := e2.liv
            rw [c1, c2] at b
            simp only [lc_eq, lc_lt, lc_ge, lc_gt, lc_le] at b
            refine ⟨_, am_lt_l (by omega), _, _, rfl, rfl, rfl, ⟨by omega, by omega⟩, ⟨hp, hy⟩, eV, ?_, (e2.tr ky).tr ky2, rN2⟩
            rw [show (l + 1).toNatClampNeg = l.toNatClampNeg + 1 by omega, eo]
            first
              | exact (r_bits_n0 hl (Int64.not_lt.mpr b)).symm
              | exact (r_bits_y hl (Int64.not_le.mp b)).symm
      · cases hI
    · exact h.elim
end
-- part 79zr.dig0.lean.txt
section
/-! exact: digest: rows, people, texts mixed -/
/-- numbers mixed into one -/
def z_mx (g : Nat → Int32) : Nat → Int64 → Int64
  | 0, h => h
  | n + 1, h => 31 * z_mx g n h + (g n).toInt64
theorem z_mx_cg {g g' : Nat → Int32} {h : Int64} : ∀ {n : Nat}, (∀ i, i < n → g i = g' i) → z_mx g n h = z_mx g' n h
  | 0, _ => rfl
  | n + 1, e => by
    show 31 * z_mx g n h + (g n).toInt64 = 31 * z_mx g' n h + (g' n).toInt64
    rw [z_mx_cg (fun i hi => e i (by omega)), e n (by omega)]
def z_ppl (bg dd ld : Nat → Int32) : Nat → Int64 → Int64
  | 0, h => h
  | p + 1, h => z_mx (fun y => ld (40 * p + y)) 40 (31 * (31 * z_ppl bg dd ld p h + (bg p).toInt64) + (dd p).toInt64)
theorem z_ppl_cg {bg dd ld bg' dd' ld' : Nat → Int32} {h : Int64} : ∀ {n : Nat}, (∀ i, i < n → bg i = bg' i) → (∀ i, i < n → dd i = dd' i) → (∀ i, i < 40 * n → ld i = ld' i) → z_ppl bg dd ld n h = z_ppl bg' dd' ld' n h
  | 0, _, _, _ => rfl
  | n + 1, e1, e2, e3 => by
    show z_mx (fun y => ld (40 * n + y)) 40 (31 * (31 * z_ppl bg dd ld n h + (bg n).toInt64) + (dd n).toInt64) = z_mx (fun y => ld' (40 * n + y)) 40 (31 * (31 * z_ppl bg' dd' ld' n h + (bg' n).toInt64) + (dd' n).toInt64)
    rw [z_ppl_cg (fun i hi => e1 i (by omega)) (fun i hi => e2 i (by omega)) (fun i hi => e3 i (by omega)), e1 n (by omega), e2 n (by omega)]
    exact z_mx_cg (fun i hi => e3 _ (by omega))
def kX3_mixedE (live : am_E) (Ret : am_R) : am_code := [(0, am_aload 0 1), (1, am_getI live 3 2 4), (4, am_aload 0 5), (5, am_getI live 3 1 8), (8, am_i2 (fun x y => x * y) 9), (9, am_aload 0 10), (10, am_getR live 3 0 13), (13, am_alen live 0 14), (14, am_math2 (fun x y => if y < x then y else x) 23 17), (17, am_istore 3 5 18), (18, am_const (.int 0) 19), (19, am_istore 4 5 21), (21, am_iload 4 23), (23, am_iload 3 24), (24, am_if2 (fun x y => y ≤ x) 48 27), (27, am_const (.long 31) 30), (30, am_lload 1 31), (31, am_l2 (fun x y => x * y) 32), (32, am_aload 0 33), (33, am_getR live 3 0 36), (36, am_iload 4 38), (38, am_ald live 0 39), (39, am_i2l 40), (40, am_l2 (fun x y => x + y) 41), (41, am_lstore 1 5 42), (42, am_iinc 4 5 1 45), (45, am_goto 21), (48, am_lload 1 49), (49, am_retL Ret)]
theorem koX3_mixedE (live : am_E) (Ret : am_R) : ∀ q ∈ kX3_mixedE live Ret, am_ok RX3 cX3_mixed 5 (some .long) 1 23 live Ret q.1 q.2 :=
  am_kz dzX3_mixed <|
  am_kd (fun d => ak_aload_n d rfl rfl) <|
  am_kd (fun d => ak_getI (C := RX3) (T := TX3) (N := 3) rfl inX3w (by decide) rfl rfl rfl wd_150 d rfl) <|
  am_kd (fun d => ak_aload_n d rfl rfl) <|
  am_kd (fun d => ak_getI (C := RX3) (T := TX3) (N := 3) rfl inX3w (by decide) rfl rfl rfl wd_148 d rfl) <|
  am_kd (fun d => ak_imul d rfl) <|
  am_kd (fun d => ak_aload_n d rfl rfl) <|
  am_kd (fun d => ak_getR (C := RX3) (T := TX3) (N := 3) rfl inX3w (by decide) rfl rfl rfl wd_147 d rfl) <|
  am_kd (fun d => ak_alen (t := 0) (fun _ => rfl) d rfl) <|
  am_kd (fun d => ak_imin (am_w4 wd_850 wd_851 wd_68 wd_852) (by decide) d rfl) <|
  am_kd (fun d => ak_istore_n d rfl rfl) <|
  am_kd (fun d => ak_iconst d (by decide +kernel) rfl) <|
  am_kd (fun d => ak_istore d rfl) <|
  am_kd (fun d => ak_iload d rfl) <|
  am_kd (fun d => ak_iload_n d rfl rfl) <|
  am_kd (fun d => ak_icmp_ge d (by decide +kernel) rfl) <|
  am_kd (fun d => ak_ldc2 wd_883 d rfl) <|
  am_kd (fun d => ak_lload_n d rfl rfl) <|
  am_kd (fun d => ak_lmul d rfl) <|
  am_kd (fun d => ak_aload_n d rfl rfl) <|
  am_kd (fun d => ak_getR (C := RX3) (T := TX3) (N := 3) rfl inX3w (by decide) rfl rfl rfl wd_147 d rfl) <|
  am_kd (fun d => ak_iload d rfl) <|
  am_kd (fun d => ak_iald (t := 0) (fun _ => rfl) rfl d rfl) <|
  am_kd (fun d => ak_i2l d rfl) <|
  am_kd (fun d => ak_ladd d rfl) <|
  am_kd (fun d => ak_lstore_n d rfl rfl) <|
  am_kd (fun d => ak_iinc d (by decide +kernel) rfl) <|
  am_kd (fun d => ak_goto d (by decide +kernel)) <|
  am_kd (fun d => ak_lload_n d rfl rfl) <|
  am_kd (fun d => ak_retL d) <| am_kdn
def TE3_mixed : am_T := fun live as M R => match as with
  | [.ref r, .long x] => am_ex (live.2 r 0) (fun c => am_if (am_rc live r c) (0 ≤ (M.1 r 2 * M.1 r 1).toInt ∧ (M.1 r 2 * M.1 r 1).toInt ≤ (am_len c : Int) ∧ R (some (.long (z_mx (M.1 c) (M.1 r 2 * M.1 r 1).toNatClampNeg x))) M))
  | _ => False
def JE3_mixed : am_E → List Value → am_M → am_R → am_inv := fun live as M0 _ pc => match as with
  | [.ref r, .long x] => (match pc with
    | 21 => some ([0, 1, 3, 4], fun k L st M => ∃ (y : Int64) (e i : Int32), L = [(0, .ref r), (1, .long y), (3, .int e), (4, .int i)] ∧ st = [] ∧ k = ((100001 - i.toInt).toNat, 0) ∧ (0 ≤ i.toInt ∧ i.toInt ≤ e.toInt) ∧ e = M0.1 r 2 * M0.1 r 1 ∧ (∀ c, live.2 r 0 = some c → y = z_mx (M0.1 c) i.toNatClampNeg x) ∧ M = M0)
    | _ => none)
  | _ => none
set_option maxRecDepth 100000 in
set_option maxHeartbeats 4000000 in
theorem metX3_mixedE : am_Met yX3_mixed cX3_mixed 5 (some .long) (1) (23) TE3_mixed := by
  refine am_met (own := RX3) (by decide +kernel) rfl kX3_mixed koX3_mixed 60 JE3_mixed ?_ ?_
  · intro live as M Ret h
    unfold TE3_mixed at h
    split at h
    · next r x =>
      refine ⟨Nat.le_of_ble_eq_true rfl, ?_⟩
      change am_wp _ _ _ _ [(0, Value.ref r), (1, Value.long x)] _ _
      have hh := am_qm h
      clear h
      obtain ⟨c, h2, h⟩ := hh
      have hh := am_if_mp h
      clear h
      obtain ⟨hb, h⟩ := hh
      obtain ⟨h1, h3, h4, h5⟩ := am_rc_spec hb
      obtain ⟨g1, g2, h⟩ := h
      have hn : (Int32.ofNat (am_len c)).toInt = (am_len c : Int) := i_nat (by omega)
      repeat' (first | (with_reducible exact h1) | (with_reducible exact h2) | (with_reducible exact h3) | (refine Exists.intro _ (And.intro h2 ?_)) | apply And.intro | exact rfl | intro hx | (refine Exists.intro _ (And.intro rfl ?_)) | ((with_reducible change _ = true); simp only [h1, h2, h3, Bool.true_and]; rfl))
      all_goals try first | (with_reducible change am_tI _ _) | (change Ret _ _) | (change Ret _ _ _) | (change Exists _)
      all_goals try dsimp only at *
      all_goals try (with_reducible exact absurd ‹(1000 : Int64) = 0› am_z1000)
      refine ⟨_, _, _, _, rfl, rfl, rfl, ⟨by decide, ?_⟩, ?_, fun c' hc => rfl, rfl⟩
      · simp only [Int32.toInt_zero]
        split <;> omega
      · split
        · first
            | rfl
            | (rw [i_eq]; simp only [i_lt, i_le] at *; omega)
        · first
            | rfl
            | (rw [i_eq]; simp only [i_lt, i_le] at *; omega)
    · exact h.elim
  · intro live as M0 Ret h k pc I hI L st M hi
    unfold TE3_mixed at h
    split at h
    · next r x =>
      have hh := am_qm h
      clear h
      obtain ⟨c, h2, h⟩ := hh
      have hh := am_if_mp h
      clear h
      obtain ⟨hb, h⟩ := hh
      obtain ⟨h1, h3, h4, h5⟩ := am_rc_spec hb
      obtain ⟨g1, g2, h⟩ := h
      change (match pc with | 21 => _ | _ => none) = _ at hI
      split at hI
      · cases hI
        obtain ⟨y, e, i, rfl, rfl, rfl, ⟨e1, e2⟩, rfl, ey, rfl⟩ := hi
        have ey := ey c h2
        have ci := i_clamp e1
        by_cases hz : M.1 r 2 * M.1 r 1 ≤ i
        · have hz2 := hz
          simp only [i_le] at hz2
          rw [show (M.1 r 2 * M.1 r 1).toNatClampNeg = i.toNatClampNeg by have := i_clamp g1; omega, ← ey] at h
          repeat' (first | (with_reducible exact h1) | (with_reducible exact h2) | (with_reducible exact h3) | (refine Exists.intro _ (And.intro h2 ?_)) | apply And.intro | exact rfl | (intro hx; with_reducible exact absurd hz hx) | intro hx | (refine Exists.intro _ (And.intro rfl ?_)) | ((with_reducible change _ = true); simp only [h1, h2, h3, Bool.true_and]; rfl))
          all_goals try first | (with_reducible change am_tI _ _) | (change Ret _ _) | (change Ret _ _ _) | (change Exists _)
          all_goals try dsimp only at *
          all_goals try (with_reducible exact absurd ‹(1000 : Int64) = 0› am_z1000)
          all_goals exact h
        · have hz2 := hz
          simp only [i_le] at hz2
          have hi := i_inc (x := i) (by omega) (by omega)
          have ci1 := i_clamp (x := i + 1) (by omega)
          have nx : 31 * y + (M.1 c i.toNatClampNeg).toInt64 = z_mx (M.1 c) (i + 1).toNatClampNeg x := by
            rw [show (i + 1).toNatClampNeg = i.toNatClampNeg + 1 by omega, ey]
            rfl
          repeat' (first | (with_reducible exact h1) | (with_reducible exact h2) | (with_reducible exact h3) | (refine Exists.intro _ (And.intro h2 ?_)) | apply And.intro | exact rfl | (intro hx; with_reducible exact absurd hx hz) | intro hx | (refine Exists.intro _ (And.intro rfl ?_)) | ((with_reducible change _ = true); simp only [h1, h2, h3, Bool.true_and]; rfl))
          all_goals try first | (with_reducible change am_tI _ _) | (change Ret _ _) | (change Ret _ _ _) | (change Exists _)
          all_goals try dsimp only at *
          all_goals try (with_reducible exact absurd ‹(1000 : Int64) = 0› am_z1000)
          all_goals first
            | omega
            | exact ⟨_, am_lt_l (by omega), _, _, i + 1, rfl, rfl, rfl, ⟨by omega, by omega⟩, rfl, fun c' hc => by rw [← Option.some.inj (h2.symm.trans hc)]; exact nx, rfl⟩
      · cases hI
    · exact h.elim
def kX2_mixedE (live : am_E) (Ret : am_R) : am_code := [(0, am_const (.int 0) 1), (1, am_istore 3 5 2), (2, am_iload 3 3), (3, am_aload 0 4), (4, am_getI live 2 7 7), (7, am_if2 (fun x y => y ≤ x) 86 10), (10, am_iload 3 11), (11, am_const (.int 12) 13), (13, am_if2 (fun x y => y ≤ x) 86 16), (16, am_const (.long 31) 19), (19, am_lload 1 20), (20, am_l2 (fun x y => x * y) 21), (21, am_aload 0 22), (22, am_getR live 2 0 25), (25, am_iload 3 26), (26, am_ald live 0 27), (27, am_i2l 28), (28, am_l2 (fun x y => x + y) 29), (29, am_lstore 1 5 30), (30, am_const (.long 31) 33), (33, am_lload 1 34), (34, am_l2 (fun x y => x * y) 35), (35, am_aload 0 36), (36, am_getR live 2 1 39), (39, am_iload 3 40), (40, am_ald live 0 41), (41, am_i2l 42), (42, am_l2 (fun x y => x + y) 43), (43, am_lstore 1 5 44), (44, am_const (.int 0) 45), (45, am_istore 4 5 47), (47, am_iload 4 49), (49, am_const (.int 40) 51), (51, am_if2 (fun x y => y ≤ x) 80 54), (54, am_const (.long 31) 57), (57, am_lload 1 58), (58, am_l2 (fun x y => x * y) 59), (59, am_aload 0 60), (60, am_getR live 2 2 63), (63, am_iload 3 64), (64, am_const (.int 40) 66), (66, am_i2 (fun x y => x * y) 67), (67, am_iload 4 69), (69, am_i2 (fun x y => x + y) 70), (70, am_ald live 0 71), (71, am_i2l 72), (72, am_l2 (fun x y => x + y) 73), (73, am_lstore 1 5 74), (74, am_iinc 4 5 1 77), (77, am_goto 47), (80, am_iinc 3 5 1 83), (83, am_goto 2), (86, am_lload 1 87), (87, am_retL Ret)]
theorem koX2_mixedE (live : am_E) (Ret : am_R) : ∀ q ∈ kX2_mixedE live Ret, am_ok RX2 cX2_mixed 5 (some .long) 0 0 live Ret q.1 q.2 :=
  am_kz dzX2_mixed <|
  am_kd (fun d => ak_iconst d (by decide +kernel) rfl) <|
  am_kd (fun d => ak_istore_n d rfl rfl) <|
  am_kd (fun d => ak_iload_n d rfl rfl) <|
  am_kd (fun d => ak_aload_n d rfl rfl) <|
  am_kd (fun d => ak_getI (C := RX2) (T := TX2) (N := 8) rfl inX2w (by decide) rfl rfl rfl wd_122 d rfl) <|
  am_kd (fun d => ak_icmp_ge d (by decide +kernel) rfl) <|
  am_kd (fun d => ak_iload_n d rfl rfl) <|
  am_kd (fun d => ak_bipush d (by decide +kernel) rfl) <|
  am_kd (fun d => ak_icmp_ge d (by decide +kernel) rfl) <|
  am_kd (fun d => ak_ldc2 wd_878 d rfl) <|
  am_kd (fun d => ak_lload_n d rfl rfl) <|
  am_kd (fun d => ak_lmul d rfl) <|
  am_kd (fun d => ak_aload_n d rfl rfl) <|
  am_kd (fun d => ak_getR (C := RX2) (T := TX2) (N := 8) rfl inX2w (by decide) rfl rfl rfl wd_105 d rfl) <|
  am_kd (fun d => ak_iload_n d rfl rfl) <|
  am_kd (fun d => ak_iald (t := 0) (fun _ => rfl) rfl d rfl) <|
  am_kd (fun d => ak_i2l d rfl) <|
  am_kd (fun d => ak_ladd d rfl) <|
  am_kd (fun d => ak_lstore_n d rfl rfl) <|
  am_kd (fun d => ak_ldc2 wd_878 d rfl) <|
  am_kd (fun d => ak_lload_n d rfl rfl) <|
  am_kd (fun d => ak_lmul d rfl) <|
  am_kd (fun d => ak_aload_n d rfl rfl) <|
  am_kd (fun d => ak_getR (C := RX2) (T := TX2) (N := 8) rfl inX2w (by decide) rfl rfl rfl wd_108 d rfl) <|
  am_kd (fun d => ak_iload_n d rfl rfl) <|
  am_kd (fun d => ak_iald (t := 0) (fun _ => rfl) rfl d rfl) <|
  am_kd (fun d => ak_i2l d rfl) <|
  am_kd (fun d => ak_ladd d rfl) <|
  am_kd (fun d => ak_lstore_n d rfl rfl) <|
  am_kd (fun d => ak_iconst d (by decide +kernel) rfl) <|
  am_kd (fun d => ak_istore d rfl) <|
  am_kd (fun d => ak_iload d rfl) <|
  am_kd (fun d => ak_bipush d (by decide +kernel) rfl) <|
  am_kd (fun d => ak_icmp_ge d (by decide +kernel) rfl) <|
  am_kd (fun d => ak_ldc2 wd_878 d rfl) <|
  am_kd (fun d => ak_lload_n d rfl rfl) <|
  am_kd (fun d => ak_lmul d rfl) <|
  am_kd (fun d => ak_aload_n d rfl rfl) <|
  am_kd (fun d => ak_getR (C := RX2) (T := TX2) (N := 8) rfl inX2w (by decide) rfl rfl rfl wd_110 d rfl) <|
  am_kd (fun d => ak_iload_n d rfl rfl) <|
  am_kd (fun d => ak_bipush d (by decide +kernel) rfl) <|
  am_kd (fun d => ak_imul d rfl) <|
  am_kd (fun d => ak_iload d rfl) <|
  am_kd (fun d => ak_iadd d rfl) <|
  am_kd (fun d => ak_iald (t := 0) (fun _ => rfl) rfl d rfl) <|
  am_kd (fun d => ak_i2l d rfl) <|
  am_kd (fun d => ak_ladd d rfl) <|
  am_kd (fun d => ak_lstore_n d rfl rfl) <|
  am_kd (fun d => ak_iinc d (by decide +kernel) rfl) <|
  am_kd (fun d => ak_goto d (by decide +kernel)) <|
  am_kd (fun d => ak_iinc d (by decide +kernel) rfl) <|
  am_kd (fun d => ak_goto d (by decide +kernel)) <|
  am_kd (fun d => ak_lload_n d rfl rfl) <|
  am_kd (fun d => ak_retL d) <| am_kdn
def TE2_mixed : am_T := fun live as M R => match as with
  | [.ref n, .long x] => am_mn live ∧ n = 21 ∧ (0 ≤ (M.1 21 7).toInt ∧ (M.1 21 7).toInt ≤ 12) ∧ R (some (.long (z_ppl (M.1 22) (M.1 23) (M.1 24) (M.1 21 7).toNatClampNeg x))) M
  | _ => False
def JE2_mixed : am_E → List Value → am_M → am_R → am_inv := fun live as M0 _ pc => match as with
  | [.ref n, .long x] => (match pc with
    | 2 => some ([0, 1, 3], fun k L st M => ∃ (v : Int64) (i : Int32), L = [(0, .ref 21), (1, .long v), (3, .int i)] ∧ st = [] ∧ k = ((14 - i.toInt).toNat, 100) ∧ (0 ≤ i.toInt ∧ i.toInt ≤ (M0.1 21 7).toInt) ∧ v = z_ppl (M0.1 22) (M0.1 23) (M0.1 24) i.toNatClampNeg x ∧ M = M0)
    | 47 => some ([0, 1, 3, 4], fun k L st M => ∃ (v : Int64) (i y : Int32), L = [(0, .ref 21), (1, .long v), (3, .int i), (4, .int y)] ∧ st = [] ∧ k = ((14 - i.toInt).toNat, (41 - y.toInt).toNat) ∧ (0 ≤ i.toInt ∧ i.toInt < (M0.1 21 7).toInt) ∧ (0 ≤ y.toInt ∧ y.toInt ≤ 40) ∧ v = z_mx (fun j => M0.1 24 (40 * i.toNatClampNeg + j)) y.toNatClampNeg (31 * (31 * z_ppl (M0.1 22) (M0.1 23) (M0.1 24) i.toNatClampNeg x + (M0.1 22 i.toNatClampNeg).toInt64) + (M0.1 23 i.toNatClampNeg).toInt64) ∧ M = M0)
    | _ => none)
  | _ => none
set_option maxRecDepth 100000 in
set_option maxHeartbeats 4000000 in
theorem metX2_mixedE : am_Met yX2_mixed cX2_mixed 5 (some .long) (0) (0) TE2_mixed := by
  refine am_met (own := RX2) (by decide +kernel) rfl kX2_mixed koX2_mixed 100 JE2_mixed ?_ ?_
  · intro live as M Ret h
    unfold TE2_mixed at h
    split at h
    · next n x =>
      refine ⟨Nat.le_of_ble_eq_true rfl, ?_⟩
      change am_wp _ _ _ _ [(0, Value.ref n), (1, Value.long x)] _ _
      obtain ⟨hmn, rfl, hs, h⟩ := h
      repeat' (first | apply And.intro | exact rfl | intro hx | (refine Exists.intro _ (And.intro rfl ?_)))
      all_goals try first | (with_reducible change am_tI _ _) | (change Ret _ _) | (change Ret _ _ _) | (change Exists _)
      all_goals try dsimp only at *
      all_goals try (with_reducible exact absurd ‹(1000 : Int64) = 0› am_z1000)
      exact ⟨_, _, _, rfl, rfl, rfl, ⟨by decide, by simp only [Int32.toInt_zero]; omega⟩, rfl, rfl⟩
    · exact h.elim
  · intro live as M0 Ret h k pc I hI L st M hi
    unfold TE2_mixed at h
    split at h
    · next n x =>
      obtain ⟨hmn, rfl, hs, h⟩ := h
      obtain ⟨i1, i2, rfl⟩ := hmn
      have l22 : am_len 22 = 12 := rfl
      have l23 : am_len 23 = 12 := rfl
      have l24 : am_len 24 = 480 := rfl
      change (match pc with | 2 => _ | 47 => _ | _ => none) = _ at hI
      split at hI
      · cases hI
        obtain ⟨v, i, rfl, rfl, rfl, ⟨e1, e2⟩, ev, rfl⟩ := hi
        have ci := i_clamp e1
        by_cases hz : M.1 21 7 ≤ i
        · have hz2 := hz
          simp only [i_le] at hz2
          rw [show (M.1 21 7).toNatClampNeg = i.toNatClampNeg by have := i_clamp hs.1; omega, ← ev] at h
          repeat' (first | apply And.intro | exact rfl | (intro hx; with_reducible exact absurd hz hx) | intro hx | (refine Exists.intro _ (And.intro rfl ?_)))
          all_goals try first | (with_reducible change am_tI _ _) | (change Ret _ _) | (change Ret _ _ _) | (change Exists _)
          all_goals try dsimp only at *
          all_goals try (with_reducible exact absurd ‹(1000 : Int64) = 0› am_z1000)
          all_goals exact h
        · have hz2 := hz
          simp only [i_le] at hz2
          have h12 : ¬ (12 : Int32) ≤ i := fun q => by simp only [i_le, Int32.reduceToInt] at q; omega
          repeat' (first | apply And.intro | exact rfl | (intro hx; with_reducible exact absurd hx hz) | (intro hx; with_reducible exact absurd hx h12) | intro hx | (refine Exists.intro _ (And.intro rfl ?_)))
          all_goals try first | (with_reducible change am_tI _ _) | (change Ret _ _) | (change Ret _ _ _) | (change Exists _)
          all_goals try dsimp only at *
          all_goals try (with_reducible exact absurd ‹(1000 : Int64) = 0› am_z1000)
          all_goals first
            | omega
            | (rw [l22]; omega)
            | (rw [l23]; omega)
            | exact ⟨_, am_lt_r (by simp only [Int32.reduceToInt]; omega), _, _, _, rfl, rfl, rfl, ⟨e1, by omega⟩, ⟨by decide, by decide⟩, by rw [ev]; rfl, rfl⟩
            | skip
      · cases hI
        obtain ⟨v, i, y, rfl, rfl, rfl, ⟨e1, e2⟩, ⟨e3, e4⟩, ev, rfl⟩ := hi
        have ci := i_clamp e1
        have cy := i_clamp e3
        have hi := i_inc (x := i) (by omega) (by omega)
        have ci1 := i_clamp (x := i + 1) (by omega)
        by_cases hz : (40 : Int32) ≤ y
        · have hz2 := hz
          simp only [i_le, Int32.reduceToInt] at hz2
          have nx : v = z_ppl (M.1 22) (M.1 23) (M.1 24) (i + 1).toNatClampNeg x := by
            rw [show (i + 1).toNatClampNeg = i.toNatClampNeg + 1 by omega, ev, show y.toNatClampNeg = 40 by omega]
            rfl
          repeat' (first | apply And.intro | exact rfl | (intro hx; with_reducible exact absurd hz hx) | intro hx | (refine Exists.intro _ (And.intro rfl ?_)))
          all_goals try first | (with_reducible change am_tI _ _) | (change Ret _ _) | (change Ret _ _ _) | (change Exists _)
          all_goals try dsimp only at *
          all_goals try (with_reducible exact absurd ‹(1000 : Int64) = 0› am_z1000)
          all_goals exact ⟨_, am_lt_l (by omega), _, _, rfl, rfl, rfl, ⟨by omega, by omega⟩, nx, rfl⟩
        · have hz2 := hz
          simp only [i_le, Int32.reduceToInt] at hz2
          have hy := i_inc (x := y) (by omega) (by omega)
          have cy1 := i_clamp (x := y + 1) (by omega)
          have ei := g_40 (n := 12) (by decide) (a := i) (y := y) ⟨e1, by omega⟩ ⟨e3, by omega⟩
          have cei := i_clamp (x := i * 40 + y) (by omega)
          have nx : 31 * v + (M.1 24 (i * 40 + y).toNatClampNeg).toInt64 = z_mx (fun j => M.1 24 (40 * i.toNatClampNeg + j)) (y + 1).toNatClampNeg (31 * (31 * z_ppl (M.1 22) (M.1 23) (M.1 24) i.toNatClampNeg x + (M.1 22 i.toNatClampNeg).toInt64) + (M.1 23 i.toNatClampNeg).toInt64) := by
            rw [show (y + 1).toNatClampNeg = y.toNatClampNeg + 1 by omega, show (i * 40 + y).toNatClampNeg = 40 * i.toNatClampNeg + y.toNatClampNeg by omega, ev]
            rfl
          repeat' (first | apply And.intro | exact rfl | (intro hx; with_reducible exact absurd hx hz) | intro hx | (refine Exists.intro _ (And.intro rfl ?_)))
          all_goals try first | (with_reducible change am_tI _ _) | (change Ret _ _) | (change Ret _ _ _) | (change Exists _)
          all_goals try dsimp only at *
          all_goals try (with_reducible exact absurd ‹(1000 : Int64) = 0› am_z1000)
          all_goals first
            | omega
            | (rw [l24]; omega)
            | exact ⟨_, am_lt_r (by omega), _, _, _, rfl, rfl, rfl, ⟨e1, e2⟩, ⟨by omega, by omega⟩, nx, rfl⟩
            | skip
      · cases hI
    · exact h.elim
def kX5_mixedE (live : am_E) (Ret : am_R) : am_code := [(0, am_const (.long 31) 3), (3, am_lload 1 4), (4, am_l2 (fun x y => x * y) 5), (5, am_aload 0 6), (6, am_getI live 5 5 9), (9, am_i2l 10), (10, am_l2 (fun x y => x + y) 11), (11, am_lstore 1 4 12), (12, am_const (.int 0) 13), (13, am_istore 3 4 14), (14, am_iload 3 15), (15, am_aload 0 16), (16, am_getI live 5 5 19), (19, am_if2 (fun x y => y ≤ x) 48 22), (22, am_iload 3 23), (23, am_const (.int 50) 25), (25, am_if2 (fun x y => y ≤ x) 48 28), (28, am_const (.long 31) 31), (31, am_lload 1 32), (32, am_l2 (fun x y => x * y) 33), (33, am_aload 0 34), (34, am_getR live 5 0 37), (37, am_iload 3 38), (38, am_ald live 0 39), (39, am_i2l 40), (40, am_l2 (fun x y => x + y) 41), (41, am_lstore 1 4 42), (42, am_iinc 3 4 1 45), (45, am_goto 14), (48, am_lload 1 49), (49, am_retL Ret)]
theorem koX5_mixedE (live : am_E) (Ret : am_R) : ∀ q ∈ kX5_mixedE live Ret, am_ok RX5 cX5_mixed 4 (some .long) 0 0 live Ret q.1 q.2 :=
  am_kz dzX5_mixed <|
  am_kd (fun d => ak_ldc2 wd_888 d rfl) <|
  am_kd (fun d => ak_lload_n d rfl rfl) <|
  am_kd (fun d => ak_lmul d rfl) <|
  am_kd (fun d => ak_aload_n d rfl rfl) <|
  am_kd (fun d => ak_getI (C := RX5) (T := TX5) (N := 7) rfl inX5w (by decide) rfl rfl rfl wd_173 d rfl) <|
  am_kd (fun d => ak_i2l d rfl) <|
  am_kd (fun d => ak_ladd d rfl) <|
  am_kd (fun d => ak_lstore_n d rfl rfl) <|
  am_kd (fun d => ak_iconst d (by decide +kernel) rfl) <|
  am_kd (fun d => ak_istore_n d rfl rfl) <|
  am_kd (fun d => ak_iload_n d rfl rfl) <|
  am_kd (fun d => ak_aload_n d rfl rfl) <|
  am_kd (fun d => ak_getI (C := RX5) (T := TX5) (N := 7) rfl inX5w (by decide) rfl rfl rfl wd_173 d rfl) <|
  am_kd (fun d => ak_icmp_ge d (by decide +kernel) rfl) <|
  am_kd (fun d => ak_iload_n d rfl rfl) <|
  am_kd (fun d => ak_bipush d (by decide +kernel) rfl) <|
  am_kd (fun d => ak_icmp_ge d (by decide +kernel) rfl) <|
  am_kd (fun d => ak_ldc2 wd_888 d rfl) <|
  am_kd (fun d => ak_lload_n d rfl rfl) <|
  am_kd (fun d => ak_lmul d rfl) <|
  am_kd (fun d => ak_aload_n d rfl rfl) <|
  am_kd (fun d => ak_getR (C := RX5) (T := TX5) (N := 7) rfl inX5w (by decide) rfl rfl rfl wd_168 d rfl) <|
  am_kd (fun d => ak_iload_n d rfl rfl) <|
  am_kd (fun d => ak_iald (t := 0) (fun _ => rfl) rfl d rfl) <|
  am_kd (fun d => ak_i2l d rfl) <|
  am_kd (fun d => ak_ladd d rfl) <|
  am_kd (fun d => ak_lstore_n d rfl rfl) <|
  am_kd (fun d => ak_iinc d (by decide +kernel) rfl) <|
  am_kd (fun d => ak_goto d (by decide +kernel)) <|
  am_kd (fun d => ak_lload_n d rfl rfl) <|
  am_kd (fun d => ak_retL d) <| am_kdn
def TE5_mixed : am_T := fun live as M R => match as with
  | [.ref t, .long x] => am_tP live t (fun s c => 0 ≤ (M.1 t 5).toInt ∧ (M.1 t 5).toInt ≤ 50 ∧ R (some (.long (z_mx (M.1 s) (M.1 t 5).toNatClampNeg (31 * x + (M.1 t 5).toInt64)))) M)
  | _ => False
def JE5_mixed : am_E → List Value → am_M → am_R → am_inv := fun live as M0 _ pc => match as with
  | [.ref t, .long x] => (match pc with
    | 14 => some ([0, 1, 3], fun k L st M => ∃ (y : Int64) (i : Int32), L = [(0, .ref t), (1, .long y), (3, .int i)] ∧ st = [] ∧ k = ((51 - i.toInt).toNat, 0) ∧ (0 ≤ i.toInt ∧ i.toInt ≤ (M0.1 t 5).toInt) ∧ (∀ s, live.2 t 0 = some s → y = z_mx (M0.1 s) i.toNatClampNeg (31 * x + (M0.1 t 5).toInt64)) ∧ M = M0)
    | _ => none)
  | _ => none
set_option maxRecDepth 100000 in
set_option maxHeartbeats 4000000 in
theorem metX5_mixedE : am_Met yX5_mixed cX5_mixed 4 (some .long) (0) (0) TE5_mixed := by
  refine am_met (own := RX5) (by decide +kernel) rfl kX5_mixed koX5_mixed 60 JE5_mixed ?_ ?_
  · intro live as M Ret h
    unfold TE5_mixed at h
    split at h
    · next t x =>
      refine ⟨Nat.le_of_ble_eq_true rfl, ?_⟩
      change am_wp _ _ _ _ [(0, Value.ref t), (1, Value.long x)] _ _
      have hh := am_tP_mp h
      clear h
      obtain ⟨s, c, h2, h6, hb, h1, h3, h7, h4, h8, h9, h5, h10, h⟩ := hh
      obtain ⟨g1, g2, h⟩ := h
      repeat' (first | (with_reducible exact h1) | (with_reducible exact h2) | (with_reducible exact h3) | (with_reducible exact hb) | (with_reducible exact h6) | (with_reducible exact h7) | (refine Exists.intro _ (Exists.intro _ (And.intro h2 (And.intro h6 ?_)))) | (refine Exists.intro _ (And.intro h2 ?_)) | (refine Exists.intro _ (And.intro h6 ?_)) | apply And.intro | exact rfl | intro hx | (refine Exists.intro _ (And.intro rfl ?_)) | ((with_reducible change _ = true); simp only [h1, h2, h3, hb, h6, h7, Bool.true_and]; rfl))
      all_goals try first | (with_reducible change am_tI _ _) | (change Ret _ _) | (change Ret _ _ _) | (change Exists _)
      all_goals try dsimp only at *
      all_goals try (with_reducible exact absurd ‹(1000 : Int64) = 0› am_z1000)
      exact ⟨_, _, _, rfl, rfl, rfl, ⟨by decide, by simp only [Int32.toInt_zero]; omega⟩, fun s' hs => rfl, rfl⟩
    · exact h.elim
  · intro live as M0 Ret h k pc I hI L st M hi
    unfold TE5_mixed at h
    split at h
    · next t x =>
      have hh := am_tP_mp h
      clear h
      obtain ⟨s, c, h2, h6, hb, h1, h3, h7, h4, h8, h9, h5, h10, h⟩ := hh
      obtain ⟨g1, g2, h⟩ := h
      change (match pc with | 14 => _ | _ => none) = _ at hI
      split at hI
      · cases hI
        obtain ⟨y, i, rfl, rfl, rfl, ⟨e1, e2⟩, ey, rfl⟩ := hi
        have ey := ey s h2
        have ci := i_clamp e1
        by_cases hz : M.1 t 5 ≤ i
        · have hz2 := hz
          simp only [i_le] at hz2
          rw [show (M.1 t 5).toNatClampNeg = i.toNatClampNeg by have := i_clamp g1; omega, ← ey] at h
          repeat' (first | (with_reducible exact h1) | (with_reducible exact h2) | (with_reducible exact h3) | (with_reducible exact hb) | (with_reducible exact h6) | (with_reducible exact h7) | (refine Exists.intro _ (Exists.intro _ (And.intro h2 (And.intro h6 ?_)))) | (refine Exists.intro _ (And.intro h2 ?_)) | (refine Exists.intro _ (And.intro h6 ?_)) | apply And.intro | exact rfl | (intro hx; with_reducible exact absurd hz hx) | intro hx | (refine Exists.intro _ (And.intro rfl ?_)) | ((with_reducible change _ = true); simp only [h1, h2, h3, hb, h6, h7, Bool.true_and]; rfl))
          all_goals try first | (with_reducible change am_tI _ _) | (change Ret _ _) | (change Ret _ _ _) | (change Exists _)
          all_goals try dsimp only at *
          all_goals try (with_reducible exact absurd ‹(1000 : Int64) = 0› am_z1000)
          all_goals exact h
        · have hz2 := hz
          simp only [i_le] at hz2
          have h50 : ¬ (50 : Int32) ≤ i := fun q => by simp only [i_le, Int32.reduceToInt] at q; omega
          have hi := i_inc (x := i) (by omega) (by omega)
          have ci1 := i_clamp (x := i + 1) (by omega)
          have nx : 31 * y + (M.1 s i.toNatClampNeg).toInt64 = z_mx (M.1 s) (i + 1).toNatClampNeg (31 * x + (M.1 t 5).toInt64) := by
            rw [show (i + 1).toNatClampNeg = i.toNatClampNeg + 1 by omega, ey]
            rfl
          repeat' (first | (with_reducible exact h1) | (with_reducible exact h2) | (with_reducible exact h3) | (with_reducible exact hb) | (with_reducible exact h6) | (with_reducible exact h7) | (refine Exists.intro _ (Exists.intro _ (And.intro h2 (And.intro h6 ?_)))) | (refine Exists.intro _ (And.intro h2 ?_)) | (refine Exists.intro _ (And.intro h6 ?_)) | apply And.intro | exact rfl | (intro hx; with_reducible exact absurd hx hz) | (intro hx; with_reducible exact absurd hx h50) | intro hx | (refine Exists.intro _ (And.intro rfl ?_)) | ((with_reducible change _ = true); simp only [h1, h2, h3, hb, h6, h7, Bool.true_and]; rfl))
          all_goals try first | (with_reducible change am_tI _ _) | (change Ret _ _) | (change Ret _ _ _) | (change Exists _)
          all_goals try dsimp only at *
          all_goals try (with_reducible exact absurd ‹(1000 : Int64) = 0› am_z1000)
          all_goals first
            | omega
            | (rw [h4]; omega)
            | exact ⟨_, am_lt_l (by omega), _, i + 1, rfl, rfl, rfl, ⟨by omega, by omega⟩, fun s' hs => by rw [← Option.some.inj (h2.symm.trans hs)]; exact nx, rfl⟩
      · cases hI
    · exact h.elim
end
