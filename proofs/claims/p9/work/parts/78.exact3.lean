/-! exact: planOf, force -/
def kX8_planOfE (live : am_E) (Ret : am_R) : am_code := [(0, am_aload 0 1), (1, am_iload 1 2), (2, am_callV live 8 1 TX8_isLoan 5), (5, am_if1 (fun x => x = 0) 24 8), (8, am_iload 2 9), (9, am_callS live 1 TX8_isYear 12), (12, am_if1 (fun x => x = 0) 24 15), (15, am_aload 0 16), (16, am_iload 1 17), (17, am_iload 2 18), (18, am_callV live 8 2 TE8_planAt 21), (21, am_goto 26), (24, am_const (.int (-2)) 26), (26, am_retI Ret)]
theorem koX8_planOfE (live : am_E) (Ret : am_R) : ∀ q ∈ kX8_planOfE live Ret, am_ok RX8 cX8_planOf 3 (some .int) 2 46 live Ret q.1 q.2 :=
  am_kz dzX8_planOf <|
  am_kd (fun d => ak_aload_n d rfl rfl) <|
  am_kd (fun d => ak_iload_n d rfl rfl) <|
  am_kd (fun d => ak_callV (C := RX8) (F := TX8) (N := 27) metX8_isLoan rfl ⟨rfl, hy_X8_isLoan⟩ (am_w5 wd_1069 wd_1071 wd_30 wd_67 wd_1072) (by decide) d rfl) <|
  am_kd (fun d => ak_if_eq d (by decide +kernel) rfl) <|
  am_kd (fun d => ak_iload_n d rfl rfl) <|
  am_kd (fun d => ak_callS metX8_isYear ⟨rfl, hy_X8_isYear⟩ (am_w4 wd_982 wd_983 wd_67 wd_984) (by decide) d rfl) <|
  am_kd (fun d => ak_if_eq d (by decide +kernel) rfl) <|
  am_kd (fun d => ak_aload_n d rfl rfl) <|
  am_kd (fun d => ak_iload_n d rfl rfl) <|
  am_kd (fun d => ak_iload_n d rfl rfl) <|
  am_kd (fun d => ak_callV (C := RX8) (F := TX8) (N := 27) metX8_planAtE rfl ⟨rfl, hy_X8_planAt⟩ (am_w5 wd_1085 wd_1087 wd_32 wd_67 wd_1088) (by decide) d rfl) <|
  am_kd (fun d => ak_goto d (by decide +kernel)) <|
  am_kd (fun d => ak_bipush d (by decide +kernel) rfl) <|
  am_kd (fun d => ak_retI d) <| am_kdn
def r_planOf (M : am_M) (l y : Int32) : Int32 × am_M := if 0 ≤ l ∧ l < M.1 201 1 then (if 0 ≤ y ∧ y < 40 then (r_pl M l y, M) else ((-2 : Int32), M)) else ((-2 : Int32), M)
def TE8_planOf : am_T := fun live as M R => match as with
  | [.ref n, .int l, .int y] => am_mn live ∧ n = 200 ∧ r_I M ∧ R (some (.int (r_planOf M l y).1)) (r_planOf M l y).2
  | _ => False
set_option maxRecDepth 100000 in
set_option maxHeartbeats 4000000 in
theorem metX8_planOfE : am_Met yX8_planOf cX8_planOf 3 (some .int) (2) (46) TE8_planOf := by
  refine am_met (own := RX8) (by decide +kernel) rfl kX8_planOfE koX8_planOfE 200 (fun _ _ _ _ _ => none) (fun live as M Ret h => ?_) (fun _ _ _ _ _ _ _ _ hI => by cases hI)
  unfold TE8_planOf at h
  split at h
  · next n l y =>
    refine ⟨Nat.le_of_ble_eq_true rfl, ?_⟩
    change am_wp _ _ _ _ [(0, Value.ref n), (1, Value.int l), (2, Value.int y)] _ _
    obtain ⟨hmn, rfl, hR, h⟩ := h
    have hmn2 := hmn
    obtain ⟨i1, i2, rfl⟩ := hmn2
    have l201 : am_len 201 = 3760 := rfl
    have n0 := hR.n0
    have n1 := hR.n1
    have n030 : 0 ≤ (M.1 201 0).toInt ∧ (M.1 201 0).toInt ≤ 30 := ⟨n0.1, by omega⟩
    by_cases z0 : 0 ≤ l ∧ l < M.1 201 1
    rotate_left
    · skip
      have q0 : (if 0 ≤ l ∧ l < M.1 201 1 then (1 : Int32) else 0) = 0 := if_neg z0
      have e : r_planOf M l y = ((-2 : Int32), M) := by unfold r_planOf; rw [if_neg z0]
      rw [e] at h
      repeat' (first | (with_reducible exact hmn) | (with_reducible exact h) | (with_reducible exact n030) | (with_reducible exact n1) | apply And.intro | exact rfl | (intro hx; with_reducible exact absurd q0 hx) | (intro hx; exact absurd hx (by decide)) | (intro hx; exact absurd (by decide) hx) | decide | intro hx | (refine Exists.intro _ (And.intro rfl ?_)))
      all_goals try first | (with_reducible change am_tI _ _) | (change Ret _ _) | (change Ret _ _ _) | (change Exists _)
      all_goals try dsimp only at *
      all_goals try (with_reducible exact absurd ‹(1000 : Int64) = 0› am_z1000)
      all_goals first | (with_reducible exact h) | (with_reducible exact n0.1) | omega | (show _ < _; simp only [l201]; decide) | exact h | exact n0.1 | skip
    · skip
      have q0 : ¬ ((if 0 ≤ l ∧ l < M.1 201 1 then (1 : Int32) else 0) = 0) := by rw [if_pos z0]; decide
      by_cases z1 : 0 ≤ y ∧ y < 40
      rotate_left
      · skip
        have q1 : (if 0 ≤ y ∧ y < 40 then (1 : Int32) else 0) = 0 := if_neg z1
        have e : r_planOf M l y = ((-2 : Int32), M) := by unfold r_planOf; rw [if_pos z0, if_neg z1]
        rw [e] at h
        repeat' (first | (with_reducible exact hmn) | (with_reducible exact h) | (with_reducible exact n030) | (with_reducible exact n1) | apply And.intro | exact rfl | (intro hx; with_reducible exact absurd hx q0) | (intro hx; with_reducible exact absurd q1 hx) | (intro hx; exact absurd hx (by decide)) | (intro hx; exact absurd (by decide) hx) | decide | intro hx | (refine Exists.intro _ (And.intro rfl ?_)))
        all_goals try first | (with_reducible change am_tI _ _) | (change Ret _ _) | (change Ret _ _ _) | (change Exists _)
        all_goals try dsimp only at *
        all_goals try (with_reducible exact absurd ‹(1000 : Int64) = 0› am_z1000)
        all_goals first | (with_reducible exact h) | (with_reducible exact n0.1) | omega | (show _ < _; simp only [l201]; decide) | exact h | exact n0.1 | skip
      · skip
        have q1 : ¬ ((if 0 ≤ y ∧ y < 40 then (1 : Int32) else 0) = 0) := by rw [if_pos z1]; decide
        have hl : am_in l 30 := ⟨by have q := z0.1; simp only [i_le, Int32.reduceToInt] at q; omega, by have q := z0.2; simp only [i_lt] at q; omega⟩
        have hy : am_in y 40 := ⟨by have q := z1.1; simp only [i_le, Int32.reduceToInt] at q; omega, by have q := z1.2; simp only [i_lt, Int32.reduceToInt] at q; omega⟩
        have hy1 := hy.1
        have e : r_planOf M l y = (r_pl M l y, M) := by unfold r_planOf; rw [if_pos z0, if_pos z1]
        rw [e] at h
        repeat' (first | (with_reducible exact hmn) | (with_reducible exact n030) | (with_reducible exact n1) | (with_reducible exact hl) | (with_reducible exact hy1) | (with_reducible exact hR) | apply And.intro | exact rfl | (intro hx; with_reducible exact absurd hx q0) | (intro hx; with_reducible exact absurd hx q1) | ((with_reducible change r_I _); (with_reducible assumption)) | (intro hx; exact absurd hx (by decide)) | (intro hx; exact absurd (by decide) hx) | decide | intro hx | (refine Exists.intro _ (And.intro rfl ?_)))
        all_goals try first | (with_reducible change am_tI _ _) | (change Ret _ _) | (change Ret _ _ _) | (change Exists _)
        all_goals try dsimp only at *
        all_goals try (with_reducible exact absurd ‹(1000 : Int64) = 0› am_z1000)
        all_goals first | (with_reducible exact h) | (with_reducible exact n0.1) | omega | (show _ < _; simp only [l201]; decide) | exact h | exact n0.1 | skip
  · exact h.elim
def kX8_forceE (live : am_E) (Ret : am_R) : am_code := [(0, am_iload 1 1), (1, am_callS live 1 TX8_isPlan 4), (4, am_if1 (fun x => x = 0) 42 7), (7, am_iload 2 8), (8, am_callS live 1 TX8_isWhat 11), (11, am_if1 (fun x => x = 0) 42 14), (14, am_aload 0 15), (15, am_iload 3 16), (16, am_callV live 8 1 TX8_isPerson 19), (19, am_if1 (fun x => x = 0) 42 22), (22, am_iload 4 24), (24, am_callS live 1 TX8_isYear 27), (27, am_if1 (fun x => x = 0) 42 30), (30, am_aload 0 31), (31, am_iload 1 32), (32, am_iload 2 33), (33, am_iload 3 34), (34, am_iload 4 36), (36, am_callV live 8 4 TE8_inForce 39), (39, am_goto 44), (42, am_const (.int (-2)) 44), (44, am_retI Ret)]
theorem koX8_forceE (live : am_E) (Ret : am_R) : ∀ q ∈ kX8_forceE live Ret, am_ok RX8 cX8_force 5 (some .int) 2 53 live Ret q.1 q.2 :=
  am_kz dzX8_force <|
  am_kd (fun d => ak_iload_n d rfl rfl) <|
  am_kd (fun d => ak_callS metX8_isPlan ⟨rfl, hy_X8_isPlan⟩ (am_w4 wd_1034 wd_1035 wd_67 wd_1036) (by decide) d rfl) <|
  am_kd (fun d => ak_if_eq d (by decide +kernel) rfl) <|
  am_kd (fun d => ak_iload_n d rfl rfl) <|
  am_kd (fun d => ak_callS metX8_isWhat ⟨rfl, hy_X8_isWhat⟩ (am_w4 wd_1038 wd_1039 wd_67 wd_1040) (by decide) d rfl) <|
  am_kd (fun d => ak_if_eq d (by decide +kernel) rfl) <|
  am_kd (fun d => ak_aload_n d rfl rfl) <|
  am_kd (fun d => ak_iload_n d rfl rfl) <|
  am_kd (fun d => ak_callV (C := RX8) (F := TX8) (N := 27) metX8_isPerson rfl ⟨rfl, hy_X8_isPerson⟩ (am_w5 wd_993 wd_995 wd_27 wd_67 wd_996) (by decide) d rfl) <|
  am_kd (fun d => ak_if_eq d (by decide +kernel) rfl) <|
  am_kd (fun d => ak_iload d rfl) <|
  am_kd (fun d => ak_callS metX8_isYear ⟨rfl, hy_X8_isYear⟩ (am_w4 wd_982 wd_983 wd_67 wd_984) (by decide) d rfl) <|
  am_kd (fun d => ak_if_eq d (by decide +kernel) rfl) <|
  am_kd (fun d => ak_aload_n d rfl rfl) <|
  am_kd (fun d => ak_iload_n d rfl rfl) <|
  am_kd (fun d => ak_iload_n d rfl rfl) <|
  am_kd (fun d => ak_iload_n d rfl rfl) <|
  am_kd (fun d => ak_iload d rfl) <|
  am_kd (fun d => ak_callV (C := RX8) (F := TX8) (N := 27) metX8_inForceE rfl ⟨rfl, hy_X8_inForce⟩ (am_w5 wd_1053 wd_1055 wd_29 wd_67 wd_1056) (by decide) d rfl) <|
  am_kd (fun d => ak_goto d (by decide +kernel)) <|
  am_kd (fun d => ak_bipush d (by decide +kernel) rfl) <|
  am_kd (fun d => ak_retI d) <| am_kdn
def r_force (M : am_M) (pl w p y : Int32) : Int32 × am_M := if 0 ≤ pl ∧ pl < 5 then (if 0 ≤ w ∧ w < 6 then (if 0 ≤ p ∧ p < M.1 201 0 then (if 0 ≤ y ∧ y < 40 then (r_inF M pl w p y, M) else ((-2 : Int32), M)) else ((-2 : Int32), M)) else ((-2 : Int32), M)) else ((-2 : Int32), M)
def TE8_force : am_T := fun live as M R => match as with
  | [.ref n, .int pl, .int w, .int p, .int y] => am_mn live ∧ n = 200 ∧ r_I M ∧ R (some (.int (r_force M pl w p y).1)) (r_force M pl w p y).2
  | _ => False
set_option maxRecDepth 100000 in
set_option maxHeartbeats 4000000 in
theorem metX8_forceE : am_Met yX8_force cX8_force 5 (some .int) (2) (53) TE8_force := by
  refine am_met (own := RX8) (by decide +kernel) rfl kX8_forceE koX8_forceE 200 (fun _ _ _ _ _ => none) (fun live as M Ret h => ?_) (fun _ _ _ _ _ _ _ _ hI => by cases hI)
  unfold TE8_force at h
  split at h
  · next n pl w p y =>
    refine ⟨Nat.le_of_ble_eq_true rfl, ?_⟩
    change am_wp _ _ _ _ [(0, Value.ref n), (1, Value.int pl), (2, Value.int w), (3, Value.int p), (4, Value.int y)] _ _
    obtain ⟨hmn, rfl, hR, h⟩ := h
    have hmn2 := hmn
    obtain ⟨i1, i2, rfl⟩ := hmn2
    have l201 : am_len 201 = 3760 := rfl
    have n0 := hR.n0
    have n1 := hR.n1
    have n030 : 0 ≤ (M.1 201 0).toInt ∧ (M.1 201 0).toInt ≤ 30 := ⟨n0.1, by omega⟩
    by_cases z0 : 0 ≤ pl ∧ pl < 5
    rotate_left
    · skip
      have q0 : (if 0 ≤ pl ∧ pl < 5 then (1 : Int32) else 0) = 0 := if_neg z0
      have e : r_force M pl w p y = ((-2 : Int32), M) := by unfold r_force; rw [if_neg z0]
      rw [e] at h
      repeat' (first | (with_reducible exact hmn) | (with_reducible exact h) | (with_reducible exact n030) | (with_reducible exact n1) | apply And.intro | exact rfl | (intro hx; with_reducible exact absurd q0 hx) | (intro hx; exact absurd hx (by decide)) | (intro hx; exact absurd (by decide) hx) | decide | intro hx | (refine Exists.intro _ (And.intro rfl ?_)))
      all_goals try first | (with_reducible change am_tI _ _) | (change Ret _ _) | (change Ret _ _ _) | (change Exists _)
      all_goals try dsimp only at *
      all_goals try (with_reducible exact absurd ‹(1000 : Int64) = 0› am_z1000)
      all_goals first | (with_reducible exact h) | (with_reducible exact n0.1) | omega | (show _ < _; simp only [l201]; decide) | exact h | exact n0.1 | skip
    · skip
      have q0 : ¬ ((if 0 ≤ pl ∧ pl < 5 then (1 : Int32) else 0) = 0) := by rw [if_pos z0]; decide
      by_cases z1 : 0 ≤ w ∧ w < 6
      rotate_left
      · skip
        have q1 : (if 0 ≤ w ∧ w < 6 then (1 : Int32) else 0) = 0 := if_neg z1
        have e : r_force M pl w p y = ((-2 : Int32), M) := by unfold r_force; rw [if_pos z0, if_neg z1]
        rw [e] at h
        repeat' (first | (with_reducible exact hmn) | (with_reducible exact h) | (with_reducible exact n030) | (with_reducible exact n1) | apply And.intro | exact rfl | (intro hx; with_reducible exact absurd hx q0) | (intro hx; with_reducible exact absurd q1 hx) | (intro hx; exact absurd hx (by decide)) | (intro hx; exact absurd (by decide) hx) | decide | intro hx | (refine Exists.intro _ (And.intro rfl ?_)))
        all_goals try first | (with_reducible change am_tI _ _) | (change Ret _ _) | (change Ret _ _ _) | (change Exists _)
        all_goals try dsimp only at *
        all_goals try (with_reducible exact absurd ‹(1000 : Int64) = 0› am_z1000)
        all_goals first | (with_reducible exact h) | (with_reducible exact n0.1) | omega | (show _ < _; simp only [l201]; decide) | exact h | exact n0.1 | skip
      · skip
        have q1 : ¬ ((if 0 ≤ w ∧ w < 6 then (1 : Int32) else 0) = 0) := by rw [if_pos z1]; decide
        by_cases z2 : 0 ≤ p ∧ p < M.1 201 0
        rotate_left
        · skip
          have q2 : (if 0 ≤ p ∧ p < M.1 201 0 then (1 : Int32) else 0) = 0 := if_neg z2
          have e : r_force M pl w p y = ((-2 : Int32), M) := by unfold r_force; rw [if_pos z0, if_pos z1, if_neg z2]
          rw [e] at h
          repeat' (first | (with_reducible exact hmn) | (with_reducible exact h) | (with_reducible exact n030) | (with_reducible exact n1) | apply And.intro | exact rfl | (intro hx; with_reducible exact absurd hx q0) | (intro hx; with_reducible exact absurd hx q1) | (intro hx; with_reducible exact absurd q2 hx) | (intro hx; exact absurd hx (by decide)) | (intro hx; exact absurd (by decide) hx) | decide | intro hx | (refine Exists.intro _ (And.intro rfl ?_)))
          all_goals try first | (with_reducible change am_tI _ _) | (change Ret _ _) | (change Ret _ _ _) | (change Exists _)
          all_goals try dsimp only at *
          all_goals try (with_reducible exact absurd ‹(1000 : Int64) = 0› am_z1000)
          all_goals first | (with_reducible exact h) | (with_reducible exact n0.1) | omega | (show _ < _; simp only [l201]; decide) | exact h | exact n0.1 | skip
        · skip
          have q2 : ¬ ((if 0 ≤ p ∧ p < M.1 201 0 then (1 : Int32) else 0) = 0) := by rw [if_pos z2]; decide
          by_cases z3 : 0 ≤ y ∧ y < 40
          rotate_left
          · skip
            have q3 : (if 0 ≤ y ∧ y < 40 then (1 : Int32) else 0) = 0 := if_neg z3
            have e : r_force M pl w p y = ((-2 : Int32), M) := by unfold r_force; rw [if_pos z0, if_pos z1, if_pos z2, if_neg z3]
            rw [e] at h
            repeat' (first | (with_reducible exact hmn) | (with_reducible exact h) | (with_reducible exact n030) | (with_reducible exact n1) | apply And.intro | exact rfl | (intro hx; with_reducible exact absurd hx q0) | (intro hx; with_reducible exact absurd hx q1) | (intro hx; with_reducible exact absurd hx q2) | (intro hx; with_reducible exact absurd q3 hx) | (intro hx; exact absurd hx (by decide)) | (intro hx; exact absurd (by decide) hx) | decide | intro hx | (refine Exists.intro _ (And.intro rfl ?_)))
            all_goals try first | (with_reducible change am_tI _ _) | (change Ret _ _) | (change Ret _ _ _) | (change Exists _)
            all_goals try dsimp only at *
            all_goals try (with_reducible exact absurd ‹(1000 : Int64) = 0› am_z1000)
            all_goals first | (with_reducible exact h) | (with_reducible exact n0.1) | omega | (show _ < _; simp only [l201]; decide) | exact h | exact n0.1 | skip
          · skip
            have q3 : ¬ ((if 0 ≤ y ∧ y < 40 then (1 : Int32) else 0) = 0) := by rw [if_pos z3]; decide
            have hp : am_in p 12 := ⟨by have q := z2.1; simp only [i_le, Int32.reduceToInt] at q; omega, by have q := z2.2; simp only [i_lt] at q; omega⟩
            have hw : am_in w 6 := ⟨by have q := z1.1; simp only [i_le, Int32.reduceToInt] at q; omega, by have q := z1.2; simp only [i_lt, Int32.reduceToInt] at q; omega⟩
            have e : r_force M pl w p y = (r_inF M pl w p y, M) := by unfold r_force; rw [if_pos z0, if_pos z1, if_pos z2, if_pos z3]
            rw [e] at h
            repeat' (first | (with_reducible exact hmn) | (with_reducible exact n030) | (with_reducible exact n1) | (with_reducible exact hw) | (with_reducible exact hp) | (with_reducible exact hR) | apply And.intro | exact rfl | (intro hx; with_reducible exact absurd hx q0) | (intro hx; with_reducible exact absurd hx q1) | (intro hx; with_reducible exact absurd hx q2) | (intro hx; with_reducible exact absurd hx q3) | ((with_reducible change r_I _); (with_reducible assumption)) | (intro hx; exact absurd hx (by decide)) | (intro hx; exact absurd (by decide) hx) | decide | intro hx | (refine Exists.intro _ (And.intro rfl ?_)))
            all_goals try first | (with_reducible change am_tI _ _) | (change Ret _ _) | (change Ret _ _ _) | (change Exists _)
            all_goals try dsimp only at *
            all_goals try (with_reducible exact absurd ‹(1000 : Int64) = 0› am_z1000)
            all_goals first | (with_reducible exact h) | (with_reducible exact n0.1) | omega | (show _ < _; simp only [l201]; decide) | exact h | exact n0.1 | skip
  · exact h.elim
def kX7_forceE (live : am_E) (Ret : am_R) : am_code := [(0, am_iload 1 1), (1, am_callS live 1 TX7_isPlan 4), (4, am_if1 (fun x => x = 0) 32 7), (7, am_iload 2 8), (8, am_const (.int 0) 9), (9, am_const (.int 5) 10), (10, am_callS live 3 TX7_within 13), (13, am_if1 (fun x => x = 0) 32 16), (16, am_aload 0 17), (17, am_iload 3 18), (18, am_callV live 7 1 TX7_isPerson 21), (21, am_if1 (fun x => x = 0) 32 24), (24, am_iload 4 26), (26, am_callS live 1 TX7_isYear 29), (29, am_if1 (fun x => x = 0) 32 35), (32, am_const (.int (-2)) 34), (34, am_retI Ret), (35, am_aload 0 36), (36, am_getR live 7 2 39), (39, am_iload 3 40), (40, am_callV live 4 1 TE4_layNumbers 43), (43, am_aload 0 44), (44, am_getR live 7 2 47), (47, am_getR live 4 1 50), (50, am_iload 4 52), (52, am_const (.int 5) 53), (53, am_i2 (fun x y => x * y) 54), (54, am_iload 1 55), (55, am_i2 (fun x y => x + y) 56), (56, am_const (.int 6) 58), (58, am_i2 (fun x y => x * y) 59), (59, am_iload 2 60), (60, am_i2 (fun x y => x + y) 61), (61, am_ald live 0 62), (62, am_retI Ret)]
theorem koX7_forceE (live : am_E) (Ret : am_R) : ∀ q ∈ kX7_forceE live Ret, am_ok RX7 cX7_force 5 (some .int) 3 72 live Ret q.1 q.2 :=
  am_kz dzX7_force <|
  am_kd (fun d => ak_iload_n d rfl rfl) <|
  am_kd (fun d => ak_callS metX7_isPlan ⟨rfl, hy_X7_isPlan⟩ (am_w4 wd_466 wd_467 wd_58 wd_468) (by decide) d rfl) <|
  am_kd (fun d => ak_if_eq d (by decide +kernel) rfl) <|
  am_kd (fun d => ak_iload_n d rfl rfl) <|
  am_kd (fun d => ak_iconst d (by decide +kernel) rfl) <|
  am_kd (fun d => ak_iconst d (by decide +kernel) rfl) <|
  am_kd (fun d => ak_callS metX7_within ⟨rfl, hy_X7_within⟩ (am_w4 wd_418 wd_419 wd_58 wd_420) (by decide) d rfl) <|
  am_kd (fun d => ak_if_eq d (by decide +kernel) rfl) <|
  am_kd (fun d => ak_aload_n d rfl rfl) <|
  am_kd (fun d => ak_iload_n d rfl rfl) <|
  am_kd (fun d => ak_callV (C := RX7) (F := TX7) (N := 4) metX7_isPerson rfl ⟨rfl, hy_X7_isPerson⟩ (am_w5 wd_414 wd_416 wd_0 wd_58 wd_417) (by decide) d rfl) <|
  am_kd (fun d => ak_if_eq d (by decide +kernel) rfl) <|
  am_kd (fun d => ak_iload d rfl) <|
  am_kd (fun d => ak_callS metX7_isYear ⟨rfl, hy_X7_isYear⟩ (am_w4 wd_407 wd_408 wd_58 wd_409) (by decide) d rfl) <|
  am_kd (fun d => ak_if_ne d (by decide +kernel) rfl) <|
  am_kd (fun d => ak_bipush d (by decide +kernel) rfl) <|
  am_kd (fun d => ak_retI d) <|
  am_kd (fun d => ak_aload_n d rfl rfl) <|
  am_kd (fun d => ak_getR (C := RX7) (T := TX7) (N := 4) rfl inX7w (by decide) rfl rfl rfl wd_392 d rfl) <|
  am_kd (fun d => ak_iload_n d rfl rfl) <|
  am_kd (fun d => ak_callV (C := RX4) (F := TX4) (N := 19) metX4_layNumbersE rfl ⟨rfl, hy_X4_layNumbers⟩ (am_w5 wd_493 wd_494 wd_495 wd_60 wd_496) (by decide) d rfl) <|
  am_kd (fun d => ak_aload_n d rfl rfl) <|
  am_kd (fun d => ak_getR (C := RX7) (T := TX7) (N := 4) rfl inX7w (by decide) rfl rfl rfl wd_392 d rfl) <|
  am_kd (fun d => ak_getR (C := RX4) (T := TX4) (N := 19) rfl inX4w (by decide) rfl rfl rfl wd_295 d rfl) <|
  am_kd (fun d => ak_iload d rfl) <|
  am_kd (fun d => ak_iconst d (by decide +kernel) rfl) <|
  am_kd (fun d => ak_imul d rfl) <|
  am_kd (fun d => ak_iload_n d rfl rfl) <|
  am_kd (fun d => ak_iadd d rfl) <|
  am_kd (fun d => ak_bipush d (by decide +kernel) rfl) <|
  am_kd (fun d => ak_imul d rfl) <|
  am_kd (fun d => ak_iload_n d rfl rfl) <|
  am_kd (fun d => ak_iadd d rfl) <|
  am_kd (fun d => ak_iald (t := 0) (fun _ => rfl) rfl d rfl) <|
  am_kd (fun d => ak_retI d) <| am_kdn
theorem o_cl {x : Int32} {n : Nat} (h : am_in x n) (hn : n ≤ 100) : Int32.ofNat x.toNatClampNeg = x := by
  have h1 := h.1
  have h2 := h.2
  have c := i_clamp h1
  exact ((o_eq (x := x) (n := x.toNatClampNeg) (by omega) h1).mpr rfl).symm
def c_forceV (M : am_M) (pl w p y : Int32) : Int32 := if 0 ≤ pl ∧ pl < 5 then (if 0 ≤ w ∧ w ≤ 5 then (if 0 ≤ p ∧ p < M.1 21 7 then (if 0 ≤ y ∧ y < 40 then q_F (M.1 32) (M.1 31 2).toNatClampNeg (M.1 22 p.toNatClampNeg) pl w y.toInt else -2) else -2) else -2) else -2
def TE7_force : am_T := fun live as M R => match as with
  | [.ref n, .int pl, .int w, .int p, .int y] => am_mn live ∧ n = 0 ∧ (g_hI M ∧ g_rI M) ∧ c_A M ∧ ∀ M', c_n5 M M' → g_rI M' → R (some (.int (c_forceV M pl w p y))) M'
  | _ => False
set_option maxRecDepth 100000 in
set_option maxHeartbeats 4000000 in
theorem metX7_forceE : am_Met yX7_force cX7_force 5 (some .int) (3) (72) TE7_force := by
  refine am_met (own := RX7) (by decide +kernel) rfl kX7_forceE koX7_forceE 150 (fun _ _ _ _ _ => none) (fun live as M Ret h => ?_) (fun _ _ _ _ _ _ _ _ hI => by cases hI)
  unfold TE7_force at h
  split at h
  · next n pl w p y =>
    refine ⟨Nat.le_of_ble_eq_true rfl, ?_⟩
    change am_wp _ _ _ _ [(0, Value.ref n), (1, Value.int pl), (2, Value.int w), (3, Value.int p), (4, Value.int y)] _ _
    obtain ⟨hmn, rfl, ⟨hH, hR⟩, hA, h⟩ := h
    have hmn2 := hmn
    obtain ⟨i1, i2, rfl⟩ := hmn2
    by_cases z0 : 0 ≤ pl ∧ pl < 5
    rotate_left
    · skip
      have q0 : (if 0 ≤ pl ∧ pl < 5 then (1 : Int32) else 0) = 0 := if_neg z0
      have e : c_forceV M pl w p y = -2 := by unfold c_forceV; rw [if_neg z0]
      rw [e] at h
      repeat' (first | (with_reducible exact hmn) | apply And.intro | exact rfl | (intro hx; with_reducible exact absurd q0 hx) | (intro hx; exact absurd hx (by decide)) | (intro hx; exact absurd (by decide) hx) | decide | intro hx | (refine Exists.intro _ (And.intro rfl ?_)))
      all_goals try first | (with_reducible change am_tI _ _) | (change Ret _ _) | (change Ret _ _ _) | (change Exists _)
      all_goals try dsimp only at *
      all_goals try (with_reducible exact absurd ‹(1000 : Int64) = 0› am_z1000)
      all_goals exact h _ c_n5.rf hR
    · skip
      have q0 : ¬ ((if 0 ≤ pl ∧ pl < 5 then (1 : Int32) else 0) = 0) := by rw [if_pos z0]; decide
      by_cases z1 : 0 ≤ w ∧ w ≤ 5
      rotate_left
      · skip
        have q1 : (if 0 ≤ w ∧ w ≤ 5 then (1 : Int32) else 0) = 0 := if_neg z1
        have e : c_forceV M pl w p y = -2 := by unfold c_forceV; rw [if_pos z0, if_neg z1]
        rw [e] at h
        repeat' (first | (with_reducible exact hmn) | apply And.intro | exact rfl | (intro hx; with_reducible exact absurd hx q0) | (intro hx; with_reducible exact absurd q1 hx) | (intro hx; exact absurd hx (by decide)) | (intro hx; exact absurd (by decide) hx) | decide | intro hx | (refine Exists.intro _ (And.intro rfl ?_)))
        all_goals try first | (with_reducible change am_tI _ _) | (change Ret _ _) | (change Ret _ _ _) | (change Exists _)
        all_goals try dsimp only at *
        all_goals try (with_reducible exact absurd ‹(1000 : Int64) = 0› am_z1000)
        all_goals exact h _ c_n5.rf hR
      · skip
        have q1 : ¬ ((if 0 ≤ w ∧ w ≤ 5 then (1 : Int32) else 0) = 0) := by rw [if_pos z1]; decide
        by_cases z2 : 0 ≤ p ∧ p < M.1 21 7
        rotate_left
        · skip
          have q2 : (if 0 ≤ p ∧ p < M.1 21 7 then (1 : Int32) else 0) = 0 := if_neg z2
          have e : c_forceV M pl w p y = -2 := by unfold c_forceV; rw [if_pos z0, if_pos z1, if_neg z2]
          rw [e] at h
          repeat' (first | (with_reducible exact hmn) | apply And.intro | exact rfl | (intro hx; with_reducible exact absurd hx q0) | (intro hx; with_reducible exact absurd hx q1) | (intro hx; with_reducible exact absurd q2 hx) | (intro hx; exact absurd hx (by decide)) | (intro hx; exact absurd (by decide) hx) | decide | intro hx | (refine Exists.intro _ (And.intro rfl ?_)))
          all_goals try first | (with_reducible change am_tI _ _) | (change Ret _ _) | (change Ret _ _ _) | (change Exists _)
          all_goals try dsimp only at *
          all_goals try (with_reducible exact absurd ‹(1000 : Int64) = 0› am_z1000)
          all_goals exact h _ c_n5.rf hR
        · skip
          have q2 : ¬ ((if 0 ≤ p ∧ p < M.1 21 7 then (1 : Int32) else 0) = 0) := by rw [if_pos z2]; decide
          by_cases z3 : 0 ≤ y ∧ y < 40
          rotate_left
          · skip
            have q3 : (if 0 ≤ y ∧ y < 40 then (1 : Int32) else 0) = 0 := if_neg z3
            have e : c_forceV M pl w p y = -2 := by unfold c_forceV; rw [if_pos z0, if_pos z1, if_pos z2, if_neg z3]
            rw [e] at h
            repeat' (first | (with_reducible exact hmn) | apply And.intro | exact rfl | (intro hx; with_reducible exact absurd hx q0) | (intro hx; with_reducible exact absurd hx q1) | (intro hx; with_reducible exact absurd hx q2) | (intro hx; with_reducible exact absurd q3 hx) | (intro hx; exact absurd hx (by decide)) | (intro hx; exact absurd (by decide) hx) | decide | intro hx | (refine Exists.intro _ (And.intro rfl ?_)))
            all_goals try first | (with_reducible change am_tI _ _) | (change Ret _ _) | (change Ret _ _ _) | (change Exists _)
            all_goals try dsimp only at *
            all_goals try (with_reducible exact absurd ‹(1000 : Int64) = 0› am_z1000)
            all_goals exact h _ c_n5.rf hR
          · skip
            have q3 : ¬ ((if 0 ≤ y ∧ y < 40 then (1 : Int32) else 0) = 0) := by rw [if_pos z3]; decide
            have e : c_forceV M pl w p y = q_F (M.1 32) (M.1 31 2).toNatClampNeg (M.1 22 p.toNatClampNeg) pl w y.toInt := by unfold c_forceV; rw [if_pos z0, if_pos z1, if_pos z2, if_pos z3]
            rw [e] at h
            have l5 : am_len 5 = 1200 := rfl
            have hp : am_in p 12 := ⟨by have q := z2.1; simp only [i_le, Int32.reduceToInt] at q; omega, by have q := z2.2; have q2 := hH.pe; simp only [i_lt] at q; omega⟩
            have hy : am_in y 40 := ⟨by have q := z3.1; simp only [i_le, Int32.reduceToInt] at q; omega, by have q := z3.2; simp only [i_lt, Int32.reduceToInt] at q; omega⟩
            have hpl : am_in pl 5 := ⟨by have q := z0.1; simp only [i_le, Int32.reduceToInt] at q; omega, by have q := z0.2; simp only [i_lt, Int32.reduceToInt] at q; omega⟩
            have hw : am_in w 6 := ⟨by have q := z1.1; simp only [i_le, Int32.reduceToInt] at q; omega, by have q := z1.2; simp only [i_le, Int32.reduceToInt] at q; omega⟩
            have cc := c_cell hy hpl hw
            have a1 := hpl.1
            have a2 := hpl.2
            have b1 := hy.1
            have b2 := hy.2
            have c1 := hw.1
            have c2 := hw.2
            have x1 : 0 ≤ ((y * 5 + pl) * 6 + w).toInt := by omega
            have x2 : ((y * 5 + pl) * 6 + w).toInt < (am_len 5 : Int) := by rw [l5]; omega
            repeat' (first | (with_reducible exact hmn) | (with_reducible exact x1) | (with_reducible exact x2) | (with_reducible exact hp) | (with_reducible exact hA) | apply And.intro | exact rfl | (intro hx; with_reducible exact absurd hx q0) | (intro hx; with_reducible exact absurd hx q1) | (intro hx; with_reducible exact absurd hx q2) | (intro hx; with_reducible exact absurd hx q3) | (intro hx; exact absurd hx (by decide)) | (intro hx; exact absurd (by decide) hx) | decide | intro hx | (refine Exists.intro _ (And.intro rfl ?_)))
            all_goals try first | (with_reducible change am_tI _ _) | (change Ret _ _) | (change Ret _ _ _) | (change Exists _)
            all_goals try dsimp only at *
            all_goals try (with_reducible exact absurd ‹(1000 : Int64) = 0› am_z1000)
            all_goals
              rename_i M1 d1
              have v := hx.v (y' := y.toNatClampNeg) (pl := pl.toNatClampNeg) (w := w.toNatClampNeg) (g_cl hy) (g_cl hpl) (g_cl hw)
              rw [← cc.2, q_Fn, o_cl hpl (by decide), o_cl hw (by decide), i_clamp hy.1] at v
              exact am_rI (h M1 d1 (d1.rI hR)) v.symm
  · exact h.elim
