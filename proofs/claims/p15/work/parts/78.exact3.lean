/-! exact: planOf, force -/
def r_planOf (M : am_M) (l y : Int32) : Int32 × am_M := if 0 ≤ l ∧ l < M.1 201 1 then (if 0 ≤ y ∧ y < 40 then (r_pl M l y, M) else ((-2 : Int32), M)) else ((-2 : Int32), M)
def TE8_planOf : am_T := fun live as M R => match as with
  | [.ref n, .int l, .int y] => am_mn live ∧ n = 200 ∧ r_I M ∧ R (some (.int (r_planOf M l y).1)) (r_planOf M l y).2
  | _ => False
set_option maxRecDepth 100000 in
set_option maxHeartbeats 4000000 in
theorem metX8_planOfE : am_Met yX8_planOf cX8_planOf 3 (some .int) (2) (46) TE8_planOf := by
  refine am_met (own := RX8) (by decide +kernel) rfl kX8_planOf koX8_planOf 200 (fun _ _ _ _ _ => none) (fun live as M Ret h => ?_) (fun _ _ _ _ _ _ _ _ hI => by cases hI)
  unfold TE8_planOf at h
  split at h
  · next n l y =>
    refine ⟨Nat.le_of_ble_eq_true rfl, ?_⟩
    change am_wp _ _ _ _ [(0, Value.ref n), (1, Value.int l), (2, Value.int y)] _ _
    obtain ⟨hmn, rfl, hR, h⟩ := h
    have hmn2 := hmn
    obtain ⟨i1, i2, rfl⟩ := hmn2
    have l201 : am_len 201 = 3760 := rfl
    have n0 := hR.n0
    have n1 := hR.n1
    have n030 : 0 ≤ (M.1 201 0).toInt ∧ (M.1 201 0).toInt ≤ 30 := ⟨n0.1, by omega⟩
    by_cases z0 : 0 ≤ l ∧ l < M.1 201 1
    rotate_left
    · skip
      have q0 : (if 0 ≤ l ∧ l < M.1 201 1 then (1 : Int32) else 0) = 0 := if_neg z0
      have e : r_planOf M l y = ((-2 : Int32), M) := by unfold r_planOf; rw [if_neg z0]
      rw [e] at h
      repeat' (first | (with_reducible exact hmn) | (with_reducible exact h) | (with_reducible exact n030) | (with_reducible exact n1) | apply And.intro | exact rfl | (intro hx; with_reducible exact absurd q0 hx) | (intro hx; exact absurd hx (by decide)) | (intro hx; exact absurd (by decide) hx) | decide | intro hx | (refine Exists.intro _ (And.intro rfl ?_)))
      all_goals try first | (with_reducible change am_tI _ _) | (change Ret _ _) | (change Ret _ _ _) | (change Exists _)
      all_goals try dsimp only at *
      all_goals try exact absurd ‹(1000 : Int64) = 0› (by decide)
      all_goals first | exact h | exact n0.1 | omega | (show _ < _; simp only [l201]; decide) | skip
    · skip
      have q0 : ¬ ((if 0 ≤ l ∧ l < M.1 201 1 then (1 : Int32) else 0) = 0) := by rw [if_pos z0]; decide
      by_cases z1 : 0 ≤ y ∧ y < 40
      rotate_left
      · skip
        have q1 : (if 0 ≤ y ∧ y < 40 then (1 : Int32) else 0) = 0 := if_neg z1
        have e : r_planOf M l y = ((-2 : Int32), M) := by unfold r_planOf; rw [if_pos z0, if_neg z1]
        rw [e] at h
        repeat' (first | (with_reducible exact hmn) | (with_reducible exact h) | (with_reducible exact n030) | (with_reducible exact n1) | apply And.intro | exact rfl | (intro hx; with_reducible exact absurd hx q0) | (intro hx; with_reducible exact absurd q1 hx) | (intro hx; exact absurd hx (by decide)) | (intro hx; exact absurd (by decide) hx) | decide | intro hx | (refine Exists.intro _ (And.intro rfl ?_)))
        all_goals try first | (with_reducible change am_tI _ _) | (change Ret _ _) | (change Ret _ _ _) | (change Exists _)
        all_goals try dsimp only at *
        all_goals try exact absurd ‹(1000 : Int64) = 0› (by decide)
        all_goals first | exact h | exact n0.1 | omega | (show _ < _; simp only [l201]; decide) | skip
      · skip
        have q1 : ¬ ((if 0 ≤ y ∧ y < 40 then (1 : Int32) else 0) = 0) := by rw [if_pos z1]; decide
        have hl : am_in l 30 := ⟨by have q := z0.1; simp only [i_le, Int32.reduceToInt] at q; omega, by have q := z0.2; simp only [i_lt] at q; omega⟩
        have hy : am_in y 40 := ⟨by have q := z1.1; simp only [i_le, Int32.reduceToInt] at q; omega, by have q := z1.2; simp only [i_lt, Int32.reduceToInt] at q; omega⟩
        have hy1 := hy.1
        have e : r_planOf M l y = (r_pl M l y, M) := by unfold r_planOf; rw [if_pos z0, if_pos z1]
        rw [e] at h
        repeat' (first | (with_reducible exact hmn) | (with_reducible exact n030) | (with_reducible exact n1) | (with_reducible exact hl) | (with_reducible exact hy1) | (with_reducible exact hR) | apply And.intro | exact rfl | (intro hx; with_reducible exact absurd hx q0) | (intro hx; with_reducible exact absurd hx q1) | ((with_reducible change r_I _); (with_reducible assumption)) | (intro hx; exact absurd hx (by decide)) | (intro hx; exact absurd (by decide) hx) | decide | intro hx | (refine Exists.intro _ (And.intro rfl ?_)))
        all_goals try first | (with_reducible change am_tI _ _) | (change Ret _ _) | (change Ret _ _ _) | (change Exists _)
        all_goals try dsimp only at *
        all_goals try exact absurd ‹(1000 : Int64) = 0› (by decide)
        all_goals first | exact h | exact n0.1 | omega | (show _ < _; simp only [l201]; decide) | skip
  · exact h.elim
def r_force (M : am_M) (pl w p y : Int32) : Int32 × am_M := if 0 ≤ pl ∧ pl < 5 then (if 0 ≤ w ∧ w < 6 then (if 0 ≤ p ∧ p < M.1 201 0 then (if 0 ≤ y ∧ y < 40 then (r_inF M pl w p y, M) else ((-2 : Int32), M)) else ((-2 : Int32), M)) else ((-2 : Int32), M)) else ((-2 : Int32), M)
def TE8_force : am_T := fun live as M R => match as with
  | [.ref n, .int pl, .int w, .int p, .int y] => am_mn live ∧ n = 200 ∧ r_I M ∧ R (some (.int (r_force M pl w p y).1)) (r_force M pl w p y).2
  | _ => False
set_option maxRecDepth 100000 in
set_option maxHeartbeats 4000000 in
theorem metX8_forceE : am_Met yX8_force cX8_force 5 (some .int) (2) (53) TE8_force := by
  refine am_met (own := RX8) (by decide +kernel) rfl kX8_force koX8_force 200 (fun _ _ _ _ _ => none) (fun live as M Ret h => ?_) (fun _ _ _ _ _ _ _ _ hI => by cases hI)
  unfold TE8_force at h
  split at h
  · next n pl w p y =>
    refine ⟨Nat.le_of_ble_eq_true rfl, ?_⟩
    change am_wp _ _ _ _ [(0, Value.ref n), (1, Value.int pl), (2, Value.int w), (3, Value.int p), (4, Value.int y)] _ _
    obtain ⟨hmn, rfl, hR, h⟩ := h
    have hmn2 := hmn
    obtain ⟨i1, i2, rfl⟩ := hmn2
    have l201 : am_len 201 = 3760 := rfl
    have n0 := hR.n0
    have n1 := hR.n1
    have n030 : 0 ≤ (M.1 201 0).toInt ∧ (M.1 201 0).toInt ≤ 30 := ⟨n0.1, by omega⟩
    by_cases z0 : 0 ≤ pl ∧ pl < 5
    rotate_left
    · skip
      have q0 : (if 0 ≤ pl ∧ pl < 5 then (1 : Int32) else 0) = 0 := if_neg z0
      have e : r_force M pl w p y = ((-2 : Int32), M) := by unfold r_force; rw [if_neg z0]
      rw [e] at h
      repeat' (first | (with_reducible exact hmn) | (with_reducible exact h) | (with_reducible exact n030) | (with_reducible exact n1) | apply And.intro | exact rfl | (intro hx; with_reducible exact absurd q0 hx) | (intro hx; exact absurd hx (by decide)) | (intro hx; exact absurd (by decide) hx) | decide | intro hx | (refine Exists.intro _ (And.intro rfl ?_)))
      all_goals try first | (with_reducible change am_tI _ _) | (change Ret _ _) | (change Ret _ _ _) | (change Exists _)
      all_goals try dsimp only at *
      all_goals try exact absurd ‹(1000 : Int64) = 0› (by decide)
      all_goals first | exact h | exact n0.1 | omega | (show _ < _; simp only [l201]; decide) | skip
    · skip
      have q0 : ¬ ((if 0 ≤ pl ∧ pl < 5 then (1 : Int32) else 0) = 0) := by rw [if_pos z0]; decide
      by_cases z1 : 0 ≤ w ∧ w < 6
      rotate_left
      · skip
        have q1 : (if 0 ≤ w ∧ w < 6 then (1 : Int32) else 0) = 0 := if_neg z1
        have e : r_force M pl w p y = ((-2 : Int32), M) := by unfold r_force; rw [if_pos z0, if_neg z1]
        rw [e] at h
        repeat' (first | (with_reducible exact hmn) | (with_reducible exact h) | (with_reducible exact n030) | (with_reducible exact n1) | apply And.intro | exact rfl | (intro hx; with_reducible exact absurd hx q0) | (intro hx; with_reducible exact absurd q1 hx) | (intro hx; exact absurd hx (by decide)) | (intro hx; exact absurd (by decide) hx) | decide | intro hx | (refine Exists.intro _ (And.intro rfl ?_)))
        all_goals try first | (with_reducible change am_tI _ _) | (change Ret _ _) | (change Ret _ _ _) | (change Exists _)
        all_goals try dsimp only at *
        all_goals try exact absurd ‹(1000 : Int64) = 0› (by decide)
        all_goals first | exact h | exact n0.1 | omega | (show _ < _; simp only [l201]; decide) | skip
      · skip
        have q1 : ¬ ((if 0 ≤ w ∧ w < 6 then (1 : Int32) else 0) = 0) := by rw [if_pos z1]; decide
        by_cases z2 : 0 ≤ p ∧ p < M.1 201 0
        rotate_left
        · skip
          have q2 : (if 0 ≤ p ∧ p < M.1 201 0 then (1 : Int32) else 0) = 0 := if_neg z2
          have e : r_force M pl w p y = ((-2 : Int32), M) := by unfold r_force; rw [if_pos z0, if_pos z1, if_neg z2]
          rw [e] at h
          repeat' (first | (with_reducible exact hmn) | (with_reducible exact h) | (with_reducible exact n030) | (with_reducible exact n1) | apply And.intro | exact rfl | (intro hx; with_reducible exact absurd hx q0) | (intro hx; with_reducible exact absurd hx q1) | (intro hx; with_reducible exact absurd q2 hx) | (intro hx; exact absurd hx (by decide)) | (intro hx; exact absurd (by decide) hx) | decide | intro hx | (refine Exists.intro _ (And.intro rfl ?_)))
          all_goals try first | (with_reducible change am_tI _ _) | (change Ret _ _) | (change Ret _ _ _) | (change Exists _)
          all_goals try dsimp only at *
          all_goals try exact absurd ‹(1000 : Int64) = 0› (by decide)
          all_goals first | exact h | exact n0.1 | omega | (show _ < _; simp only [l201]; decide) | skip
        · skip
          have q2 : ¬ ((if 0 ≤ p ∧ p < M.1 201 0 then (1 : Int32) else 0) = 0) := by rw [if_pos z2]; decide
          by_cases z3 : 0 ≤ y ∧ y < 40
          rotate_left
          · skip
            have q3 : (if 0 ≤ y ∧ y < 40 then (1 : Int32) else 0) = 0 := if_neg z3
            have e : r_force M pl w p y = ((-2 : Int32), M) := by unfold r_force; rw [if_pos z0, if_pos z1, if_pos z2, if_neg z3]
            rw [e] at h
            repeat' (first | (with_reducible exact hmn) | (with_reducible exact h) | (with_reducible exact n030) | (with_reducible exact n1) | apply And.intro | exact rfl | (intro hx; with_reducible exact absurd hx q0) | (intro hx; with_reducible exact absurd hx q1) | (intro hx; with_reducible exact absurd hx q2) | (intro hx; with_reducible exact absurd q3 hx) | (intro hx; exact absurd hx (by decide)) | (intro hx; exact absurd (by decide) hx) | decide | intro hx | (refine Exists.intro _ (And.intro rfl ?_)))
            all_goals try first | (with_reducible change am_tI _ _) | (change Ret _ _) | (change Ret _ _ _) | (change Exists _)
            all_goals try dsimp only at *
            all_goals try exact absurd ‹(1000 : Int64) = 0› (by decide)
            all_goals first | exact h | exact n0.1 | omega | (show _ < _; simp only [l201]; decide) | skip
          · skip
            have q3 : ¬ ((if 0 ≤ y ∧ y < 40 then (1 : Int32) else 0) = 0) := by rw [if_pos z3]; decide
            have hp : am_in p 12 := ⟨by have q := z2.1; simp only [i_le, Int32.reduceToInt] at q; omega, by have q := z2.2; simp only [i_lt] at q; omega⟩
            have hw : am_in w 6 := ⟨by have q := z1.1; simp only [i_le, Int32.reduceToInt] at q; omega, by have q := z1.2; simp only [i_lt, Int32.reduceToInt] at q; omega⟩
            have e : r_force M pl w p y = (r_inF M pl w p y, M) := by unfold r_force; rw [if_pos z0, if_pos z1, if_pos z2, if_pos z3]
            rw [e] at h
            repeat' (first | (with_reducible exact hmn) | (with_reducible exact n030) | (with_reducible exact n1) | (with_reducible exact hw) | (with_reducible exact hp) | (with_reducible exact hR) | apply And.intro | exact rfl | (intro hx; with_reducible exact absurd hx q0) | (intro hx; with_reducible exact absurd hx q1) | (intro hx; with_reducible exact absurd hx q2) | (intro hx; with_reducible exact absurd hx q3) | ((with_reducible change r_I _); (with_reducible assumption)) | (intro hx; exact absurd hx (by decide)) | (intro hx; exact absurd (by decide) hx) | decide | intro hx | (refine Exists.intro _ (And.intro rfl ?_)))
            all_goals try first | (with_reducible change am_tI _ _) | (change Ret _ _) | (change Ret _ _ _) | (change Exists _)
            all_goals try dsimp only at *
            all_goals try exact absurd ‹(1000 : Int64) = 0› (by decide)
            all_goals first | exact h | exact n0.1 | omega | (show _ < _; simp only [l201]; decide) | skip
  · exact h.elim
theorem o_cl {x : Int32} {n : Nat} (h : am_in x n) (hn : n ≤ 100) : Int32.ofNat x.toNatClampNeg = x := by
  have h1 := h.1
  have h2 := h.2
  have c := i_clamp h1
  exact ((o_eq (x := x) (n := x.toNatClampNeg) (by omega) h1).mpr rfl).symm
def c_forceV (M : am_M) (pl w p y : Int32) : Int32 := if 0 ≤ pl ∧ pl < 5 then (if 0 ≤ w ∧ w ≤ 5 then (if 0 ≤ p ∧ p < M.1 21 7 then (if 0 ≤ y ∧ y < 40 then q_F (M.1 32) (M.1 31 2).toNatClampNeg (M.1 22 p.toNatClampNeg) pl w y.toInt else -2) else -2) else -2) else -2
def TE7_force : am_T := fun live as M R => match as with
  | [.ref n, .int pl, .int w, .int p, .int y] => am_mn live ∧ n = 0 ∧ (g_hI M ∧ g_rI M) ∧ c_A M ∧ ∀ M', c_n5 M M' → g_rI M' → R (some (.int (c_forceV M pl w p y))) M'
  | _ => False
set_option maxRecDepth 100000 in
set_option maxHeartbeats 4000000 in
theorem metX7_forceE : am_Met yX7_force cX7_force 5 (some .int) (3) (72) TE7_force := by
  refine am_met (own := RX7) (by decide +kernel) rfl kX7_force koX7_force 150 (fun _ _ _ _ _ => none) (fun live as M Ret h => ?_) (fun _ _ _ _ _ _ _ _ hI => by cases hI)
  unfold TE7_force at h
  split at h
  · next n pl w p y =>
    refine ⟨Nat.le_of_ble_eq_true rfl, ?_⟩
    change am_wp _ _ _ _ [(0, Value.ref n), (1, Value.int pl), (2, Value.int w), (3, Value.int p), (4, Value.int y)] _ _
    obtain ⟨hmn, rfl, ⟨hH, hR⟩, hA, h⟩ := h
    have hmn2 := hmn
    obtain ⟨i1, i2, rfl⟩ := hmn2
    by_cases z0 : 0 ≤ pl ∧ pl < 5
    rotate_left
    · skip
      have q0 : (if 0 ≤ pl ∧ pl < 5 then (1 : Int32) else 0) = 0 := if_neg z0
      have e : c_forceV M pl w p y = -2 := by unfold c_forceV; rw [if_neg z0]
      rw [e] at h
      repeat' (first | (with_reducible exact hmn) | apply And.intro | exact rfl | (intro hx; with_reducible exact absurd q0 hx) | (intro hx; exact absurd hx (by decide)) | (intro hx; exact absurd (by decide) hx) | decide | intro hx | (refine Exists.intro _ (And.intro rfl ?_)))
      all_goals try first | (with_reducible change am_tI _ _) | (change Ret _ _) | (change Ret _ _ _) | (change Exists _)
      all_goals try dsimp only at *
      all_goals try exact absurd ‹(1000 : Int64) = 0› (by decide)
      all_goals exact h _ c_n5.rf hR
    · skip
      have q0 : ¬ ((if 0 ≤ pl ∧ pl < 5 then (1 : Int32) else 0) = 0) := by rw [if_pos z0]; decide
      by_cases z1 : 0 ≤ w ∧ w ≤ 5
      rotate_left
      · skip
        have q1 : (if 0 ≤ w ∧ w ≤ 5 then (1 : Int32) else 0) = 0 := if_neg z1
        have e : c_forceV M pl w p y = -2 := by unfold c_forceV; rw [if_pos z0, if_neg z1]
        rw [e] at h
        repeat' (first | (with_reducible exact hmn) | apply And.intro | exact rfl | (intro hx; with_reducible exact absurd hx q0) | (intro hx; with_reducible exact absurd q1 hx) | (intro hx; exact absurd hx (by decide)) | (intro hx; exact absurd (by decide) hx) | decide | intro hx | (refine Exists.intro _ (And.intro rfl ?_)))
        all_goals try first | (with_reducible change am_tI _ _) | (change Ret _ _) | (change Ret _ _ _) | (change Exists _)
        all_goals try dsimp only at *
        all_goals try exact absurd ‹(1000 : Int64) = 0› (by decide)
        all_goals exact h _ c_n5.rf hR
      · skip
        have q1 : ¬ ((if 0 ≤ w ∧ w ≤ 5 then (1 : Int32) else 0) = 0) := by rw [if_pos z1]; decide
        by_cases z2 : 0 ≤ p ∧ p < M.1 21 7
        rotate_left
        · skip
          have q2 : (if 0 ≤ p ∧ p < M.1 21 7 then (1 : Int32) else 0) = 0 := if_neg z2
          have e : c_forceV M pl w p y = -2 := by unfold c_forceV; rw [if_pos z0, if_pos z1, if_neg z2]
          rw [e] at h
          repeat' (first | (with_reducible exact hmn) | apply And.intro | exact rfl | (intro hx; with_reducible exact absurd hx q0) | (intro hx; with_reducible exact absurd hx q1) | (intro hx; with_reducible exact absurd q2 hx) | (intro hx; exact absurd hx (by decide)) | (intro hx; exact absurd (by decide) hx) | decide | intro hx | (refine Exists.intro _ (And.intro rfl ?_)))
          all_goals try first | (with_reducible change am_tI _ _) | (change Ret _ _) | (change Ret _ _ _) | (change Exists _)
          all_goals try dsimp only at *
          all_goals try exact absurd ‹(1000 : Int64) = 0› (by decide)
          all_goals exact h _ c_n5.rf hR
        · skip
          have q2 : ¬ ((if 0 ≤ p ∧ p < M.1 21 7 then (1 : Int32) else 0) = 0) := by rw [if_pos z2]; decide
          by_cases z3 : 0 ≤ y ∧ y < 40
          rotate_left
          · skip
            have q3 : (if 0 ≤ y ∧ y < 40 then (1 : Int32) else 0) = 0 := if_neg z3
            have e : c_forceV M pl w p y = -2 := by unfold c_forceV; rw [if_pos z0, if_pos z1, if_pos z2, if_neg z3]
            rw [e] at h
            repeat' (first | (with_reducible exact hmn) | apply And.intro | exact rfl | (intro hx; with_reducible exact absurd hx q0) | (intro hx; with_reducible exact absurd hx q1) | (intro hx; with_reducible exact absurd hx q2) | (intro hx; with_reducible exact absurd q3 hx) | (intro hx; exact absurd hx (by decide)) | (intro hx; exact absurd (by decide) hx) | decide | intro hx | (refine Exists.intro _ (And.intro rfl ?_)))
            all_goals try first | (with_reducible change am_tI _ _) | (change Ret _ _) | (change Ret _ _ _) | (change Exists _)
            all_goals try dsimp only at *
            all_goals try exact absurd ‹(1000 : Int64) = 0› (by decide)
            all_goals exact h _ c_n5.rf hR
          · skip
            have q3 : ¬ ((if 0 ≤ y ∧ y < 40 then (1 : Int32) else 0) = 0) := by rw [if_pos z3]; decide
            have e : c_forceV M pl w p y = q_F (M.1 32) (M.1 31 2).toNatClampNeg (M.1 22 p.toNatClampNeg) pl w y.toInt := by unfold c_forceV; rw [if_pos z0, if_pos z1, if_pos z2, if_pos z3]
            rw [e] at h
            have l5 : am_len 5 = 1200 := rfl
            have hp : am_in p 12 := ⟨by have q := z2.1; simp only [i_le, Int32.reduceToInt] at q; omega, by have q := z2.2; have q2 := hH.pe; simp only [i_lt] at q; omega⟩
            have hy : am_in y 40 := ⟨by have q := z3.1; simp only [i_le, Int32.reduceToInt] at q; omega, by have q := z3.2; simp only [i_lt, Int32.reduceToInt] at q; omega⟩
            have hpl : am_in pl 5 := ⟨by have q := z0.1; simp only [i_le, Int32.reduceToInt] at q; omega, by have q := z0.2; simp only [i_lt, Int32.reduceToInt] at q; omega⟩
            have hw : am_in w 6 := ⟨by have q := z1.1; simp only [i_le, Int32.reduceToInt] at q; omega, by have q := z1.2; simp only [i_le, Int32.reduceToInt] at q; omega⟩
            have cc := c_cell hy hpl hw
            have a1 := hpl.1
            have a2 := hpl.2
            have b1 := hy.1
            have b2 := hy.2
            have c1 := hw.1
            have c2 := hw.2
            have x1 : 0 ≤ ((y * 5 + pl) * 6 + w).toInt := by omega
            have x2 : ((y * 5 + pl) * 6 + w).toInt < (am_len 5 : Int) := by rw [l5]; omega
            repeat' (first | (with_reducible exact hmn) | (with_reducible exact x1) | (with_reducible exact x2) | (with_reducible exact hp) | (with_reducible exact hA) | apply And.intro | exact rfl | (intro hx; with_reducible exact absurd hx q0) | (intro hx; with_reducible exact absurd hx q1) | (intro hx; with_reducible exact absurd hx q2) | (intro hx; with_reducible exact absurd hx q3) | (intro hx; exact absurd hx (by decide)) | (intro hx; exact absurd (by decide) hx) | decide | intro hx | (refine Exists.intro _ (And.intro rfl ?_)))
            all_goals try first | (with_reducible change am_tI _ _) | (change Ret _ _) | (change Ret _ _ _) | (change Exists _)
            all_goals try dsimp only at *
            all_goals try exact absurd ‹(1000 : Int64) = 0› (by decide)
            all_goals
              rename_i M1 d1
              have v := hx.v (y' := y.toNatClampNeg) (pl := pl.toNatClampNeg) (w := w.toNatClampNeg) (g_cl hy) (g_cl hpl) (g_cl hw)
              rw [← cc.2, q_Fn, o_cl hpl (by decide), o_cl hw (by decide), i_clamp hy.1] at v
              exact am_rI (h M1 d1 (d1.rI hR)) v.symm
  · exact h.elim
