/-! exact: which plan a loan is in, what is in force: the reference -/
theorem r_plm_y {f : Nat → Int32} {l y m : Nat} (h : (f (3078 + 3 * m)).toInt = (l : Int) ∧ (f (3080 + 3 * m)).toInt ≤ (y : Int)) : r_plm f l y (m + 1) = f (3079 + 3 * m) := if_pos h
theorem r_plm_n {f : Nat → Int32} {l y m : Nat} (h : ¬ ((f (3078 + 3 * m)).toInt = (l : Int) ∧ (f (3080 + 3 * m)).toInt ≤ (y : Int))) : r_plm f l y (m + 1) = r_plm f l y m := if_neg h
/-- the plan of a loan in a year, as the reference answers -/
def r_pl (M : am_M) (l y : Int32) : Int32 := if 0 ≤ (M.1 200 7).toInt ∧ (M.1 200 8).toInt ≤ y.toInt then M.1 200 7 else r_plm (M.1 201) l.toNatClampNeg y.toNatClampNeg (M.1 201 3).toNatClampNeg
def TE8_planAt : am_T := fun live as M R => match as with
  | [.ref n, .int l, .int y] => am_mn live ∧ n = 200 ∧ am_in l 30 ∧ 0 ≤ y.toInt ∧ r_I M ∧ R (some (.int (r_pl M l y))) M
  | _ => False
def JE8_planAt : am_E → List Value → am_M → am_R → am_inv := fun live as M0 _ pc => match as with
  | [.ref n, .int l, .int y] => (match pc with
    | 41 => some ([0, 1, 2, 3, 4], fun k L st M => ∃ (q m : Int32) (j : Nat), L = [(0, .ref 200), (1, .int l), (2, .int y), (3, .int q), (4, .int m)] ∧ st = [] ∧ k = (100 - j, 0) ∧ m.toInt = 3078 + 3 * (j : Int) ∧ j ≤ (M0.1 201 3).toNatClampNeg ∧ q = r_plm (M0.1 201) l.toNatClampNeg y.toNatClampNeg j ∧ ¬ (0 ≤ (M0.1 200 7).toInt ∧ (M0.1 200 8).toInt ≤ y.toInt) ∧ M = M0)
    | _ => none)
  | _ => none
set_option maxRecDepth 100000 in
set_option maxHeartbeats 4000000 in
theorem metX8_planAtE : am_Met yX8_planAt cX8_planAt 5 (some .int) (0) (0) TE8_planAt := by
  refine am_met (own := RX8) (by decide +kernel) rfl kX8_planAt koX8_planAt 100 JE8_planAt ?_ ?_
  · intro live as M Ret h
    unfold TE8_planAt at h
    split at h
    · next n l y =>
      refine ⟨Nat.le_of_ble_eq_true rfl, ?_⟩
      change am_wp _ _ _ _ [(0, Value.ref n), (1, Value.int l), (2, Value.int y)] _ _
      obtain ⟨hmn, rfl, hl, hy, hR, h⟩ := h
      have hmn2 := hmn
      obtain ⟨i1, i2, rfl⟩ := hmn2
      have l201 : am_len 201 = 3760 := rfl
      have l1 := hl.1
      have l2 := hl.2
      have e1 := r_lcol hl (w := 1) ⟨by decide, by decide⟩
      simp only [Int32.reduceToInt] at e1
      have hpl : M.1 201 (2838 + 8 * l + 1).toNatClampNeg = r_plm (M.1 201) l.toNatClampNeg y.toNatClampNeg 0 := by
        have c1 := i_clamp (x := 2838 + 8 * l + 1) (by omega)
        have c2 := i_clamp (x := l) l1
        show _ = M.1 201 (2839 + 8 * l.toNatClampNeg)
        rw [show (2838 + 8 * l + 1).toNatClampNeg = 2839 + 8 * l.toNatClampNeg by omega]
      by_cases hz : M.1 200 7 < 0
      · have q : ¬ (0 ≤ (M.1 200 7).toInt ∧ (M.1 200 8).toInt ≤ y.toInt) := fun q => by
          have q1 := q.1
          simp only [i_lt, Int32.reduceToInt] at hz
          omega
        repeat' (first | apply And.intro | exact rfl | (intro hx; with_reducible exact absurd hz hx) | intro hx | (refine Exists.intro _ (And.intro rfl ?_)))
        all_goals try first | (with_reducible change am_tI _ _) | (change Ret _ _) | (change Ret _ _ _) | (change Exists _)
        all_goals try dsimp only at *
        all_goals try (with_reducible exact absurd ‹(1000 : Int64) = 0› am_z1000)
        all_goals first
          | omega
          | (rw [l201]; omega)
          | exact ⟨_, _, _, 0, rfl, rfl, rfl, rfl, Nat.zero_le _, hpl, q, rfl⟩
      · by_cases hw : y < M.1 200 8
        · have q : ¬ (0 ≤ (M.1 200 7).toInt ∧ (M.1 200 8).toInt ≤ y.toInt) := fun q => by
            have q1 := q.2
            simp only [i_lt] at hw
            omega
          repeat' (first | apply And.intro | exact rfl | (intro hx; with_reducible exact absurd hx hz) | (intro hx; with_reducible exact absurd hw hx) | intro hx | (refine Exists.intro _ (And.intro rfl ?_)))
          all_goals try first | (with_reducible change am_tI _ _) | (change Ret _ _) | (change Ret _ _ _) | (change Exists _)
          all_goals try dsimp only at *
          all_goals try (with_reducible exact absurd ‹(1000 : Int64) = 0› am_z1000)
          all_goals first
            | omega
            | (rw [l201]; omega)
            | exact ⟨_, _, _, 0, rfl, rfl, rfl, rfl, Nat.zero_le _, hpl, q, rfl⟩
        · have e : r_pl M l y = M.1 200 7 := if_pos ⟨by simp only [i_lt, Int32.reduceToInt] at hz; omega, by simp only [i_lt] at hw; omega⟩
          rw [e] at h
          repeat' (first | apply And.intro | exact rfl | (intro hx; with_reducible exact absurd hx hz) | (intro hx; with_reducible exact absurd hx hw) | intro hx | (refine Exists.intro _ (And.intro rfl ?_)))
          all_goals try first | (with_reducible change am_tI _ _) | (change Ret _ _) | (change Ret _ _ _) | (change Exists _)
          all_goals try dsimp only at *
          all_goals try (with_reducible exact absurd ‹(1000 : Int64) = 0› am_z1000)
          all_goals exact h
    · exact h.elim
  · intro live as M0 Ret h k pc I hI L st M hi
    unfold TE8_planAt at h
    split at h
    · next n l y =>
      obtain ⟨hmn, rfl, hl, hy, hR, h⟩ := h
      have hmn2 := hmn
      obtain ⟨i1, i2, rfl⟩ := hmn2
      have l201 : am_len 201 = 3760 := rfl
      have n3 : 0 ≤ (M0.1 201 (Int32.toNatClampNeg 3)).toInt ∧ (M0.1 201 (Int32.toNatClampNeg 3)).toInt ≤ 60 := hR.n3
      have cn : ((M0.1 201 3).toNatClampNeg : Int) = (M0.1 201 (Int32.toNatClampNeg 3)).toInt := i_clamp n3.1
      have e3 := r_mul (c := 3) (x := M0.1 201 (Int32.toNatClampNeg 3)) ⟨by decide, by decide⟩ ⟨n3.1, by omega⟩
      simp only [Int32.reduceToInt] at e3
      have e30 := r_off (c := 3078) (x := 3 * M0.1 201 (Int32.toNatClampNeg 3)) ⟨by decide, by decide⟩ ⟨by omega, by omega⟩
      simp only [e3, Int32.reduceToInt] at e30
      have cl := i_clamp (x := l) hl.1
      have cy := i_clamp (x := y) hy
      change (match pc with | 41 => _ | _ => none) = _ at hI
      split at hI
      · cases hI
        obtain ⟨q, m, j, rfl, rfl, rfl, e1, e2, hq, hno, rfl⟩ := hi
        by_cases hz : 3078 + 3 * M.1 201 (Int32.toNatClampNeg 3) ≤ m
        · have hj : j = (M.1 201 3).toNatClampNeg := by
            have hz2 := hz
            simp only [i_le] at hz2
            omega
          have e : r_pl M l y = q := by
            unfold r_pl
            rw [if_neg hno, ← hj]
            exact hq.symm
          rw [e] at h
          repeat' (first | apply And.intro | exact rfl | (intro hx; with_reducible exact absurd hz hx) | (intro hx; exact absurd hx (by decide)) | (intro hx; exact absurd (by decide) hx) | decide | intro hx | (refine Exists.intro _ (And.intro rfl ?_)))
          all_goals try first | (with_reducible change am_tI _ _) | (change Ret _ _) | (change Ret _ _ _) | (change Exists _)
          all_goals try dsimp only at *
          all_goals try (with_reducible exact absurd ‹(1000 : Int64) = 0› am_z1000)
          all_goals first
            | (show _ < _; simp only [l201]; decide)
            | (with_reducible exact h)
            | exact h
        · have hz2 := hz
          simp only [i_le] at hz2
          have em1 := r_off (c := m) (x := 1) ⟨by omega, by omega⟩ ⟨by decide, by decide⟩
          have em2 := r_off (c := m) (x := 2) ⟨by omega, by omega⟩ ⟨by decide, by decide⟩
          have em3 := r_off (c := m) (x := 3) ⟨by omega, by omega⟩ ⟨by decide, by decide⟩
          simp only [Int32.reduceToInt] at em1 em2 em3
          have c0 := i_clamp (x := m) (by omega)
          have c1 := i_clamp (x := m + 1) (by omega)
          have c2 := i_clamp (x := m + 2) (by omega)
          have f0 : m.toNatClampNeg = 3078 + 3 * j := by omega
          have f1 : (m + 1).toNatClampNeg = 3079 + 3 * j := by omega
          have f2 : (m + 2).toNatClampNeg = 3080 + 3 * j := by omega
          by_cases z1 : M.1 201 m.toNatClampNeg = l
          · by_cases z2 : y < M.1 201 (m + 2).toNatClampNeg
            · have hs : q = r_plm (M.1 201) l.toNatClampNeg y.toNatClampNeg (j + 1) := by
                rw [r_plm_n (fun w => by have w2 := w.2; simp only [i_lt, f2] at z2; omega)]
                exact hq
              repeat' (first | apply And.intro | exact rfl | (intro hx; with_reducible exact absurd hx hz) | (intro hx; with_reducible exact absurd z1 hx) | (intro hx; with_reducible exact absurd z2 hx) | (intro hx; exact absurd hx (by decide)) | (intro hx; exact absurd (by decide) hx) | decide | intro hx | (refine Exists.intro _ (And.intro rfl ?_)))
              all_goals try first | (with_reducible change am_tI _ _) | (change Ret _ _) | (change Ret _ _ _) | (change Exists _)
              all_goals try dsimp only at *
              all_goals try (with_reducible exact absurd ‹(1000 : Int64) = 0› am_z1000)
              all_goals first
                | (show _ < _; simp only [l201]; decide)
                | omega
                | (rw [l201]; omega)
                | exact ⟨_, am_lt_l (by omega), _, _, j + 1, rfl, rfl, rfl, by omega, by omega, hs, hno, rfl⟩
            · have hs : M.1 201 (m + 1).toNatClampNeg = r_plm (M.1 201) l.toNatClampNeg y.toNatClampNeg (j + 1) := by
                rw [r_plm_y ⟨by rw [← f0, z1]; omega, by simp only [i_lt, f2] at z2; omega⟩, f1]
              repeat' (first | apply And.intro | exact rfl | (intro hx; with_reducible exact absurd hx hz) | (intro hx; with_reducible exact absurd hx z2) | (intro hx; with_reducible exact absurd z1 hx) | (intro hx; exact absurd hx (by decide)) | (intro hx; exact absurd (by decide) hx) | decide | intro hx | (refine Exists.intro _ (And.intro rfl ?_)))
              all_goals try first | (with_reducible change am_tI _ _) | (change Ret _ _) | (change Ret _ _ _) | (change Exists _)
              all_goals try dsimp only at *
              all_goals try (with_reducible exact absurd ‹(1000 : Int64) = 0› am_z1000)
              all_goals first
                | (show _ < _; simp only [l201]; decide)
                | omega
                | (rw [l201]; omega)
                | exact ⟨_, am_lt_l (by omega), _, _, j + 1, rfl, rfl, rfl, by omega, by omega, hs, hno, rfl⟩
          · have hs : q = r_plm (M.1 201) l.toNatClampNeg y.toNatClampNeg (j + 1) := by
              rw [r_plm_n (fun w => z1 (by have w1 := w.1; rw [← f0] at w1; rw [i_eq]; omega))]
              exact hq
            repeat' (first | apply And.intro | exact rfl | (intro hx; with_reducible exact absurd hx hz) | (intro hx; with_reducible exact absurd hx z1) | (intro hx; exact absurd hx (by decide)) | (intro hx; exact absurd (by decide) hx) | decide | intro hx | (refine Exists.intro _ (And.intro rfl ?_)))
            all_goals try first | (with_reducible change am_tI _ _) | (change Ret _ _) | (change Ret _ _ _) | (change Exists _)
            all_goals try dsimp only at *
            all_goals try (with_reducible exact absurd ‹(1000 : Int64) = 0› am_z1000)
            all_goals first
              | (show _ < _; simp only [l201]; decide)
              | omega
              | (rw [l201]; omega)
              | exact ⟨_, am_lt_l (by omega), _, _, j + 1, rfl, rfl, rfl, by omega, by omega, hs, hno, rfl⟩
      · cases hI
    · exact h.elim
/-- does an act tell of a plan's number for those who began then -/
def q_mt (A : Nat → Int32) (bg pl w : Int32) (i : Nat) : Bool := decide (A (6 * i) = pl ∧ A (6 * i + 1) = w ∧ (A (6 * i + 4)).toInt ≤ bg.toInt ∧ bg.toInt ≤ (A (6 * i + 5)).toInt)
/-- the act in force in a year among the first ones -/
def q_R (A : Nat → Int32) (bg pl w : Int32) (y : Int) : Nat → Option Nat
  | 0 => none
  | m + 1 => match q_R A bg pl w y m with
    | none => if q_mt A bg pl w m = true ∧ (A (6 * m + 3)).toInt ≤ y then some m else none
    | some b => if (q_mt A bg pl w m = true ∧ (A (6 * m + 3)).toInt ≤ y) ∧ (A (6 * b + 3)).toInt ≤ (A (6 * m + 3)).toInt then some m else some b
theorem q_R_lt {A : Nat → Int32} {bg pl w : Int32} {y : Int} : ∀ {m b}, q_R A bg pl w y m = some b → b < m ∧ q_mt A bg pl w b = true ∧ (A (6 * b + 3)).toInt ≤ y
  | 0, _, h => by cases h
  | m + 1, b, h => by
    unfold q_R at h
    split at h
    · split at h
      · next z => cases h; exact ⟨by omega, z.1, z.2⟩
      · cases h
    · next b' e =>
      have ih := q_R_lt e
      split at h
      · next z => cases h; exact ⟨by omega, z.1.1, z.1.2⟩
      · cases h; exact ⟨by omega, ih.2⟩
/-- what it says -/
def q_F (A : Nat → Int32) (n : Nat) (bg pl w : Int32) (y : Int) : Int32 := match q_R A bg pl w y n with
  | none => am_sf 0 w.toNatClampNeg
  | some a => A (6 * a + 2)
/-- the same with a number tried -/
def q_le (A : Nat → Int32) (o : Option Nat) (t : Int32) : Bool := match o with
  | none => true
  | some b => decide ((A (6 * b + 3)).toInt ≤ t.toInt)
def r_A (M : am_M) : Nat → Int32 := fun k => M.1 201 (2478 + k)
def r_inF (M : am_M) (pl w p y : Int32) : Int32 := if M.1 200 3 = pl ∧ M.1 200 4 = w ∧ (M.1 200 6).toInt ≤ y.toInt ∧ q_le (r_A M) (q_R (r_A M) (M.1 201 (10 + p.toNatClampNeg)) pl w y.toInt (M.1 201 2).toNatClampNeg) (M.1 200 6) = true then M.1 200 5 else q_F (r_A M) (M.1 201 2).toNatClampNeg (M.1 201 (10 + p.toNatClampNeg)) pl w y.toInt
def TE8_atFirst : am_T := fun _ as M R => match as with
  | [.int w] => am_in w 6 ∧ R (some (.int (am_sf 0 w.toNatClampNeg))) M
  | _ => False
set_option maxRecDepth 100000 in
set_option maxHeartbeats 4000000 in
theorem metX8_atFirstE : am_Met yX8_atFirst cX8_atFirst 1 (some .int) (0) (0) TE8_atFirst := by
  refine am_met (own := RX8) (by decide +kernel) rfl kX8_atFirst koX8_atFirst 60 (fun _ _ _ _ _ => none) (fun live as M Ret h => ?_) (fun _ _ _ _ _ _ _ _ hI => by cases hI)
  unfold TE8_atFirst at h
  split at h
  · next w =>
    refine ⟨Nat.le_of_ble_eq_true rfl, ?_⟩
    change am_wp _ _ _ _ [(0, Value.int w)] _ _
    obtain ⟨hw, h⟩ := h
    have hc : w = 0 ∨ w = 1 ∨ w = 2 ∨ w = 3 ∨ w = 4 ∨ w = 5 := by
      have h1 := hw.1
      have h2 := hw.2
      simp only [i_eq, Int32.reduceToInt]
      omega
    rcases hc with rfl | rfl | rfl | rfl | rfl | rfl
    all_goals skip
    · skip
      repeat' (first | apply And.intro | exact rfl | (intro hx; exact absurd hx (by decide)) | (intro hx; exact absurd (by decide) hx) | decide | intro hx | (refine Exists.intro _ (And.intro rfl ?_)))
      all_goals try first | (with_reducible change am_tI _ _) | (change Ret _ _) | (change Ret _ _ _) | (change Exists _)
      all_goals try dsimp only at *
      all_goals try (with_reducible exact absurd ‹(1000 : Int64) = 0› am_z1000)
      all_goals exact h
    · skip
      repeat' (first | apply And.intro | exact rfl | (intro hx; exact absurd hx (by decide)) | (intro hx; exact absurd (by decide) hx) | decide | intro hx | (refine Exists.intro _ (And.intro rfl ?_)))
      all_goals try first | (with_reducible change am_tI _ _) | (change Ret _ _) | (change Ret _ _ _) | (change Exists _)
      all_goals try dsimp only at *
      all_goals try (with_reducible exact absurd ‹(1000 : Int64) = 0› am_z1000)
      all_goals exact h
    · skip
      repeat' (first | apply And.intro | exact rfl | (intro hx; exact absurd hx (by decide)) | (intro hx; exact absurd (by decide) hx) | decide | intro hx | (refine Exists.intro _ (And.intro rfl ?_)))
      all_goals try first | (with_reducible change am_tI _ _) | (change Ret _ _) | (change Ret _ _ _) | (change Exists _)
      all_goals try dsimp only at *
      all_goals try (with_reducible exact absurd ‹(1000 : Int64) = 0› am_z1000)
      all_goals exact h
    · skip
      repeat' (first | apply And.intro | exact rfl | (intro hx; exact absurd hx (by decide)) | (intro hx; exact absurd (by decide) hx) | decide | intro hx | (refine Exists.intro _ (And.intro rfl ?_)))
      all_goals try first | (with_reducible change am_tI _ _) | (change Ret _ _) | (change Ret _ _ _) | (change Exists _)
      all_goals try dsimp only at *
      all_goals try (with_reducible exact absurd ‹(1000 : Int64) = 0› am_z1000)
      all_goals exact h
    · skip
      repeat' (first | apply And.intro | exact rfl | (intro hx; exact absurd hx (by decide)) | (intro hx; exact absurd (by decide) hx) | decide | intro hx | (refine Exists.intro _ (And.intro rfl ?_)))
      all_goals try first | (with_reducible change am_tI _ _) | (change Ret _ _) | (change Ret _ _ _) | (change Exists _)
      all_goals try dsimp only at *
      all_goals try (with_reducible exact absurd ‹(1000 : Int64) = 0› am_z1000)
      all_goals exact h
    · skip
      repeat' (first | apply And.intro | exact rfl | (intro hx; exact absurd hx (by decide)) | (intro hx; exact absurd (by decide) hx) | decide | intro hx | (refine Exists.intro _ (And.intro rfl ?_)))
      all_goals try first | (with_reducible change am_tI _ _) | (change Ret _ _) | (change Ret _ _ _) | (change Exists _)
      all_goals try dsimp only at *
      all_goals try (with_reducible exact absurd ‹(1000 : Int64) = 0› am_z1000)
      all_goals exact h
  · exact h.elim
def q_bo (b : Int32) (o : Option Nat) : Prop := match o with
  | none => b = -1
  | some i => b.toInt = 2478 + 6 * (i : Int)
theorem q_bo.n {b : Int32} (h : q_bo b none) : b = -1 := h
theorem q_bo.s {b : Int32} {i : Nat} (h : q_bo b (some i)) : b.toInt = 2478 + 6 * (i : Int) := h
theorem q_R_s1 {A : Nat → Int32} {bg pl w : Int32} {y : Int} {m : Nat} (h : ¬ (q_mt A bg pl w m = true ∧ (A (6 * m + 3)).toInt ≤ y)) : q_R A bg pl w y (m + 1) = q_R A bg pl w y m := by
  conv => lhs; unfold q_R
  split
  · next e => rw [if_neg h, e]
  · next b e => rw [if_neg (fun z => h z.1), e]
theorem q_R_s2 {A : Nat → Int32} {bg pl w : Int32} {y : Int} {m : Nat} (h : q_mt A bg pl w m = true ∧ (A (6 * m + 3)).toInt ≤ y) (e : q_R A bg pl w y m = none) : q_R A bg pl w y (m + 1) = some m := by
  conv => lhs; unfold q_R
  rw [e]
  exact if_pos h
theorem q_R_s3 {A : Nat → Int32} {bg pl w : Int32} {y : Int} {m b : Nat} (h : q_mt A bg pl w m = true ∧ (A (6 * m + 3)).toInt ≤ y) (e : q_R A bg pl w y m = some b) (hb : (A (6 * b + 3)).toInt ≤ (A (6 * m + 3)).toInt) : q_R A bg pl w y (m + 1) = some m := by
  conv => lhs; unfold q_R
  rw [e]
  exact if_pos ⟨h, hb⟩
theorem q_R_s4 {A : Nat → Int32} {bg pl w : Int32} {y : Int} {m b : Nat} (e : q_R A bg pl w y m = some b) (hb : ¬ (A (6 * b + 3)).toInt ≤ (A (6 * m + 3)).toInt) : q_R A bg pl w y (m + 1) = some b := by
  conv => lhs; unfold q_R
  rw [e]
  exact if_neg (fun z => hb z.2)
def kX8_inForceE (live : am_E) (Ret : am_R) : am_code := [(0, am_const (.int (-1)) 1), (1, am_istore 5 9 3), (3, am_const (.int 2478) 6), (6, am_istore 6 9 8), (8, am_iload 6 10), (10, am_const (.int 2478) 13), (13, am_const (.int 6) 15), (15, am_aload 0 16), (16, am_getR live 8 0 19), (19, am_const (.int 2) 20), (20, am_ald live 0 21), (21, am_i2 (fun x y => x * y) 22), (22, am_i2 (fun x y => x + y) 23), (23, am_if2 (fun x y => y ≤ x) 165 26), (26, am_aload 0 27), (27, am_getR live 8 0 30), (30, am_iload 6 32), (32, am_ald live 0 33), (33, am_iload 1 34), (34, am_if2 (fun x y => x = y) 37 68), (37, am_aload 0 38), (38, am_getR live 8 0 41), (41, am_iload 6 43), (43, am_const (.int 1) 44), (44, am_i2 (fun x y => x + y) 45), (45, am_ald live 0 46), (46, am_iload 2 47), (47, am_if2 (fun x y => x = y) 50 68), (50, am_aload 0 51), (51, am_getR live 8 0 54), (54, am_iload 6 56), (56, am_const (.int 3) 57), (57, am_i2 (fun x y => x + y) 58), (58, am_ald live 0 59), (59, am_iload 4 61), (61, am_if2 (fun x y => y < x) 68 64), (64, am_const (.int 1) 65), (65, am_goto 69), (68, am_const (.int 0) 69), (69, am_istore 7 9 71), (71, am_iload 7 73), (73, am_if1 (fun x => x = 0) 116 76), (76, am_aload 0 77), (77, am_getR live 8 0 80), (80, am_const (.int 10) 82), (82, am_iload 3 83), (83, am_i2 (fun x y => x + y) 84), (84, am_ald live 0 85), (85, am_i2l 86), (86, am_aload 0 87), (87, am_getR live 8 0 90), (90, am_iload 6 92), (92, am_const (.int 4) 93), (93, am_i2 (fun x y => x + y) 94), (94, am_ald live 0 95), (95, am_i2l 96), (96, am_aload 0 97), (97, am_getR live 8 0 100), (100, am_iload 6 102), (102, am_const (.int 5) 103), (103, am_i2 (fun x y => x + y) 104), (104, am_ald live 0 105), (105, am_i2l 106), (106, am_callS live 3 TX8_in 109), (109, am_if1 (fun x => x = 0) 116 112), (112, am_const (.int 1) 113), (113, am_goto 117), (116, am_const (.int 0) 117), (117, am_istore 8 9 119), (119, am_iload 8 121), (121, am_if1 (fun x => x = 0) 155 124), (124, am_iload 5 126), (126, am_if1 (fun x => x < 0) 150 129), (129, am_aload 0 130), (130, am_getR live 8 0 133), (133, am_iload 6 135), (135, am_const (.int 3) 136), (136, am_i2 (fun x y => x + y) 137), (137, am_ald live 0 138), (138, am_aload 0 139), (139, am_getR live 8 0 142), (142, am_iload 5 144), (144, am_const (.int 3) 145), (145, am_i2 (fun x y => x + y) 146), (146, am_ald live 0 147), (147, am_if2 (fun x y => x < y) 155 150), (150, am_iload 6 152), (152, am_goto 157), (155, am_iload 5 157), (157, am_istore 5 9 159), (159, am_iinc 6 9 6 162), (162, am_goto 8), (165, am_aload 0 166), (166, am_getI live 8 3 169), (169, am_iload 1 170), (170, am_if2 (fun x y => x = y) 173 215), (173, am_aload 0 174), (174, am_getI live 8 4 177), (177, am_iload 2 178), (178, am_if2 (fun x y => x = y) 181 215), (181, am_iload 4 183), (183, am_aload 0 184), (184, am_getI live 8 6 187), (187, am_if2 (fun x y => x < y) 215 190), (190, am_iload 5 192), (192, am_if1 (fun x => x < 0) 211 195), (195, am_aload 0 196), (196, am_getR live 8 0 199), (199, am_iload 5 201), (201, am_const (.int 3) 202), (202, am_i2 (fun x y => x + y) 203), (203, am_ald live 0 204), (204, am_aload 0 205), (205, am_getI live 8 6 208), (208, am_if2 (fun x y => y < x) 215 211), (211, am_const (.int 1) 212), (212, am_goto 216), (215, am_const (.int 0) 216), (216, am_istore 6 9 218), (218, am_iload 6 220), (220, am_if1 (fun x => x = 0) 230 223), (223, am_aload 0 224), (224, am_getI live 8 5 227), (227, am_goto 251), (230, am_iload 5 232), (232, am_if1 (fun x => 0 ≤ x) 242 235), (235, am_iload 2 236), (236, am_callS live 1 TE8_atFirst 239), (239, am_goto 251), (242, am_aload 0 243), (243, am_getR live 8 0 246), (246, am_iload 5 248), (248, am_const (.int 2) 249), (249, am_i2 (fun x y => x + y) 250), (250, am_ald live 0 251), (251, am_retI Ret)]
theorem koX8_inForceE (live : am_E) (Ret : am_R) : ∀ q ∈ kX8_inForceE live Ret, am_ok RX8 cX8_inForce 9 (some .int) 1 25 live Ret q.1 q.2 :=
  am_kz dzX8_inForce <|
  am_kd (fun d => ak_iconst d (by decide +kernel) rfl) <|
  am_kd (fun d => ak_istore d rfl) <|
  am_kd (fun d => ak_sipush d (by decide +kernel) rfl) <|
  am_kd (fun d => ak_istore d rfl) <|
  am_kd (fun d => ak_iload d rfl) <|
  am_kd (fun d => ak_sipush d (by decide +kernel) rfl) <|
  am_kd (fun d => ak_bipush d (by decide +kernel) rfl) <|
  am_kd (fun d => ak_aload_n d rfl rfl) <|
  am_kd (fun d => ak_getR (C := RX8) (T := TX8) (N := 27) rfl inX8w (by decide) rfl rfl rfl wd_895 d rfl) <|
  am_kd (fun d => ak_iconst d (by decide +kernel) rfl) <|
  am_kd (fun d => ak_iald (t := 0) (fun _ => rfl) rfl d rfl) <|
  am_kd (fun d => ak_imul d rfl) <|
  am_kd (fun d => ak_iadd d rfl) <|
  am_kd (fun d => ak_icmp_ge d (by decide +kernel) rfl) <|
  am_kd (fun d => ak_aload_n d rfl rfl) <|
  am_kd (fun d => ak_getR (C := RX8) (T := TX8) (N := 27) rfl inX8w (by decide) rfl rfl rfl wd_895 d rfl) <|
  am_kd (fun d => ak_iload d rfl) <|
  am_kd (fun d => ak_iald (t := 0) (fun _ => rfl) rfl d rfl) <|
  am_kd (fun d => ak_iload_n d rfl rfl) <|
  am_kd (fun d => ak_icmp_ne d (by decide +kernel) rfl) <|
  am_kd (fun d => ak_aload_n d rfl rfl) <|
  am_kd (fun d => ak_getR (C := RX8) (T := TX8) (N := 27) rfl inX8w (by decide) rfl rfl rfl wd_895 d rfl) <|
  am_kd (fun d => ak_iload d rfl) <|
  am_kd (fun d => ak_iconst d (by decide +kernel) rfl) <|
  am_kd (fun d => ak_iadd d rfl) <|
  am_kd (fun d => ak_iald (t := 0) (fun _ => rfl) rfl d rfl) <|
  am_kd (fun d => ak_iload_n d rfl rfl) <|
  am_kd (fun d => ak_icmp_ne d (by decide +kernel) rfl) <|
  am_kd (fun d => ak_aload_n d rfl rfl) <|
  am_kd (fun d => ak_getR (C := RX8) (T := TX8) (N := 27) rfl inX8w (by decide) rfl rfl rfl wd_895 d rfl) <|
  am_kd (fun d => ak_iload d rfl) <|
  am_kd (fun d => ak_iconst d (by decide +kernel) rfl) <|
  am_kd (fun d => ak_iadd d rfl) <|
  am_kd (fun d => ak_iald (t := 0) (fun _ => rfl) rfl d rfl) <|
  am_kd (fun d => ak_iload d rfl) <|
  am_kd (fun d => ak_icmp_gt d (by decide +kernel) rfl) <|
  am_kd (fun d => ak_iconst d (by decide +kernel) rfl) <|
  am_kd (fun d => ak_goto d (by decide +kernel)) <|
  am_kd (fun d => ak_iconst d (by decide +kernel) rfl) <|
  am_kd (fun d => ak_istore d rfl) <|
  am_kd (fun d => ak_iload d rfl) <|
  am_kd (fun d => ak_if_eq d (by decide +kernel) rfl) <|
  am_kd (fun d => ak_aload_n d rfl rfl) <|
  am_kd (fun d => ak_getR (C := RX8) (T := TX8) (N := 27) rfl inX8w (by decide) rfl rfl rfl wd_895 d rfl) <|
  am_kd (fun d => ak_bipush d (by decide +kernel) rfl) <|
  am_kd (fun d => ak_iload_n d rfl rfl) <|
  am_kd (fun d => ak_iadd d rfl) <|
  am_kd (fun d => ak_iald (t := 0) (fun _ => rfl) rfl d rfl) <|
  am_kd (fun d => ak_i2l d rfl) <|
  am_kd (fun d => ak_aload_n d rfl rfl) <|
  am_kd (fun d => ak_getR (C := RX8) (T := TX8) (N := 27) rfl inX8w (by decide) rfl rfl rfl wd_895 d rfl) <|
  am_kd (fun d => ak_iload d rfl) <|
  am_kd (fun d => ak_iconst d (by decide +kernel) rfl) <|
  am_kd (fun d => ak_iadd d rfl) <|
  am_kd (fun d => ak_iald (t := 0) (fun _ => rfl) rfl d rfl) <|
  am_kd (fun d => ak_i2l d rfl) <|
  am_kd (fun d => ak_aload_n d rfl rfl) <|
  am_kd (fun d => ak_getR (C := RX8) (T := TX8) (N := 27) rfl inX8w (by decide) rfl rfl rfl wd_895 d rfl) <|
  am_kd (fun d => ak_iload d rfl) <|
  am_kd (fun d => ak_iconst d (by decide +kernel) rfl) <|
  am_kd (fun d => ak_iadd d rfl) <|
  am_kd (fun d => ak_iald (t := 0) (fun _ => rfl) rfl d rfl) <|
  am_kd (fun d => ak_i2l d rfl) <|
  am_kd (fun d => ak_callS metX8_in ⟨rfl, hy_X8_in⟩ (am_w4 wd_986 wd_987 wd_67 wd_988) (by decide) d rfl) <|
  am_kd (fun d => ak_if_eq d (by decide +kernel) rfl) <|
  am_kd (fun d => ak_iconst d (by decide +kernel) rfl) <|
  am_kd (fun d => ak_goto d (by decide +kernel)) <|
  am_kd (fun d => ak_iconst d (by decide +kernel) rfl) <|
  am_kd (fun d => ak_istore d rfl) <|
  am_kd (fun d => ak_iload d rfl) <|
  am_kd (fun d => ak_if_eq d (by decide +kernel) rfl) <|
  am_kd (fun d => ak_iload d rfl) <|
  am_kd (fun d => ak_if_lt d (by decide +kernel) rfl) <|
  am_kd (fun d => ak_aload_n d rfl rfl) <|
  am_kd (fun d => ak_getR (C := RX8) (T := TX8) (N := 27) rfl inX8w (by decide) rfl rfl rfl wd_895 d rfl) <|
  am_kd (fun d => ak_iload d rfl) <|
  am_kd (fun d => ak_iconst d (by decide +kernel) rfl) <|
  am_kd (fun d => ak_iadd d rfl) <|
  am_kd (fun d => ak_iald (t := 0) (fun _ => rfl) rfl d rfl) <|
  am_kd (fun d => ak_aload_n d rfl rfl) <|
  am_kd (fun d => ak_getR (C := RX8) (T := TX8) (N := 27) rfl inX8w (by decide) rfl rfl rfl wd_895 d rfl) <|
  am_kd (fun d => ak_iload d rfl) <|
  am_kd (fun d => ak_iconst d (by decide +kernel) rfl) <|
  am_kd (fun d => ak_iadd d rfl) <|
  am_kd (fun d => ak_iald (t := 0) (fun _ => rfl) rfl d rfl) <|
  am_kd (fun d => ak_icmp_lt d (by decide +kernel) rfl) <|
  am_kd (fun d => ak_iload d rfl) <|
  am_kd (fun d => ak_goto d (by decide +kernel)) <|
  am_kd (fun d => ak_iload d rfl) <|
  am_kd (fun d => ak_istore d rfl) <|
  am_kd (fun d => ak_iinc d (by decide +kernel) rfl) <|
  am_kd (fun d => ak_goto d (by decide +kernel)) <|
  am_kd (fun d => ak_aload_n d rfl rfl) <|
  am_kd (fun d => ak_getI (C := RX8) (T := TX8) (N := 27) rfl inX8w (by decide) rfl rfl rfl wd_898 d rfl) <|
  am_kd (fun d => ak_iload_n d rfl rfl) <|
  am_kd (fun d => ak_icmp_ne d (by decide +kernel) rfl) <|
  am_kd (fun d => ak_aload_n d rfl rfl) <|
  am_kd (fun d => ak_getI (C := RX8) (T := TX8) (N := 27) rfl inX8w (by decide) rfl rfl rfl wd_899 d rfl) <|
  am_kd (fun d => ak_iload_n d rfl rfl) <|
  am_kd (fun d => ak_icmp_ne d (by decide +kernel) rfl) <|
  am_kd (fun d => ak_iload d rfl) <|
  am_kd (fun d => ak_aload_n d rfl rfl) <|
  am_kd (fun d => ak_getI (C := RX8) (T := TX8) (N := 27) rfl inX8w (by decide) rfl rfl rfl wd_901 d rfl) <|
  am_kd (fun d => ak_icmp_lt d (by decide +kernel) rfl) <|
  am_kd (fun d => ak_iload d rfl) <|
  am_kd (fun d => ak_if_lt d (by decide +kernel) rfl) <|
  am_kd (fun d => ak_aload_n d rfl rfl) <|
  am_kd (fun d => ak_getR (C := RX8) (T := TX8) (N := 27) rfl inX8w (by decide) rfl rfl rfl wd_895 d rfl) <|
  am_kd (fun d => ak_iload d rfl) <|
  am_kd (fun d => ak_iconst d (by decide +kernel) rfl) <|
  am_kd (fun d => ak_iadd d rfl) <|
  am_kd (fun d => ak_iald (t := 0) (fun _ => rfl) rfl d rfl) <|
  am_kd (fun d => ak_aload_n d rfl rfl) <|
  am_kd (fun d => ak_getI (C := RX8) (T := TX8) (N := 27) rfl inX8w (by decide) rfl rfl rfl wd_901 d rfl) <|
  am_kd (fun d => ak_icmp_gt d (by decide +kernel) rfl) <|
  am_kd (fun d => ak_iconst d (by decide +kernel) rfl) <|
  am_kd (fun d => ak_goto d (by decide +kernel)) <|
  am_kd (fun d => ak_iconst d (by decide +kernel) rfl) <|
  am_kd (fun d => ak_istore d rfl) <|
  am_kd (fun d => ak_iload d rfl) <|
  am_kd (fun d => ak_if_eq d (by decide +kernel) rfl) <|
  am_kd (fun d => ak_aload_n d rfl rfl) <|
  am_kd (fun d => ak_getI (C := RX8) (T := TX8) (N := 27) rfl inX8w (by decide) rfl rfl rfl wd_900 d rfl) <|
  am_kd (fun d => ak_goto d (by decide +kernel)) <|
  am_kd (fun d => ak_iload d rfl) <|
  am_kd (fun d => ak_if_ge d (by decide +kernel) rfl) <|
  am_kd (fun d => ak_iload_n d rfl rfl) <|
  am_kd (fun d => ak_callS metX8_atFirstE ⟨rfl, hy_X8_atFirst⟩ (am_w4 wd_1057 wd_1058 wd_67 wd_1059) (by decide) d rfl) <|
  am_kd (fun d => ak_goto d (by decide +kernel)) <|
  am_kd (fun d => ak_aload_n d rfl rfl) <|
  am_kd (fun d => ak_getR (C := RX8) (T := TX8) (N := 27) rfl inX8w (by decide) rfl rfl rfl wd_895 d rfl) <|
  am_kd (fun d => ak_iload d rfl) <|
  am_kd (fun d => ak_iconst d (by decide +kernel) rfl) <|
  am_kd (fun d => ak_iadd d rfl) <|
  am_kd (fun d => ak_iald (t := 0) (fun _ => rfl) rfl d rfl) <|
  am_kd (fun d => ak_retI d) <| am_kdn
def TE8_inForce : am_T := fun live as M R => match as with
  | [.ref n, .int pl, .int w, .int p, .int y] => am_mn live ∧ n = 200 ∧ am_in w 6 ∧ am_in p 12 ∧ r_I M ∧ R (some (.int (r_inF M pl w p y))) M
  | _ => False
abbrev q_Rm (M : am_M) (pl w p y : Int32) (j : Nat) : Option Nat := q_R (r_A M) (M.1 201 (10 + p.toNatClampNeg)) pl w y.toInt j
def q_is (M : am_M) (pl w y : Int32) (j : Nat) : Int32 := if r_A M (6 * j) = pl ∧ r_A M (6 * j + 1) = w ∧ (r_A M (6 * j + 3)).toInt ≤ y.toInt then 1 else 0
def q_may (M : am_M) (pl w p y : Int32) (j : Nat) : Int32 := if q_mt (r_A M) (M.1 201 (10 + p.toNatClampNeg)) pl w j = true ∧ (r_A M (6 * j + 3)).toInt ≤ y.toInt then 1 else 0
def q_trs (M : am_M) (pl w p y : Int32) : Int32 := if M.1 200 3 = pl ∧ M.1 200 4 = w ∧ (M.1 200 6).toInt ≤ y.toInt ∧ q_le (r_A M) (q_Rm M pl w p y (M.1 201 2).toNatClampNeg) (M.1 200 6) = true then 1 else 0
def JE8_inForce : am_E → List Value → am_M → am_R → am_inv := fun live as M0 _ pc => match as with
  | [.ref n, .int pl, .int w, .int p, .int y] => (match pc with
    | 8 => some ([0, 1, 2, 3, 4, 5, 6], fun k L st M => ∃ (b a : Int32) (j : Nat), L = [(0, .ref 200), (1, .int pl), (2, .int w), (3, .int p), (4, .int y), (5, .int b), (6, .int a)] ∧ st = [] ∧ k = (100 - j, 9) ∧ a.toInt = 2478 + 6 * (j : Int) ∧ j ≤ (M0.1 201 2).toNatClampNeg ∧ q_bo b (q_Rm M0 pl w p y j) ∧ M = M0)
    | 71 => some ([0, 1, 2, 3, 4, 5, 6, 7], fun k L st M => ∃ (b a i : Int32) (j : Nat), L = [(0, .ref 200), (1, .int pl), (2, .int w), (3, .int p), (4, .int y), (5, .int b), (6, .int a), (7, .int i)] ∧ st = [] ∧ k = (100 - j, 8) ∧ a.toInt = 2478 + 6 * (j : Int) ∧ j < (M0.1 201 2).toNatClampNeg ∧ q_bo b (q_Rm M0 pl w p y j) ∧ i = q_is M0 pl w y j ∧ M = M0)
    | 119 => some ([0, 1, 2, 3, 4, 5, 6, 8], fun k L st M => ∃ (b a i : Int32) (j : Nat), L = [(0, .ref 200), (1, .int pl), (2, .int w), (3, .int p), (4, .int y), (5, .int b), (6, .int a), (8, .int i)] ∧ st = [] ∧ k = (100 - j, 7) ∧ a.toInt = 2478 + 6 * (j : Int) ∧ j < (M0.1 201 2).toNatClampNeg ∧ q_bo b (q_Rm M0 pl w p y j) ∧ i = q_may M0 pl w p y j ∧ M = M0)
    | 165 => some ([0, 1, 2, 4, 5], fun k L st M => ∃ b : Int32, L = [(0, .ref 200), (1, .int pl), (2, .int w), (4, .int y), (5, .int b)] ∧ st = [] ∧ k = (0, 9) ∧ q_bo b (q_Rm M0 pl w p y (M0.1 201 2).toNatClampNeg) ∧ M = M0)
    | 218 => some ([0, 2, 5, 6], fun k L st M => ∃ b i : Int32, L = [(0, .ref 200), (2, .int w), (5, .int b), (6, .int i)] ∧ st = [] ∧ k = (0, 8) ∧ q_bo b (q_Rm M0 pl w p y (M0.1 201 2).toNatClampNeg) ∧ i = q_trs M0 pl w p y ∧ M = M0)
    | _ => none)
  | _ => none
set_option maxRecDepth 100000 in
set_option maxHeartbeats 4000000 in
theorem metX8_inForceE : am_Met yX8_inForce cX8_inForce 9 (some .int) (1) (25) TE8_inForce := by
  refine am_met (own := RX8) (by decide +kernel) rfl kX8_inForceE koX8_inForceE 100 JE8_inForce ?_ ?_
  · intro live as M Ret h
    unfold TE8_inForce at h
    split at h
    · next n pl w p y =>
      refine ⟨Nat.le_of_ble_eq_true rfl, ?_⟩
      change am_wp _ _ _ _ [(0, Value.ref n), (1, Value.int pl), (2, Value.int w), (3, Value.int p), (4, Value.int y)] _ _
      obtain ⟨hmn, rfl, hw, hp, hR, h⟩ := h
      repeat' (first | apply And.intro | exact rfl | intro hx | (refine Exists.intro _ (And.intro rfl ?_)))
      all_goals try first | (with_reducible change am_tI _ _) | (change Ret _ _) | (change Ret _ _ _) | (change Exists _)
      all_goals try dsimp only at *
      all_goals try (with_reducible exact absurd ‹(1000 : Int64) = 0› am_z1000)
      exact ⟨_, _, _, 0, rfl, rfl, rfl, rfl, Nat.zero_le _, rfl, rfl⟩
    · exact h.elim
  · intro live as M0 Ret h k pc I hI L st M hi
    unfold TE8_inForce at h
    split at h
    · next n pl w p y =>
      obtain ⟨hmn, rfl, hw, hp, hR, h⟩ := h
      have hmn2 := hmn
      obtain ⟨i1, i2, rfl⟩ := hmn2
      have l201 : am_len 201 = 3760 := rfl
      have p1 := hp.1
      have p2 := hp.2
      have n2 : 0 ≤ (M0.1 201 (Int32.toNatClampNeg 2)).toInt ∧ (M0.1 201 (Int32.toNatClampNeg 2)).toInt ≤ 60 := hR.n2
      have cn : ((M0.1 201 2).toNatClampNeg : Int) = (M0.1 201 (Int32.toNatClampNeg 2)).toInt := i_clamp n2.1
      have e6 := r_mul (c := 6) (x := M0.1 201 (Int32.toNatClampNeg 2)) ⟨by decide, by decide⟩ ⟨n2.1, by omega⟩
      simp only [Int32.reduceToInt] at e6
      have e24 := r_off (c := 2478) (x := 6 * M0.1 201 (Int32.toNatClampNeg 2)) ⟨by decide, by decide⟩ ⟨by omega, by omega⟩
      simp only [e6, Int32.reduceToInt] at e24
      have e10 := r_off (c := 10) (x := p) ⟨by decide, by decide⟩ ⟨by omega, by omega⟩
      simp only [Int32.reduceToInt] at e10
      have c10 : (10 + p).toNatClampNeg = 10 + p.toNatClampNeg := by
        have c1 := i_clamp (x := 10 + p) (by omega)
        have c2 := i_clamp p1
        omega
      have aa : ∀ {a c : Int32} {j k : Nat}, a.toInt = 2478 + 6 * (j : Int) → j < 60 → c.toInt = (k : Int) → k < 6 → (a + c).toInt = 2478 + 6 * (j : Int) + k ∧ (a + c).toNatClampNeg = 2478 + (6 * j + k) := fun {a c j k} h1 h2 h3 h4 => by
        have e := i_add (x := a) (y := c) (by omega) (by omega)
        have c1 := i_clamp (x := a + c) (by omega)
        omega
      have a0 : ∀ {a : Int32} {j : Nat}, a.toInt = 2478 + 6 * (j : Int) → a.toNatClampNeg = 2478 + 6 * j := fun {a j} h1 => by
        have c1 := i_clamp (x := a) (by omega)
        omega
      change (match pc with | 8 => _ | 71 => _ | 119 => _ | 165 => _ | 218 => _ | _ => none) = _ at hI
      split at hI
      · cases hI
        obtain ⟨b, a, j, rfl, rfl, rfl, ea, hj, hb, rfl⟩ := hi
        by_cases hz : 2478 + 6 * M.1 201 (Int32.toNatClampNeg 2) ≤ a
        · have hz2 := hz
          simp only [i_le] at hz2
          have ej : j = (M.1 201 2).toNatClampNeg := by omega
          rw [ej] at hb
          repeat' (first | apply And.intro | exact rfl | (intro hx; with_reducible exact absurd hz hx) | (intro hx; exact absurd hx (by decide)) | (intro hx; exact absurd (by decide) hx) | decide | intro hx | (refine Exists.intro _ (And.intro rfl ?_)))
          all_goals try first | (with_reducible change am_tI _ _) | (change Ret _ _) | (change Ret _ _ _) | (change Exists _)
          all_goals try dsimp only at *
          all_goals try (with_reducible exact absurd ‹(1000 : Int64) = 0› am_z1000)
          all_goals first
            | (show _ < _; simp only [l201]; decide)
            | exact ⟨_, am_lt_l (by omega), _, rfl, rfl, rfl, hb, rfl⟩
        · have hz2 := hz
          simp only [i_le] at hz2
          have j60 : j < 60 := by omega
          have hj2 : j < (M.1 201 2).toNatClampNeg := by omega
          obtain ⟨x1, y1⟩ := aa (c := 1) (k := 1) ea j60 rfl (by decide)
          obtain ⟨x3, y3⟩ := aa (c := 3) (k := 3) ea j60 rfl (by decide)
          have y0 := a0 ea
          have f0 : M.1 201 a.toNatClampNeg = r_A M (6 * j) := by rw [y0]; rfl
          have f1 : M.1 201 (a + 1).toNatClampNeg = r_A M (6 * j + 1) := by rw [y1]; rfl
          have f3 : M.1 201 (a + 3).toNatClampNeg = r_A M (6 * j + 3) := by rw [y3]; rfl
          by_cases z1 : M.1 201 a.toNatClampNeg = pl
          · by_cases z2 : M.1 201 (a + 1).toNatClampNeg = w
            · by_cases z3 : y < M.1 201 (a + 3).toNatClampNeg
              · have e : (0 : Int32) = q_is M pl w y j := (if_neg (fun q => by have q3 := q.2.2; simp only [i_lt, f3] at z3; omega)).symm
                repeat' (first | apply And.intro | exact rfl | (intro hx; with_reducible exact absurd hx hz) | (intro hx; with_reducible exact absurd z1 hx) | (intro hx; with_reducible exact absurd z2 hx) | (intro hx; with_reducible exact absurd z3 hx) | (intro hx; exact absurd hx (by decide)) | (intro hx; exact absurd (by decide) hx) | decide | intro hx | (refine Exists.intro _ (And.intro rfl ?_)))
                all_goals try first | (with_reducible change am_tI _ _) | (change Ret _ _) | (change Ret _ _ _) | (change Exists _)
                all_goals try dsimp only at *
                all_goals try (with_reducible exact absurd ‹(1000 : Int64) = 0› am_z1000)
                all_goals first
                  | (show _ < _; simp only [l201]; decide)
                  | omega
                  | (rw [l201]; omega)
                  | exact ⟨_, am_lt_r (by omega), _, _, _, j, rfl, rfl, rfl, ea, hj2, hb, e, rfl⟩
              · have e : (1 : Int32) = q_is M pl w y j := (if_pos ⟨by rw [← f0]; exact z1, by rw [← f1]; exact z2, by simp only [i_lt, f3] at z3; omega⟩).symm
                repeat' (first | apply And.intro | exact rfl | (intro hx; with_reducible exact absurd hx hz) | (intro hx; with_reducible exact absurd hx z3) | (intro hx; with_reducible exact absurd z1 hx) | (intro hx; with_reducible exact absurd z2 hx) | (intro hx; exact absurd hx (by decide)) | (intro hx; exact absurd (by decide) hx) | decide | intro hx | (refine Exists.intro _ (And.intro rfl ?_)))
                all_goals try first | (with_reducible change am_tI _ _) | (change Ret _ _) | (change Ret _ _ _) | (change Exists _)
                all_goals try dsimp only at *
                all_goals try (with_reducible exact absurd ‹(1000 : Int64) = 0› am_z1000)
                all_goals first
                  | (show _ < _; simp only [l201]; decide)
                  | omega
                  | (rw [l201]; omega)
                  | exact ⟨_, am_lt_r (by omega), _, _, _, j, rfl, rfl, rfl, ea, hj2, hb, e, rfl⟩
            · have e : (0 : Int32) = q_is M pl w y j := (if_neg (fun q => z2 (by rw [f1]; exact q.2.1))).symm
              repeat' (first | apply And.intro | exact rfl | (intro hx; with_reducible exact absurd hx hz) | (intro hx; with_reducible exact absurd hx z2) | (intro hx; with_reducible exact absurd z1 hx) | (intro hx; exact absurd hx (by decide)) | (intro hx; exact absurd (by decide) hx) | decide | intro hx | (refine Exists.intro _ (And.intro rfl ?_)))
              all_goals try first | (with_reducible change am_tI _ _) | (change Ret _ _) | (change Ret _ _ _) | (change Exists _)
              all_goals try dsimp only at *
              all_goals try (with_reducible exact absurd ‹(1000 : Int64) = 0› am_z1000)
              all_goals first
                | (show _ < _; simp only [l201]; decide)
                | omega
                | (rw [l201]; omega)
                | exact ⟨_, am_lt_r (by omega), _, _, _, j, rfl, rfl, rfl, ea, hj2, hb, e, rfl⟩
          · have e : (0 : Int32) = q_is M pl w y j := (if_neg (fun q => z1 (by rw [f0]; exact q.1))).symm
            repeat' (first | apply And.intro | exact rfl | (intro hx; with_reducible exact absurd hx hz) | (intro hx; with_reducible exact absurd hx z1) | (intro hx; exact absurd hx (by decide)) | (intro hx; exact absurd (by decide) hx) | decide | intro hx | (refine Exists.intro _ (And.intro rfl ?_)))
            all_goals try first | (with_reducible change am_tI _ _) | (change Ret _ _) | (change Ret _ _ _) | (change Exists _)
            all_goals try dsimp only at *
            all_goals try (with_reducible exact absurd ‹(1000 : Int64) = 0› am_z1000)
            all_goals first
              | (show _ < _; simp only [l201]; decide)
              | omega
              | (rw [l201]; omega)
              | exact ⟨_, am_lt_r (by omega), _, _, _, j, rfl, rfl, rfl, ea, hj2, hb, e, rfl⟩
      · cases hI
        obtain ⟨b, a, i, j, rfl, rfl, rfl, ea, hj, hb, hi, rfl⟩ := hi
        have j60 : j < 60 := by omega
        obtain ⟨x4, y4⟩ := aa (c := 4) (k := 4) ea j60 rfl (by decide)
        obtain ⟨x5, y5⟩ := aa (c := 5) (k := 5) ea j60 rfl (by decide)
        have f4 : M.1 201 (a + 4).toNatClampNeg = r_A M (6 * j + 4) := by rw [y4]; rfl
        have f5 : M.1 201 (a + 5).toNatClampNeg = r_A M (6 * j + 5) := by rw [y5]; rfl
        by_cases hC : r_A M (6 * j) = pl ∧ r_A M (6 * j + 1) = w ∧ (r_A M (6 * j + 3)).toInt ≤ y.toInt
        · rw [show q_is M pl w y j = 1 from if_pos hC] at hi
          subst hi
          by_cases zc : (M.1 201 (a + 4).toNatClampNeg).toInt64 ≤ (M.1 201 (10 + p).toNatClampNeg).toInt64 ∧ (M.1 201 (10 + p).toNatClampNeg).toInt64 ≤ (M.1 201 (a + 5).toNatClampNeg).toInt64
          · have q0 : ¬ ((if (M.1 201 (a + 4).toNatClampNeg).toInt64 ≤ (M.1 201 (10 + p).toNatClampNeg).toInt64 ∧ (M.1 201 (10 + p).toNatClampNeg).toInt64 ≤ (M.1 201 (a + 5).toNatClampNeg).toInt64 then (1 : Int32) else 0) = 0) := by rw [if_pos zc]; decide
            have e : (1 : Int32) = q_may M pl w p y j := by
              simp only [j_le, Int32.toInt_toInt64, f4, f5, c10] at zc
              exact (if_pos ⟨decide_eq_true ⟨hC.1, hC.2.1, zc.1, zc.2⟩, hC.2.2⟩).symm
            repeat' (first | apply And.intro | exact rfl | (intro hx; with_reducible exact absurd hx q0) | (intro hx; exact absurd hx (by decide)) | (intro hx; exact absurd (by decide) hx) | decide | intro hx | (refine Exists.intro _ (And.intro rfl ?_)))
            all_goals try first | (with_reducible change am_tI _ _) | (change Ret _ _) | (change Ret _ _ _) | (change Exists _)
            all_goals try dsimp only at *
            all_goals try (with_reducible exact absurd ‹(1000 : Int64) = 0› am_z1000)
            all_goals first
              | omega
              | (rw [l201]; omega)
              | exact ⟨_, am_lt_r (by omega), _, _, _, j, rfl, rfl, rfl, ea, hj, hb, e, rfl⟩
          · have q0 : (if (M.1 201 (a + 4).toNatClampNeg).toInt64 ≤ (M.1 201 (10 + p).toNatClampNeg).toInt64 ∧ (M.1 201 (10 + p).toNatClampNeg).toInt64 ≤ (M.1 201 (a + 5).toNatClampNeg).toInt64 then (1 : Int32) else 0) = 0 := if_neg zc
            have e : (0 : Int32) = q_may M pl w p y j := by
              simp only [j_le, Int32.toInt_toInt64, f4, f5, c10] at zc
              exact (if_neg (fun z => zc (of_decide_eq_true z.1).2.2)).symm
            repeat' (first | apply And.intro | exact rfl | (intro hx; with_reducible exact absurd q0 hx) | (intro hx; exact absurd hx (by decide)) | (intro hx; exact absurd (by decide) hx) | decide | intro hx | (refine Exists.intro _ (And.intro rfl ?_)))
            all_goals try first | (with_reducible change am_tI _ _) | (change Ret _ _) | (change Ret _ _ _) | (change Exists _)
            all_goals try dsimp only at *
            all_goals try (with_reducible exact absurd ‹(1000 : Int64) = 0› am_z1000)
            all_goals first
              | omega
              | (rw [l201]; omega)
              | exact ⟨_, am_lt_r (by omega), _, _, _, j, rfl, rfl, rfl, ea, hj, hb, e, rfl⟩
        · rw [show q_is M pl w y j = 0 from if_neg hC] at hi
          subst hi
          have e : (0 : Int32) = q_may M pl w p y j := (if_neg (fun z => hC ⟨(of_decide_eq_true z.1).1, (of_decide_eq_true z.1).2.1, z.2⟩)).symm
          repeat' (first | apply And.intro | exact rfl | (intro hx; exact absurd hx (by decide)) | (intro hx; exact absurd (by decide) hx) | decide | intro hx | (refine Exists.intro _ (And.intro rfl ?_)))
          all_goals try first | (with_reducible change am_tI _ _) | (change Ret _ _) | (change Ret _ _ _) | (change Exists _)
          all_goals try dsimp only at *
          all_goals try (with_reducible exact absurd ‹(1000 : Int64) = 0› am_z1000)
          all_goals first
            | omega
            | (rw [l201]; omega)
            | exact ⟨_, am_lt_r (by omega), _, _, _, j, rfl, rfl, rfl, ea, hj, hb, e, rfl⟩
      · cases hI
        obtain ⟨b, a, i, j, rfl, rfl, rfl, ea, hj, hb, hi, rfl⟩ := hi
        have j60 : j < 60 := by omega
        obtain ⟨x3, y3⟩ := aa (c := 3) (k := 3) ea j60 rfl (by decide)
        have f3 : M.1 201 (a + 3).toNatClampNeg = r_A M (6 * j + 3) := by rw [y3]; rfl
        have x6 := r_off (c := a) (x := 6) ⟨by omega, by omega⟩ ⟨by decide, by decide⟩
        simp only [Int32.reduceToInt] at x6
        by_cases hC : q_mt (r_A M) (M.1 201 (10 + p.toNatClampNeg)) pl w j = true ∧ (r_A M (6 * j + 3)).toInt ≤ y.toInt
        · rw [show q_may M pl w p y j = 1 from if_pos hC] at hi
          subst hi
          cases ho : q_Rm M pl w p y j with
          | none =>
            rw [ho] at hb
            have hb2 := hb.n
            subst hb2
            have e : q_bo a (q_Rm M pl w p y (j + 1)) := by
              rw [show q_Rm M pl w p y (j + 1) = some j from q_R_s2 hC ho]
              exact ea
            repeat' (first | apply And.intro | exact rfl | (intro hx; exact absurd hx (by decide)) | (intro hx; exact absurd (by decide) hx) | decide | intro hx | (refine Exists.intro _ (And.intro rfl ?_)))
            all_goals try first | (with_reducible change am_tI _ _) | (change Ret _ _) | (change Ret _ _ _) | (change Exists _)
            all_goals try dsimp only at *
            all_goals try (with_reducible exact absurd ‹(1000 : Int64) = 0› am_z1000)
            all_goals first
              | omega
              | (rw [l201]; omega)
              | exact ⟨_, am_lt_l (by omega), _, _, j + 1, rfl, rfl, rfl, by omega, by omega, e, rfl⟩
          | some b' =>
            rw [ho] at hb
            have hb2 := hb.s
            have hlt := (q_R_lt ho).1
            obtain ⟨u3, v3⟩ := aa (c := 3) (k := 3) hb2 (by omega) rfl (by decide)
            have g3 : M.1 201 (b + 3).toNatClampNeg = r_A M (6 * b' + 3) := by rw [v3]; rfl
            have hn : ¬ b < 0 := fun q => by simp only [i_lt, Int32.reduceToInt] at q; omega
            by_cases z : M.1 201 (a + 3).toNatClampNeg < M.1 201 (b + 3).toNatClampNeg
            · have e : q_bo b (q_Rm M pl w p y (j + 1)) := by
                rw [show q_Rm M pl w p y (j + 1) = some b' from q_R_s4 ho (by simp only [i_lt, f3, g3] at z; omega)]
                exact hb2
              repeat' (first | apply And.intro | exact rfl | (intro hx; with_reducible exact absurd hx hn) | (intro hx; with_reducible exact absurd z hx) | (intro hx; exact absurd hx (by decide)) | (intro hx; exact absurd (by decide) hx) | decide | intro hx | (refine Exists.intro _ (And.intro rfl ?_)))
              all_goals try first | (with_reducible change am_tI _ _) | (change Ret _ _) | (change Ret _ _ _) | (change Exists _)
              all_goals try dsimp only at *
              all_goals try (with_reducible exact absurd ‹(1000 : Int64) = 0› am_z1000)
              all_goals first
                | omega
                | (rw [l201]; omega)
                | exact ⟨_, am_lt_l (by omega), _, _, j + 1, rfl, rfl, rfl, by omega, by omega, e, rfl⟩
            · have e : q_bo a (q_Rm M pl w p y (j + 1)) := by
                rw [show q_Rm M pl w p y (j + 1) = some j from q_R_s3 hC ho (by simp only [i_lt, f3, g3] at z; omega)]
                exact ea
              repeat' (first | apply And.intro | exact rfl | (intro hx; with_reducible exact absurd hx hn) | (intro hx; with_reducible exact absurd hx z) | (intro hx; exact absurd hx (by decide)) | (intro hx; exact absurd (by decide) hx) | decide | intro hx | (refine Exists.intro _ (And.intro rfl ?_)))
              all_goals try first | (with_reducible change am_tI _ _) | (change Ret _ _) | (change Ret _ _ _) | (change Exists _)
              all_goals try dsimp only at *
              all_goals try (with_reducible exact absurd ‹(1000 : Int64) = 0› am_z1000)
              all_goals first
                | omega
                | (rw [l201]; omega)
                | exact ⟨_, am_lt_l (by omega), _, _, j + 1, rfl, rfl, rfl, by omega, by omega, e, rfl⟩
        · rw [show q_may M pl w p y j = 0 from if_neg hC] at hi
          subst hi
          have e : q_bo b (q_Rm M pl w p y (j + 1)) := by
            rw [show q_Rm M pl w p y (j + 1) = q_Rm M pl w p y j from q_R_s1 hC]
            exact hb
          repeat' (first | apply And.intro | exact rfl | (intro hx; exact absurd hx (by decide)) | (intro hx; exact absurd (by decide) hx) | decide | intro hx | (refine Exists.intro _ (And.intro rfl ?_)))
          all_goals try first | (with_reducible change am_tI _ _) | (change Ret _ _) | (change Ret _ _ _) | (change Exists _)
          all_goals try dsimp only at *
          all_goals try (with_reducible exact absurd ‹(1000 : Int64) = 0› am_z1000)
          all_goals first
            | omega
            | (rw [l201]; omega)
            | exact ⟨_, am_lt_l (by omega), _, _, j + 1, rfl, rfl, rfl, by omega, by omega, e, rfl⟩
      · cases hI
        obtain ⟨b, rfl, rfl, rfl, hb, rfl⟩ := hi
        by_cases z1 : M.1 200 3 = pl
        · by_cases z2 : M.1 200 4 = w
          · by_cases z3 : y < M.1 200 6
            · have e : (0 : Int32) = q_trs M pl w p y := (if_neg (fun q => by have q3 := q.2.2.1; simp only [i_lt] at z3; omega)).symm
              repeat' (first | apply And.intro | exact rfl | (intro hx; with_reducible exact absurd z1 hx) | (intro hx; with_reducible exact absurd z2 hx) | (intro hx; with_reducible exact absurd z3 hx) | (intro hx; exact absurd hx (by decide)) | (intro hx; exact absurd (by decide) hx) | decide | intro hx | (refine Exists.intro _ (And.intro rfl ?_)))
              all_goals try first | (with_reducible change am_tI _ _) | (change Ret _ _) | (change Ret _ _ _) | (change Exists _)
              all_goals try dsimp only at *
              all_goals try (with_reducible exact absurd ‹(1000 : Int64) = 0› am_z1000)
              all_goals exact ⟨_, am_lt_r (by omega), _, _, rfl, rfl, rfl, hb, e, rfl⟩
            · cases ho : q_Rm M pl w p y (M.1 201 2).toNatClampNeg with
              | none =>
                have hb0 := hb
                rw [ho] at hb0
                have hb2 := hb0.n
                subst hb2
                have e : (1 : Int32) = q_trs M pl w p y := (if_pos ⟨z1, z2, by simp only [i_lt] at z3; omega, by rw [ho]; rfl⟩).symm
                repeat' (first | apply And.intro | exact rfl | (intro hx; with_reducible exact absurd hx z3) | (intro hx; with_reducible exact absurd z1 hx) | (intro hx; with_reducible exact absurd z2 hx) | (intro hx; exact absurd hx (by decide)) | (intro hx; exact absurd (by decide) hx) | decide | intro hx | (refine Exists.intro _ (And.intro rfl ?_)))
                all_goals try first | (with_reducible change am_tI _ _) | (change Ret _ _) | (change Ret _ _ _) | (change Exists _)
                all_goals try dsimp only at *
                all_goals try (with_reducible exact absurd ‹(1000 : Int64) = 0› am_z1000)
                all_goals exact ⟨_, am_lt_r (by omega), _, _, rfl, rfl, rfl, hb, e, rfl⟩
              | some b' =>
                have hb0 := hb
                rw [ho] at hb0
                have hb2 := hb0.s
                have hlt := (q_R_lt ho).1
                obtain ⟨u3, v3⟩ := aa (c := 3) (k := 3) hb2 (by omega) rfl (by decide)
                have g3 : M.1 201 (b + 3).toNatClampNeg = r_A M (6 * b' + 3) := by rw [v3]; rfl
                have hn : ¬ b < 0 := fun q => by simp only [i_lt, Int32.reduceToInt] at q; omega
                by_cases z : M.1 200 6 < M.1 201 (b + 3).toNatClampNeg
                · have e : (0 : Int32) = q_trs M pl w p y := (if_neg (fun q => by
                    have q4 := q.2.2.2
                    rw [ho] at q4
                    have q5 : (r_A M (6 * b' + 3)).toInt ≤ (M.1 200 6).toInt := of_decide_eq_true q4
                    simp only [i_lt, g3] at z
                    omega)).symm
                  repeat' (first | apply And.intro | exact rfl | (intro hx; with_reducible exact absurd hx z3) | (intro hx; with_reducible exact absurd hx hn) | (intro hx; with_reducible exact absurd z1 hx) | (intro hx; with_reducible exact absurd z2 hx) | (intro hx; with_reducible exact absurd z hx) | (intro hx; exact absurd hx (by decide)) | (intro hx; exact absurd (by decide) hx) | decide | intro hx | (refine Exists.intro _ (And.intro rfl ?_)))
                  all_goals try first | (with_reducible change am_tI _ _) | (change Ret _ _) | (change Ret _ _ _) | (change Exists _)
                  all_goals try dsimp only at *
                  all_goals try (with_reducible exact absurd ‹(1000 : Int64) = 0› am_z1000)
                  all_goals first
                    | omega
                    | (rw [l201]; omega)
                    | exact ⟨_, am_lt_r (by omega), _, _, rfl, rfl, rfl, hb, e, rfl⟩
                · have e : (1 : Int32) = q_trs M pl w p y := (if_pos ⟨z1, z2, by simp only [i_lt] at z3; omega, by rw [ho]; exact decide_eq_true (by simp only [i_lt, g3] at z; omega)⟩).symm
                  repeat' (first | apply And.intro | exact rfl | (intro hx; with_reducible exact absurd hx z3) | (intro hx; with_reducible exact absurd hx hn) | (intro hx; with_reducible exact absurd hx z) | (intro hx; with_reducible exact absurd z1 hx) | (intro hx; with_reducible exact absurd z2 hx) | (intro hx; exact absurd hx (by decide)) | (intro hx; exact absurd (by decide) hx) | decide | intro hx | (refine Exists.intro _ (And.intro rfl ?_)))
                  all_goals try first | (with_reducible change am_tI _ _) | (change Ret _ _) | (change Ret _ _ _) | (change Exists _)
                  all_goals try dsimp only at *
                  all_goals try (with_reducible exact absurd ‹(1000 : Int64) = 0› am_z1000)
                  all_goals first
                    | omega
                    | (rw [l201]; omega)
                    | exact ⟨_, am_lt_r (by omega), _, _, rfl, rfl, rfl, hb, e, rfl⟩
          · have e : (0 : Int32) = q_trs M pl w p y := (if_neg (fun q => z2 q.2.1)).symm
            repeat' (first | apply And.intro | exact rfl | (intro hx; with_reducible exact absurd hx z2) | (intro hx; with_reducible exact absurd z1 hx) | (intro hx; exact absurd hx (by decide)) | (intro hx; exact absurd (by decide) hx) | decide | intro hx | (refine Exists.intro _ (And.intro rfl ?_)))
            all_goals try first | (with_reducible change am_tI _ _) | (change Ret _ _) | (change Ret _ _ _) | (change Exists _)
            all_goals try dsimp only at *
            all_goals try (with_reducible exact absurd ‹(1000 : Int64) = 0› am_z1000)
            all_goals exact ⟨_, am_lt_r (by omega), _, _, rfl, rfl, rfl, hb, e, rfl⟩
        · have e : (0 : Int32) = q_trs M pl w p y := (if_neg (fun q => z1 q.1)).symm
          repeat' (first | apply And.intro | exact rfl | (intro hx; with_reducible exact absurd hx z1) | (intro hx; exact absurd hx (by decide)) | (intro hx; exact absurd (by decide) hx) | decide | intro hx | (refine Exists.intro _ (And.intro rfl ?_)))
          all_goals try first | (with_reducible change am_tI _ _) | (change Ret _ _) | (change Ret _ _ _) | (change Exists _)
          all_goals try dsimp only at *
          all_goals try (with_reducible exact absurd ‹(1000 : Int64) = 0› am_z1000)
          all_goals exact ⟨_, am_lt_r (by omega), _, _, rfl, rfl, rfl, hb, e, rfl⟩
      · cases hI
        obtain ⟨b, i, rfl, rfl, rfl, hb, hi, rfl⟩ := hi
        by_cases hC : M.1 200 3 = pl ∧ M.1 200 4 = w ∧ (M.1 200 6).toInt ≤ y.toInt ∧ q_le (r_A M) (q_Rm M pl w p y (M.1 201 2).toNatClampNeg) (M.1 200 6) = true
        · rw [show q_trs M pl w p y = 1 from if_pos hC] at hi
          subst hi
          rw [show r_inF M pl w p y = M.1 200 5 from if_pos hC] at h
          repeat' (first | apply And.intro | exact rfl | (intro hx; exact absurd hx (by decide)) | (intro hx; exact absurd (by decide) hx) | decide | intro hx | (refine Exists.intro _ (And.intro rfl ?_)))
          all_goals try first | (with_reducible change am_tI _ _) | (change Ret _ _) | (change Ret _ _ _) | (change Exists _)
          all_goals try dsimp only at *
          all_goals try (with_reducible exact absurd ‹(1000 : Int64) = 0› am_z1000)
          all_goals exact h
        · rw [show q_trs M pl w p y = 0 from if_neg hC] at hi
          subst hi
          rw [show r_inF M pl w p y = q_F (r_A M) (M.1 201 2).toNatClampNeg (M.1 201 (10 + p.toNatClampNeg)) pl w y.toInt from if_neg hC] at h
          unfold q_F at h
          cases ho : q_R (r_A M) (M.1 201 (10 + p.toNatClampNeg)) pl w y.toInt (M.1 201 2).toNatClampNeg with
          | none =>
            rw [show q_Rm M pl w p y (M.1 201 2).toNatClampNeg = none from ho] at hb
            have hb2 := hb.n
            subst hb2
            rw [ho] at h
            repeat' (first | (with_reducible exact hw) | apply And.intro | exact rfl | (intro hx; exact absurd hx (by decide)) | (intro hx; exact absurd (by decide) hx) | decide | intro hx | (refine Exists.intro _ (And.intro rfl ?_)))
            all_goals try first | (with_reducible change am_tI _ _) | (change Ret _ _) | (change Ret _ _ _) | (change Exists _)
            all_goals try dsimp only at *
            all_goals try (with_reducible exact absurd ‹(1000 : Int64) = 0› am_z1000)
            all_goals exact h
          | some b' =>
            rw [show q_Rm M pl w p y (M.1 201 2).toNatClampNeg = some b' from ho] at hb
            have hb2 := hb.s
            have hlt := (q_R_lt ho).1
            rw [ho] at h
            obtain ⟨u2, v2⟩ := aa (c := 2) (k := 2) hb2 (by omega) rfl (by decide)
            have g2 : M.1 201 (b + 2).toNatClampNeg = r_A M (6 * b' + 2) := by rw [v2]; rfl
            have hn : 0 ≤ b := by simp only [i_le, Int32.reduceToInt]; omega
            have h : Ret (some (.int (r_A M (6 * b' + 2)))) M := h
            rw [← g2] at h
            repeat' (first | apply And.intro | exact rfl | (intro hx; with_reducible exact absurd hn hx) | (intro hx; exact absurd hx (by decide)) | (intro hx; exact absurd (by decide) hx) | decide | intro hx | (refine Exists.intro _ (And.intro rfl ?_)))
            all_goals try first | (with_reducible change am_tI _ _) | (change Ret _ _) | (change Ret _ _ _) | (change Exists _)
            all_goals try dsimp only at *
            all_goals try (with_reducible exact absurd ‹(1000 : Int64) = 0› am_z1000)
            all_goals first
              | omega
              | (rw [l201]; omega)
              | (with_reducible exact h)
              | exact h
      · cases hI
    · exact h.elim
