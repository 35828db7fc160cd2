/-! exact: which plan a loan is in, what is in force: the reference -/
theorem r_plm_y {f : Nat → Int32} {l y m : Nat} (h : (f (3078 + 3 * m)).toInt = (l : Int) ∧ (f (3080 + 3 * m)).toInt ≤ (y : Int)) : r_plm f l y (m + 1) = f (3079 + 3 * m) := if_pos h
theorem r_plm_n {f : Nat → Int32} {l y m : Nat} (h : ¬ ((f (3078 + 3 * m)).toInt = (l : Int) ∧ (f (3080 + 3 * m)).toInt ≤ (y : Int))) : r_plm f l y (m + 1) = r_plm f l y m := if_neg h
/-- the plan of a loan in a year, as the reference answers -/
def r_pl (M : am_M) (l y : Int32) : Int32 := if 0 ≤ (M.1 200 7).toInt ∧ (M.1 200 8).toInt ≤ y.toInt then M.1 200 7 else r_plm (M.1 201) l.toNatClampNeg y.toNatClampNeg (M.1 201 3).toNatClampNeg
def TE8_planAt : am_T := fun live as M R => match as with
  | [.ref n, .int l, .int y] => am_mn live ∧ n = 200 ∧ am_in l 30 ∧ 0 ≤ y.toInt ∧ r_I M ∧ R (some (.int (r_pl M l y))) M
  | _ => False
def JE8_planAt : am_E → List Value → am_M → am_R → am_inv := fun live as M0 _ pc => match as with
  | [.ref n, .int l, .int y] => (match pc with
    | 41 => some ([0, 1, 2, 3, 4], fun k L st M => ∃ (q m : Int32) (j : Nat), L = [(0, .ref 200), (1, .int l), (2, .int y), (3, .int q), (4, .int m)] ∧ st = [] ∧ k = (100 - j, 0) ∧ m.toInt = 3078 + 3 * (j : Int) ∧ j ≤ (M0.1 201 3).toNatClampNeg ∧ q = r_plm (M0.1 201) l.toNatClampNeg y.toNatClampNeg j ∧ ¬ (0 ≤ (M0.1 200 7).toInt ∧ (M0.1 200 8).toInt ≤ y.toInt) ∧ M = M0)
    | _ => none)
  | _ => none
set_option maxRecDepth 100000 in
set_option maxHeartbeats 4000000 in
theorem metX8_planAtE : am_Met yX8_planAt cX8_planAt 5 (some .int) (0) (0) TE8_planAt := by
  refine am_met (own := RX8) (by decide +kernel) rfl kX8_planAt koX8_planAt 100 JE8_planAt ?_ ?_
  · intro live as M Ret h
    unfold TE8_planAt at h
    split at h
    · next n l y =>
      refine ⟨Nat.le_of_ble_eq_true rfl, ?_⟩
      change am_wp _ _ _ _ [(0, Value.ref n), (1, Value.int l), (2, Value.int y)] _ _
      obtain ⟨hmn, rfl, hl, hy, hR, h⟩ := h
      have hmn2 := hmn
      obtain ⟨i1, i2, rfl⟩ := hmn2
      have l201 : am_len 201 = 3760 := rfl
      have l1 := hl.1
      have l2 := hl.2
      have e1 := r_lcol hl (w := 1) ⟨by decide, by decide⟩
      simp only [Int32.reduceToInt] at e1
      have hpl : M.1 201 (2838 + 8 * l + 1).toNatClampNeg = r_plm (M.1 201) l.toNatClampNeg y.toNatClampNeg 0 := by
        have c1 := i_clamp (x := 2838 + 8 * l + 1) (by omega)
        have c2 := i_clamp (x := l) l1
        show _ = M.1 201 (2839 + 8 * l.toNatClampNeg)
        rw [show (2838 + 8 * l + 1).toNatClampNeg = 2839 + 8 * l.toNatClampNeg by omega]
      by_cases hz : M.1 200 7 < 0
      · have q : ¬ (0 ≤ (M.1 200 7).toInt ∧ (M.1 200 8).toInt ≤ y.toInt) := fun q => by
          have q1 := q.1
          simp only [i_lt, Int32.reduceToInt] at hz
          omega
        repeat' (first | apply And.intro | exact rfl | (intro hx; with_reducible exact absurd hz hx) | intro hx | (refine Exists.intro _ (And.intro rfl ?_)))
        all_goals try first | (with_reducible change am_tI _ _) | (change Ret _ _) | (change Ret _ _ _) | (change Exists _)
        all_goals try dsimp only at *
        all_goals try exact absurd ‹(1000 : Int64) = 0› (by decide)
        all_goals first
          | omega
          | (rw [l201]; omega)
          | exact ⟨_, _, _, 0, rfl, rfl, rfl, rfl, Nat.zero_le _, hpl, q, rfl⟩
      · by_cases hw : y < M.1 200 8
        · have q : ¬ (0 ≤ (M.1 200 7).toInt ∧ (M.1 200 8).toInt ≤ y.toInt) := fun q => by
            have q1 := q.2
            simp only [i_lt] at hw
            omega
          repeat' (first | apply And.intro | exact rfl | (intro hx; with_reducible exact absurd hx hz) | (intro hx; with_reducible exact absurd hw hx) | intro hx | (refine Exists.intro _ (And.intro rfl ?_)))
          all_goals try first | (with_reducible change am_tI _ _) | (change Ret _ _) | (change Ret _ _ _) | (change Exists _)
          all_goals try dsimp only at *
          all_goals try exact absurd ‹(1000 : Int64) = 0› (by decide)
          all_goals first
            | omega
            | (rw [l201]; omega)
            | exact ⟨_, _, _, 0, rfl, rfl, rfl, rfl, Nat.zero_le _, hpl, q, rfl⟩
        · have e : r_pl M l y = M.1 200 7 := if_pos ⟨by simp only [i_lt, Int32.reduceToInt] at hz; omega, by simp only [i_lt] at hw; omega⟩
          rw [e] at h
          repeat' (first | apply And.intro | exact rfl | (intro hx; with_reducible exact absurd hx hz) | (intro hx; with_reducible exact absurd hx hw) | intro hx | (refine Exists.intro _ (And.intro rfl ?_)))
          all_goals try first | (with_reducible change am_tI _ _) | (change Ret _ _) | (change Ret _ _ _) | (change Exists _)
          all_goals try dsimp only at *
          all_goals try exact absurd ‹(1000 : Int64) = 0› (by decide)
          all_goals exact h
    · exact h.elim
  · intro live as M0 Ret h k pc I hI L st M hi
    unfold TE8_planAt at h
    split at h
    · next n l y =>
      obtain ⟨hmn, rfl, hl, hy, hR, h⟩ := h
      have hmn2 := hmn
      obtain ⟨i1, i2, rfl⟩ := hmn2
      have l201 : am_len 201 = 3760 := rfl
      have n3 : 0 ≤ (M0.1 201 (Int32.toNatClampNeg 3)).toInt ∧ (M0.1 201 (Int32.toNatClampNeg 3)).toInt ≤ 60 := hR.n3
      have cn : ((M0.1 201 3).toNatClampNeg : Int) = (M0.1 201 (Int32.toNatClampNeg 3)).toInt := i_clamp n3.1
      have e3 := r_mul (c := 3) (x := M0.1 201 (Int32.toNatClampNeg 3)) ⟨by decide, by decide⟩ ⟨n3.1, by omega⟩
      simp only [Int32.reduceToInt] at e3
      have e30 := r_off (c := 3078) (x := 3 * M0.1 201 (Int32.toNatClampNeg 3)) ⟨by decide, by decide⟩ ⟨by omega, by omega⟩
      simp only [e3, Int32.reduceToInt] at e30
      have cl := i_clamp (x := l) hl.1
      have cy := i_clamp (x := y) hy
      change (match pc with | 41 => _ | _ => none) = _ at hI
      split at hI
      · cases hI
        obtain ⟨q, m, j, rfl, rfl, rfl, e1, e2, hq, hno, rfl⟩ := hi
        by_cases hz : 3078 + 3 * M.1 201 (Int32.toNatClampNeg 3) ≤ m
        · have hj : j = (M.1 201 3).toNatClampNeg := by
            have hz2 := hz
            simp only [i_le] at hz2
            omega
          have e : r_pl M l y = q := by
            unfold r_pl
            rw [if_neg hno, ← hj]
            exact hq.symm
          rw [e] at h
          repeat' (first | apply And.intro | exact rfl | (intro hx; with_reducible exact absurd hz hx) | (intro hx; exact absurd hx (by decide)) | (intro hx; exact absurd (by decide) hx) | decide | intro hx | (refine Exists.intro _ (And.intro rfl ?_)))
          all_goals try first | (with_reducible change am_tI _ _) | (change Ret _ _) | (change Ret _ _ _) | (change Exists _)
          all_goals try dsimp only at *
          all_goals try exact absurd ‹(1000 : Int64) = 0› (by decide)
          all_goals first
            | (show _ < _; simp only [l201]; decide)
            | exact h
        · have hz2 := hz
          simp only [i_le] at hz2
          have em1 := r_off (c := m) (x := 1) ⟨by omega, by omega⟩ ⟨by decide, by decide⟩
          have em2 := r_off (c := m) (x := 2) ⟨by omega, by omega⟩ ⟨by decide, by decide⟩
          have em3 := r_off (c := m) (x := 3) ⟨by omega, by omega⟩ ⟨by decide, by decide⟩
          simp only [Int32.reduceToInt] at em1 em2 em3
          have c0 := i_clamp (x := m) (by omega)
          have c1 := i_clamp (x := m + 1) (by omega)
          have c2 := i_clamp (x := m + 2) (by omega)
          have f0 : m.toNatClampNeg = 3078 + 3 * j := by omega
          have f1 : (m + 1).toNatClampNeg = 3079 + 3 * j := by omega
          have f2 : (m + 2).toNatClampNeg = 3080 + 3 * j := by omega
          by_cases z1 : M.1 201 m.toNatClampNeg = l
          · by_cases z2 : y < M.1 201 (m + 2).toNatClampNeg
            · have hs : q = r_plm (M.1 201) l.toNatClampNeg y.toNatClampNeg (j + 1) := by
                rw [r_plm_n (fun w => by have w2 := w.2; simp only [i_lt, f2] at z2; omega)]
                exact hq
              repeat' (first | apply And.intro | exact rfl | (intro hx; with_reducible exact absurd hx hz) | (intro hx; with_reducible exact absurd z1 hx) | (intro hx; with_reducible exact absurd z2 hx) | (intro hx; exact absurd hx (by decide)) | (intro hx; exact absurd (by decide) hx) | decide | intro hx | (refine Exists.intro _ (And.intro rfl ?_)))
              all_goals try first | (with_reducible change am_tI _ _) | (change Ret _ _) | (change Ret _ _ _) | (change Exists _)
              all_goals try dsimp only at *
              all_goals try exact absurd ‹(1000 : Int64) = 0› (by decide)
              all_goals first
                | (show _ < _; simp only [l201]; decide)
                | omega
                | (rw [l201]; omega)
                | exact ⟨_, am_lt_l (by omega), _, _, j + 1, rfl, rfl, rfl, by omega, by omega, hs, hno, rfl⟩
            · have hs : M.1 201 (m + 1).toNatClampNeg = r_plm (M.1 201) l.toNatClampNeg y.toNatClampNeg (j + 1) := by
                rw [r_plm_y ⟨by rw [← f0, z1]; omega, by simp only [i_lt, f2] at z2; omega⟩, f1]
              repeat' (first | apply And.intro | exact rfl | (intro hx; with_reducible exact absurd hx hz) | (intro hx; with_reducible exact absurd hx z2) | (intro hx; with_reducible exact absurd z1 hx) | (intro hx; exact absurd hx (by decide)) | (intro hx; exact absurd (by decide) hx) | decide | intro hx | (refine Exists.intro _ (And.intro rfl ?_)))
              all_goals try first | (with_reducible change am_tI _ _) | (change Ret _ _) | (change Ret _ _ _) | (change Exists _)
              all_goals try dsimp only at *
              all_goals try exact absurd ‹(1000 : Int64) = 0› (by decide)
              all_goals first
                | (show _ < _; simp only [l201]; decide)
                | omega
                | (rw [l201]; omega)
                | exact ⟨_, am_lt_l (by omega), _, _, j + 1, rfl, rfl, rfl, by omega, by omega, hs, hno, rfl⟩
          · have hs : q = r_plm (M.1 201) l.toNatClampNeg y.toNatClampNeg (j + 1) := by
              rw [r_plm_n (fun w => z1 (by have w1 := w.1; rw [← f0] at w1; rw [i_eq]; omega))]
              exact hq
            repeat' (first | apply And.intro | exact rfl | (intro hx; with_reducible exact absurd hx hz) | (intro hx; with_reducible exact absurd hx z1) | (intro hx; exact absurd hx (by decide)) | (intro hx; exact absurd (by decide) hx) | decide | intro hx | (refine Exists.intro _ (And.intro rfl ?_)))
            all_goals try first | (with_reducible change am_tI _ _) | (change Ret _ _) | (change Ret _ _ _) | (change Exists _)
            all_goals try dsimp only at *
            all_goals try exact absurd ‹(1000 : Int64) = 0› (by decide)
            all_goals first
              | (show _ < _; simp only [l201]; decide)
              | omega
              | (rw [l201]; omega)
              | exact ⟨_, am_lt_l (by omega), _, _, j + 1, rfl, rfl, rfl, by omega, by omega, hs, hno, rfl⟩
      · cases hI
    · exact h.elim
/-- does an act tell of a plan's number for those who began then -/
def q_mt (A : Nat → Int32) (bg pl w : Int32) (i : Nat) : Bool := decide (A (6 * i) = pl ∧ A (6 * i + 1) = w ∧ (A (6 * i + 4)).toInt ≤ bg.toInt ∧ bg.toInt ≤ (A (6 * i + 5)).toInt)
/-- the act in force in a year among the first ones -/
def q_R (A : Nat → Int32) (bg pl w : Int32) (y : Int) : Nat → Option Nat
  | 0 => none
  | m + 1 => match q_R A bg pl w y m with
    | none => if q_mt A bg pl w m = true ∧ (A (6 * m + 3)).toInt ≤ y then some m else none
    | some b => if (q_mt A bg pl w m = true ∧ (A (6 * m + 3)).toInt ≤ y) ∧ (A (6 * b + 3)).toInt ≤ (A (6 * m + 3)).toInt then some m else some b
theorem q_R_lt {A : Nat → Int32} {bg pl w : Int32} {y : Int} : ∀ {m b}, q_R A bg pl w y m = some b → b < m ∧ q_mt A bg pl w b = true ∧ (A (6 * b + 3)).toInt ≤ y
  | 0, _, h => by cases h
  | m + 1, b, h => by
    unfold q_R at h
    split at h
    · split at h
      · next z => cases h; exact ⟨by omega, z.1, z.2⟩
      · cases h
    · next b' e =>
      have ih := q_R_lt e
      split at h
      · next z => cases h; exact ⟨by omega, z.1.1, z.1.2⟩
      · cases h; exact ⟨by omega, ih.2⟩
/-- what it says -/
def q_F (A : Nat → Int32) (n : Nat) (bg pl w : Int32) (y : Int) : Int32 := match q_R A bg pl w y n with
  | none => am_sf 0 w.toNatClampNeg
  | some a => A (6 * a + 2)
/-- the same with a number tried -/
def q_le (A : Nat → Int32) (o : Option Nat) (t : Int32) : Bool := match o with
  | none => true
  | some b => decide ((A (6 * b + 3)).toInt ≤ t.toInt)
def r_A (M : am_M) : Nat → Int32 := fun k => M.1 201 (2478 + k)
def r_inF (M : am_M) (pl w p y : Int32) : Int32 := if M.1 200 3 = pl ∧ M.1 200 4 = w ∧ (M.1 200 6).toInt ≤ y.toInt ∧ q_le (r_A M) (q_R (r_A M) (M.1 201 (10 + p.toNatClampNeg)) pl w y.toInt (M.1 201 2).toNatClampNeg) (M.1 200 6) = true then M.1 200 5 else q_F (r_A M) (M.1 201 2).toNatClampNeg (M.1 201 (10 + p.toNatClampNeg)) pl w y.toInt
def TE8_atFirst : am_T := fun _ as M R => match as with
  | [.int w] => am_in w 6 ∧ R (some (.int (am_sf 0 w.toNatClampNeg))) M
  | _ => False
set_option maxRecDepth 100000 in
set_option maxHeartbeats 4000000 in
theorem metX8_atFirstE : am_Met yX8_atFirst cX8_atFirst 1 (some .int) (0) (0) TE8_atFirst := by
  refine am_met (own := RX8) (by decide +kernel) rfl kX8_atFirst koX8_atFirst 60 (fun _ _ _ _ _ => none) (fun live as M Ret h => ?_) (fun _ _ _ _ _ _ _ _ hI => by cases hI)
  unfold TE8_atFirst at h
  split at h
  · next w =>
    refine ⟨Nat.le_of_ble_eq_true rfl, ?_⟩
    change am_wp _ _ _ _ [(0, Value.int w)] _ _
    obtain ⟨hw, h⟩ := h
    have hc : w = 0 ∨ w = 1 ∨ w = 2 ∨ w = 3 ∨ w = 4 ∨ w = 5 := by
      have h1 := hw.1
      have h2 := hw.2
      simp only [i_eq, Int32.reduceToInt]
      omega
    rcases hc with rfl | rfl | rfl | rfl | rfl | rfl
    all_goals skip
    · skip
      repeat' (first | apply And.intro | exact rfl | (intro hx; exact absurd hx (by decide)) | (intro hx; exact absurd (by decide) hx) | decide | intro hx | (refine Exists.intro _ (And.intro rfl ?_)))
      all_goals try first | (with_reducible change am_tI _ _) | (change Ret _ _) | (change Ret _ _ _) | (change Exists _)
      all_goals try dsimp only at *
      all_goals try exact absurd ‹(1000 : Int64) = 0› (by decide)
      all_goals exact h
    · skip
      repeat' (first | apply And.intro | exact rfl | (intro hx; exact absurd hx (by decide)) | (intro hx; exact absurd (by decide) hx) | decide | intro hx | (refine Exists.intro _ (And.intro rfl ?_)))
      all_goals try first | (with_reducible change am_tI _ _) | (change Ret _ _) | (change Ret _ _ _) | (change Exists _)
      all_goals try dsimp only at *
      all_goals try exact absurd ‹(1000 : Int64) = 0› (by decide)
      all_goals exact h
    · skip
      repeat' (first | apply And.intro | exact rfl | (intro hx; exact absurd hx (by decide)) | (intro hx; exact absurd (by decide) hx) | decide | intro hx | (refine Exists.intro _ (And.intro rfl ?_)))
      all_goals try first | (with_reducible change am_tI _ _) | (change Ret _ _) | (change Ret _ _ _) | (change Exists _)
      all_goals try dsimp only at *
      all_goals try exact absurd ‹(1000 : Int64) = 0› (by decide)
      all_goals exact h
    · skip
      repeat' (first | apply And.intro | exact rfl | (intro hx; exact absurd hx (by decide)) | (intro hx; exact absurd (by decide) hx) | decide | intro hx | (refine Exists.intro _ (And.intro rfl ?_)))
      all_goals try first | (with_reducible change am_tI _ _) | (change Ret _ _) | (change Ret _ _ _) | (change Exists _)
      all_goals try dsimp only at *
      all_goals try exact absurd ‹(1000 : Int64) = 0› (by decide)
      all_goals exact h
    · skip
      repeat' (first | apply And.intro | exact rfl | (intro hx; exact absurd hx (by decide)) | (intro hx; exact absurd (by decide) hx) | decide | intro hx | (refine Exists.intro _ (And.intro rfl ?_)))
      all_goals try first | (with_reducible change am_tI _ _) | (change Ret _ _) | (change Ret _ _ _) | (change Exists _)
      all_goals try dsimp only at *
      all_goals try exact absurd ‹(1000 : Int64) = 0› (by decide)
      all_goals exact h
    · skip
      repeat' (first | apply And.intro | exact rfl | (intro hx; exact absurd hx (by decide)) | (intro hx; exact absurd (by decide) hx) | decide | intro hx | (refine Exists.intro _ (And.intro rfl ?_)))
      all_goals try first | (with_reducible change am_tI _ _) | (change Ret _ _) | (change Ret _ _ _) | (change Exists _)
      all_goals try dsimp only at *
      all_goals try exact absurd ‹(1000 : Int64) = 0› (by decide)
      all_goals exact h
  · exact h.elim
def q_bo (b : Int32) (o : Option Nat) : Prop := match o with
  | none => b = -1
  | some i => b.toInt = 2478 + 6 * (i : Int)
theorem q_bo.n {b : Int32} (h : q_bo b none) : b = -1 := h
theorem q_bo.s {b : Int32} {i : Nat} (h : q_bo b (some i)) : b.toInt = 2478 + 6 * (i : Int) := h
theorem q_R_s1 {A : Nat → Int32} {bg pl w : Int32} {y : Int} {m : Nat} (h : ¬ (q_mt A bg pl w m = true ∧ (A (6 * m + 3)).toInt ≤ y)) : q_R A bg pl w y (m + 1) = q_R A bg pl w y m := by
  conv => lhs; unfold q_R
  split
  · next e => rw [if_neg h, e]
  · next b e => rw [if_neg (fun z => h z.1), e]
theorem q_R_s2 {A : Nat → Int32} {bg pl w : Int32} {y : Int} {m : Nat} (h : q_mt A bg pl w m = true ∧ (A (6 * m + 3)).toInt ≤ y) (e : q_R A bg pl w y m = none) : q_R A bg pl w y (m + 1) = some m := by
  conv => lhs; unfold q_R
  rw [e]
  exact if_pos h
theorem q_R_s3 {A : Nat → Int32} {bg pl w : Int32} {y : Int} {m b : Nat} (h : q_mt A bg pl w m = true ∧ (A (6 * m + 3)).toInt ≤ y) (e : q_R A bg pl w y m = some b) (hb : (A (6 * b + 3)).toInt ≤ (A (6 * m + 3)).toInt) : q_R A bg pl w y (m + 1) = some m := by
  conv => lhs; unfold q_R
  rw [e]
  exact if_pos ⟨h, hb⟩
theorem q_R_s4 {A : Nat → Int32} {bg pl w : Int32} {y : Int} {m b : Nat} (e : q_R A bg pl w y m = some b) (hb : ¬ (A (6 * b + 3)).toInt ≤ (A (6 * m + 3)).toInt) : q_R A bg pl w y (m + 1) = some b := by
  conv => lhs; unfold q_R
  rw [e]
  exact if_neg (fun z => hb z.2)
def TE8_inForce : am_T := fun live as M R => match as with
  | [.ref n, .int pl, .int w, .int p, .int y] => am_mn live ∧ n = 200 ∧ am_in w 6 ∧ am_in p 12 ∧ r_I M ∧ R (some (.int (r_inF M pl w p y))) M
  | _ => False
abbrev q_Rm (M : am_M) (pl w p y : Int32) (j : Nat) : Option Nat := q_R (r_A M) (M.1 201 (10 + p.toNatClampNeg)) pl w y.toInt j
def q_is (M : am_M) (pl w y : Int32) (j : Nat) : Int32 := if r_A M (6 * j) = pl ∧ r_A M (6 * j + 1) = w ∧ (r_A M (6 * j + 3)).toInt ≤ y.toInt then 1 else 0
def q_may (M : am_M) (pl w p y : Int32) (j : Nat) : Int32 := if q_mt (r_A M) (M.1 201 (10 + p.toNatClampNeg)) pl w j = true ∧ (r_A M (6 * j + 3)).toInt ≤ y.toInt then 1 else 0
def q_trs (M : am_M) (pl w p y : Int32) : Int32 := if M.1 200 3 = pl ∧ M.1 200 4 = w ∧ (M.1 200 6).toInt ≤ y.toInt ∧ q_le (r_A M) (q_Rm M pl w p y (M.1 201 2).toNatClampNeg) (M.1 200 6) = true then 1 else 0
def JE8_inForce : am_E → List Value → am_M → am_R → am_inv := fun live as M0 _ pc => match as with
  | [.ref n, .int pl, .int w, .int p, .int y] => (match pc with
    | 8 => some ([0, 1, 2, 3, 4, 5, 6], fun k L st M => ∃ (b a : Int32) (j : Nat), L = [(0, .ref 200), (1, .int pl), (2, .int w), (3, .int p), (4, .int y), (5, .int b), (6, .int a)] ∧ st = [] ∧ k = (100 - j, 9) ∧ a.toInt = 2478 + 6 * (j : Int) ∧ j ≤ (M0.1 201 2).toNatClampNeg ∧ q_bo b (q_Rm M0 pl w p y j) ∧ M = M0)
    | 71 => some ([0, 1, 2, 3, 4, 5, 6, 7], fun k L st M => ∃ (b a i : Int32) (j : Nat), L = [(0, .ref 200), (1, .int pl), (2, .int w), (3, .int p), (4, .int y), (5, .int b), (6, .int a), (7, .int i)] ∧ st = [] ∧ k = (100 - j, 8) ∧ a.toInt = 2478 + 6 * (j : Int) ∧ j < (M0.1 201 2).toNatClampNeg ∧ q_bo b (q_Rm M0 pl w p y j) ∧ i = q_is M0 pl w y j ∧ M = M0)
    | 119 => some ([0, 1, 2, 3, 4, 5, 6, 8], fun k L st M => ∃ (b a i : Int32) (j : Nat), L = [(0, .ref 200), (1, .int pl), (2, .int w), (3, .int p), (4, .int y), (5, .int b), (6, .int a), (8, .int i)] ∧ st = [] ∧ k = (100 - j, 7) ∧ a.toInt = 2478 + 6 * (j : Int) ∧ j < (M0.1 201 2).toNatClampNeg ∧ q_bo b (q_Rm M0 pl w p y j) ∧ i = q_may M0 pl w p y j ∧ M = M0)
    | 165 => some ([0, 1, 2, 4, 5], fun k L st M => ∃ b : Int32, L = [(0, .ref 200), (1, .int pl), (2, .int w), (4, .int y), (5, .int b)] ∧ st = [] ∧ k = (0, 9) ∧ q_bo b (q_Rm M0 pl w p y (M0.1 201 2).toNatClampNeg) ∧ M = M0)
    | 218 => some ([0, 2, 5, 6], fun k L st M => ∃ b i : Int32, L = [(0, .ref 200), (2, .int w), (5, .int b), (6, .int i)] ∧ st = [] ∧ k = (0, 8) ∧ q_bo b (q_Rm M0 pl w p y (M0.1 201 2).toNatClampNeg) ∧ i = q_trs M0 pl w p y ∧ M = M0)
    | _ => none)
  | _ => none
set_option maxRecDepth 100000 in
set_option maxHeartbeats 4000000 in
theorem metX8_inForceE : am_Met yX8_inForce cX8_inForce 9 (some .int) (1) (25) TE8_inForce := by
  refine am_met (own := RX8) (by decide +kernel) rfl kX8_inForce koX8_inForce 100 JE8_inForce ?_ ?_
  · intro live as M Ret h
    unfold TE8_inForce at h
    split at h
    · next n pl w p y =>
      refine ⟨Nat.le_of_ble_eq_true rfl, ?_⟩
      change am_wp _ _ _ _ [(0, Value.ref n), (1, Value.int pl), (2, Value.int w), (3, Value.int p), (4, Value.int y)] _ _
      obtain ⟨hmn, rfl, hw, hp, hR, h⟩ := h
      repeat' (first | apply And.intro | exact rfl | intro hx | (refine Exists.intro _ (And.intro rfl ?_)))
      all_goals try first | (with_reducible change am_tI _ _) | (change Ret _ _) | (change Ret _ _ _) | (change Exists _)
      all_goals try dsimp only at *
      all_goals try exact absurd ‹(1000 : Int64) = 0› (by decide)
      exact ⟨_, _, _, 0, rfl, rfl, rfl, rfl, Nat.zero_le _, rfl, rfl⟩
    · exact h.elim
  · intro live as M0 Ret h k pc I hI L st M hi
    unfold TE8_inForce at h
    split at h
    · next n pl w p y =>
      obtain ⟨hmn, rfl, hw, hp, hR, h⟩ := h
      have hmn2 := hmn
      obtain ⟨i1, i2, rfl⟩ := hmn2
      have l201 : am_len 201 = 3760 := rfl
      have p1 := hp.1
      have p2 := hp.2
      have n2 : 0 ≤ (M0.1 201 (Int32.toNatClampNeg 2)).toInt ∧ (M0.1 201 (Int32.toNatClampNeg 2)).toInt ≤ 60 := hR.n2
      have cn : ((M0.1 201 2).toNatClampNeg : Int) = (M0.1 201 (Int32.toNatClampNeg 2)).toInt := i_clamp n2.1
      have e6 := r_mul (c := 6) (x := M0.1 201 (Int32.toNatClampNeg 2)) ⟨by decide, by decide⟩ ⟨n2.1, by omega⟩
      simp only [Int32.reduceToInt] at e6
      have e24 := r_off (c := 2478) (x := 6 * M0.1 201 (Int32.toNatClampNeg 2)) ⟨by decide, by decide⟩ ⟨by omega, by omega⟩
      simp only [e6, Int32.reduceToInt] at e24
      have e10 := r_off (c := 10) (x := p) ⟨by decide, by decide⟩ ⟨by omega, by omega⟩
      simp only [Int32.reduceToInt] at e10
      have c10 : (10 + p).toNatClampNeg = 10 + p.toNatClampNeg := by
        have c1 := i_clamp (x := 10 + p) (by omega)
        have c2 := i_clamp p1
        omega
      have aa : ∀ {a c : Int32} {j k : Nat}, a.toInt = 2478 + 6 * (j : Int) → j < 60 → c.toInt = (k : Int) → k < 6 → (a + c).toInt = 2478 + 6 * (j : Int) + k ∧ (a + c).toNatClampNeg = 2478 + (6 * j + k) := fun {a c j k} h1 h2 h3 h4 => by
        have e := i_add (x := a) (y := c) (by omega) (by omega)
        have c1 := i_clamp (x := a + c) (by omega)
        omega
      have a0 : ∀ {a : Int32} {j : Nat}, a.toInt = 2478 + 6 * (j : Int) → a.toNatClampNeg = 2478 + 6 * j := fun {a j} h1 => by
        have c1 := i_clamp (x := a) (by omega)
        omega
      change (match pc with | 8 => _ | 71 => _ | 119 => _ | 165 => _ | 218 => _ | _ => none) = _ at hI
      split at hI
      · cases hI
        obtain ⟨b, a, j, rfl, rfl, rfl, ea, hj, hb, rfl⟩ := hi
        by_cases hz : 2478 + 6 * M.1 201 (Int32.toNatClampNeg 2) ≤ a
        · have hz2 := hz
          simp only [i_le] at hz2
          have ej : j = (M.1 201 2).toNatClampNeg := by omega
          rw [ej] at hb
          repeat' (first | apply And.intro | exact rfl | (intro hx; with_reducible exact absurd hz hx) | (intro hx; exact absurd hx (by decide)) | (intro hx; exact absurd (by decide) hx) | decide | intro hx | (refine Exists.intro _ (And.intro rfl ?_)))
          all_goals try first | (with_reducible change am_tI _ _) | (change Ret _ _) | (change Ret _ _ _) | (change Exists _)
          all_goals try dsimp only at *
          all_goals try exact absurd ‹(1000 : Int64) = 0› (by decide)
          all_goals first
            | (show _ < _; simp only [l201]; decide)
            | exact ⟨_, am_lt_l (by omega), _, rfl, rfl, rfl, hb, rfl⟩
        · have hz2 := hz
          simp only [i_le] at hz2
          have j60 : j < 60 := by omega
          have hj2 : j < (M.1 201 2).toNatClampNeg := by omega
          obtain ⟨x1, y1⟩ := aa (c := 1) (k := 1) ea j60 rfl (by decide)
          obtain ⟨x3, y3⟩ := aa (c := 3) (k := 3) ea j60 rfl (by decide)
          have y0 := a0 ea
          have f0 : M.1 201 a.toNatClampNeg = r_A M (6 * j) := by rw [y0]; rfl
          have f1 : M.1 201 (a + 1).toNatClampNeg = r_A M (6 * j + 1) := by rw [y1]; rfl
          have f3 : M.1 201 (a + 3).toNatClampNeg = r_A M (6 * j + 3) := by rw [y3]; rfl
          by_cases z1 : M.1 201 a.toNatClampNeg = pl
          · by_cases z2 : M.1 201 (a + 1).toNatClampNeg = w
            · by_cases z3 : y < M.1 201 (a + 3).toNatClampNeg
              · have e : (0 : Int32) = q_is M pl w y j := (if_neg (fun q => by have q3 := q.2.2; simp only [i_lt, f3] at z3; omega)).symm
                repeat' (first | apply And.intro | exact rfl | (intro hx; with_reducible exact absurd hx hz) | (intro hx; with_reducible exact absurd z1 hx) | (intro hx; with_reducible exact absurd z2 hx) | (intro hx; with_reducible exact absurd z3 hx) | (intro hx; exact absurd hx (by decide)) | (intro hx; exact absurd (by decide) hx) | decide | intro hx | (refine Exists.intro _ (And.intro rfl ?_)))
                all_goals try first | (with_reducible change am_tI _ _) | (change Ret _ _) | (change Ret _ _ _) | (change Exists _)
                all_goals try dsimp only at *
                all_goals try exact absurd ‹(1000 : Int64) = 0› (by decide)
                all_goals first
                  | (show _ < _; simp only [l201]; decide)
                  | omega
                  | (rw [l201]; omega)
                  | exact ⟨_, am_lt_r (by omega), _, _, _, j, rfl, rfl, rfl, ea, hj2, hb, e, rfl⟩
              · have e : (1 : Int32) = q_is M pl w y j := (if_pos ⟨by rw [← f0]; exact z1, by rw [← f1]; exact z2, by simp only [i_lt, f3] at z3; omega⟩).symm
                repeat' (first | apply And.intro | exact rfl | (intro hx; with_reducible exact absurd hx hz) | (intro hx; with_reducible exact absurd hx z3) | (intro hx; with_reducible exact absurd z1 hx) | (intro hx; with_reducible exact absurd z2 hx) | (intro hx; exact absurd hx (by decide)) | (intro hx; exact absurd (by decide) hx) | decide | intro hx | (refine Exists.intro _ (And.intro rfl ?_)))
                all_goals try first | (with_reducible change am_tI _ _) | (change Ret _ _) | (change Ret _ _ _) | (change Exists _)
                all_goals try dsimp only at *
                all_goals try exact absurd ‹(1000 : Int64) = 0› (by decide)
                all_goals first
                  | (show _ < _; simp only [l201]; decide)
                  | omega
                  | (rw [l201]; omega)
                  | exact ⟨_, am_lt_r (by omega), _, _, _, j, rfl, rfl, rfl, ea, hj2, hb, e, rfl⟩
            · have e : (0 : Int32) = q_is M pl w y j := (if_neg (fun q => z2 (by rw [f1]; exact q.2.1))).symm
              repeat' (first | apply And.intro | exact rfl | (intro hx; with_reducible exact absurd hx hz) | (intro hx; with_reducible exact absurd hx z2) | (intro hx; with_reducible exact absurd z1 hx) | (intro hx; exact absurd hx (by decide)) | (intro hx; exact absurd (by decide) hx) | decide | intro hx | (refine Exists.intro _ (And.intro rfl ?_)))
              all_goals try first | (with_reducible change am_tI _ _) | (change Ret _ _) | (change Ret _ _ _) | (change Exists _)
              all_goals try dsimp only at *
              all_goals try exact absurd ‹(1000 : Int64) = 0› (by decide)
              all_goals first
                | (show _ < _; simp only [l201]; decide)
                | omega
                | (rw [l201]; omega)
                | exact ⟨_, am_lt_r (by omega), _, _, _, j, rfl, rfl, rfl, ea, hj2, hb, e, rfl⟩
          · have e : (0 : Int32) = q_is M pl w y j := (if_neg (fun q => z1 (by rw [f0]; exact q.1))).symm
            repeat' (first | apply And.intro | exact rfl | (intro hx; with_reducible exact absurd hx hz) | (intro hx; with_reducible exact absurd hx z1) | (intro hx; exact absurd hx (by decide)) | (intro hx; exact absurd (by decide) hx) | decide | intro hx | (refine Exists.intro _ (And.intro rfl ?_)))
            all_goals try first | (with_reducible change am_tI _ _) | (change Ret _ _) | (change Ret _ _ _) | (change Exists _)
            all_goals try dsimp only at *
            all_goals try exact absurd ‹(1000 : Int64) = 0› (by decide)
            all_goals first
              | (show _ < _; simp only [l201]; decide)
              | omega
              | (rw [l201]; omega)
              | exact ⟨_, am_lt_r (by omega), _, _, _, j, rfl, rfl, rfl, ea, hj2, hb, e, rfl⟩
      · cases hI
        obtain ⟨b, a, i, j, rfl, rfl, rfl, ea, hj, hb, hi, rfl⟩ := hi
        have j60 : j < 60 := by omega
        obtain ⟨x4, y4⟩ := aa (c := 4) (k := 4) ea j60 rfl (by decide)
        obtain ⟨x5, y5⟩ := aa (c := 5) (k := 5) ea j60 rfl (by decide)
        have f4 : M.1 201 (a + 4).toNatClampNeg = r_A M (6 * j + 4) := by rw [y4]; rfl
        have f5 : M.1 201 (a + 5).toNatClampNeg = r_A M (6 * j + 5) := by rw [y5]; rfl
        by_cases hC : r_A M (6 * j) = pl ∧ r_A M (6 * j + 1) = w ∧ (r_A M (6 * j + 3)).toInt ≤ y.toInt
        · rw [show q_is M pl w y j = 1 from if_pos hC] at hi
          subst hi
          by_cases zc : (M.1 201 (a + 4).toNatClampNeg).toInt64 ≤ (M.1 201 (10 + p).toNatClampNeg).toInt64 ∧ (M.1 201 (10 + p).toNatClampNeg).toInt64 ≤ (M.1 201 (a + 5).toNatClampNeg).toInt64
          · have q0 : ¬ ((if (M.1 201 (a + 4).toNatClampNeg).toInt64 ≤ (M.1 201 (10 + p).toNatClampNeg).toInt64 ∧ (M.1 201 (10 + p).toNatClampNeg).toInt64 ≤ (M.1 201 (a + 5).toNatClampNeg).toInt64 then (1 : Int32) else 0) = 0) := by rw [if_pos zc]; decide
            have e : (1 : Int32) = q_may M pl w p y j := by
              simp only [j_le, Int32.toInt_toInt64, f4, f5, c10] at zc
              exact (if_pos ⟨decide_eq_true ⟨hC.1, hC.2.1, zc.1, zc.2⟩, hC.2.2⟩).symm
            repeat' (first | apply And.intro | exact rfl | (intro hx; with_reducible exact absurd hx q0) | (intro hx; exact absurd hx (by decide)) | (intro hx; exact absurd (by decide) hx) | decide | intro hx | (refine Exists.intro _ (And.intro rfl ?_)))
            all_goals try first | (with_reducible change am_tI _ _) | (change Ret _ _) | (change Ret _ _ _) | (change Exists _)
            all_goals try dsimp only at *
            all_goals try exact absurd ‹(1000 : Int64) = 0› (by decide)
            all_goals first
              | omega
              | (rw [l201]; omega)
              | exact ⟨_, am_lt_r (by omega), _, _, _, j, rfl, rfl, rfl, ea, hj, hb, e, rfl⟩
          · have q0 : (if (M.1 201 (a + 4).toNatClampNeg).toInt64 ≤ (M.1 201 (10 + p).toNatClampNeg).toInt64 ∧ (M.1 201 (10 + p).toNatClampNeg).toInt64 ≤ (M.1 201 (a + 5).toNatClampNeg).toInt64 then (1 : Int32) else 0) = 0 := if_neg zc
            have e : (0 : Int32) = q_may M pl w p y j := by
              simp only [j_le, Int32.toInt_toInt64, f4, f5, c10] at zc
              exact (if_neg (fun z => zc (of_decide_eq_true z.1).2.2)).symm
            repeat' (first | apply And.intro | exact rfl | (intro hx; with_reducible exact absurd q0 hx) | (intro hx; exact absurd hx (by decide)) | (intro hx; exact absurd (by decide) hx) | decide | intro hx | (refine Exists.intro _ (And.intro rfl ?_)))
            all_goals try first | (with_reducible change am_tI _ _) | (change Ret _ _) | (change Ret _ _ _) | (change Exists _)
            all_goals try dsimp only at *
            all_goals try exact absurd ‹(1000 : Int64) = 0› (by decide)
            all_goals first
              | omega
              | (rw [l201]; omega)
              | exact ⟨_, am_lt_r (by omega), _, _, _, j, rfl, rfl, rfl, ea, hj, hb, e, rfl⟩
        · rw [show q_is M pl w y j = 0 from if_neg hC] at hi
          subst hi
          have e : (0 : Int32) = q_may M pl w p y j := (if_neg (fun z => hC ⟨(of_decide_eq_true z.1).1, (of_decide_eq_true z.1).2.1, z.2⟩)).symm
          repeat' (first | apply And.intro | exact rfl | (intro hx; exact absurd hx (by decide)) | (intro hx; exact absurd (by decide) hx) | decide | intro hx | (refine Exists.intro _ (And.intro rfl ?_)))
          all_goals try first | (with_reducible change am_tI _ _) | (change Ret _ _) | (change Ret _ _ _) | (change Exists _)
          all_goals try dsimp only at *
          all_goals try exact absurd ‹(1000 : Int64) = 0› (by decide)
          all_goals first
            | omega
            | (rw [l201]; omega)
            | exact ⟨_, am_lt_r (by omega), _, _, _, j, rfl, rfl, rfl, ea, hj, hb, e, rfl⟩
      · cases hI
        obtain ⟨b, a, i, j, rfl, rfl, rfl, ea, hj, hb, hi, rfl⟩ := hi
        have j60 : j < 60 := by omega
        obtain ⟨x3, y3⟩ := aa (c := 3) (k := 3) ea j60 rfl (by decide)
        have f3 : M.1 201 (a + 3).toNatClampNeg = r_A M (6 * j + 3) := by rw [y3]; rfl
        have x6 := r_off (c := a) (x := 6) ⟨by omega, by omega⟩ ⟨by decide, by decide⟩
        simp only [Int32.reduceToInt] at x6
        by_cases hC : q_mt (r_A M) (M.1 201 (10 + p.toNatClampNeg)) pl w j = true ∧ (r_A M (6 * j + 3)).toInt ≤ y.toInt
        · rw [show q_may M pl w p y j = 1 from if_pos hC] at hi
          subst hi
          cases ho : q_Rm M pl w p y j with
          | none =>
            rw [ho] at hb
            have hb2 := hb.n
            subst hb2
            have e : q_bo a (q_Rm M pl w p y (j + 1)) := by
              rw [show q_Rm M pl w p y (j + 1) = some j from q_R_s2 hC ho]
              exact ea
            repeat' (first | apply And.intro | exact rfl | (intro hx; exact absurd hx (by decide)) | (intro hx; exact absurd (by decide) hx) | decide | intro hx | (refine Exists.intro _ (And.intro rfl ?_)))
            all_goals try first | (with_reducible change am_tI _ _) | (change Ret _ _) | (change Ret _ _ _) | (change Exists _)
            all_goals try dsimp only at *
            all_goals try exact absurd ‹(1000 : Int64) = 0› (by decide)
            all_goals first
              | omega
              | (rw [l201]; omega)
              | exact ⟨_, am_lt_l (by omega), _, _, j + 1, rfl, rfl, rfl, by omega, by omega, e, rfl⟩
          | some b' =>
            rw [ho] at hb
            have hb2 := hb.s
            have hlt := (q_R_lt ho).1
            obtain ⟨u3, v3⟩ := aa (c := 3) (k := 3) hb2 (by omega) rfl (by decide)
            have g3 : M.1 201 (b + 3).toNatClampNeg = r_A M (6 * b' + 3) := by rw [v3]; rfl
            have hn : ¬ b < 0 := fun q => by simp only [i_lt, Int32.reduceToInt] at q; omega
            by_cases z : M.1 201 (a + 3).toNatClampNeg < M.1 201 (b + 3).toNatClampNeg
            · have e : q_bo b (q_Rm M pl w p y (j + 1)) := by
                rw [show q_Rm M pl w p y (j + 1) = some b' from q_R_s4 ho (by simp only [i_lt, f3, g3] at z; omega)]
                exact hb2
              repeat' (first | apply And.intro | exact rfl | (intro hx; with_reducible exact absurd hx hn) | (intro hx; with_reducible exact absurd z hx) | (intro hx; exact absurd hx (by decide)) | (intro hx; exact absurd (by decide) hx) | decide | intro hx | (refine Exists.intro _ (And.intro rfl ?_)))
              all_goals try first | (with_reducible change am_tI _ _) | (change Ret _ _) | (change Ret _ _ _) | (change Exists _)
              all_goals try dsimp only at *
              all_goals try exact absurd ‹(1000 : Int64) = 0› (by decide)
              all_goals first
                | omega
                | (rw [l201]; omega)
                | exact ⟨_, am_lt_l (by omega), _, _, j + 1, rfl, rfl, rfl, by omega, by omega, e, rfl⟩
            · have e : q_bo a (q_Rm M pl w p y (j + 1)) := by
                rw [show q_Rm M pl w p y (j + 1) = some j from q_R_s3 hC ho (by simp only [i_lt, f3, g3] at z; omega)]
                exact ea
              repeat' (first | apply And.intro | exact rfl | (intro hx; with_reducible exact absurd hx hn) | (intro hx; with_reducible exact absurd hx z) | (intro hx; exact absurd hx (by decide)) | (intro hx; exact absurd (by decide) hx) | decide | intro hx | (refine Exists.intro _ (And.intro rfl ?_)))
              all_goals try first | (with_reducible change am_tI _ _) | (change Ret _ _) | (change Ret _ _ _) | (change Exists _)
              all_goals try dsimp only at *
              all_goals try exact absurd ‹(1000 : Int64) = 0› (by decide)
              all_goals first
                | omega
                | (rw [l201]; omega)
                | exact ⟨_, am_lt_l (by omega), _, _, j + 1, rfl, rfl, rfl, by omega, by omega, e, rfl⟩
        · rw [show q_may M pl w p y j = 0 from if_neg hC] at hi
          subst hi
          have e : q_bo b (q_Rm M pl w p y (j + 1)) := by
            rw [show q_Rm M pl w p y (j + 1) = q_Rm M pl w p y j from q_R_s1 hC]
            exact hb
          repeat' (first | apply And.intro | exact rfl | (intro hx; exact absurd hx (by decide)) | (intro hx; exact absurd (by decide) hx) | decide | intro hx | (refine Exists.intro _ (And.intro rfl ?_)))
          all_goals try first | (with_reducible change am_tI _ _) | (change Ret _ _) | (change Ret _ _ _) | (change Exists _)
          all_goals try dsimp only at *
          all_goals try exact absurd ‹(1000 : Int64) = 0› (by decide)
          all_goals first
            | omega
            | (rw [l201]; omega)
            | exact ⟨_, am_lt_l (by omega), _, _, j + 1, rfl, rfl, rfl, by omega, by omega, e, rfl⟩
      · cases hI
        obtain ⟨b, rfl, rfl, rfl, hb, rfl⟩ := hi
        by_cases z1 : M.1 200 3 = pl
        · by_cases z2 : M.1 200 4 = w
          · by_cases z3 : y < M.1 200 6
            · have e : (0 : Int32) = q_trs M pl w p y := (if_neg (fun q => by have q3 := q.2.2.1; simp only [i_lt] at z3; omega)).symm
              repeat' (first | apply And.intro | exact rfl | (intro hx; with_reducible exact absurd z1 hx) | (intro hx; with_reducible exact absurd z2 hx) | (intro hx; with_reducible exact absurd z3 hx) | (intro hx; exact absurd hx (by decide)) | (intro hx; exact absurd (by decide) hx) | decide | intro hx | (refine Exists.intro _ (And.intro rfl ?_)))
              all_goals try first | (with_reducible change am_tI _ _) | (change Ret _ _) | (change Ret _ _ _) | (change Exists _)
              all_goals try dsimp only at *
              all_goals try exact absurd ‹(1000 : Int64) = 0› (by decide)
              all_goals exact ⟨_, am_lt_r (by omega), _, _, rfl, rfl, rfl, hb, e, rfl⟩
            · cases ho : q_Rm M pl w p y (M.1 201 2).toNatClampNeg with
              | none =>
                have hb0 := hb
                rw [ho] at hb0
                have hb2 := hb0.n
                subst hb2
                have e : (1 : Int32) = q_trs M pl w p y := (if_pos ⟨z1, z2, by simp only [i_lt] at z3; omega, by rw [ho]; rfl⟩).symm
                repeat' (first | apply And.intro | exact rfl | (intro hx; with_reducible exact absurd hx z3) | (intro hx; with_reducible exact absurd z1 hx) | (intro hx; with_reducible exact absurd z2 hx) | (intro hx; exact absurd hx (by decide)) | (intro hx; exact absurd (by decide) hx) | decide | intro hx | (refine Exists.intro _ (And.intro rfl ?_)))
                all_goals try first | (with_reducible change am_tI _ _) | (change Ret _ _) | (change Ret _ _ _) | (change Exists _)
                all_goals try dsimp only at *
                all_goals try exact absurd ‹(1000 : Int64) = 0› (by decide)
                all_goals exact ⟨_, am_lt_r (by omega), _, _, rfl, rfl, rfl, hb, e, rfl⟩
              | some b' =>
                have hb0 := hb
                rw [ho] at hb0
                have hb2 := hb0.s
                have hlt := (q_R_lt ho).1
                obtain ⟨u3, v3⟩ := aa (c := 3) (k := 3) hb2 (by omega) rfl (by decide)
                have g3 : M.1 201 (b + 3).toNatClampNeg = r_A M (6 * b' + 3) := by rw [v3]; rfl
                have hn : ¬ b < 0 := fun q => by simp only [i_lt, Int32.reduceToInt] at q; omega
                by_cases z : M.1 200 6 < M.1 201 (b + 3).toNatClampNeg
                · have e : (0 : Int32) = q_trs M pl w p y := (if_neg (fun q => by
                    have q4 := q.2.2.2
                    rw [ho] at q4
                    have q5 : (r_A M (6 * b' + 3)).toInt ≤ (M.1 200 6).toInt := of_decide_eq_true q4
                    simp only [i_lt, g3] at z
                    omega)).symm
                  repeat' (first | apply And.intro | exact rfl | (intro hx; with_reducible exact absurd hx z3) | (intro hx; with_reducible exact absurd hx hn) | (intro hx; with_reducible exact absurd z1 hx) | (intro hx; with_reducible exact absurd z2 hx) | (intro hx; with_reducible exact absurd z hx) | (intro hx; exact absurd hx (by decide)) | (intro hx; exact absurd (by decide) hx) | decide | intro hx | (refine Exists.intro _ (And.intro rfl ?_)))
                  all_goals try first | (with_reducible change am_tI _ _) | (change Ret _ _) | (change Ret _ _ _) | (change Exists _)
                  all_goals try dsimp only at *
                  all_goals try exact absurd ‹(1000 : Int64) = 0› (by decide)
                  all_goals first
                    | omega
                    | (rw [l201]; omega)
                    | exact ⟨_, am_lt_r (by omega), _, _, rfl, rfl, rfl, hb, e, rfl⟩
                · have e : (1 : Int32) = q_trs M pl w p y := (if_pos ⟨z1, z2, by simp only [i_lt] at z3; omega, by rw [ho]; exact decide_eq_true (by simp only [i_lt, g3] at z; omega)⟩).symm
                  repeat' (first | apply And.intro | exact rfl | (intro hx; with_reducible exact absurd hx z3) | (intro hx; with_reducible exact absurd hx hn) | (intro hx; with_reducible exact absurd hx z) | (intro hx; with_reducible exact absurd z1 hx) | (intro hx; with_reducible exact absurd z2 hx) | (intro hx; exact absurd hx (by decide)) | (intro hx; exact absurd (by decide) hx) | decide | intro hx | (refine Exists.intro _ (And.intro rfl ?_)))
                  all_goals try first | (with_reducible change am_tI _ _) | (change Ret _ _) | (change Ret _ _ _) | (change Exists _)
                  all_goals try dsimp only at *
                  all_goals try exact absurd ‹(1000 : Int64) = 0› (by decide)
                  all_goals first
                    | omega
                    | (rw [l201]; omega)
                    | exact ⟨_, am_lt_r (by omega), _, _, rfl, rfl, rfl, hb, e, rfl⟩
          · have e : (0 : Int32) = q_trs M pl w p y := (if_neg (fun q => z2 q.2.1)).symm
            repeat' (first | apply And.intro | exact rfl | (intro hx; with_reducible exact absurd hx z2) | (intro hx; with_reducible exact absurd z1 hx) | (intro hx; exact absurd hx (by decide)) | (intro hx; exact absurd (by decide) hx) | decide | intro hx | (refine Exists.intro _ (And.intro rfl ?_)))
            all_goals try first | (with_reducible change am_tI _ _) | (change Ret _ _) | (change Ret _ _ _) | (change Exists _)
            all_goals try dsimp only at *
            all_goals try exact absurd ‹(1000 : Int64) = 0› (by decide)
            all_goals exact ⟨_, am_lt_r (by omega), _, _, rfl, rfl, rfl, hb, e, rfl⟩
        · have e : (0 : Int32) = q_trs M pl w p y := (if_neg (fun q => z1 q.1)).symm
          repeat' (first | apply And.intro | exact rfl | (intro hx; with_reducible exact absurd hx z1) | (intro hx; exact absurd hx (by decide)) | (intro hx; exact absurd (by decide) hx) | decide | intro hx | (refine Exists.intro _ (And.intro rfl ?_)))
          all_goals try first | (with_reducible change am_tI _ _) | (change Ret _ _) | (change Ret _ _ _) | (change Exists _)
          all_goals try dsimp only at *
          all_goals try exact absurd ‹(1000 : Int64) = 0› (by decide)
          all_goals exact ⟨_, am_lt_r (by omega), _, _, rfl, rfl, rfl, hb, e, rfl⟩
      · cases hI
        obtain ⟨b, i, rfl, rfl, rfl, hb, hi, rfl⟩ := hi
        by_cases hC : M.1 200 3 = pl ∧ M.1 200 4 = w ∧ (M.1 200 6).toInt ≤ y.toInt ∧ q_le (r_A M) (q_Rm M pl w p y (M.1 201 2).toNatClampNeg) (M.1 200 6) = true
        · rw [show q_trs M pl w p y = 1 from if_pos hC] at hi
          subst hi
          rw [show r_inF M pl w p y = M.1 200 5 from if_pos hC] at h
          repeat' (first | apply And.intro | exact rfl | (intro hx; exact absurd hx (by decide)) | (intro hx; exact absurd (by decide) hx) | decide | intro hx | (refine Exists.intro _ (And.intro rfl ?_)))
          all_goals try first | (with_reducible change am_tI _ _) | (change Ret _ _) | (change Ret _ _ _) | (change Exists _)
          all_goals try dsimp only at *
          all_goals try exact absurd ‹(1000 : Int64) = 0› (by decide)
          all_goals exact h
        · rw [show q_trs M pl w p y = 0 from if_neg hC] at hi
          subst hi
          rw [show r_inF M pl w p y = q_F (r_A M) (M.1 201 2).toNatClampNeg (M.1 201 (10 + p.toNatClampNeg)) pl w y.toInt from if_neg hC] at h
          unfold q_F at h
          cases ho : q_R (r_A M) (M.1 201 (10 + p.toNatClampNeg)) pl w y.toInt (M.1 201 2).toNatClampNeg with
          | none =>
            rw [show q_Rm M pl w p y (M.1 201 2).toNatClampNeg = none from ho] at hb
            have hb2 := hb.n
            subst hb2
            rw [ho] at h
            repeat' (first | (with_reducible exact hw) | apply And.intro | exact rfl | (intro hx; exact absurd hx (by decide)) | (intro hx; exact absurd (by decide) hx) | decide | intro hx | (refine Exists.intro _ (And.intro rfl ?_)))
            all_goals try first | (with_reducible change am_tI _ _) | (change Ret _ _) | (change Ret _ _ _) | (change Exists _)
            all_goals try dsimp only at *
            all_goals try exact absurd ‹(1000 : Int64) = 0› (by decide)
            all_goals exact h
          | some b' =>
            rw [show q_Rm M pl w p y (M.1 201 2).toNatClampNeg = some b' from ho] at hb
            have hb2 := hb.s
            have hlt := (q_R_lt ho).1
            rw [ho] at h
            obtain ⟨u2, v2⟩ := aa (c := 2) (k := 2) hb2 (by omega) rfl (by decide)
            have g2 : M.1 201 (b + 2).toNatClampNeg = r_A M (6 * b' + 2) := by rw [v2]; rfl
            have hn : 0 ≤ b := by simp only [i_le, Int32.reduceToInt]; omega
            have h : Ret (some (.int (r_A M (6 * b' + 2)))) M := h
            rw [← g2] at h
            repeat' (first | apply And.intro | exact rfl | (intro hx; with_reducible exact absurd hn hx) | (intro hx; exact absurd hx (by decide)) | (intro hx; exact absurd (by decide) hx) | decide | intro hx | (refine Exists.intro _ (And.intro rfl ?_)))
            all_goals try first | (with_reducible change am_tI _ _) | (change Ret _ _) | (change Ret _ _ _) | (change Exists _)
            all_goals try dsimp only at *
            all_goals try exact absurd ‹(1000 : Int64) = 0› (by decide)
            all_goals first
              | omega
              | (rw [l201]; omega)
              | exact h
      · cases hI
    · exact h.elim
