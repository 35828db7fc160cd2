/-! exact: planOf, force: class and reference answer alike -/
theorem q_mt_cg {A A' : Nat → Int32} {bg pl w : Int32} {i : Nat} (h : ∀ k, k < 6 → A' (6 * i + k) = A (6 * i + k)) : q_mt A' bg pl w i = q_mt A bg pl w i := by
  unfold q_mt
  rw [h 1 (by decide), h 4 (by decide), h 5 (by decide), show A' (6 * i) = A (6 * i) from h 0 (by decide)]
theorem q_R_cg {A A' : Nat → Int32} {bg pl w : Int32} {y : Int} : ∀ {n : Nat}, (∀ k, k < 6 * n → A' k = A k) → q_R A' bg pl w y n = q_R A bg pl w y n
  | 0, _ => rfl
  | n + 1, h => by
    have ih := q_R_cg (A := A) (A' := A') (bg := bg) (pl := pl) (w := w) (y := y) (n := n) (fun k hk => h k (by omega))
    have e := q_mt_cg (A := A) (A' := A') (bg := bg) (pl := pl) (w := w) (i := n) (fun k hk => h _ (by omega))
    have e3 := h (6 * n + 3) (by omega)
    by_cases hm : q_mt A bg pl w n = true ∧ (A (6 * n + 3)).toInt ≤ y
    · have hm' : q_mt A' bg pl w n = true ∧ (A' (6 * n + 3)).toInt ≤ y := by rw [e, e3]; exact hm
      cases ho : q_R A bg pl w y n with
      | none =>
        rw [ho] at ih
        rw [q_R_s2 hm ho, q_R_s2 hm' ih]
      | some b =>
        rw [ho] at ih
        have hlt := (q_R_lt ho).1
        have e4 := h (6 * b + 3) (by omega)
        by_cases h3 : (A (6 * b + 3)).toInt ≤ (A (6 * n + 3)).toInt
        · rw [q_R_s3 hm ho h3, q_R_s3 hm' ih (by rw [e3, e4]; exact h3)]
        · rw [q_R_s4 ho h3, q_R_s4 ih (by rw [e3, e4]; exact h3)]
    · rw [q_R_s1 hm, q_R_s1 (A := A') (by rw [e, e3]; exact hm)]
      exact ih
theorem q_F_cg {A A' : Nat → Int32} {bg pl w : Int32} {y : Int} {n : Nat} (h : ∀ k, k < 6 * n → A' k = A k) : q_F A' n bg pl w y = q_F A n bg pl w y := by
  unfold q_F
  rw [q_R_cg h]
  cases ho : q_R A bg pl w y n with
  | none => rfl
  | some b =>
    have hlt := (q_R_lt ho).1
    exact h _ (by omega)
section LIX
variable {i1 i2 : Bool} {M : am_M}
theorem LI.acts (h : LI i1 i2 M) {k : Nat} (hk : k < 6 * (M.1 201 2).toNatClampNeg) : M.1 32 k = M.1 201 (2478 + k) := by
  obtain ⟨-, -, e, q⟩ := h.b.r
  have q1 := q k (by rw [show M.1 (20 + 11) 2 = M.1 201 2 from e]; exact hk)
  rw [Nat.zero_add] at q1
  exact q1
theorem LI.cA (h : LI i1 i2 M) : c_A M := by
  have n2 := h.n2
  have e2 := h.e2
  have c := i_clamp n2.1
  refine ⟨(), h.w.1, ⟨by rw [e2]; exact n2.1, by rw [e2]; omega⟩, fun i hi => ?_⟩
  rw [e2] at hi
  rw [h.acts (k := 6 * i) (by omega), h.acts (k := 6 * i + 1) (by omega), h.acts (k := 6 * i + 3) (by omega)]
  have v0 := (h.v (k := 2478 + 6 * i) (by omega)).a13 ⟨by omega, by omega, by omega⟩
  have v1 := (h.v (k := 2478 + (6 * i + 1)) (by omega)).a14 ⟨by omega, by omega, by omega⟩
  have v3 := (h.v (k := 2478 + (6 * i + 3)) (by omega)).a16 ⟨by omega, by omega, by omega⟩
  exact ⟨⟨v0.1, by omega⟩, ⟨v1.1, by omega⟩, v3.1⟩
theorem LI.bg (h : LI i1 i2 M) {p : Int32} (hp : am_in p 12) : M.1 22 p.toNatClampNeg = M.1 201 (10 + p.toNatClampNeg) := by
  have e := h.e (o := 2) (k0 := 0) (b0 := 10) (n := 12) (by decide) (k := p.toNatClampNeg) (g_cl hp)
  rw [Nat.zero_add] at e
  exact e
theorem LI.F (h : LI i1 i2 M) {pl w p : Int32} (hp : am_in p 12) (y : Int) : q_F (M.1 32) (M.1 31 2).toNatClampNeg (M.1 22 p.toNatClampNeg) pl w y = q_F (r_A M) (M.1 201 2).toNatClampNeg (M.1 201 (10 + p.toNatClampNeg)) pl w y := by
  rw [h.e2, h.bg hp]
  exact q_F_cg (fun k hk => h.acts hk)
theorem LI.inF (h : LI i1 i2 M) {pl w p y : Int32} (hpl : 0 ≤ pl.toInt) : r_inF M pl w p y = q_F (r_A M) (M.1 201 2).toNatClampNeg (M.1 201 (10 + p.toNatClampNeg)) pl w y.toInt := by
  unfold r_inF
  rw [if_neg (fun q => by have q1 := q.1; rw [h.n3t] at q1; subst q1; exact absurd hpl (by decide))]
theorem LI.pl (h : LI i1 i2 M) {l y : Int32} (hl : am_in l 30) (hl2 : l.toInt < (M.1 201 1).toInt) (hy : am_in y 40) : M.1 37 (l * 40 + y).toNatClampNeg = r_pl M l y := by
  have f := x_40 (p := l) (y := y) ⟨hl.1, by have := hl.2; omega⟩ ⟨hy.1, by have := hy.2; omega⟩
  have l1 := hl.1
  have y1 := hy.1
  have y2 := hy.2
  have c1 := i_clamp (x := l * 40 + y) (by omega)
  have c2 := i_clamp l1
  have c3 := i_clamp y1
  obtain ⟨-, -, -, -, h4⟩ := h.b.l
  have q := h4 l.toNatClampNeg (g_cl hl) (by show _ < (M.1 201 (0 + 1)).toInt; rw [Nat.zero_add]; omega) y.toNatClampNeg (g_cl hy)
  rw [show (l * 40 + y).toNatClampNeg = 40 * l.toNatClampNeg + y.toNatClampNeg by omega]
  have hf : (fun k => M.1 201 (0 + k)) = M.1 201 := funext fun k => by rw [Nat.zero_add]
  rw [hf] at q
  unfold r_pl
  rw [if_neg (fun w => by have w1 := w.1; rw [h.n7] at w1; exact absurd w1 (by decide))]
  exact q
theorem LI.planOf (h : LI i1 i2 M) (l y : Int32) : (c_planOf M l y).1 = (r_planOf M l y).1 ∧ (c_planOf M l y).2 = M ∧ (r_planOf M l y).2 = M := by
  unfold c_planOf r_planOf
  rw [h.e1]
  by_cases z0 : 0 ≤ l ∧ l < M.1 201 1
  · rw [if_pos z0, if_pos z0]
    by_cases z1 : 0 ≤ y ∧ y < 40
    · rw [if_pos z1, if_pos z1]
      have a := b4 z0
      have b := yr z1
      have n1 := h.n1
      exact ⟨h.pl ⟨a.1, by omega⟩ a.2 ⟨b.1, by omega⟩, rfl, rfl⟩
    · rw [if_neg z1, if_neg z1]
      exact ⟨rfl, rfl, rfl⟩
  · rw [if_neg z0, if_neg z0]
    exact ⟨rfl, rfl, rfl⟩
theorem LI.force (h : LI i1 i2 M) (pl w p y : Int32) : c_forceV M pl w p y = (r_force M pl w p y).1 ∧ (r_force M pl w p y).2 = M := by
  unfold c_forceV r_force
  rw [h.e0]
  by_cases z0 : 0 ≤ pl ∧ pl < 5
  · rw [if_pos z0, if_pos z0]
    by_cases z1 : 0 ≤ w ∧ w ≤ 5
    · have z1' : 0 ≤ w ∧ w < 6 := ⟨z1.1, by have q := z1.2; simp only [i_le, i_lt, Int32.reduceToInt] at q ⊢; omega⟩
      rw [if_pos z1, if_pos z1']
      by_cases z2 : 0 ≤ p ∧ p < M.1 201 0
      · rw [if_pos z2, if_pos z2]
        by_cases z3 : 0 ≤ y ∧ y < 40
        · rw [if_pos z3, if_pos z3]
          have a := b4 z2
          have n0 := h.n0
          have hp : am_in p 12 := ⟨a.1, by omega⟩
          refine ⟨?_, rfl⟩
          show _ = r_inF M pl w p y
          rw [h.inF (b4 z0).1]
          exact h.F hp _
        · rw [if_neg z3, if_neg z3]
          exact ⟨rfl, rfl⟩
      · rw [if_neg z2, if_neg z2]
        exact ⟨rfl, rfl⟩
    · have z1' : ¬ (0 ≤ w ∧ w < 6) := fun q => z1 ⟨q.1, by have q := q.2; simp only [i_le, i_lt, Int32.reduceToInt] at q ⊢; omega⟩
      rw [if_neg z1, if_neg z1']
      exact ⟨rfl, rfl⟩
  · rw [if_neg z0, if_neg z0]
    exact ⟨rfl, rfl⟩
end LIX
theorem c_forceV_cg {M N : am_M} (c : c_n5 M N) (pl w p y : Int32) : c_forceV N pl w p y = c_forceV M pl w p y := by
  unfold c_forceV
  rw [c.i (show (32 : Nat) ≠ 5 by decide), c.i (show (31 : Nat) ≠ 5 by decide), c.i (show (22 : Nat) ≠ 5 by decide), c.i (show (21 : Nat) ≠ 5 by decide)]
