/-! texts: the reference's reader, exact: its stacks as lists -/
def r_at (f : Nat → Int32) : List Int32 → Prop
  | [] => True
  | c :: W => f W.length = c ∧ r_at f W
def r_atL (f : Nat → Int64) : List Int64 → Prop
  | [] => True
  | x :: V => f V.length = x ∧ r_atL f V
def w_ws : List Int32 → Nat
  | [] => 0
  | c :: W => r_wt c + w_ws W
theorem r_at.cg {f g : Nat → Int32} : ∀ {W : List Int32}, r_at f W → (∀ k, k < W.length → g k = f k) → r_at g W
  | [], _, _ => trivial
  | c :: W, h, e => ⟨(e _ (Nat.lt_succ_self _)).trans h.1, h.2.cg (fun k hk => e k (Nat.lt_succ_of_lt hk))⟩
theorem r_atL.cg {f g : Nat → Int64} : ∀ {V : List Int64}, r_atL f V → (∀ k, k < V.length → g k = f k) → r_atL g V
  | [], _, _ => trivial
  | c :: V, h, e => ⟨(e _ (Nat.lt_succ_self _)).trans h.1, h.2.cg (fun k hk => e k (Nat.lt_succ_of_lt hk))⟩
/-- the stacks -/
def r_ls (M : am_M) (W : List Int32) (V : List Int64) : Prop := ∃ _ : Unit, (M.1 200 11).toInt = (W.length : Int) ∧ r_at (M.1 204) W ∧ (M.1 200 12).toInt = (V.length : Int) ∧ r_atL (M.2 205) V
theorem r_ls.a {M : am_M} {W : List Int32} {V : List Int64} (h : r_ls M W V) : (M.1 200 11).toInt = (W.length : Int) := by obtain ⟨-, h, -⟩ := h; exact h
theorem r_ls.b {M : am_M} {W : List Int32} {V : List Int64} (h : r_ls M W V) : r_at (M.1 204) W := by obtain ⟨-, -, h, -⟩ := h; exact h
theorem r_ls.c {M : am_M} {W : List Int32} {V : List Int64} (h : r_ls M W V) : (M.1 200 12).toInt = (V.length : Int) := by obtain ⟨-, -, -, h, -⟩ := h; exact h
theorem r_ls.d {M : am_M} {W : List Int32} {V : List Int64} (h : r_ls M W V) : r_atL (M.2 205) V := by obtain ⟨-, -, -, -, h⟩ := h; exact h
theorem r_ls.top {M : am_M} {W : List Int32} {V : List Int64} (h : r_ls M W V) (hl : W.length ≤ 100) : r_top M = w_hdc W := by
  have a := h.a
  cases W with
  | nil =>
    have z : M.1 200 11 = 0 := by rw [i_eq, a]; rfl
    exact if_pos z
  | cons c W =>
    have hb := h.b
    simp only [List.length_cons] at a hl
    have z : ¬ M.1 200 11 = 0 := fun q => by rw [q] at a; simp only [Int32.reduceToInt] at a; omega
    have e := i_sub (x := M.1 200 11) (y := 1) (by simp only [Int32.reduceToInt]; omega) (by simp only [Int32.reduceToInt]; omega)
    simp only [Int32.reduceToInt] at e
    have c1 := i_clamp (x := M.1 200 11 - 1) (by omega)
    show (if M.1 200 11 = 0 then (0 : Int32) else M.1 204 (M.1 200 11 - 1).toNatClampNeg) = c
    rw [if_neg z, show (M.1 200 11 - 1).toNatClampNeg = W.length by omega]
    exact hb.1
/-- one sign more -/
theorem r_ls.push {M : am_M} {W : List Int32} {V : List Int64} {c : Int32} (h : r_ls M W V) (hl : W.length ≤ 100) : r_ls (am_wI (am_wI M 204 (M.1 200 11).toNatClampNeg c) 200 11 (M.1 200 11 + 1)) (c :: W) V := by
  have a := h.a
  have hi := i_inc (x := M.1 200 11) (by omega) (by omega)
  have ca := i_clamp (x := M.1 200 11) (by omega)
  refine ⟨(), ?_, ⟨?_, h.b.cg (fun k hk => ?_)⟩, ?_, h.d⟩
  · rw [am_wI_self, List.length_cons]
    omega
  · rw [am_wI_1, if_neg (fun z => absurd z.1 (by decide)), am_wI_1, if_pos ⟨rfl, by omega⟩]
  · rw [am_wI_1, if_neg (fun z => absurd z.1 (by decide)), am_wI_1, if_neg (fun z => by have := z.2; omega)]
  · rw [am_wI_1, if_neg (fun z => absurd z.2 (by decide)), am_wI_1, if_neg (fun z => absurd z.1 (by decide))]
    exact h.c
/-- the stacks are what another memory's are but for what is said -/
theorem r_ls.mk {M N : am_M} {W : List Int32} {V : List Int64} (e11 : (N.1 200 11).toInt = (W.length : Int)) (e12 : (N.1 200 12).toInt = (V.length : Int)) (h4 : r_at (M.1 204) W) (h5 : r_atL (M.2 205) V) (f4 : ∀ k, k < W.length → N.1 204 k = M.1 204 k) (f5 : ∀ k, k < V.length → N.2 205 k = M.2 205 k) : r_ls N W V := ⟨(), e11, h4.cg f4, e12, h5.cg f5⟩
theorem r_wt_clo {c : Int32} (h : 1 ≤ (r_clo c).toInt) : r_wt c = 1 := r_clo_wt (fun q => by rw [q] at h; exact absurd h (by decide))
theorem w_red_ws {t : Int32} (ht : 1 ≤ t.toInt) : ∀ {W : List Int32} {V : List Int64}, V.length = w_ws W + 1 → (w_red t W V).2.length = w_ws (w_red t W V).1 + 1 ∧ (w_red t W V).1.length ≤ W.length ∧ (w_red t W V).2.length ≤ V.length
  | [], V, h => by
    have e : w_red t [] V = ([], V) := by unfold w_red; rfl
    rw [e]
    exact ⟨h, Nat.le_refl _, Nat.le_refl _⟩
  | c :: W, [], h => by simp only [List.length_nil] at h; omega
  | c :: W, [b], h => by
    have e : w_red t (c :: W) [b] = (c :: W, [b]) := by unfold w_red; rfl
    rw [e]
    exact ⟨h, Nat.le_refl _, Nat.le_refl _⟩
  | c :: W, b :: a :: V, h => by
    by_cases z : t ≤ r_clo c
    · rw [w_red_y z]
      have z2 := z
      rw [i_le] at z2
      have hw := r_wt_clo (c := c) (by omega)
      have h2 : (b :: a :: V).length = r_wt c + w_ws W + 1 := h
      rw [hw] at h2
      simp only [List.length_cons] at h2 ⊢
      obtain ⟨i1, i2, i3⟩ := w_red_ws ht (W := W) (V := am_join c a b :: V) (by simp only [List.length_cons]; omega)
      simp only [List.length_cons] at i3
      exact ⟨i1, by omega, by omega⟩
    · have e : w_red t (c :: W) (b :: a :: V) = (c :: W, b :: a :: V) := by
        conv => lhs; unfold w_red
        rw [if_neg z]
      rw [e]
      exact ⟨h, Nat.le_refl _, Nat.le_refl _⟩
theorem w_cho_ws : ∀ {W : List Int32} {V : List Int64}, V.length = w_ws W + 1 → (w_cho W V).2.length = w_ws (w_cho W V).1 + 1 ∧ (w_cho W V).1.length ≤ W.length ∧ (w_cho W V).2.length ≤ V.length
  | [], V, h => by
    have e : w_cho [] V = ([], V) := by unfold w_cho; rfl
    rw [e]
    exact ⟨h, Nat.le_refl _, Nat.le_refl _⟩
  | c :: W, [], h => by simp only [List.length_nil] at h; omega
  | c :: W, [b], h => by
    have e : w_cho (c :: W) [b] = (c :: W, [b]) := by unfold w_cho; rfl
    rw [e]
    exact ⟨h, Nat.le_refl _, Nat.le_refl _⟩
  | c :: W, [b, a], h => by
    have e : w_cho (c :: W) [b, a] = (c :: W, [b, a]) := by unfold w_cho; rfl
    rw [e]
    exact ⟨h, Nat.le_refl _, Nat.le_refl _⟩
  | c :: W, z :: y :: x :: V, h => by
    by_cases q : c = 58
    · subst q
      rw [w_cho_y]
      have h2 : (z :: y :: x :: V).length = r_wt 58 + w_ws W + 1 := h
      rw [show r_wt 58 = 2 by decide] at h2
      simp only [List.length_cons] at h2 ⊢
      obtain ⟨i1, i2, i3⟩ := w_cho_ws (W := W) (V := (if x ≠ 0 then y else z) :: V) (by simp only [List.length_cons]; omega)
      simp only [List.length_cons] at i3
      exact ⟨i1, by omega, by omega⟩
    · rw [w_cho_hd (W := c :: W) q]
      exact ⟨h, Nat.le_refl _, Nat.le_refl _⟩
theorem w_chs_ws {W : List Int32} {V : List Int64} (h : V.length = w_ws W + 1) : (w_chs W V).2.length = w_ws (w_chs W V).1 + 1 ∧ (w_chs W V).1.length ≤ W.length ∧ (w_chs W V).2.length ≤ V.length := by
  obtain ⟨a, b, c⟩ := w_red_ws (t := 2) (by decide) h
  obtain ⟨d, e, f⟩ := w_cho_ws a
  exact ⟨d, by unfold w_chs; omega, by unfold w_chs; omega⟩
theorem w_lay_ws : ∀ {W : List Int32} {x : Int64} {V : List Int64}, V.length = w_ws W → (w_lay W x V).2.length = w_ws (w_lay W x V).1 + 1 ∧ (w_lay W x V).1.length ≤ W.length ∧ (w_lay W x V).2.length = V.length + 1
  | [], x, V, h => ⟨by simp only [w_lay, List.length_cons]; rw [h], Nat.le_refl _, rfl⟩
  | c :: W, x, V, h => by
    unfold w_lay
    by_cases z1 : c = 1
    · subst z1
      rw [if_pos rfl]
      obtain ⟨a, b, d⟩ := w_lay_ws (W := W) (x := if x = 0 then 1 else 0) (V := V) (by rw [h]; show r_wt 1 + w_ws W = _; rw [show r_wt 1 = 0 by decide]; omega)
      exact ⟨a, by simp only [List.length_cons]; omega, d⟩
    · rw [if_neg z1]
      by_cases z2 : c = 2
      · subst z2
        rw [if_pos rfl]
        obtain ⟨a, b, d⟩ := w_lay_ws (W := W) (x := -x) (V := V) (by rw [h]; show r_wt 2 + w_ws W = _; rw [show r_wt 2 = 0 by decide]; omega)
        exact ⟨a, by simp only [List.length_cons]; omega, d⟩
      · rw [if_neg z2]
        exact ⟨by simp only [List.length_cons]; rw [h], Nat.le_refl _, rfl⟩
def r_cl (M : am_M) (d : Nat) (K : List Int32 → List Int64 → Prop) : Prop := ∃ W V, r_ls M W V ∧ (V.length = w_ws W + d ∧ W.length ≤ 60 ∧ V.length ≤ 60) ∧ K W V
theorem r_cl_in {M : am_M} {d : Nat} {K : List Int32 → List Int64 → Prop} {W : List Int32} {V : List Int64} (h : r_ls M W V) (hd : V.length = w_ws W + d ∧ W.length ≤ 60 ∧ V.length ≤ 60) (k : K W V) : r_cl M d K := ⟨W, V, h, hd, k⟩
theorem r_ls.bd {M : am_M} {W : List Int32} {V : List Int64} (h : r_ls M W V) (hl : W.length ≤ 60) : 0 ≤ (M.1 200 11).toInt ∧ (M.1 200 11).toInt ≤ 120 := by
  have a := h.a
  exact ⟨by omega, by omega⟩
def TE8_between : am_T := fun live as M R => match as with
  | [.int c, .long a, .long b] => 1 ≤ (r_clo c).toInt ∧ R (some (.long (am_join c a b))) M
  | _ => False
theorem r_ops9 {c : Int32} (h : 1 ≤ (r_clo c).toInt) : c = 42 ∨ c = 47 ∨ c = 43 ∨ c = 45 ∨ c = 60 ∨ c = 62 ∨ c = 61 ∨ c = 38 ∨ c = 124 := by
  unfold r_clo at h
  by_cases a : c = 42 ∨ c = 47
  · rcases a with a | a <;> simp [a]
  rw [if_neg a] at h
  by_cases a : c = 43 ∨ c = 45
  · rcases a with a | a <;> simp [a]
  rw [if_neg a] at h
  by_cases a : c = 60 ∨ c = 61 ∨ c = 62
  · rcases a with a | a | a <;> simp [a]
  rw [if_neg a] at h
  by_cases a : c = 38
  · simp [a]
  rw [if_neg a] at h
  by_cases a : c = 124
  · simp [a]
  rw [if_neg a] at h
  exact absurd h (by decide)
set_option maxRecDepth 100000 in
set_option maxHeartbeats 4000000 in
theorem metX8_betweenE : am_Met yX8_between cX8_between 5 (some .long) (1) (20) TE8_between := by
  refine am_met (own := RX8) (by decide +kernel) rfl kX8_between koX8_between 100 (fun _ _ _ _ _ => none) (fun live as M Ret h => ?_) (fun _ _ _ _ _ _ _ _ hI => by cases hI)
  unfold TE8_between at h
  split at h
  · next c a b =>
    refine ⟨Nat.le_of_ble_eq_true rfl, ?_⟩
    change am_wp _ _ _ _ [(0, Value.int c), (1, Value.long a), (3, Value.long b)] _ _
    obtain ⟨hc, h⟩ := h
    rcases r_ops9 hc with rfl | rfl | rfl | rfl | rfl | rfl | rfl | rfl | rfl
    all_goals skip
    · skip
      repeat' (first | apply And.intro | exact rfl | (intro hx; exact absurd hx (by decide)) | (intro hx; exact absurd (by decide) hx) | decide | intro hx | (refine Exists.intro _ (And.intro rfl ?_)))
      all_goals try first | (with_reducible change am_tI _ _) | (change Ret _ _) | (change Ret _ _ _) | (change Exists _)
      all_goals try dsimp only at *
      all_goals try exact absurd ‹(1000 : Int64) = 0› (by decide)
      all_goals first
        | (left; rfl)
        | (right; rfl)
        | exact r_lcz (by with_reducible assumption)
        | exact absurd (by with_reducible assumption) (r_lcz (by with_reducible assumption))
        | (refine Eq.mp (congrArg (fun z => Ret (some (Value.long z)) M) ?_) h
           simp only [lc_eq, lc_lt, lc_ge, lc_gt, lc_le] at *
           grind [am_join])
        | skip
    · skip
      repeat' (first | apply And.intro | exact rfl | (intro hx; exact absurd hx (by decide)) | (intro hx; exact absurd (by decide) hx) | decide | intro hx | (refine Exists.intro _ (And.intro rfl ?_)))
      all_goals try first | (with_reducible change am_tI _ _) | (change Ret _ _) | (change Ret _ _ _) | (change Exists _)
      all_goals try dsimp only at *
      all_goals try exact absurd ‹(1000 : Int64) = 0› (by decide)
      all_goals first
        | (left; rfl)
        | (right; rfl)
        | exact r_lcz (by with_reducible assumption)
        | exact absurd (by with_reducible assumption) (r_lcz (by with_reducible assumption))
        | (refine Eq.mp (congrArg (fun z => Ret (some (Value.long z)) M) ?_) h
           simp only [lc_eq, lc_lt, lc_ge, lc_gt, lc_le] at *
           grind [am_join])
        | skip
    · skip
      repeat' (first | apply And.intro | exact rfl | (intro hx; exact absurd hx (by decide)) | (intro hx; exact absurd (by decide) hx) | decide | intro hx | (refine Exists.intro _ (And.intro rfl ?_)))
      all_goals try first | (with_reducible change am_tI _ _) | (change Ret _ _) | (change Ret _ _ _) | (change Exists _)
      all_goals try dsimp only at *
      all_goals try exact absurd ‹(1000 : Int64) = 0› (by decide)
      all_goals first
        | (left; rfl)
        | (right; rfl)
        | exact r_lcz (by with_reducible assumption)
        | exact absurd (by with_reducible assumption) (r_lcz (by with_reducible assumption))
        | (refine Eq.mp (congrArg (fun z => Ret (some (Value.long z)) M) ?_) h
           simp only [lc_eq, lc_lt, lc_ge, lc_gt, lc_le] at *
           grind [am_join])
        | skip
    · skip
      repeat' (first | apply And.intro | exact rfl | (intro hx; exact absurd hx (by decide)) | (intro hx; exact absurd (by decide) hx) | decide | intro hx | (refine Exists.intro _ (And.intro rfl ?_)))
      all_goals try first | (with_reducible change am_tI _ _) | (change Ret _ _) | (change Ret _ _ _) | (change Exists _)
      all_goals try dsimp only at *
      all_goals try exact absurd ‹(1000 : Int64) = 0› (by decide)
      all_goals first
        | (left; rfl)
        | (right; rfl)
        | exact r_lcz (by with_reducible assumption)
        | exact absurd (by with_reducible assumption) (r_lcz (by with_reducible assumption))
        | (refine Eq.mp (congrArg (fun z => Ret (some (Value.long z)) M) ?_) h
           simp only [lc_eq, lc_lt, lc_ge, lc_gt, lc_le] at *
           grind [am_join])
        | skip
    · skip
      repeat' (first | apply And.intro | exact rfl | (intro hx; exact absurd hx (by decide)) | (intro hx; exact absurd (by decide) hx) | decide | intro hx | (refine Exists.intro _ (And.intro rfl ?_)))
      all_goals try first | (with_reducible change am_tI _ _) | (change Ret _ _) | (change Ret _ _ _) | (change Exists _)
      all_goals try dsimp only at *
      all_goals try exact absurd ‹(1000 : Int64) = 0› (by decide)
      all_goals first
        | (left; rfl)
        | (right; rfl)
        | exact r_lcz (by with_reducible assumption)
        | exact absurd (by with_reducible assumption) (r_lcz (by with_reducible assumption))
        | (refine Eq.mp (congrArg (fun z => Ret (some (Value.long z)) M) ?_) h
           simp only [lc_eq, lc_lt, lc_ge, lc_gt, lc_le] at *
           grind [am_join])
        | skip
    · skip
      repeat' (first | apply And.intro | exact rfl | (intro hx; exact absurd hx (by decide)) | (intro hx; exact absurd (by decide) hx) | decide | intro hx | (refine Exists.intro _ (And.intro rfl ?_)))
      all_goals try first | (with_reducible change am_tI _ _) | (change Ret _ _) | (change Ret _ _ _) | (change Exists _)
      all_goals try dsimp only at *
      all_goals try exact absurd ‹(1000 : Int64) = 0› (by decide)
      all_goals first
        | (left; rfl)
        | (right; rfl)
        | exact r_lcz (by with_reducible assumption)
        | exact absurd (by with_reducible assumption) (r_lcz (by with_reducible assumption))
        | (refine Eq.mp (congrArg (fun z => Ret (some (Value.long z)) M) ?_) h
           simp only [lc_eq, lc_lt, lc_ge, lc_gt, lc_le] at *
           grind [am_join])
        | skip
    · skip
      repeat' (first | apply And.intro | exact rfl | (intro hx; exact absurd hx (by decide)) | (intro hx; exact absurd (by decide) hx) | decide | intro hx | (refine Exists.intro _ (And.intro rfl ?_)))
      all_goals try first | (with_reducible change am_tI _ _) | (change Ret _ _) | (change Ret _ _ _) | (change Exists _)
      all_goals try dsimp only at *
      all_goals try exact absurd ‹(1000 : Int64) = 0› (by decide)
      all_goals first
        | (left; rfl)
        | (right; rfl)
        | exact r_lcz (by with_reducible assumption)
        | exact absurd (by with_reducible assumption) (r_lcz (by with_reducible assumption))
        | (refine Eq.mp (congrArg (fun z => Ret (some (Value.long z)) M) ?_) h
           simp only [lc_eq, lc_lt, lc_ge, lc_gt, lc_le] at *
           grind [am_join])
        | skip
    · skip
      repeat' (first | apply And.intro | exact rfl | (intro hx; exact absurd hx (by decide)) | (intro hx; exact absurd (by decide) hx) | decide | intro hx | (refine Exists.intro _ (And.intro rfl ?_)))
      all_goals try first | (with_reducible change am_tI _ _) | (change Ret _ _) | (change Ret _ _ _) | (change Exists _)
      all_goals try dsimp only at *
      all_goals try exact absurd ‹(1000 : Int64) = 0› (by decide)
      all_goals first
        | (left; rfl)
        | (right; rfl)
        | exact r_lcz (by with_reducible assumption)
        | exact absurd (by with_reducible assumption) (r_lcz (by with_reducible assumption))
        | (refine Eq.mp (congrArg (fun z => Ret (some (Value.long z)) M) ?_) h
           simp only [lc_eq, lc_lt, lc_ge, lc_gt, lc_le] at *
           grind [am_join])
        | skip
    · skip
      repeat' (first | apply And.intro | exact rfl | (intro hx; exact absurd hx (by decide)) | (intro hx; exact absurd (by decide) hx) | decide | intro hx | (refine Exists.intro _ (And.intro rfl ?_)))
      all_goals try first | (with_reducible change am_tI _ _) | (change Ret _ _) | (change Ret _ _ _) | (change Exists _)
      all_goals try dsimp only at *
      all_goals try exact absurd ‹(1000 : Int64) = 0› (by decide)
      all_goals first
        | (left; rfl)
        | (right; rfl)
        | exact r_lcz (by with_reducible assumption)
        | exact absurd (by with_reducible assumption) (r_lcz (by with_reducible assumption))
        | (refine Eq.mp (congrArg (fun z => Ret (some (Value.long z)) M) ?_) h
           simp only [lc_eq, lc_lt, lc_ge, lc_gt, lc_le] at *
           grind [am_join])
        | skip
  · exact h.elim
def kX8_reduceE (live : am_E) (Ret : am_R) : am_code := [(0, am_aload 0 1), (1, am_callV live 8 0 TX8_top 4), (4, am_callS live 1 TX8_closeness 7), (7, am_iload 1 8), (8, am_if2 (fun x y => x < y) 72 11), (11, am_aload 0 12), (12, am_dup 13), (13, am_getI live 8 12 16), (16, am_const (.int 1) 17), (17, am_i2 (fun x y => x - y) 18), (18, am_putI live 8 12 21), (21, am_aload 0 22), (22, am_getR live 8 10 25), (25, am_aload 0 26), (26, am_getI live 8 12 29), (29, am_const (.int 1) 30), (30, am_i2 (fun x y => x - y) 31), (31, am_aload 0 32), (32, am_callV live 8 0 TX8_top 35), (35, am_aload 0 36), (36, am_getR live 8 10 39), (39, am_aload 0 40), (40, am_getI live 8 12 43), (43, am_const (.int 1) 44), (44, am_i2 (fun x y => x - y) 45), (45, am_lald live 1 46), (46, am_aload 0 47), (47, am_getR live 8 10 50), (50, am_aload 0 51), (51, am_getI live 8 12 54), (54, am_lald live 1 55), (55, am_callS live 3 TE8_between 58), (58, am_last live 1 59), (59, am_aload 0 60), (60, am_dup 61), (61, am_getI live 8 11 64), (64, am_const (.int 1) 65), (65, am_i2 (fun x y => x - y) 66), (66, am_putI live 8 11 69), (69, am_goto 0), (72, am_retV Ret)]
theorem koX8_reduceE (live : am_E) (Ret : am_R) : ∀ q ∈ kX8_reduceE live Ret, am_ok RX8 cX8_reduce 2 none 2 44 live Ret q.1 q.2 :=
  am_kc (ak_aload_n dX8_reduce_0 rfl rfl) <|
  am_kc (ak_callV (C := RX8) (F := TX8) (N := 27) metX8_top rfl ⟨rfl, by decide +kernel, by decide +kernel, by decide +kernel⟩ (am_w5 wd_1113 wd_1115 wd_35 wd_67 wd_1116) (by decide) dX8_reduce_1 rfl) <|
  am_kc (ak_callS metX8_closeness ⟨rfl, by decide +kernel, by decide +kernel, by decide +kernel⟩ (am_w4 wd_1135 wd_1136 wd_67 wd_1137) (by decide) dX8_reduce_4 rfl) <|
  am_kc (ak_iload_n dX8_reduce_7 rfl rfl) <|
  am_kc (ak_icmp_lt dX8_reduce_8 (by decide +kernel) rfl) <|
  am_kc (ak_aload_n dX8_reduce_11 rfl rfl) <|
  am_kc (ak_dup dX8_reduce_12 rfl) <|
  am_kc (ak_getI (C := RX8) (T := TX8) (N := 27) rfl inX8w (by decide) rfl rfl rfl wd_907 dX8_reduce_13 rfl) <|
  am_kc (ak_iconst dX8_reduce_16 (by decide +kernel) rfl) <|
  am_kc (ak_isub dX8_reduce_17 rfl) <|
  am_kc (ak_putI (C := RX8) (T := TX8) (N := 27) rfl inX8w tyX8_ok nmX8 (by decide) rfl rfl rfl rfl (by decide +kernel) wd_907 dX8_reduce_18 rfl) <|
  am_kc (ak_aload_n dX8_reduce_21 rfl rfl) <|
  am_kc (ak_getR (C := RX8) (T := TX8) (N := 27) rfl inX8w (by decide) rfl rfl rfl wd_905 dX8_reduce_22 rfl) <|
  am_kc (ak_aload_n dX8_reduce_25 rfl rfl) <|
  am_kc (ak_getI (C := RX8) (T := TX8) (N := 27) rfl inX8w (by decide) rfl rfl rfl wd_907 dX8_reduce_26 rfl) <|
  am_kc (ak_iconst dX8_reduce_29 (by decide +kernel) rfl) <|
  am_kc (ak_isub dX8_reduce_30 rfl) <|
  am_kc (ak_aload_n dX8_reduce_31 rfl rfl) <|
  am_kc (ak_callV (C := RX8) (F := TX8) (N := 27) metX8_top rfl ⟨rfl, by decide +kernel, by decide +kernel, by decide +kernel⟩ (am_w5 wd_1113 wd_1115 wd_35 wd_67 wd_1116) (by decide) dX8_reduce_32 rfl) <|
  am_kc (ak_aload_n dX8_reduce_35 rfl rfl) <|
  am_kc (ak_getR (C := RX8) (T := TX8) (N := 27) rfl inX8w (by decide) rfl rfl rfl wd_905 dX8_reduce_36 rfl) <|
  am_kc (ak_aload_n dX8_reduce_39 rfl rfl) <|
  am_kc (ak_getI (C := RX8) (T := TX8) (N := 27) rfl inX8w (by decide) rfl rfl rfl wd_907 dX8_reduce_40 rfl) <|
  am_kc (ak_iconst dX8_reduce_43 (by decide +kernel) rfl) <|
  am_kc (ak_isub dX8_reduce_44 rfl) <|
  am_kc (ak_lald (t := 1) (fun _ => rfl) rfl dX8_reduce_45 rfl) <|
  am_kc (ak_aload_n dX8_reduce_46 rfl rfl) <|
  am_kc (ak_getR (C := RX8) (T := TX8) (N := 27) rfl inX8w (by decide) rfl rfl rfl wd_905 dX8_reduce_47 rfl) <|
  am_kc (ak_aload_n dX8_reduce_50 rfl rfl) <|
  am_kc (ak_getI (C := RX8) (T := TX8) (N := 27) rfl inX8w (by decide) rfl rfl rfl wd_907 dX8_reduce_51 rfl) <|
  am_kc (ak_lald (t := 1) (fun _ => rfl) rfl dX8_reduce_54 rfl) <|
  am_kc (ak_callS metX8_betweenE ⟨rfl, by decide +kernel, by decide +kernel, by decide +kernel⟩ (am_w4 wd_1142 wd_1143 wd_67 wd_1144) (by decide) dX8_reduce_55 rfl) <|
  am_kc (ak_last (t := 1) (fun _ => rfl) rfl dX8_reduce_58 rfl) <|
  am_kc (ak_aload_n dX8_reduce_59 rfl rfl) <|
  am_kc (ak_dup dX8_reduce_60 rfl) <|
  am_kc (ak_getI (C := RX8) (T := TX8) (N := 27) rfl inX8w (by decide) rfl rfl rfl wd_906 dX8_reduce_61 rfl) <|
  am_kc (ak_iconst dX8_reduce_64 (by decide +kernel) rfl) <|
  am_kc (ak_isub dX8_reduce_65 rfl) <|
  am_kc (ak_putI (C := RX8) (T := TX8) (N := 27) rfl inX8w tyX8_ok nmX8 (by decide) rfl rfl rfl rfl (by decide +kernel) wd_906 dX8_reduce_66 rfl) <|
  am_kc (ak_goto dX8_reduce_69 (by decide +kernel)) <|
  am_kc (ak_retV dX8_reduce_72) <| am_kn
def TE8_reduce : am_T := fun live as M R => match as with
  | [.ref n, .int t] => am_mn live ∧ n = 200 ∧ 1 ≤ t.toInt ∧ r_cl M 1 (fun W V => ∀ M', r_wg M M' → r_ls M' (w_red t W V).1 (w_red t W V).2 → R none M')
  | _ => False
def JE8_reduce : am_E → List Value → am_M → am_R → am_inv := fun live as M0 R pc => match as with
  | [.ref n, .int t] => (match pc with
    | 0 => some ([0, 1], fun k L st M => ∃ (W : List Int32) (V : List Int64), L = [(0, .ref 200), (1, .int t)] ∧ st = [] ∧ k = (W.length, 0) ∧ r_ls M W V ∧ (V.length = w_ws W + 1 ∧ W.length ≤ 60 ∧ V.length ≤ 60) ∧ r_wg M0 M ∧ ∀ M', r_wg M0 M' → r_ls M' (w_red t W V).1 (w_red t W V).2 → R none M')
    | _ => none)
  | _ => none
theorem r_ls.pop {M : am_M} {c : Int32} {W : List Int32} {a b x : Int64} {V : List Int64} (h : r_ls M (c :: W) (b :: a :: V)) (hV : (b :: a :: V).length ≤ 60) (hW : (c :: W).length ≤ 60) : (M.1 200 12 - 1).toInt = (V.length : Int) + 1 ∧ (M.1 200 12 - 1 - 1).toInt = (V.length : Int) ∧ (M.1 200 11 - 1).toInt = (W.length : Int) ∧ M.2 205 (M.1 200 12 - 1).toNatClampNeg = b ∧ M.2 205 (M.1 200 12 - 1 - 1).toNatClampNeg = a := by
  have a1 := h.a
  have c1 := h.c
  have d1 := h.d
  simp only [List.length_cons] at a1 c1 hV hW
  have e12 := i_sub (x := M.1 200 12) (y := 1) (by simp only [Int32.reduceToInt]; omega) (by simp only [Int32.reduceToInt]; omega)
  simp only [Int32.reduceToInt] at e12
  have e13 := i_sub (x := M.1 200 12 - 1) (y := 1) (by simp only [Int32.reduceToInt]; omega) (by simp only [Int32.reduceToInt]; omega)
  simp only [Int32.reduceToInt] at e13
  have e11 := i_sub (x := M.1 200 11) (y := 1) (by simp only [Int32.reduceToInt]; omega) (by simp only [Int32.reduceToInt]; omega)
  simp only [Int32.reduceToInt] at e11
  have k1 := i_clamp (x := M.1 200 12 - 1) (by omega)
  have k2 := i_clamp (x := M.1 200 12 - 1 - 1) (by omega)
  refine ⟨by omega, by omega, by omega, ?_, ?_⟩
  · rw [show (M.1 200 12 - 1).toNatClampNeg = (a :: V).length by simp only [List.length_cons]; omega]
    exact d1.1
  · rw [show (M.1 200 12 - 1 - 1).toNatClampNeg = V.length by omega]
    exact d1.2.1
set_option maxRecDepth 100000 in
set_option maxHeartbeats 4000000 in
theorem metX8_reduceE : am_Met yX8_reduce cX8_reduce 2 none (2) (44) TE8_reduce := by
  refine am_met0 (own := RX8) (by decide +kernel) rfl kX8_reduceE koX8_reduceE 100 JE8_reduce ?_ ?_
  · intro live as M Ret h
    unfold TE8_reduce at h
    split at h
    · next n t =>
      refine ⟨Nat.le_of_ble_eq_true rfl, ?_⟩
      obtain ⟨hmn, rfl, ht, W, V, hl, hd, h⟩ := h
      exact ⟨_, _, rfl, W, V, rfl, rfl, rfl, hl, hd, r_wg.rf, h⟩
    · exact h.elim
  · intro live as M0 Ret h k pc I hI L st M hi
    unfold TE8_reduce at h
    split at h
    · next n t =>
      obtain ⟨hmn, rfl, ht, W9, V9, hl9, hd9, h9⟩ := h
      have hmn2 := hmn
      obtain ⟨i1, i2, rfl⟩ := hmn2
      have l204 : am_len 204 = 120 := rfl
      have l205 : am_len 205 = 120 := rfl
      change (match pc with | 0 => _ | _ => none) = _ at hI
      split at hI
      · cases hI
        obtain ⟨W, V, rfl, rfl, rfl, hl, ⟨d1, d2, d3⟩, hk, h⟩ := hi
        have u120 := hl.bd d2
        have ht0 := hl.top (by omega)
        by_cases hz : r_clo (r_top M) < t
        · have e : w_red t W V = (W, V) := by
            unfold w_red
            split
            · next c W b a V =>
              rw [if_neg (fun q => by rw [ht0, i_lt] at hz; rw [i_le] at q; have z : r_clo (w_hdc (c :: W)) = r_clo c := rfl; rw [z] at hz; omega)]
            · rfl
            · rfl
          have h := h M hk (by rw [e]; exact hl)
          repeat' (first | (with_reducible exact hmn) | (with_reducible exact u120) | apply And.intro | exact rfl | (intro hx; with_reducible exact absurd hz hx) | intro hx | (refine Exists.intro _ (And.intro rfl ?_)))
          all_goals try first | (with_reducible change am_tI _ _) | (change Ret _ _) | (change Ret _ _ _) | (change Exists _)
          all_goals try dsimp only at *
          all_goals try exact absurd ‹(1000 : Int64) = 0› (by decide)
          all_goals exact h
        · have hz2 := hz
          rw [ht0] at hz2
          simp only [i_lt] at hz2
          cases W with
          | nil => exact absurd (show t.toInt ≤ (r_clo 0).toInt from Int.not_lt.mp hz2) (by rw [show r_clo 0 = 0 by decide]; simp only [Int32.reduceToInt]; omega)
          | cons c W =>
            have hc : t.toInt ≤ (r_clo c).toInt := Int.not_lt.mp hz2
            have hw := r_wt_clo (c := c) (by omega)
            have d1b : V.length = r_wt c + w_ws W + 1 := d1
            rw [hw] at d1b
            match V, hl, d1, d1b, d3, h with
            | [], _, _, d1b, _, _ => simp only [List.length_nil] at d1b; omega
            | [_], _, _, d1b, _, _ => simp only [List.length_cons, List.length_nil] at d1b; omega
            | b :: a :: V, hl, d1, d1b, d3, h =>
              obtain ⟨p1, p2, p3, p4, p5⟩ := hl.pop (x := 0) d3 d2
              have htc : r_top M = c := ht0
              have f11 : ∀ v, (am_wI M 200 12 v).1 200 11 = M.1 200 11 := fun v => by rw [am_wI_1, if_neg (fun q => absurd q.2 (by decide))]
              have f12 : ∀ v, (am_wI M 200 12 v).1 200 12 = v := fun v => am_wI_self
              have ftop : ∀ v, r_top (am_wI M 200 12 v) = c := fun v => by rw [← htc]; unfold r_top; rw [f11, show (am_wI M 200 12 v).1 204 = M.1 204 from funext fun k => by rw [am_wI_1, if_neg (fun q => absurd q.1 (by decide))]]
              have v120 : 0 ≤ ((am_wI M 200 12 (M.1 200 12 - 1)).1 200 11).toInt ∧ ((am_wI M 200 12 (M.1 200 12 - 1)).1 200 11).toInt ≤ 120 := by rw [f11]; exact u120
              have hcl : 1 ≤ (r_clo (r_top (am_wI M 200 12 (M.1 200 12 - 1)))).toInt := by rw [ftop]; omega
              simp only [List.length_cons] at d2 d3 d1b
              repeat' (first | (with_reducible exact hmn) | (with_reducible exact u120) | (with_reducible exact v120) | (with_reducible exact hcl) | apply And.intro | exact rfl | (intro hx; with_reducible exact absurd hx hz) | intro hx | (refine Exists.intro _ (And.intro rfl ?_)))
              all_goals try first | (with_reducible change am_tI _ _) | (change Ret _ _) | (change Ret _ _ _) | (change Exists _)
              all_goals try dsimp only at *
              all_goals try exact absurd ‹(1000 : Int64) = 0› (by decide)
              all_goals try simp only [f12, p1, p2, l205]
              all_goals first
                | omega
                | skip
              have h' := h
              rw [w_red_y (by rw [i_le]; exact hc)] at h'
              refine ⟨_, am_lt_l (Nat.lt_succ_self _), W, am_join c a b :: V, rfl, rfl, rfl, ?_, ⟨by simp only [List.length_cons]; omega, by omega, by simp only [List.length_cons]; omega⟩, ?_, h'⟩
              · have hb := hl.b
                have hd := hl.d
                refine ⟨(), ?_, hb.2.cg (fun k _ => ?_), ?_, ⟨?_, hd.2.2.cg (fun k hk => ?_)⟩⟩
                · rw [am_wI_self]
                  show ((am_wI M 200 12 (M.1 200 12 - 1)).1 200 11 - 1).toInt = _
                  rw [f11]
                  exact p3
                · rw [am_wI_1, if_neg (fun q => absurd q.1 (by decide))]
                  show (am_wI M 200 12 (M.1 200 12 - 1)).1 204 k = _
                  rw [am_wI_1, if_neg (fun q => absurd q.1 (by decide))]
                · rw [am_wI_1, if_neg (fun q => absurd q.2 (by decide))]
                  show ((am_wI M 200 12 (M.1 200 12 - 1)).1 200 12).toInt = _
                  rw [f12, p1, List.length_cons]
                  rfl
                · show (am_wJ (am_wI M 200 12 (M.1 200 12 - 1)) 205 ((am_wI M 200 12 (M.1 200 12 - 1)).1 200 12 - 1).toNatClampNeg (am_join (r_top (am_wI M 200 12 (M.1 200 12 - 1))) (M.2 205 ((am_wI M 200 12 (M.1 200 12 - 1)).1 200 12 - 1).toNatClampNeg) (M.2 205 ((am_wI M 200 12 (M.1 200 12 - 1)).1 200 12).toNatClampNeg))).2 205 V.length = _
                  have k2 := i_clamp (x := M.1 200 12 - 1 - 1) (by omega)
                  rw [f12, am_wJ_1, if_pos ⟨rfl, by omega⟩, ftop, p4, p5]
                · show (am_wJ (am_wI M 200 12 (M.1 200 12 - 1)) 205 ((am_wI M 200 12 (M.1 200 12 - 1)).1 200 12 - 1).toNatClampNeg _).2 205 k = _
                  have k2 := i_clamp (x := M.1 200 12 - 1 - 1) (by omega)
                  rw [f12, am_wJ_1, if_neg (fun q => by have := q.2; omega)]
                  rfl
              · refine hk.tr ⟨(), fun a b z y => ?_, fun a b z => ?_⟩
                · rw [am_wI_1, if_neg (fun q => by omega)]
                  show (am_wI M 200 12 (M.1 200 12 - 1)).1 a b = _
                  rw [am_wI_1, if_neg (fun q => by omega)]
                · show (am_wJ _ 205 _ _).2 a b = _
                  rw [am_wJ_1, if_neg (fun q => z q.1)]
                  rfl
      · cases hI
    · exact h.elim
