/-! told calls, II: rows of their own, texts, images -/
theorem rl_c_lt : ∀ q ∈ rl_c, q.1 < 39 ∧ q.1 ≠ 17 ∧ q.2.2.1 + q.2.2.2 ≤ 3760 := by decide
theorem rl_c_13 : ∀ q ∈ rl_c, (q.1 = 13 ∧ q = (13, 2, 1, 1)) ∨ (q.1 ≠ 13 ∧ (q.2.2.1 + q.2.2.2 ≤ 1 ∨ 2 ≤ q.2.2.1)) := by decide
theorem rl_c_14 : ∀ q ∈ rl_c, (q.1 = 14 ∧ q = (14, 0, 2838, 240)) ∨ (q.1 ≠ 14 ∧ (q.2.2.1 + q.2.2.2 ≤ 2838 ∨ 3078 ≤ q.2.2.1)) := by decide
theorem rl_c_15 : ∀ q ∈ rl_c, (q.1 = 15 ∧ q = (15, 2, 3, 1)) ∨ (q.1 ≠ 15 ∧ (q.2.2.1 + q.2.2.2 ≤ 3 ∨ 4 ≤ q.2.2.1)) := by decide
theorem rl_c_16 : ∀ q ∈ rl_c, (q.1 = 16 ∧ q = (16, 0, 3078, 180)) ∨ (q.1 ≠ 16 ∧ (q.2.2.1 + q.2.2.2 ≤ 3078 ∨ 3258 ≤ q.2.2.1)) := by decide
/-- an act more -/
theorem lb.act {A B A' B' : am_M} (h : lb 20 201 0 A B) {n : Nat} (hn : (B.1 201 2).toInt = (n : Int)) (h60 : n < 60)
    (hA : ∀ a k, 20 ≤ a → a < 59 → ¬ (a = 31 ∧ k = 2) → ¬ (a = 32 ∧ 6 * n ≤ k ∧ k < 6 * n + 6) → A'.1 a k = A.1 a k)
    (hB : ∀ k, k ≠ 2 → ¬ (2478 + 6 * n ≤ k ∧ k < 2484 + 6 * n) → B'.1 201 k = B.1 201 k)
    (hs : A'.1 31 2 = B'.1 201 2) (hs2 : (B'.1 201 2).toInt = (n : Int) + 1)
    (hr : ∀ c, c < 6 → A'.1 32 (6 * n + c) = B'.1 201 (2478 + 6 * n + c)) (hv : ∀ c, c < 6 → t_v (2478 + 6 * n + c) (B'.1 201 (2478 + 6 * n + c)).toInt)
    (hm : am_isNum (B'.1 201 (2479 + 6 * n)) (B'.1 201 (2480 + 6 * n))) : lb 20 201 0 A' B' := by
  have hB0 : ∀ k, k ≠ 2 → ¬ (2478 + 6 * n ≤ k ∧ k < 2484 + 6 * n) → B'.1 201 (0 + k) = B.1 201 (0 + k) := fun k z1 z2 => by rw [Nat.zero_add]; exact hB k z1 z2
  have h17 : A'.1 (20 + 17) = A.1 (20 + 17) := funext fun k => hA 37 k (by decide) (by decide) (fun z => by omega) (fun z => by omega)
  obtain ⟨-, a1, a2, a3⟩ := h.r
  have cn := i_clamp (x := B.1 201 2) (by omega)
  have cn' := i_clamp (x := B'.1 201 2) (by omega)
  refine ⟨(), ⟨(), fun q hq k hk => ?_, ?_, fun k hk => ?_⟩, h.t.up (fun k hk => ?_), ?_, fun k hk => ?_, fun t ht => ?_⟩
  · have ho := rl_c_off q hq
    have hl := rl_c_lt q hq
    rw [hA _ _ (by omega) (by omega) (fun z => by omega) (fun z => by omega), hB0 _ (by omega) (by omega)]
    exact a1 q hq k hk
  · exact hs
  · have hs' : A'.1 (20 + 11) 2 = B'.1 201 2 := hs
    rw [hs'] at hk
    show A'.1 32 k = _
    by_cases z : k < 6 * n
    · rw [hA 32 k (by decide) (by decide) (fun z => by omega) (fun z => by omega), hB0 (2478 + k) (by omega) (by omega)]
      refine a3 k ?_
      rw [a2]
      show k < 6 * (B.1 201 2).toNatClampNeg
      omega
    · have e := hr (k - 6 * n) (by omega)
      rw [show 6 * n + (k - 6 * n) = k by omega, show 2478 + 6 * n + (k - 6 * n) = 0 + (2478 + k) by omega] at e
      exact e
  · (try dsimp only)
    by_cases z : k = 2
    · subst z
      refine Or.inr ?_
      show t_v 2 (B'.1 201 2).toInt
      rw [hs2]
      exact t_v.m2 (by omega) (by omega)
    · by_cases z2 : 2478 + 6 * n ≤ k ∧ k < 2484 + 6 * n
      · have q := hv (k - (2478 + 6 * n)) (by omega)
        rw [show 2478 + 6 * n + (k - (2478 + 6 * n)) = k by omega] at q
        rw [Nat.zero_add]
        exact Or.inr q
      · exact Or.inl (hB0 k z z2)
  · obtain ⟨-, r1, r2, r3, r4⟩ := h.l
    (try dsimp only at r1 r2 r3 r4)
    rw [h17]
    refine ⟨(), fun l hl z => ?_, fun m hm' z => ?_, fun a ha => ?_, fun l hl z y hy => ?_⟩
    · (try dsimp only at z ⊢)
      rw [hB0 1 (by decide) (by omega)] at z
      rw [hB0 _ (by omega) (by omega), hB0 0 (by decide) (by omega)]
      exact r1 l hl z
    · (try dsimp only at z ⊢)
      rw [hB0 3 (by decide) (by omega)] at z
      rw [hB0 _ (by omega) (by omega), hB0 1 (by decide) (by omega)]
      exact r2 m hm' z
    · (try dsimp only)
      by_cases z : a = n
      · subst z
        rw [Nat.zero_add, Nat.zero_add]
        exact hm
      · rw [hB0 _ (by omega) (by omega), hB0 _ (by omega) (by omega)]
        exact r3 a ha
    · (try dsimp only at z ⊢)
      rw [hB0 1 (by decide) (by omega)] at z
      have b3 := (h.t.v (k := 3) (by decide)).a3 rfl
      (try dsimp only at b3)
      have c3 := i_clamp b3.1
      rw [hB0 3 (by decide) (by omega), r4 l hl z y hy]
      exact (r_plm_cg (hB0 _ (by omega) (by omega)) _ (fun k z1 z2 => hB0 k (by omega) (by omega))).symm
  · rw [h17]; exact h.p hk
  · rw [hA _ _ (by omega) (by omega) (fun z => by omega) (fun z => by omega)]; exact h.c ht
theorem r_plm_no {f : Nat → Int32} {l y : Nat} : ∀ m, (∀ j, j < m → (f (3078 + 3 * j)).toInt ≠ (l : Int)) → r_plm f l y m = f (2839 + 8 * l)
  | 0, _ => rfl
  | m + 1, h => by
    unfold r_plm
    rw [if_neg (fun q => h m (by omega) q.1)]
    exact r_plm_no m (fun j hj => h j (by omega))
/-- a loan more -/
theorem lb.loan {A B A' B' : am_M} (h : lb 20 201 0 A B) {n : Nat} (hn : (B.1 201 1).toInt = (n : Int)) (h30 : n < 30)
    (hA : ∀ a k, 20 ≤ a → a < 59 → ¬ (a = 33 ∧ k = 2) → ¬ (a = 34 ∧ 8 * n ≤ k ∧ k < 8 * n + 8) → ¬ (a = 37 ∧ 40 * n ≤ k ∧ k < 40 * n + 40) → A'.1 a k = A.1 a k)
    (hB : ∀ k, k ≠ 1 → ¬ (2838 + 8 * n ≤ k ∧ k < 2846 + 8 * n) → B'.1 201 k = B.1 201 k)
    (hs : A'.1 33 2 = B'.1 201 1) (hs2 : (B'.1 201 1).toInt = (n : Int) + 1)
    (hr : ∀ c, c < 8 → A'.1 34 (8 * n + c) = B'.1 201 (2838 + 8 * n + c)) (hv : ∀ c, c < 8 → t_v (2838 + 8 * n + c) (B'.1 201 (2838 + 8 * n + c)).toInt)
    (hp : (B'.1 201 (2838 + 8 * n)).toInt < (B.1 201 0).toInt) (hpl : ∀ y, y < 40 → A'.1 37 (40 * n + y) = B'.1 201 (2839 + 8 * n)) : lb 20 201 0 A' B' := by
  have hB0 : ∀ k, k ≠ 1 → ¬ (2838 + 8 * n ≤ k ∧ k < 2846 + 8 * n) → B'.1 201 (0 + k) = B.1 201 (0 + k) := fun k z1 z2 => by rw [Nat.zero_add]; exact hB k z1 z2
  obtain ⟨-, a1, a2, a3⟩ := h.r
  have ha := h.a
  have e31 : A'.1 (20 + 11) 2 = A.1 (20 + 11) 2 := hA 31 2 (by decide) (by decide) (fun z => by omega) (fun z => by omega) (fun z => by omega)
  refine ⟨(), ⟨(), fun q hq k hk => ?_, ?_, fun k hk => ?_⟩, h.t.up (fun k hk => ?_), ?_, fun k hk => ?_, fun t ht => ?_⟩
  · have hl := rl_c_lt q hq
    rcases rl_c_13 q hq with ⟨-, z⟩ | ⟨z1, z2⟩
    · subst z
      have k0 : k = 0 := by have : k < 1 := hk; omega
      subst k0
      exact hs
    · rcases rl_c_14 q hq with ⟨-, z⟩ | ⟨z3, z4⟩
      · subst z
        have hk : k < 240 := hk
        show A'.1 34 (0 + k) = B'.1 201 (0 + (2838 + k))
        by_cases zz : 8 * n ≤ k ∧ k < 8 * n + 8
        · have e := hr (k - 8 * n) (by omega)
          rw [show 8 * n + (k - 8 * n) = 0 + k by omega, show 2838 + 8 * n + (k - 8 * n) = 0 + (2838 + k) by omega] at e
          exact e
        · rw [hA 34 (0 + k) (by decide) (by decide) (fun z => by omega) (fun z => by omega) (fun z => by omega), hB0 (2838 + k) (by omega) (by omega)]
          exact a1 (14, 0, 2838, 240) hq k hk
      · rw [hA _ _ (by omega) (by omega) (fun z => by omega) (fun z => by omega) (fun z => by omega), hB0 _ (by omega) (by omega)]
        exact a1 q hq k hk
  · rw [e31, hB0 2 (by decide) (by omega)]; exact a2
  · rw [e31] at hk
    show A'.1 32 k = _
    rw [hA 32 k (by decide) (by decide) (fun z => by omega) (fun z => by omega) (fun z => by omega), hB0 (2478 + k) (by omega) (by omega)]
    exact a3 k hk
  · (try dsimp only)
    by_cases z : k = 1
    · subst z
      refine Or.inr ?_
      show t_v 1 (B'.1 201 1).toInt
      rw [hs2]
      exact t_v.m1 (by omega) (by omega)
    · by_cases z2 : 2838 + 8 * n ≤ k ∧ k < 2846 + 8 * n
      · have q := hv (k - (2838 + 8 * n)) (by omega)
        rw [show 2838 + 8 * n + (k - (2838 + 8 * n)) = k by omega] at q
        rw [Nat.zero_add]
        exact Or.inr q
      · exact Or.inl (hB0 k z z2)
  · obtain ⟨-, r1, r2, r3, r4⟩ := h.l
    (try dsimp only at r1 r2 r3 r4)
    have b3 := (h.t.v (k := 3) (by decide)).a3 rfl
    (try dsimp only at b3)
    have c3 := i_clamp b3.1
    have f1 : (B.1 201 (0 + 1)).toInt = (n : Int) := hn
    have f1' : (B'.1 201 (0 + 1)).toInt = (n : Int) + 1 := hs2
    refine ⟨(), fun l hl z => ?_, fun m hm' z => ?_, fun a ha => ?_, fun l hl z y hy => ?_⟩
    · (try dsimp only at z ⊢)
      rw [hB0 0 (by decide) (by omega)]
      by_cases e : l = n
      · subst e
        rw [Nat.zero_add, Nat.zero_add]
        exact hp
      · rw [hB0 _ (by omega) (by omega)]
        exact r1 l hl (by omega)
    · (try dsimp only at z ⊢)
      rw [hB0 3 (by decide) (by omega)] at z
      rw [hB0 _ (by omega) (by omega)]
      have q := r2 m hm' z
      omega
    · (try dsimp only)
      rw [hB0 _ (by omega) (by omega), hB0 _ (by omega) (by omega)]
      exact r3 a ha
    · (try dsimp only at z ⊢)
      rw [hB0 3 (by decide) (by omega)]
      by_cases e : l = n
      · subst e
        rw [r_plm_no _ (fun j hj => ?_)]
        · rw [Nat.zero_add]
          exact hpl y hy
        · (try dsimp only)
          rw [hB0 _ (by omega) (by omega)]
          have q := r2 j (by omega) (by omega)
          omega
      · have q := r4 l hl (by omega) y hy
        show A'.1 37 (40 * l + y) = _
        rw [hA 37 _ (by decide) (by decide) (fun z => by omega) (fun z => by omega) (fun z => by omega), show A.1 37 (40 * l + y) = _ from q]
        exact (r_plm_cg (hB0 _ (by omega) (by omega)) _ (fun k z1 z2 => hB0 k (by omega) (by omega))).symm
  · show am_in (A'.1 37 k) 5
    by_cases z : 40 * n ≤ k ∧ k < 40 * n + 40
    · have e := hpl (k - 40 * n) (by omega)
      rw [show 40 * n + (k - 40 * n) = k by omega] at e
      rw [e]
      have q := (hv 1 (by decide)).a18 ⟨by omega, by omega, by omega⟩
      rw [show 2838 + 8 * n + 1 = 2839 + 8 * n by omega] at q
      exact ⟨q.1, by omega⟩
    · rw [hA 37 k (by decide) (by decide) (fun z => by omega) (fun z => by omega) (fun z => by omega)]
      exact h.p hk
  · rw [hA _ _ (by omega) (by omega) (fun z => by omega) (fun z => by omega) (fun z => by omega)]; exact h.c ht
/-- a move more -/
theorem lb.move {A B A' B' : am_M} (h : lb 20 201 0 A B) {n l0 y0 : Nat} (hn : (B.1 201 3).toInt = (n : Int)) (h60 : n < 60)
    (hA : ∀ a k, 20 ≤ a → a < 59 → ¬ (a = 35 ∧ k = 2) → ¬ (a = 36 ∧ 3 * n ≤ k ∧ k < 3 * n + 3) → ¬ (a = 37 ∧ 40 * l0 + y0 ≤ k ∧ k < 40 * l0 + 40) → A'.1 a k = A.1 a k)
    (hB : ∀ k, k ≠ 3 → ¬ (3078 + 3 * n ≤ k ∧ k < 3081 + 3 * n) → B'.1 201 k = B.1 201 k)
    (hs : A'.1 35 2 = B'.1 201 3) (hs2 : (B'.1 201 3).toInt = (n : Int) + 1)
    (hr : ∀ c, c < 3 → A'.1 36 (3 * n + c) = B'.1 201 (3078 + 3 * n + c)) (hv : ∀ c, c < 3 → t_v (3078 + 3 * n + c) (B'.1 201 (3078 + 3 * n + c)).toInt)
    (hl0 : (B'.1 201 (3078 + 3 * n)).toInt = (l0 : Int)) (hl1 : (l0 : Int) < (B.1 201 1).toInt) (hy0 : (B'.1 201 (3080 + 3 * n)).toInt = (y0 : Int)) (hy1 : y0 < 40)
    (hpl : ∀ k, 40 * l0 + y0 ≤ k → k < 40 * l0 + 40 → A'.1 37 k = B'.1 201 (3079 + 3 * n)) : lb 20 201 0 A' B' := by
  have hB0 : ∀ k, k ≠ 3 → ¬ (3078 + 3 * n ≤ k ∧ k < 3081 + 3 * n) → B'.1 201 (0 + k) = B.1 201 (0 + k) := fun k z1 z2 => by rw [Nat.zero_add]; exact hB k z1 z2
  obtain ⟨-, a1, a2, a3⟩ := h.r
  have ha := h.a
  have e31 : A'.1 (20 + 11) 2 = A.1 (20 + 11) 2 := hA 31 2 (by decide) (by decide) (fun z => by omega) (fun z => by omega) (fun z => by omega)
  refine ⟨(), ⟨(), fun q hq k hk => ?_, ?_, fun k hk => ?_⟩, h.t.up (fun k hk => ?_), ?_, fun k hk => ?_, fun t ht => ?_⟩
  · have hl := rl_c_lt q hq
    rcases rl_c_15 q hq with ⟨-, z⟩ | ⟨z1, z2⟩
    · subst z
      have k0 : k = 0 := by have : k < 1 := hk; omega
      subst k0
      exact hs
    · rcases rl_c_16 q hq with ⟨-, z⟩ | ⟨z3, z4⟩
      · subst z
        have hk : k < 180 := hk
        show A'.1 36 (0 + k) = B'.1 201 (0 + (3078 + k))
        by_cases zz : 3 * n ≤ k ∧ k < 3 * n + 3
        · have e := hr (k - 3 * n) (by omega)
          rw [show 3 * n + (k - 3 * n) = 0 + k by omega, show 3078 + 3 * n + (k - 3 * n) = 0 + (3078 + k) by omega] at e
          exact e
        · rw [hA 36 (0 + k) (by decide) (by decide) (fun z => by omega) (fun z => by omega) (fun z => by omega), hB0 (3078 + k) (by omega) (by omega)]
          exact a1 (16, 0, 3078, 180) hq k hk
      · rw [hA _ _ (by omega) (by omega) (fun z => by omega) (fun z => by omega) (fun z => by omega), hB0 _ (by omega) (by omega)]
        exact a1 q hq k hk
  · rw [e31, hB0 2 (by decide) (by omega)]; exact a2
  · rw [e31] at hk
    show A'.1 32 k = _
    rw [hA 32 k (by decide) (by decide) (fun z => by omega) (fun z => by omega) (fun z => by omega), hB0 (2478 + k) (by omega) (by omega)]
    exact a3 k hk
  · (try dsimp only)
    by_cases z : k = 3
    · subst z
      refine Or.inr ?_
      show t_v 3 (B'.1 201 3).toInt
      rw [hs2]
      exact t_v.m3 (by omega) (by omega)
    · by_cases z2 : 3078 + 3 * n ≤ k ∧ k < 3081 + 3 * n
      · have q := hv (k - (3078 + 3 * n)) (by omega)
        rw [show 3078 + 3 * n + (k - (3078 + 3 * n)) = k by omega] at q
        rw [Nat.zero_add]
        exact Or.inr q
      · exact Or.inl (hB0 k z z2)
  · obtain ⟨-, r1, r2, r3, r4⟩ := h.l
    (try dsimp only at r1 r2 r3 r4)
    have f3 : (B.1 201 (0 + 3)).toInt = (n : Int) := hn
    have f3' : (B'.1 201 (0 + 3)).toInt = (n : Int) + 1 := hs2
    have c3 := i_clamp (x := B.1 201 (0 + 3)) (by omega)
    have c3' := i_clamp (x := B'.1 201 (0 + 3)) (by omega)
    have n3 : (B.1 201 (0 + 3)).toNatClampNeg = n := by omega
    have n3' : (B'.1 201 (0 + 3)).toNatClampNeg = n + 1 := by omega
    have f1 : (l0 : Int) < (B.1 201 (0 + 1)).toInt := hl1
    refine ⟨(), fun l hl z => ?_, fun m hm' z => ?_, fun a ha => ?_, fun l hl z y hy => ?_⟩
    · (try dsimp only at z ⊢)
      rw [hB0 1 (by decide) (by omega)] at z
      rw [hB0 _ (by omega) (by omega), hB0 0 (by decide) (by omega)]
      exact r1 l hl z
    · (try dsimp only at z ⊢)
      rw [hB0 1 (by decide) (by omega)]
      by_cases e : m = n
      · subst e
        rw [Nat.zero_add (3078 + 3 * m), hl0]
        exact f1
      · rw [hB0 _ (by omega) (by omega)]
        exact r2 m hm' (by omega)
    · (try dsimp only)
      rw [hB0 _ (by omega) (by omega), hB0 _ (by omega) (by omega)]
      exact r3 a ha
    · (try dsimp only at z ⊢)
      rw [hB0 1 (by decide) (by omega)] at z
      rw [n3']
      unfold r_plm
      rw [Nat.zero_add (3078 + 3 * n), Nat.zero_add (3079 + 3 * n), Nat.zero_add (3080 + 3 * n), hl0, hy0]
      show A'.1 37 (40 * l + y) = _
      by_cases e : (l0 : Int) = (l : Int) ∧ (y0 : Int) ≤ (y : Int)
      · rw [if_pos e]
        exact hpl _ (by omega) (by omega)
      · rw [if_neg e]
        have q := r4 l hl z y hy
        rw [n3] at q
        rw [hA 37 _ (by decide) (by decide) (fun z => by omega) (fun z => by omega) (fun z => by omega), show A.1 37 (40 * l + y) = _ from q]
        exact (r_plm_cg (hB0 _ (by omega) (by omega)) _ (fun k z1 z2 => hB0 k (by omega) (by omega))).symm
  · show am_in (A'.1 37 k) 5
    by_cases z : 40 * l0 + y0 ≤ k ∧ k < 40 * l0 + 40
    · rw [hpl k z.1 z.2]
      have q := (hv 1 (by decide)).a26 ⟨by omega, by omega, by omega⟩
      rw [show 3078 + 3 * n + 1 = 3079 + 3 * n by omega] at q
      exact ⟨q.1, by omega⟩
    · rw [hA 37 k (by decide) (by decide) (fun z => by omega) (fun z => by omega) (fun z => by omega)]
      exact h.p hk
  · rw [hA _ _ (by omega) (by omega) (fun z => by omega) (fun z => by omega) (fun z => by omega)]; exact h.c ht
/-- a text read: of which the reference holds nothing -/
theorem lb.tx {A B A' : am_M} (h : lb 20 201 0 A B) {t : Nat} (ht : t < 5) (hA : ∀ a k, ¬ am_tS (39 + 3 * t) (41 + 3 * t) a k → A'.1 a k = A.1 a k) (hc : am_rg (A'.1 (39 + 3 * t) 2) 50) : lb 20 201 0 A' B := by
  have hq : ∀ q ∈ rl_c, ∀ t, t < 5 → q.1 ≠ 21 + 3 * t ∧ (q.1 = 19 + 3 * t → q.2.1 = 5 ∧ q.2.2.2 = 1) := by decide
  have h17 : A'.1 (20 + 17) = A.1 (20 + 17) := funext fun k => hA 37 k (by unfold am_tS; omega)
  obtain ⟨-, a1, a2, a3⟩ := h.r
  have e31 : A'.1 (20 + 11) 2 = A.1 (20 + 11) 2 := hA 31 2 (by unfold am_tS; omega)
  refine ⟨(), ⟨(), fun q hq' k hk => ?_, ?_, fun k hk => ?_⟩, h.t, ?_, fun k hk => ?_, fun u hu => ?_⟩
  · have z := hq q hq' t ht
    rw [hA _ _ (by unfold am_tS; omega)]
    exact a1 q hq' k hk
  · rw [e31]; exact a2
  · rw [e31] at hk
    rw [hA _ _ (by unfold am_tS; omega)]
    exact a3 k hk
  · rw [h17]; exact h.l
  · rw [h17]; exact h.p hk
  · by_cases e : u = t
    · subst e
      rw [show 20 + (19 + 3 * u) = 39 + 3 * u by omega]
      exact hc
    · rw [hA _ _ (by unfold am_tS; omega)]
      exact h.c hu
section STS
variable {i1 i2 : Bool} {M : am_M}
theorem d1 {x : Int32} (h1 : 0 ≤ x.toInt) (h2 : x.toInt ≤ 1000) : x + 1 - 1 = x := by
  have a := i_inc (x := x) (by omega) (by omega)
  have b := i_sub (x := x + 1) (y := 1) (by simp only [Int32.reduceToInt]; omega) (by simp only [Int32.reduceToInt]; omega)
  simp only [Int32.reduceToInt] at b
  rw [i_eq]
  omega
/-- a number of a loan -/
theorem LI.ln (h : LI i1 i2 M) {l c : Int32} {k : Nat} (hl : 0 ≤ l.toInt ∧ l.toInt < (M.1 201 1).toInt) (hc : c.toInt = (k : Int)) (hk : k < 8) : am_at (M.1 34) (am_len 34) (l * M.1 33 1 + c) = M.1 201 (2838 + 8 * l + c).toNatClampNeg ∧ (2838 + 8 * l + c).toNatClampNeg = 2838 + 8 * l.toNatClampNeg + k ∧ am_in (l * M.1 33 1 + c) 240 ∧ (l * M.1 33 1 + c).toNatClampNeg = 8 * l.toNatClampNeg + k ∧ l.toNatClampNeg < 30 := by
  have n1 := h.n1
  have w := h.w.2.1
  have cl := i_clamp hl.1
  have a := x_mul (c := 8) (cn := 8) rfl (x := l) ⟨hl.1, by omega⟩ (by decide)
  have b := x_mulr (c := 8) (cn := 8) rfl (x := l) ⟨hl.1, by omega⟩ (by decide)
  have a2 := x_offi (c := 2838) (cn := 2838) rfl (x := 8 * l) ⟨by omega, by omega⟩ (by decide)
  have a3 := i_add (x := 2838 + 8 * l) (y := c) (by omega) (by omega)
  have b3 := i_add (x := l * 8) (y := c) (by omega) (by omega)
  have c1 := i_clamp (x := 2838 + 8 * l + c) (by omega)
  have c2 := i_clamp (x := l * 8 + c) (by omega)
  have l34 : am_len 34 = 240 := rfl
  rw [w]
  have hi : am_in (l * 8 + c) 240 := ⟨by omega, by omega⟩
  refine ⟨?_, by omega, hi, by omega, by omega⟩
  rw [l34, am_at_in hi]
  have e := h.e (o := 14) (k0 := 0) (b0 := 2838) (n := 240) (by decide) (k := (l * 8 + c).toNatClampNeg) (by omega)
  rw [Nat.zero_add, show 2838 + (l * 8 + c).toNatClampNeg = (2838 + 8 * l + c).toNatClampNeg by omega] at e
  exact e
theorem st_sell (h : LI i1 i2 M) (l b y : Int32) : st i1 i2 M (c_sell M l b y) (fun N => r_sell N l b y) := by
  have e1 := h.e1
  have n1 := h.n1
  by_cases z0 : 0 ≤ l ∧ l < M.1 201 1
  rotate_left
  · exact st.no h (by unfold c_sell; rw [e1]; exact if_neg z0) (if_neg z0)
  by_cases z1 : 0 ≤ b ∧ b ≤ 3
  rotate_left
  · exact st.no h (by unfold c_sell; rw [e1, if_pos z0, if_neg z1]) (by (try dsimp only); unfold r_sell; rw [if_pos z0, if_neg z1])
  by_cases z2 : 0 ≤ y ∧ y < 40
  rotate_left
  · exact st.no h (by unfold c_sell; rw [e1, if_pos z0, if_pos z1, if_neg z2]) (by (try dsimp only); unfold r_sell; rw [if_pos z0, if_pos z1, if_neg z2])
  have b0 := b4 z0
  have b1 := bt z1
  simp only [Int32.reduceToInt] at b1
  have b2 := yr z2
  have c0 := i_clamp b0.1
  obtain ⟨v6, x6, -⟩ := h.ln (c := 6) (k := 6) b0 rfl (by decide)
  obtain ⟨v7, x7, -⟩ := h.ln (c := 7) (k := 7) b0 rfl (by decide)
  have hr := (h.v (k := (2838 + 8 * l + 6).toNatClampNeg) (by omega)).a23 (by omega)
  have hn := neg1 hr.1
  by_cases z3 : M.1 201 (2838 + 8 * l + 6).toNatClampNeg < 0
  rotate_left
  · exact st.no h (by unfold c_sell; rw [e1, if_pos z0, if_pos z1, if_pos z2, v6, if_neg (fun q => z3 (hn.mp q))]) (by (try dsimp only); unfold r_sell; rw [if_pos z0, if_pos z1, if_pos z2, if_neg z3])
  have w := h.w.2.1
  have d8 : (8 : Int32).toInt = 8 := rfl
  have l34 : am_len 34 = 240 := rfl
  have d6 : (6 : Int32).toInt = 6 := rfl
  have d7 : (7 : Int32).toInt = 7 := rfl
  have q6 : am_rput M 33 34 l 6 b = am_wI M 34 (8 * l.toNatClampNeg + 6) b := rput_at (w := 8) (n := l.toNatClampNeg) (by rw [w]; rfl) c0.symm (by decide) (by decide) (by omega) (by omega) (by decide)
  have q7 : am_rput (am_wI M 34 (8 * l.toNatClampNeg + 6) b) 33 34 l 7 y = am_wI (am_wI M 34 (8 * l.toNatClampNeg + 6) b) 34 (8 * l.toNatClampNeg + 7) y := rput_at (w := 8) (n := l.toNatClampNeg) (by rw [am_wI_1, if_neg (fun z => by omega), w]; rfl) c0.symm (by decide) (by decide) (by omega) (by omega) (by decide)
  have eN : ∀ j, (am_wI (am_wI M 34 (8 * l.toNatClampNeg + 6) b) 34 (8 * l.toNatClampNeg + 7) y).1 201 j = M.1 201 j := fun j => by (repeat (first | rw [am_wI_1, if_pos ⟨rfl, by omega⟩] | rw [am_wI_1, if_neg (fun q => by omega)] | rw [am_lay_1, if_pos ⟨rfl, by omega, by omega⟩] | rw [am_lay_1, if_neg (fun q => by omega)]))
  refine st.yes (by unfold c_sell; rw [e1, if_pos z0, if_pos z1, if_pos z2, v6, if_pos (hn.mpr z3), q6, q7]) (by (try dsimp only); unfold r_sell; rw [eN, eN, if_pos z0, if_pos z1, if_pos z2, if_pos z3]) rfl ?_ (fun a k z => by (repeat (first | rw [am_wI_1, if_pos ⟨rfl, by omega⟩] | rw [am_wI_1, if_neg (fun q => by omega)] | rw [am_lay_1, if_pos ⟨rfl, by omega, by omega⟩] | rw [am_lay_1, if_neg (fun q => by omega)])))
  exact h.told ((h.b.put (u := 14) (k0 := 0) (b0 := 2838) (n := 240) (k := 8 * l.toNatClampNeg + 6) (n1 := 34) (k1 := 8 * l.toNatClampNeg + 6) (k2 := (2838 + 8 * l + 6).toNatClampNeg) (by decide) (by omega) rfl (by omega) (by omega) b (by exact t_v.m23 (by omega) (by omega)) (by (unfold t_dep; omega))).put (u := 14) (k0 := 0) (b0 := 2838) (n := 240) (k := 8 * l.toNatClampNeg + 7) (n1 := 34) (k1 := 8 * l.toNatClampNeg + 7) (k2 := (2838 + 8 * l + 7).toNatClampNeg) (by decide) (by omega) rfl (by omega) (by omega) y (by exact t_v.m24 (by omega) (by omega)) (by (unfold t_dep; omega))) (fun a k z1 z2 => by (repeat (first | rw [am_wI_1, if_pos ⟨rfl, by omega⟩] | rw [am_wI_1, if_neg (fun q => by omega)] | rw [am_lay_1, if_pos ⟨rfl, by omega, by omega⟩] | rw [am_lay_1, if_neg (fun q => by omega)]))) (fun k => by (simp only [am_wI_1, am_lay_1, Nat.reduceEqDiff, false_and, true_and, if_false])) (fun a k z1 z2 => by (repeat (first | rw [am_wI_1, if_pos ⟨rfl, by omega⟩] | rw [am_wI_1, if_neg (fun q => by omega)] | rw [am_lay_1, if_pos ⟨rfl, by omega, by omega⟩] | rw [am_lay_1, if_neg (fun q => by omega)]))) (fun a z => by (repeat (first | rw [am_wI_1, if_pos ⟨rfl, by omega⟩] | rw [am_wI_1, if_neg (fun q => by omega)] | rw [am_lay_1, if_pos ⟨rfl, by omega, by omega⟩] | rw [am_lay_1, if_neg (fun q => by omega)])))
theorem gv_eq (s d : Int32) : (am_sumGiven s d) = s.toInt64 * ((if d = 0 then 750 else if d = 1 then 500 else 0 : Int32)).toInt64 / 1000 := by
  unfold am_sumGiven
  by_cases z0 : d = 0
  · rw [if_pos z0, if_pos z0]; rfl
  · rw [if_neg z0, if_neg z0]
    by_cases z1 : d = 1
    · rw [if_pos z1, if_pos z1]; rfl
    · rw [if_neg z1, if_neg z1, show (0 : Int32).toInt64 = 0 from rfl, Int64.mul_zero]; rfl
theorem st_leave (h : LI i1 i2 M) (l y : Int32) : st i1 i2 M (c_leave M l y) (fun N => r_leave N l y) := by
  have e1 := h.e1
  have n1 := h.n1
  by_cases z0 : 0 ≤ l ∧ l < M.1 201 1
  rotate_left
  · exact st.no h (by unfold c_leave; rw [e1]; exact if_neg z0) (if_neg z0)
  by_cases z1 : 0 ≤ y ∧ y < 40
  rotate_left
  · exact st.no h (by unfold c_leave; rw [e1, if_pos z0, if_neg z1]) (by (try dsimp only); unfold r_leave; rw [if_pos z0, if_neg z1])
  have b0 := b4 z0
  have b1 := yr z1
  have c0 := i_clamp b0.1
  obtain ⟨v2, x2, g2, j2, -⟩ := h.ln (c := 2) (k := 2) b0 rfl (by decide)
  obtain ⟨v3, x3, g3, j3, -⟩ := h.ln (c := 3) (k := 3) b0 rfl (by decide)
  obtain ⟨v4, x4, g4, j4, -⟩ := h.ln (c := 4) (k := 4) b0 rfl (by decide)
  obtain ⟨v5, x5, g5, j5, -⟩ := h.ln (c := 5) (k := 5) b0 rfl (by decide)
  have hf := (h.v (k := (2838 + 8 * l + 4).toNatClampNeg) (by omega)).a21 (by omega)
  have hr := (h.v (k := (2838 + 8 * l + 5).toNatClampNeg) (by omega)).a22 (by omega)
  have hn := neg1 hr.1
  have hfe : (M.1 201 (2838 + 8 * l + 4).toNatClampNeg = 1) ↔ ¬ (M.1 201 (2838 + 8 * l + 4).toNatClampNeg = 0) := by
    simp only [i_eq, Int32.reduceToInt]
    omega
  by_cases z2 : M.1 201 (2838 + 8 * l + 4).toNatClampNeg = 0
  · exact st.no h (by unfold c_leave; rw [e1, if_pos z0, if_pos z1, v4, if_neg (fun q => hfe.mp q z2)]) (by (try dsimp only); unfold r_leave; rw [if_pos z0, if_pos z1, if_pos z2])
  by_cases z3 : M.1 201 (2838 + 8 * l + 2).toNatClampNeg ≤ y
  rotate_left
  · exact st.no h (by unfold c_leave; rw [e1, if_pos z0, if_pos z1, v4, if_pos (hfe.mpr z2), v2, if_neg z3]) (by (try dsimp only); unfold r_leave; rw [if_pos z0, if_pos z1, if_neg z2, if_neg z3])
  by_cases z4 : M.1 201 (2838 + 8 * l + 5).toNatClampNeg < 0
  rotate_left
  · exact st.no h (by unfold c_leave; rw [e1, if_pos z0, if_pos z1, v4, if_pos (hfe.mpr z2), v2, if_pos z3, v5, if_neg (fun q => z4 (hn.mp q))]) (by (try dsimp only); unfold r_leave; rw [if_pos z0, if_pos z1, if_neg z2, if_pos z3, if_neg z4])
  have w := h.w.2.1
  have d5 : (5 : Int32).toInt = 5 := rfl
  have l34 : am_len 34 = 240 := rfl
  have q5 : am_rput M 33 34 l 5 y = am_wI M 34 (8 * l.toNatClampNeg + 5) y := rput_at (w := 8) (n := l.toNatClampNeg) (by rw [w]; rfl) c0.symm (by decide) (by decide) (by omega) (by omega) (by decide)
  have eN : ∀ j, (am_wI M 34 (8 * l.toNatClampNeg + 5) y).1 201 j = M.1 201 j := fun j => by (repeat (first | rw [am_wI_1, if_pos ⟨rfl, by omega⟩] | rw [am_wI_1, if_neg (fun q => by omega)] | rw [am_lay_1, if_pos ⟨rfl, by omega, by omega⟩] | rw [am_lay_1, if_neg (fun q => by omega)]))
  have ew : (am_wI M 34 (8 * l.toNatClampNeg + 5) y).1 33 1 = M.1 33 1 := by (repeat (first | rw [am_wI_1, if_pos ⟨rfl, by omega⟩] | rw [am_wI_1, if_neg (fun q => by omega)] | rw [am_lay_1, if_pos ⟨rfl, by omega, by omega⟩] | rw [am_lay_1, if_neg (fun q => by omega)]))
  have a3 : am_loanAt (am_wI M 34 (8 * l.toNatClampNeg + 5) y) l 3 = M.1 201 (2838 + 8 * l + 3).toNatClampNeg := by
    unfold am_loanAt
    rw [ew, am_at_in g3, j3, ← v3, l34, am_at_in g3, j3]
    (repeat (first | rw [am_wI_1, if_pos ⟨rfl, by omega⟩] | rw [am_wI_1, if_neg (fun q => by omega)] | rw [am_lay_1, if_pos ⟨rfl, by omega, by omega⟩] | rw [am_lay_1, if_neg (fun q => by omega)]))
  have a2 : am_loanAt (am_wI M 34 (8 * l.toNatClampNeg + 5) y) l 2 = M.1 201 (2838 + 8 * l + 2).toNatClampNeg := by
    unfold am_loanAt
    rw [ew, am_at_in g2, j2, ← v2, l34, am_at_in g2, j2]
    (repeat (first | rw [am_wI_1, if_pos ⟨rfl, by omega⟩] | rw [am_wI_1, if_neg (fun q => by omega)] | rw [am_lay_1, if_pos ⟨rfl, by omega, by omega⟩] | rw [am_lay_1, if_neg (fun q => by omega)]))
  have a5 : am_loanAt (am_wI M 34 (8 * l.toNatClampNeg + 5) y) l 5 = y := by
    unfold am_loanAt
    rw [ew, am_at_in g5, j5]
    (repeat (first | rw [am_wI_1, if_pos ⟨rfl, by omega⟩] | rw [am_wI_1, if_neg (fun q => by omega)] | rw [am_lay_1, if_pos ⟨rfl, by omega, by omega⟩] | rw [am_lay_1, if_neg (fun q => by omega)]))
  refine st.yes (w := r_given (am_wI (am_wI M 34 (8 * l.toNatClampNeg + 5) y) 201 (2838 + 8 * l + 5).toNatClampNeg y) l y) (F := am_wI (am_wI M 34 (8 * l.toNatClampNeg + 5) y) 201 (2838 + 8 * l + 5).toNatClampNeg y) (by unfold c_leave; rw [e1, if_pos z0, if_pos z1, v4, if_pos (hfe.mpr z2), v2, if_pos z3, v5, if_pos (hn.mpr z4), q5, a3, a2, a5]) (by (try dsimp only); unfold r_leave; simp only [eN]; rw [if_pos z0, if_pos z1, if_neg z2, if_pos z3, if_pos z4]) ?_ ?_ (fun a k z => by (repeat (first | rw [am_wI_1, if_pos ⟨rfl, by omega⟩] | rw [am_wI_1, if_neg (fun q => by omega)] | rw [am_lay_1, if_pos ⟨rfl, by omega, by omega⟩] | rw [am_lay_1, if_neg (fun q => by omega)])))
  · unfold r_given
    rw [gv_eq, show (am_wI (am_wI M 34 (8 * l.toNatClampNeg + 5) y) 201 (2838 + 8 * l + 5).toNatClampNeg y).1 201 (2838 + 8 * l + 3).toNatClampNeg = M.1 201 (2838 + 8 * l + 3).toNatClampNeg by (repeat (first | rw [am_wI_1, if_pos ⟨rfl, by omega⟩] | rw [am_wI_1, if_neg (fun q => by omega)] | rw [am_lay_1, if_pos ⟨rfl, by omega, by omega⟩] | rw [am_lay_1, if_neg (fun q => by omega)])), show (am_wI (am_wI M 34 (8 * l.toNatClampNeg + 5) y) 201 (2838 + 8 * l + 5).toNatClampNeg y).1 201 (2838 + 8 * l + 2).toNatClampNeg = M.1 201 (2838 + 8 * l + 2).toNatClampNeg by (repeat (first | rw [am_wI_1, if_pos ⟨rfl, by omega⟩] | rw [am_wI_1, if_neg (fun q => by omega)] | rw [am_lay_1, if_pos ⟨rfl, by omega, by omega⟩] | rw [am_lay_1, if_neg (fun q => by omega)]))]
  · exact h.told (h.b.put (u := 14) (k0 := 0) (b0 := 2838) (n := 240) (k := 8 * l.toNatClampNeg + 5) (n1 := 34) (k1 := 8 * l.toNatClampNeg + 5) (k2 := (2838 + 8 * l + 5).toNatClampNeg) (by decide) (by omega) rfl (by omega) (by omega) y (by exact t_v.m22 (by omega) (by omega)) (by (unfold t_dep; omega))) (fun a k z1 z2 => by (repeat (first | rw [am_wI_1, if_pos ⟨rfl, by omega⟩] | rw [am_wI_1, if_neg (fun q => by omega)] | rw [am_lay_1, if_pos ⟨rfl, by omega, by omega⟩] | rw [am_lay_1, if_neg (fun q => by omega)]))) (fun k => by (simp only [am_wI_1, am_lay_1, Nat.reduceEqDiff, false_and, true_and, if_false])) (fun a k z1 z2 => by (repeat (first | rw [am_wI_1, if_pos ⟨rfl, by omega⟩] | rw [am_wI_1, if_neg (fun q => by omega)] | rw [am_lay_1, if_pos ⟨rfl, by omega, by omega⟩] | rw [am_lay_1, if_neg (fun q => by omega)]))) (fun a z => by (repeat (first | rw [am_wI_1, if_pos ⟨rfl, by omega⟩] | rw [am_wI_1, if_neg (fun q => by omega)] | rw [am_lay_1, if_pos ⟨rfl, by omega, by omega⟩] | rw [am_lay_1, if_neg (fun q => by omega)])))
end STS
