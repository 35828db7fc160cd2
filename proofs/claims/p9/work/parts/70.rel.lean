/-! the relation of class and reference: what both hold of what is told -/
/-- (offset of the name in a house's block, first place there, place among the reference's numbers, how many) -/
def rl_c : List (Nat × Nat × Nat × Nat) := [(1, 7, 0, 1), (13, 2, 1, 1), (15, 2, 3, 1), (34, 2, 4, 1), (0, 12, 5, 1), (2, 0, 10, 12), (3, 0, 22, 12), (4, 0, 34, 480), (9, 0, 514, 4), (10, 0, 518, 40), (5, 0, 558, 480), (6, 0, 1038, 480), (7, 0, 1518, 480), (8, 0, 1998, 480), (14, 0, 2838, 240), (16, 0, 3078, 180), (20, 0, 3258, 50), (23, 0, 3308, 50), (26, 0, 3358, 50), (29, 0, 3408, 50), (32, 0, 3458, 50), (19, 5, 3508, 1), (22, 5, 3509, 1), (25, 5, 3510, 1), (28, 5, 3511, 1), (31, 5, 3512, 1), (35, 0, 3513, 60), (36, 0, 3573, 160), (37, 0, 3733, 12), (38, 0, 3745, 9)]
/-- the class's block b in A, the reference's array r from o on in B -/
def rl (b r o : Nat) (A B : am_M) : Prop := ∃ _ : Unit, (∀ q ∈ rl_c, ∀ k, k < q.2.2.2 → A.1 (b + q.1) (q.2.1 + k) = B.1 r (o + (q.2.2.1 + k))) ∧ A.1 (b + 11) 2 = B.1 r (o + 2) ∧ ∀ k, k < 6 * (A.1 (b + 11) 2).toNatClampNeg → A.1 (b + 12) k = B.1 r (o + (2478 + k))
theorem rl_c_names : ∀ q ∈ rl_c, ∀ q' ∈ rl_c, q.1 = q'.1 → q = q' := by decide
theorem rl_c_apart : ∀ q ∈ rl_c, ∀ q' ∈ rl_c, q = q' ∨ q.2.2.1 + q.2.2.2 ≤ q'.2.2.1 ∨ q'.2.2.1 + q'.2.2.2 ≤ q.2.2.1 := by decide
theorem rl_c_off : ∀ q ∈ rl_c, q.1 ≠ 11 ∧ q.1 ≠ 12 ∧ (q.2.2.1 + q.2.2.2 ≤ 2 ∨ 3 ≤ q.2.2.1) ∧ (q.2.2.1 + q.2.2.2 ≤ 2478 ∨ 2838 ≤ q.2.2.1) := by decide
theorem rl.c {b r o : Nat} {A B : am_M} (h : rl b r o A B) {q : Nat × Nat × Nat × Nat} (hq : q ∈ rl_c) {k : Nat} (hk : k < q.2.2.2) : A.1 (b + q.1) (q.2.1 + k) = B.1 r (o + (q.2.2.1 + k)) := by obtain ⟨-, h, -⟩ := h; exact h q hq k hk
/-- a number put on both sides -/
theorem rl.put {b r o : Nat} {A B : am_M} (h : rl b r o A B) {q : Nat × Nat × Nat × Nat} (hq : q ∈ rl_c) {k : Nat} (hk : k < q.2.2.2) (v : Int32) (ha : (A.1 (b + 11) 2).toNatClampNeg ≤ 60) : rl b r o (am_wI A (b + q.1) (q.2.1 + k) v) (am_wI B r (o + (q.2.2.1 + k)) v) := by
  have ho := rl_c_off q hq
  obtain ⟨-, h1, h2, h3⟩ := h
  have e11 : (am_wI A (b + q.1) (q.2.1 + k) v).1 (b + 11) 2 = A.1 (b + 11) 2 := by rw [am_wI_1, if_neg (fun z => ho.1 (by omega))]
  refine ⟨(), fun q' hq' k' hk' => ?_, ?_, fun k' hk' => ?_⟩
  · rw [am_wI_1, am_wI_1]
    by_cases e : q' = q
    · subst e
      by_cases e2 : k' = k
      · subst e2
        rw [if_pos ⟨rfl, rfl⟩, if_pos ⟨rfl, rfl⟩]
      · rw [if_neg (fun z => e2 (by omega)), if_neg (fun z => e2 (by omega))]
        exact h1 _ hq' _ hk'
    · have n1 : q'.1 ≠ q.1 := fun z => e (rl_c_names q' hq' q hq z)
      have n2 := (rl_c_apart q' hq' q hq).resolve_left e
      rw [if_neg (fun z => n1 (by omega)), if_neg (fun z => by omega)]
      exact h1 _ hq' _ hk'
  · rw [e11, am_wI_1, if_neg (fun z => by omega)]
    exact h2
  · rw [e11] at hk'
    rw [am_wI_1, if_neg (fun z => ho.2.1 (by omega)), am_wI_1, if_neg (fun z => by omega)]
    exact h3 _ hk'
/-- the sides are looked at by their own names alone -/
theorem rl.cg {b r o : Nat} {A B A' B' : am_M} (h : rl b r o A B) (h1 : ∀ a k, b ≤ a → a < b + 39 → A'.1 a k = A.1 a k) (h2 : ∀ k, o ≤ k → k < o + 3760 → B'.1 r k = B.1 r k) (ha : (A.1 (b + 11) 2).toNatClampNeg ≤ 60) : rl b r o A' B' := by
  obtain ⟨-, a1, a2, a3⟩ := h
  have hl : ∀ q ∈ rl_c, q.1 < 39 ∧ q.2.2.1 + q.2.2.2 ≤ 3760 := by decide
  have e11 := h1 (b + 11) 2 (by omega) (by omega)
  refine ⟨(), fun q hq k hk => ?_, ?_, fun k hk => ?_⟩
  · have := hl q hq
    rw [h1 _ _ (by omega) (by omega), h2 _ (by omega) (by omega)]
    exact a1 q hq k hk
  · rw [e11, h2 _ (by omega) (by omega)]
    exact a2
  · rw [e11] at hk
    rw [h1 _ _ (by omega) (by omega), h2 _ (by omega) (by omega)]
    exact a3 k hk
/-- a stretch laid on both sides -/
theorem rl.lay {b r o : Nat} {A B : am_M} (h : rl b r o A B) {q : Nat × Nat × Nat × Nat} (hq : q ∈ rl_c) (lo hi : Int) (v : Int32) (h0 : 0 ≤ lo) (hh : hi < (q.2.2.2 : Int)) (ha : (A.1 (b + 11) 2).toNatClampNeg ≤ 60) : rl b r o (am_lay A (b + q.1) (q.2.1 + lo) (q.2.1 + hi) v) (am_lay B r ((o + q.2.2.1 : Nat) + lo) ((o + q.2.2.1 : Nat) + hi) v) := by
  have ho := rl_c_off q hq
  obtain ⟨-, h1, h2, h3⟩ := h
  have e11 : (am_lay A (b + q.1) (q.2.1 + lo) (q.2.1 + hi) v).1 (b + 11) 2 = A.1 (b + 11) 2 := by rw [am_lay_1, if_neg (fun z => ho.1 (by omega))]
  refine ⟨(), fun q' hq' k' hk' => ?_, ?_, fun k' hk' => ?_⟩
  · rw [am_lay_1, am_lay_1]
    by_cases e : q' = q
    · subst e
      by_cases e2 : lo ≤ (k' : Int) ∧ (k' : Int) ≤ hi
      · rw [if_pos ⟨rfl, by omega, by omega⟩, if_pos ⟨rfl, by omega, by omega⟩]
      · rw [if_neg (fun z => e2 (by omega)), if_neg (fun z => e2 (by omega))]
        exact h1 _ hq' _ hk'
    · have n1 : q'.1 ≠ q.1 := fun z => e (rl_c_names q' hq' q hq z)
      have n2 := (rl_c_apart q' hq' q hq).resolve_left e
      rw [if_neg (fun z => n1 (by omega)), if_neg (fun z => by omega)]
      exact h1 _ hq' _ hk'
  · rw [e11, am_lay_1, if_neg (fun z => by omega)]
    exact h2
  · rw [e11] at hk'
    rw [am_lay_1, if_neg (fun z => ho.2.1 (by omega)), am_lay_1, if_neg (fun z => by omega)]
    exact h3 _ hk'
/-- a house taken over on both sides -/
theorem rl.cpy {b m r o r' o' : Nat} {A A' B B' : am_M} (h : rl m r o A B) (h1 : ∀ u k, g_hit g_sh0 u k = true → A'.1 (b + u) k = A.1 (m + u) k) (h2 : ∀ k, k < 3760 → B'.1 r' (o' + k) = B.1 r (o + k)) (ha : (A.1 (m + 11) 2).toNatClampNeg ≤ 60) : rl b r' o' A' B' := by
  obtain ⟨-, a1, a2, a3⟩ := h
  have hl : ∀ q ∈ rl_c, q.2.2.1 + q.2.2.2 ≤ 3760 ∧ ∃ s ∈ g_sh0, s.1 = q.1 ∧ s.2.1 ≤ q.2.1 ∧ q.2.1 + q.2.2.2 ≤ s.2.1 + s.2.2 := by decide
  have hit : ∀ s ∈ g_sh0, ∀ k, s.2.1 ≤ k → k < s.2.1 + s.2.2 → g_hit g_sh0 s.1 k = true := fun s hs k k1 k2 => by
    unfold g_hit
    exact List.any_eq_true.mpr ⟨s, hs, by rw [Bool.and_eq_true, Bool.and_eq_true]; exact ⟨⟨Nat.beq_refl _, Nat.ble_eq.mpr k1⟩, Nat.ble_eq.mpr k2⟩⟩
  have e11 : A'.1 (b + 11) 2 = A.1 (m + 11) 2 := h1 11 2 (hit (11, 2, 1) (by decide) 2 (by decide) (by decide))
  refine ⟨(), fun q hq k hk => ?_, ?_, fun k hk => ?_⟩
  · obtain ⟨l1, s, hs, s1, s2, s3⟩ := hl q hq
    rw [h1 q.1 _ (s1 ▸ hit s hs _ (by omega) (by omega)), h2 _ (by omega)]
    exact a1 q hq k hk
  · rw [e11, h2 _ (by decide)]
    exact a2
  · rw [e11] at hk
    rw [h1 12 k (hit (12, 0, 366) (by decide) k (Nat.zero_le _) (by show k < 0 + 366; omega)), h2 _ (by omega)]
    exact a3 k hk
