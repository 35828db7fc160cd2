/-! what holds between calls, of both -/
def li (M : am_M) : Prop := ∃ _ : Unit, rl 20 201 0 M M ∧ r_T M ∧ (M.1 31 1 = 6 ∧ M.1 33 1 = 8 ∧ M.1 35 1 = 3 ∧ M.1 54 1 = 3) ∧ (∀ k, k < 1200 → am_in (M.1 37 k) 5) ∧ (∀ t, t < 5 → am_rg (M.1 (39 + 3 * t) 2) 50) ∧ g_sI M ∧ r_S M
theorem rl.e {A B : am_M} (h : rl 20 201 0 A B) {o k0 b0 n : Nat} (hq : (o, k0, b0, n) ∈ rl_c) {k : Nat} (hk : k < n) : A.1 (20 + o) (k0 + k) = B.1 201 (b0 + k) := by
  have q := h.c hq hk
  rw [Nat.zero_add] at q
  exact q
theorem li.rl {M : am_M} (h : li M) : rl 20 201 0 M M := by obtain ⟨-, h, -⟩ := h; exact h
theorem li.T {M : am_M} (h : li M) : r_T M := by obtain ⟨-, -, h, -⟩ := h; exact h
theorem li.i {M : am_M} (h : li M) : r_I M := by obtain ⟨-, -, h, -, -, -, -, h2⟩ := h; exact ⟨(), h, h2⟩
theorem li.ac {M : am_M} (h : li M) : M.1 31 2 = M.1 201 2 := by
  obtain ⟨-, -, h, -⟩ := h.rl
  exact h
theorem li.h {M : am_M} (h : li M) : g_hI M := by
  have hr := h.rl
  have hi := h.i
  have ha := h.ac
  obtain ⟨-, -, -, ⟨w1, w2, w3, w4⟩, -⟩ := h
  have e0 : M.1 21 7 = M.1 201 0 := hr.e (o := 1) (k0 := 7) (b0 := 0) (n := 1) (by decide) (k := 0) (by decide)
  have e1 : M.1 33 2 = M.1 201 1 := hr.e (o := 13) (k0 := 2) (b0 := 1) (n := 1) (by decide) (k := 0) (by decide)
  have e3 : M.1 35 2 = M.1 201 3 := hr.e (o := 15) (k0 := 2) (b0 := 3) (n := 1) (by decide) (k := 0) (by decide)
  have e4 : M.1 54 2 = M.1 201 4 := hr.e (o := 34) (k0 := 2) (b0 := 4) (n := 1) (by decide) (k := 0) (by decide)
  have e5 : M.1 20 12 = M.1 201 5 := hr.e (o := 0) (k0 := 12) (b0 := 5) (n := 1) (by decide) (k := 0) (by decide)
  refine ⟨(), ?_, ⟨w1, ?_⟩, ⟨w2, ?_⟩, ⟨w3, ?_⟩, ⟨w4, ?_⟩, ?_, fun l hl => ?_⟩
  · rw [e0]; exact am_rg.o hi.n0.1 hi.n0.2
  · rw [ha]; exact am_rg.o hi.n2.1 hi.n2.2
  · rw [e1]; exact am_rg.o hi.n1.1 hi.n1.2
  · rw [e3]; exact am_rg.o hi.n3.1 hi.n3.2
  · rw [e4]; exact am_rg.o hi.n4.1 hi.n4.2
  · rw [e5]; exact am_rg.o hi.n5.1 hi.n5.2
  · have e := hr.e (o := 14) (k0 := 0) (b0 := 2838) (n := 240) (by decide) (k := 8 * l) (by omega)
    rw [Nat.zero_add] at e
    rw [show M.1 34 (8 * l) = M.1 201 (2838 + 8 * l) from e]
    exact (hi.lo hl).1
theorem li.g {M : am_M} (h : li M) : g_rI M := by
  have hr := h.rl
  have hi := h.i
  obtain ⟨-, -, -, -, hp, hc, hs, -⟩ := h
  have tx : ∀ t, t < 5 → (19 + 3 * t, 5, 3508 + t, 1) ∈ rl_c → am_t0 M (39 + 3 * t) := fun t ht hq => by
    have e := hr.e hq (k := 0) (by decide)
    have e' : M.1 (39 + 3 * t) 5 = M.1 201 (3508 + t) := by
      rw [show 39 + 3 * t = 20 + (19 + 3 * t) by omega]
      exact e
    have q := hi.tx ht
    rw [← e'] at q
    exact ⟨(), (hc t ht).i, q⟩
  refine ⟨(), ⟨(), hp, fun k hk => ?_, tx 0 (by decide) (by decide), tx 1 (by decide) (by decide), tx 2 (by decide) (by decide), tx 3 (by decide) (by decide), tx 4 (by decide) (by decide)⟩, hs⟩
  have e := hr.e (o := 4) (k0 := 0) (b0 := 34) (n := 480) (by decide) (k := k) hk
  rw [Nat.zero_add] at e
  rw [show M.1 24 k = M.1 201 (34 + k) from e]
  exact hi.ld hk
