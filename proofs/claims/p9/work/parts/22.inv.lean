/-! general: what holds of the told cells of the main house, and of the run's own -/
def am_rg (x : Int32) (n : Nat) : Prop := ∃ _ : Unit, 0 ≤ x.toInt ∧ x.toInt ≤ (n : Int)
def g_in (j : Int32) (N : Nat) : Prop := ∃ _ : Unit, am_in j N
theorem g_in.i {j : Int32} {N : Nat} (h : g_in j N) : am_in j N := by obtain ⟨-, h⟩ := h; exact h
theorem g_in.o {j : Int32} {N : Nat} (h : am_in j N) : g_in j N := ⟨(), h⟩
theorem am_rg.i {x : Int32} {n : Nat} (h : am_rg x n) : 0 ≤ x.toInt ∧ x.toInt ≤ (n : Int) := by obtain ⟨-, h⟩ := h; exact h
theorem am_rg.o {x : Int32} {n : Nat} (h1 : 0 ≤ x.toInt) (h2 : x.toInt ≤ (n : Int)) : am_rg x n := ⟨(), h1, h2⟩
/-- told: plans, lands, texts -/
def g_tI (M : am_M) : Prop := ∃ _ : Unit, (∀ k, k < 1200 → am_in (M.1 37 k) 5) ∧ (∀ k, k < 480 → am_in (M.1 24 k) 4) ∧ (am_t0 M 39 ∧ am_t0 M 42 ∧ am_t0 M 45 ∧ am_t0 M 48 ∧ am_t0 M 51)
/-- the run's own -/
def g_sI (M : am_M) : Prop := ∃ _ : Unit, am_rg (M.1 4 7) 30 ∧ (∀ k, k < 30 → am_in (M.1 7 k) 30) ∧ (∀ k, k < 30 → am_in (M.1 8 k) 30) ∧ am_in (M.1 4 8) 12 ∧ 0 ≤ (M.1 4 10).toInt ∧ (M.1 4 11 = -1 ∨ am_in (M.1 4 11) 4) ∧ (M.1 4 12 = -1 ∨ am_in (M.1 4 12) 5) ∧ am_in (M.1 4 17) 4 ∧ am_in (M.1 4 13) 2
def g_rI (M : am_M) : Prop := ∃ _ : Unit, g_tI M ∧ g_sI M
def g_b (n : Nat) : Bool := Nat.ble 4 n && Nat.ble n 10
theorem g_b_of {n : Nat} (h : g_b n = true) : 4 ≤ n ∧ n ≤ 10 := by
  unfold g_b at h
  rw [Bool.and_eq_true] at h
  exact ⟨Nat.le_of_ble_eq_true h.1, Nat.le_of_ble_eq_true h.2⟩
/-- nothing but the run's own has changed -/
def g_sc (M M' : am_M) : Prop := ∃ _ : Unit, ∀ a b, (a < 4 ∨ 11 ≤ a) → M'.1 a b = M.1 a b ∧ M'.2 a b = M.2 a b
theorem g_sc.rf {M : am_M} : g_sc M M := ⟨(), fun _ _ _ => ⟨rfl, rfl⟩⟩
theorem g_sc.tr {M M' M'' : am_M} (h : g_sc M M') (h2 : g_sc M' M'') : g_sc M M'' := by
  obtain ⟨-, h⟩ := h
  obtain ⟨-, h2⟩ := h2
  exact ⟨(), fun a b z => ⟨(h2 a b z).1.trans (h a b z).1, (h2 a b z).2.trans (h a b z).2⟩⟩
theorem g_sc.wI {M M' : am_M} {n k : Nat} {v : Int32} (h : g_sc M M') (hn : g_b n = true) : g_sc M (am_wI M' n k v) := by
  obtain ⟨-, h⟩ := h
  have h1 := (g_b_of hn).1
  have h2 := (g_b_of hn).2
  refine ⟨(), fun a b z => ⟨?_, (h a b z).2⟩⟩
  rw [am_wI_1, if_neg (fun q => by omega)]
  exact (h a b z).1
theorem g_sc.wJ {M M' : am_M} {n k : Nat} {v : Int64} (h : g_sc M M') (hn : g_b n = true) : g_sc M (am_wJ M' n k v) := by
  obtain ⟨-, h⟩ := h
  have h1 := (g_b_of hn).1
  have h2 := (g_b_of hn).2
  refine ⟨(), fun a b z => ⟨(h a b z).1, ?_⟩⟩
  rw [am_wJ_1, if_neg (fun q => by omega)]
  exact (h a b z).2
theorem g_sc.cI {M M' : am_M} {n : Nat} {f : Nat → Int32} (h : g_sc M M') (hn : g_b n = true) : g_sc M (am_cI M' n f) := by
  obtain ⟨-, h⟩ := h
  have h1 := (g_b_of hn).1
  have h2 := (g_b_of hn).2
  refine ⟨(), fun a b z => ⟨?_, (h a b z).2⟩⟩
  rw [am_cI_1, if_neg (fun q => by omega)]
  exact (h a b z).1
theorem g_sc.cJ {M M' : am_M} {n : Nat} {f : Nat → Int64} (h : g_sc M M') (hn : g_b n = true) : g_sc M (am_cJ M' n f) := by
  obtain ⟨-, h⟩ := h
  have h1 := (g_b_of hn).1
  have h2 := (g_b_of hn).2
  refine ⟨(), fun a b z => ⟨(h a b z).1, ?_⟩⟩
  show (if a = n then f b else M'.2 a b) = _
  rw [if_neg (fun q => by omega)]
  exact (h a b z).2
theorem g_sc.st {M M' M'' : am_M} (h : g_sc M M') (h2 : am_st M' M'') : g_sc M M'' := by
  obtain ⟨-, h⟩ := h
  obtain ⟨-, h2, h3⟩ := h2
  refine ⟨(), fun a b z => ⟨?_, ?_⟩⟩
  · rw [h2]; exact (h a b z).1
  · rw [h3 a b (by omega)]; exact (h a b z).2
theorem g_sc.i {M M' : am_M} (h : g_sc M M') {a : Nat} (b : Nat) (ha : 11 ≤ a) : M'.1 a b = M.1 a b := by
  obtain ⟨-, h⟩ := h
  exact (h a b (Or.inr ha)).1
theorem g_sc.i2 {M M' : am_M} (h : g_sc M M') {a : Nat} (b : Nat) (ha : a < 4) : M'.1 a b = M.1 a b := by
  obtain ⟨-, h⟩ := h
  exact (h a b (Or.inl ha)).1
theorem g_rI.t {M : am_M} (h : g_rI M) : g_tI M := by obtain ⟨-, h, -⟩ := h; exact h
theorem g_rI.s {M : am_M} (h : g_rI M) : g_sI M := by obtain ⟨-, -, h⟩ := h; exact h
theorem g_tI.pl {M : am_M} (h : g_tI M) {k : Nat} (hk : k < 1200) : am_in (M.1 37 k) 5 := by obtain ⟨-, h, -⟩ := h; exact h k hk
theorem g_tI.ld {M : am_M} (h : g_tI M) {k : Nat} (hk : k < 480) : am_in (M.1 24 k) 4 := by obtain ⟨-, -, h, -⟩ := h; exact h k hk
theorem g_tI.tx {M : am_M} (h : g_tI M) : am_t0 M 39 ∧ am_t0 M 42 ∧ am_t0 M 45 ∧ am_t0 M 48 ∧ am_t0 M 51 := by obtain ⟨-, -, -, h⟩ := h; exact h
theorem g_tI.sc {M M' : am_M} (h : g_tI M) (c : g_sc M M') : g_tI M' := by
  obtain ⟨-, h1, h2, h3, h4, h5, h6, h7⟩ := h
  have ht : ∀ t, 11 ≤ t → am_t0 M t → am_t0 M' t := fun t ht z => by
    obtain ⟨-, z1, z2⟩ := z
    refine ⟨(), ?_, ?_⟩
    · rw [c.i 2 ht]; exact z1
    · rw [c.i 5 ht]; exact z2
  refine ⟨(), fun k hk => ?_, fun k hk => ?_, ht _ (by decide) h3, ht _ (by decide) h4, ht _ (by decide) h5, ht _ (by decide) h6, ht _ (by decide) h7⟩
  · rw [c.i k (by decide)]; exact h1 k hk
  · rw [c.i k (by decide)]; exact h2 k hk
theorem g_sI.sz {M : am_M} (h : g_sI M) : 0 ≤ (M.1 4 7).toInt ∧ (M.1 4 7).toInt ≤ 30 := by obtain ⟨-, h, -⟩ := h; exact h.i
theorem g_sI.mi {M : am_M} (h : g_sI M) {k : Nat} (hk : k < 30) : am_in (M.1 7 k) 30 := by obtain ⟨-, -, h, -⟩ := h; exact h k hk
theorem g_sI.qu {M : am_M} (h : g_sI M) {k : Nat} (hk : k < 30) : am_in (M.1 8 k) 30 := by obtain ⟨-, -, -, h, -⟩ := h; exact h k hk
theorem g_sI.pe {M : am_M} (h : g_sI M) : am_in (M.1 4 8) 12 := by obtain ⟨-, -, -, -, h, -⟩ := h; exact h
theorem g_sI.ny {M : am_M} (h : g_sI M) : 0 ≤ (M.1 4 10).toInt := by obtain ⟨-, -, -, -, -, h, -⟩ := h; exact h
theorem g_sI.li {M : am_M} (h : g_sI M) : M.1 4 11 = -1 ∨ am_in (M.1 4 11) 4 := by obtain ⟨-, -, -, -, -, -, h, -⟩ := h; exact h
theorem g_sI.pn {M : am_M} (h : g_sI M) : M.1 4 12 = -1 ∨ am_in (M.1 4 12) 5 := by obtain ⟨-, -, -, -, -, -, -, h, -⟩ := h; exact h
theorem g_sI.la {M : am_M} (h : g_sI M) : am_in (M.1 4 17) 4 := by obtain ⟨-, -, -, -, -, -, -, -, h, -⟩ := h; exact h
theorem g_sI.da {M : am_M} (h : g_sI M) : am_in (M.1 4 13) 2 := by obtain ⟨-, -, -, -, -, -, -, -, -, h⟩ := h; exact h
/-- a number of the run is written: what must hold of it -/
def g_fld (n k : Nat) (v : Int32) : Prop := (n = 4 → k = 7 → am_rg v 30) ∧ (n = 4 → k = 8 → am_in v 12) ∧ (n = 4 → k = 10 → 0 ≤ v.toInt) ∧ (n = 4 → k = 11 → v = -1 ∨ am_in v 4) ∧ (n = 4 → k = 12 → v = -1 ∨ am_in v 5) ∧ (n = 4 → k = 17 → am_in v 4) ∧ (n = 4 → k = 13 → am_in v 2) ∧ (n = 7 → am_in v 30) ∧ (n = 8 → am_in v 30)
theorem g_sI.wI {M : am_M} {n k : Nat} {v : Int32} (h : g_sI M) (hv : g_fld n k v) : g_sI (am_wI M n k v) := by
  obtain ⟨-, h1, h2, h3, h4, h5, h6, h7, h8, h9⟩ := h
  obtain ⟨v1, v2, v3, v4, v5, v6, v9, v7, v8⟩ := hv
  refine ⟨(), ?_, fun j hj => ?_, fun j hj => ?_, ?_, ?_, ?_, ?_, ?_, ?_⟩
  all_goals
    rw [am_wI_1]
    split
    · next q => first | exact v1 q.1.symm q.2.symm | exact v2 q.1.symm q.2.symm | exact v3 q.1.symm q.2.symm | exact v4 q.1.symm q.2.symm | exact v5 q.1.symm q.2.symm | exact v6 q.1.symm q.2.symm | exact v9 q.1.symm q.2.symm | exact v7 q.1.symm | exact v8 q.1.symm
    · first | assumption | exact h2 j hj | exact h3 j hj
theorem g_rI.wI {M : am_M} {n k : Nat} {v : Int32} (h : g_rI M) (hn : g_b n = true) (hv : g_fld n k v) : g_rI (am_wI M n k v) := by
  obtain ⟨-, h1, h2⟩ := h
  exact ⟨(), h1.sc (g_sc.rf.wI hn), h2.wI hv⟩
theorem g_rI.eI {M M' : am_M} (h : g_rI M) (e : ∀ a b, M'.1 a b = M.1 a b) : g_rI M' := by
  obtain ⟨-, h1, h2⟩ := h
  have e' : M'.1 = M.1 := funext fun a => funext fun b => e a b
  obtain ⟨-, a1, a2, a3, a4, a5, a6, a7⟩ := h1
  obtain ⟨-, b1, b2, b3, b4, b5, b6, b7, b8⟩ := h2
  have ht : ∀ t, am_t0 M t → am_t0 M' t := fun t z => by
    obtain ⟨-, z1, z2⟩ := z
    rw [← e'] at z1 z2
    exact ⟨(), z1, z2⟩
  rw [← e'] at a1 a2 b1 b2 b3 b4 b5 b6 b7 b8
  exact ⟨(), ⟨(), a1, a2, ht _ a3, ht _ a4, ht _ a5, ht _ a6, ht _ a7⟩, ⟨(), b1, b2, b3, b4, b5, b6, b7, b8⟩⟩
theorem g_rI.wJ {M : am_M} {n k : Nat} {v : Int64} (h : g_rI M) : g_rI (am_wJ M n k v) := h.eI (fun _ _ => rfl)
theorem g_rI.cJ {M : am_M} {n : Nat} {f : Nat → Int64} (h : g_rI M) : g_rI (am_cJ M n f) := h.eI (fun _ _ => rfl)
theorem g_rI.st {M M' : am_M} (h : g_rI M) (h2 : am_st M M') : g_rI M' := by
  obtain ⟨-, h2, -⟩ := h2
  exact h.eI (fun a b => by rw [h2])
theorem g_rI.c5 {M : am_M} {f : Nat → Int32} (h : g_rI M) : g_rI (am_cI M 5 f) := by
  obtain ⟨-, h1, h2⟩ := h
  refine ⟨(), h1.sc (g_sc.rf.cI rfl), ?_⟩
  obtain ⟨-, b1, b2, b3, b4, b5, b6, b7, b8⟩ := h2
  exact ⟨(), b1, b2, b3, b4, b5, b6, b7, b8⟩
/-- fields and cells of which nothing is asked -/
def g_fre (n k : Nat) : Bool := g_b n && !(Nat.beq n 7) && !(Nat.beq n 8) && !(Nat.beq n 4 && (Nat.beq k 7 || Nat.beq k 8 || Nat.beq k 10 || Nat.beq k 11 || Nat.beq k 12 || Nat.beq k 17 || Nat.beq k 13))
theorem g_fre_fld {n k : Nat} {v : Int32} (h : g_fre n k = true) : g_fld n k v := by
  refine ⟨?_, ?_, ?_, ?_, ?_, ?_, ?_, ?_, ?_⟩
  all_goals
    intros
    subst_vars
    first | (exact absurd h (by decide)) | (simp [g_fre] at h)
theorem g_rI.wF {M : am_M} {n k : Nat} {v : Int32} (h : g_rI M) (hf : g_fre n k = true) : g_rI (am_wI M n k v) := by
  have h2 := hf
  unfold g_fre at h2
  simp only [Bool.and_eq_true] at h2
  exact h.wI h2.1.1.1 (g_fre_fld hf)
/-- a number of the layout: the cell is no literal -/
theorem g_rI.w5 {M : am_M} {k : Nat} {v : Int32} (h : g_rI M) : g_rI (am_wI M 5 k v) := h.wI rfl (by
  refine ⟨?_, ?_, ?_, ?_, ?_, ?_, ?_, ?_, ?_⟩
  all_goals intro q; exact absurd q (by decide))
theorem g_rI.w7 {M : am_M} {k : Nat} {v : Int32} (h : g_rI M) (hv : am_in v 30) : g_rI (am_wI M 7 k v) := h.wI rfl (by
  refine ⟨?_, ?_, ?_, ?_, ?_, ?_, ?_, fun _ => hv, fun _ => hv⟩
  all_goals intro q; exact absurd q (by decide))
theorem g_rI.w8 {M : am_M} {k : Nat} {v : Int32} (h : g_rI M) (hv : am_in v 30) : g_rI (am_wI M 8 k v) := h.wI rfl (by
  refine ⟨?_, ?_, ?_, ?_, ?_, ?_, ?_, fun _ => hv, fun _ => hv⟩
  all_goals intro q; exact absurd q (by decide))
theorem g_4 {k : Nat} {v : Int32} (h7 : k = 7 → am_rg v 30) (h8 : k = 8 → am_in v 12) (h10 : k = 10 → 0 ≤ v.toInt) (h11 : k = 11 → v = -1 ∨ am_in v 4) (h12 : k = 12 → v = -1 ∨ am_in v 5) (h17 : k = 17 → am_in v 4) (h13 : k = 13 → am_in v 2 := by exact fun q => absurd q (by decide)) : g_fld 4 k v :=
  ⟨fun _ => h7, fun _ => h8, fun _ => h10, fun _ => h11, fun _ => h12, fun _ => h17, fun _ => h13, fun q => absurd q (by decide), fun q => absurd q (by decide)⟩
theorem g_rI.w47 {M : am_M} {v : Int32} (h : g_rI M) (hv : am_rg v 30) : g_rI (am_wI M 4 7 v) := h.wI rfl (g_4 (fun _ => hv) (fun q => absurd q (by decide)) (fun q => absurd q (by decide)) (fun q => absurd q (by decide)) (fun q => absurd q (by decide)) (fun q => absurd q (by decide)))
theorem g_rI.w48 {M : am_M} {v : Int32} (h : g_rI M) (hv : am_in v 12) : g_rI (am_wI M 4 8 v) := h.wI rfl (g_4 (fun q => absurd q (by decide)) (fun _ => hv) (fun q => absurd q (by decide)) (fun q => absurd q (by decide)) (fun q => absurd q (by decide)) (fun q => absurd q (by decide)))
theorem g_rI.w410 {M : am_M} {v : Int32} (h : g_rI M) (hv : 0 ≤ v.toInt) : g_rI (am_wI M 4 10 v) := h.wI rfl (g_4 (fun q => absurd q (by decide)) (fun q => absurd q (by decide)) (fun _ => hv) (fun q => absurd q (by decide)) (fun q => absurd q (by decide)) (fun q => absurd q (by decide)))
theorem g_rI.w411 {M : am_M} {v : Int32} (h : g_rI M) (hv : v = -1 ∨ am_in v 4) : g_rI (am_wI M 4 11 v) := h.wI rfl (g_4 (fun q => absurd q (by decide)) (fun q => absurd q (by decide)) (fun q => absurd q (by decide)) (fun _ => hv) (fun q => absurd q (by decide)) (fun q => absurd q (by decide)))
theorem g_rI.w412 {M : am_M} {v : Int32} (h : g_rI M) (hv : v = -1 ∨ am_in v 5) : g_rI (am_wI M 4 12 v) := h.wI rfl (g_4 (fun q => absurd q (by decide)) (fun q => absurd q (by decide)) (fun q => absurd q (by decide)) (fun q => absurd q (by decide)) (fun _ => hv) (fun q => absurd q (by decide)))
theorem g_rI.w417 {M : am_M} {v : Int32} (h : g_rI M) (hv : am_in v 4) : g_rI (am_wI M 4 17 v) := h.wI rfl (g_4 (fun q => absurd q (by decide)) (fun q => absurd q (by decide)) (fun q => absurd q (by decide)) (fun q => absurd q (by decide)) (fun q => absurd q (by decide)) (fun _ => hv))
theorem g_i2 (q : Prop) [Decidable q] : am_in (if q then (1 : Int32) else 0) 2 := by
  split
  · exact ⟨by decide, by decide⟩
  · exact ⟨by decide, by decide⟩
theorem g_rI.w413 {M : am_M} {v : Int32} (h : g_rI M) (hv : am_in v 2) : g_rI (am_wI M 4 13 v) := h.wI rfl (g_4 (fun q => absurd q (by decide)) (fun q => absurd q (by decide)) (fun q => absurd q (by decide)) (fun q => absurd q (by decide)) (fun q => absurd q (by decide)) (fun q => absurd q (by decide)) (fun _ => hv))
/-- the plan that counts is one -/
theorem g_rI.pln {M : am_M} (h : g_rI M) {l y : Int32} (hl : am_in l 30) (hy : am_in y 40) : am_in (am_pln M l y) 5 := by
  have e := am_lny hl hy
  unfold am_pln
  split
  · refine h.t.pl ?_
    have e2 := i_clamp (x := l * 40 + y) (by obtain ⟨a1, a2⟩ := hl; obtain ⟨b1, b2⟩ := hy; omega)
    obtain ⟨a1, a2⟩ := hl; obtain ⟨b1, b2⟩ := hy
    omega
  · next q => exact h.s.pn.resolve_left q
theorem g_cl {x : Int32} {n : Nat} (h : am_in x n) : x.toNatClampNeg < n := by
  obtain ⟨a1, a2⟩ := h
  have := i_clamp a1
  omega
theorem i_inc {x : Int32} (h1 : -1 ≤ x.toInt) (h2 : x.toInt < 2000000000) : (x + 1).toInt = x.toInt + 1 := by
  have hi := i_add (x := x) (y := 1) (by simp only [Int32.reduceToInt]; omega) (by simp only [Int32.reduceToInt]; omega)
  simp only [Int32.reduceToInt] at hi
  exact hi
/-- the place of what is counted of a loan -/
theorem g_ix {l : Int32} (h : am_in l 30) (k : Int32) (n : Nat) (hk : k.toInt = (n : Int)) (hn : n ≤ 150) : 0 ≤ (k + l).toInt ∧ (k + l).toInt < 180 ∧ (k + l).toNatClampNeg = n + l.toNatClampNeg := by
  have e := am_ixk h hk (by omega)
  obtain ⟨a1, a2⟩ := h
  exact ⟨by omega, by omega, e.2⟩
/-- a text stands at its plan -/
theorem g_txt {live : am_E} (hmn : am_mn live) {p : Int32} (hp : am_in p 5) : ∃ t s c : Nat, live.2 38 p.toNatClampNeg = some t ∧ live.2 t 0 = some s ∧ live.2 t 1 = some c ∧ am_tc live t s c = true ∧ am_isO live 5 t = true ∧ (11 ≤ t ∧ t < 60) ∧ t = 39 + 3 * p.toNatClampNeg ∧ s = 40 + 3 * p.toNatClampNeg ∧ c = 41 + 3 * p.toNatClampNeg ∧ ∀ M, g_tI M → am_t0 M t := by
  obtain ⟨i1, i2, rfl⟩ := hmn
  have h := g_cl hp
  generalize p.toNatClampNeg = k at h ⊢
  match k, h with
  | 0, _ => exact ⟨39, 40, 41, rfl, rfl, rfl, rfl, rfl, ⟨by decide, by decide⟩, rfl, rfl, rfl, fun M z => z.tx.1⟩
  | 1, _ => exact ⟨42, 43, 44, rfl, rfl, rfl, rfl, rfl, ⟨by decide, by decide⟩, rfl, rfl, rfl, fun M z => z.tx.2.1⟩
  | 2, _ => exact ⟨45, 46, 47, rfl, rfl, rfl, rfl, rfl, ⟨by decide, by decide⟩, rfl, rfl, rfl, fun M z => z.tx.2.2.1⟩
  | 3, _ => exact ⟨48, 49, 50, rfl, rfl, rfl, rfl, rfl, ⟨by decide, by decide⟩, rfl, rfl, rfl, fun M z => z.tx.2.2.2.1⟩
  | 4, _ => exact ⟨51, 52, 53, rfl, rfl, rfl, rfl, rfl, ⟨by decide, by decide⟩, rfl, rfl, rfl, fun M z => z.tx.2.2.2.2⟩
  | k + 5, h => exact absurd h (by omega)
theorem am_lt_r {x a b : Nat} (h : a < b) : am_lt (x, a) (x, b) := Or.inr ⟨rfl, h⟩
theorem am_lt_l {x y a b : Nat} (h : x < y) : am_lt (x, a) (y, b) := Or.inl h
/-- what the ways change: the run's own, the ways' longs, what was owed ahead -/
def g_sw (M M' : am_M) : Prop := ∃ _ : Unit, ∀ a b, ((a < 4 ∨ 11 ≤ a) → M'.1 a b = M.1 a b) ∧ (11 ≤ a → M'.2 a b = M.2 a b)
def g_we (M M' : am_M) : Prop := ∃ _ : Unit, M'.1 = M.1 ∧ ∀ a b, a ≠ 2 → M'.2 a b = M.2 a b
theorem g_sw.rf {M : am_M} : g_sw M M := ⟨(), fun _ _ => ⟨fun _ => rfl, fun _ => rfl⟩⟩
theorem g_sw.tr {M M' M'' : am_M} (h : g_sw M M') (h2 : g_sw M' M'') : g_sw M M'' := by
  obtain ⟨-, h⟩ := h
  obtain ⟨-, h2⟩ := h2
  exact ⟨(), fun a b => ⟨fun z => ((h2 a b).1 z).trans ((h a b).1 z), fun z => ((h2 a b).2 z).trans ((h a b).2 z)⟩⟩
theorem g_sw.sc {M M' M'' : am_M} (h : g_sw M M') (h2 : g_sc M' M'') : g_sw M M'' := by
  obtain ⟨-, h2⟩ := h2
  exact h.tr ⟨(), fun a b => ⟨fun z => (h2 a b z).1, fun z => (h2 a b (Or.inr z)).2⟩⟩
theorem g_sw.we {M M' M'' : am_M} (h : g_sw M M') (h2 : g_we M' M'') : g_sw M M'' := by
  obtain ⟨-, h2, h3⟩ := h2
  exact h.tr ⟨(), fun a b => ⟨fun z => by rw [h2], fun z => h3 a b (by omega)⟩⟩
def g_b2 (n : Nat) : Bool := Nat.ble 2 n && Nat.ble n 10
theorem g_b2_of {n : Nat} (h : g_b2 n = true) : 2 ≤ n ∧ n ≤ 10 := by
  unfold g_b2 at h
  rw [Bool.and_eq_true] at h
  exact ⟨Nat.le_of_ble_eq_true h.1, Nat.le_of_ble_eq_true h.2⟩
theorem g_sw.wI {M M' : am_M} {n k : Nat} {v : Int32} (h : g_sw M M') (hn : g_b n = true) : g_sw M (am_wI M' n k v) := h.sc (g_sc.rf.wI hn)
theorem g_sw.wJ {M M' : am_M} {n k : Nat} {v : Int64} (h : g_sw M M') (hn : g_b2 n = true) : g_sw M (am_wJ M' n k v) := by
  have h1 := g_b2_of hn
  refine h.tr ⟨(), fun a b => ⟨fun z => rfl, fun z => ?_⟩⟩
  rw [am_wJ_1, if_neg (fun q => by omega)]
theorem g_sw.cJ {M M' : am_M} {n : Nat} {f : Nat → Int64} (h : g_sw M M') (hn : g_b2 n = true) : g_sw M (am_cJ M' n f) := by
  have h1 := g_b2_of hn
  refine h.tr ⟨(), fun a b => ⟨fun z => rfl, fun z => ?_⟩⟩
  show (if a = n then f b else M'.2 a b) = _
  rw [if_neg (fun q => by omega)]
theorem g_rI.cg {M M' : am_M} (h : g_rI M) (e : ∀ a b, 4 ≤ a → M'.1 a b = M.1 a b) : g_rI M' := by
  obtain ⟨-, h1, h2⟩ := h
  obtain ⟨-, a1, a2, a3, a4, a5, a6, a7⟩ := h1
  obtain ⟨-, b1, b2, b3, b4, b5, b6, b7, b8, b9⟩ := h2
  have ht : ∀ t, 4 ≤ t → am_t0 M t → am_t0 M' t := fun t ht z => by
    obtain ⟨-, z1, z2⟩ := z
    refine ⟨(), ?_, ?_⟩
    · rw [e t 2 ht]; exact z1
    · rw [e t 5 ht]; exact z2
  refine ⟨(), ⟨(), fun k hk => ?_, fun k hk => ?_, ht _ (by decide) a3, ht _ (by decide) a4, ht _ (by decide) a5, ht _ (by decide) a6, ht _ (by decide) a7⟩, ⟨(), ?_, fun k hk => ?_, fun k hk => ?_, ?_, ?_, ?_, ?_, ?_, ?_⟩⟩
  all_goals rw [e _ _ (by decide)]
  · exact a1 k hk
  · exact a2 k hk
  · exact b1
  · exact b2 k hk
  · exact b3 k hk
  · exact b4
  · exact b5
  · exact b6
  · exact b7
  · exact b8
  · exact b9
theorem g_rI.we {M M' : am_M} (h : g_rI M) (h2 : g_we M M') : g_rI M' := by
  obtain ⟨-, h2, -⟩ := h2
  exact h.eI (fun a b => by rw [h2])
/-- the ways' own numbers -/
def g_wI (M : am_M) (p : Int32) : Prop := ∃ _ : Unit, (0 ≤ p.toInt ∧ p.toInt < (M.1 2 3).toInt) ∧ (M.1 2 3).toInt ≤ 5 ∧ 0 ≤ (M.1 2 2).toInt ∧ (M.1 2 2).toInt + (M.1 2 3).toInt ≤ 40
theorem g_wI.sw {M M' : am_M} {p : Int32} (h : g_wI M p) (c : g_sw M M') : g_wI M' p := by
  obtain ⟨-, h1, h2, h3, h4⟩ := h
  obtain ⟨-, c⟩ := c
  have e3 := (c 2 3).1 (Or.inl (by decide))
  have e2 := (c 2 2).1 (Or.inl (by decide))
  rw [← e3] at h1 h2 h4
  rw [← e2] at h3 h4
  exact ⟨(), h1, h2, h3, h4⟩
/-- all that is told stays -/
def g_sv (M M' : am_M) : Prop := ∃ _ : Unit, ∀ a b, 11 ≤ a → M'.1 a b = M.1 a b ∧ M'.2 a b = M.2 a b
theorem g_sw.v {M M' : am_M} (h : g_sw M M') : g_sv M M' := by
  obtain ⟨-, h⟩ := h
  exact ⟨(), fun a b z => ⟨(h a b).1 (Or.inr z), (h a b).2 z⟩⟩
theorem g_sc.v {M M' : am_M} (h : g_sc M M') : g_sv M M' := (g_sw.rf.sc h).v
theorem g_sv.tr {M M' M'' : am_M} (h : g_sv M M') (h2 : g_sv M' M'') : g_sv M M'' := by
  obtain ⟨-, h⟩ := h
  obtain ⟨-, h2⟩ := h2
  exact ⟨(), fun a b z => ⟨(h2 a b z).1.trans (h a b z).1, (h2 a b z).2.trans (h a b z).2⟩⟩
theorem g_sv.w2 {M M' : am_M} {k : Nat} {v : Int32} (h : g_sv M M') : g_sv M (am_wI M' 2 k v) := h.tr ⟨(), fun a b z => ⟨by rw [am_wI_1, if_neg (fun q => by omega)], rfl⟩⟩
theorem g_sv.w2J {M M' : am_M} {k : Nat} {v : Int64} (h : g_sv M M') : g_sv M (am_wJ M' 2 k v) := h.tr ⟨(), fun a b z => ⟨rfl, by rw [am_wJ_1, if_neg (fun q => by omega)]⟩⟩
theorem g_rI.w2 {M : am_M} {k : Nat} {v : Int32} (h : g_rI M) : g_rI (am_wI M 2 k v) := h.cg (fun a b z => by rw [am_wI_1, if_neg (fun q => by omega)])
theorem g_sv.rf {M : am_M} : g_sv M M := ⟨(), fun _ _ _ => ⟨rfl, rfl⟩⟩
