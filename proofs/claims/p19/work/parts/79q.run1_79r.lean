-- part 79q.run1.lean.txt
section
/-! runs, exact: the class: paid ahead, taken, lined up -/
def c_k6 (M N : am_M) : Prop := ∃ _ : Unit, N.1 = M.1 ∧ ∀ a, a ≠ 6 → N.2 a = M.2 a
theorem c_k6.rf {M : am_M} : c_k6 M M := ⟨(), rfl, fun _ _ => rfl⟩
theorem c_k6.i {M N : am_M} (h : c_k6 M N) : N.1 = M.1 := by obtain ⟨-, h, -⟩ := h; exact h
theorem c_k6.j {M N : am_M} (h : c_k6 M N) {a : Nat} (h6 : a ≠ 6) : N.2 a = M.2 a := by obtain ⟨-, -, h⟩ := h; exact h a h6
theorem c_k6.w {M N : am_M} {k : Nat} {v : Int64} (h : c_k6 M N) : c_k6 M (am_wJ N 6 k v) := ⟨(), h.i, fun a z => by rw [z_wJo z]; exact h.j z⟩
def c_k46 (M N : am_M) : Prop := ∃ _ : Unit, N.1 = M.1 ∧ ∀ a, a ≠ 4 → a ≠ 6 → N.2 a = M.2 a
theorem c_k46.rf {M : am_M} : c_k46 M M := ⟨(), rfl, fun _ _ _ => rfl⟩
theorem c_k46.i {M N : am_M} (h : c_k46 M N) : N.1 = M.1 := by obtain ⟨-, h, -⟩ := h; exact h
theorem c_k46.j {M N : am_M} (h : c_k46 M N) {a : Nat} (h4 : a ≠ 4) (h6 : a ≠ 6) : N.2 a = M.2 a := by obtain ⟨-, -, h⟩ := h; exact h a h4 h6
theorem c_k46.w {M N : am_M} {n k : Nat} {v : Int64} (h : c_k46 M N) (hn : n = 4 ∨ n = 6) : c_k46 M (am_wJ N n k v) := ⟨(), h.i, fun a z4 z6 => by
  rw [z_wJo (by omega)]
  exact h.j z4 z6⟩
/-- one loan paid ahead: sums, due, paid -/
def z_mn (a b : Int64) : Int64 := if b < a then b else a
def z_pay (p : (Nat → Int64) × Int64 × Int64) (l : Int32) : (Nat → Int64) × Int64 × Int64 := (z_u p.1 l.toNatClampNeg (p.1 l.toNatClampNeg - z_mn p.2.1 (p.1 l.toNatClampNeg)), p.2.1 - z_mn p.2.1 (p.1 l.toNatClampNeg), p.2.2 + z_mn p.2.1 (p.1 l.toNatClampNeg))
theorem z_pay_N (M : am_M) (q : Int32) (a0 : Nat) (t : Int64) (e0 : a0 = q.toNatClampNeg) (ht : t = z_mn (M.2 4 14) (M.2 6 a0)) : ((am_wJ (am_wJ (am_wJ M 6 a0 (M.2 6 a0 - t)) 4 14 (M.2 4 14 - t)) 4 15 (M.2 4 15 + t)).2 6, (am_wJ (am_wJ (am_wJ M 6 a0 (M.2 6 a0 - t)) 4 14 (M.2 4 14 - t)) 4 15 (M.2 4 15 + t)).2 4 14, (am_wJ (am_wJ (am_wJ M 6 a0 (M.2 6 a0 - t)) 4 14 (M.2 4 14 - t)) 4 15 (M.2 4 15 + t)).2 4 15) = z_pay (M.2 6, M.2 4 14, M.2 4 15) q := by
  subst e0 ht
  unfold z_pay
  rw [z_wJo (by decide), z_wJo (by decide), z_wJ]
  rfl
def TE4_payAhead : am_T := fun live as M R => match as with
  | [.ref n] => am_mn live ∧ n = 4 ∧ g_rI M ∧ ∀ M', c_k46 M M' → M'.2 6 = ((c_qs M (c_sz M)).foldl z_pay (M.2 6, M.2 4 14, M.2 4 15)).1 → M'.2 4 14 = 0 → M'.2 4 15 = ((c_qs M (c_sz M)).foldl z_pay (M.2 6, M.2 4 14, M.2 4 15)).2.2 → R none M'
  | _ => False
def JE4_payAhead : am_E → List Value → am_M → am_R → am_inv := fun live as M0 _ pc => match as with
  | [.ref n] => (match pc with
    | 2 => some ([0, 1], fun k L st M => ∃ i : Int32, L = [(0, .ref 4), (1, .int i)] ∧ st = [] ∧ k = ((31 - i.toInt).toNat, 0) ∧ (0 ≤ i.toInt ∧ i.toInt ≤ (M0.1 4 7).toInt) ∧ c_k46 M0 M ∧ (M.2 6, M.2 4 14, M.2 4 15) = (c_qs M0 i.toNatClampNeg).foldl z_pay (M0.2 6, M0.2 4 14, M0.2 4 15))
    | _ => none)
  | _ => none
set_option maxRecDepth 100000 in
set_option maxHeartbeats 4000000 in
theorem metX4_payAheadE : am_Met yX4_payAhead cX4_payAhead 5 none (1) (23) TE4_payAhead := by
  refine am_met (own := RX4) (by decide +kernel) rfl kX4_payAhead koX4_payAhead 100 JE4_payAhead ?_ ?_
  · intro live as M Ret h
    unfold TE4_payAhead at h
    split at h
    · next n =>
      refine ⟨Nat.le_of_ble_eq_true rfl, ?_⟩
      change am_wp _ _ _ _ [(0, Value.ref n)] _ _
      obtain ⟨hmn, rfl, hr, h⟩ := h
      have q := hr.s.sz
      repeat' (first | apply And.intro | exact rfl | intro hx | (refine Exists.intro _ (And.intro rfl ?_)))
      all_goals try first | (with_reducible change am_tI _ _) | (change Ret _ _) | (change Ret _ _ _) | (change Exists _)
      all_goals try dsimp only at *
      all_goals try (with_reducible exact absurd ‹(1000 : Int64) = 0› am_z1000)
      exact ⟨_, _, rfl, rfl, rfl, ⟨by decide, q.1⟩, c_k46.rf, rfl⟩
    · exact h.elim
  · intro live as M0 Ret h k pc I hI L st M hi
    unfold TE4_payAhead at h
    split at h
    · next n =>
      obtain ⟨hmn, rfl, hr, h⟩ := h
      obtain ⟨i1, i2, rfl⟩ := hmn
      change (match pc with | 2 => _ | _ => none) = _ at hI
      split at hI
      · cases hI
        obtain ⟨i, rfl, rfl, rfl, ⟨e1, e4⟩, e2, e3⟩ := hi
        have q := hr.s.sz
        have ci := i_clamp e1
        have cs : (c_sz M0 : Int) = (M0.1 4 7).toInt := i_clamp q.1
        have em := e2.i
        by_cases hz : M.1 4 7 ≤ i
        · have hz2 := hz
          rw [em] at hz2
          simp only [i_le] at hz2
          rw [show i.toNatClampNeg = c_sz M0 by omega] at e3
          have hh := h (am_wJ M 4 14 0) (e2.w (Or.inl rfl)) (by rw [z_wJo (by decide), ← e3]) (by rw [am_wJ_1, if_pos ⟨rfl, rfl⟩]) (by rw [am_wJ_1, if_neg (fun z => absurd z.2 (by decide)), ← e3])
          repeat' (first | apply And.intro | exact rfl | (intro hx; with_reducible exact absurd hz hx) | intro hx | (refine Exists.intro _ (And.intro rfl ?_)))
          all_goals try first | (with_reducible change am_tI _ _) | (change Ret _ _) | (change Ret _ _ _) | (change Exists _)
          all_goals try dsimp only at *
          all_goals try (with_reducible exact absurd ‹(1000 : Int64) = 0› am_z1000)
          exact hh
        · have hz2 := hz
          rw [em] at hz2
          simp only [i_le] at hz2
          have ha : am_in i 30 := ⟨e1, by omega⟩
          have hb0 := hr.s.qu (g_cl ha)
          have hb : am_in (M.1 8 i.toNatClampNeg) 30 := by rw [em]; exact hb0
          have e0 := g_ix hb 0 0 rfl (by decide)
          have l6 : am_len 6 = 180 := rfl
          have l8 : am_len 8 = 30 := rfl
          have hi := i_inc (x := i) (by omega) (by omega)
          have ci1 := i_clamp (x := i + 1) (by omega)
          have nx : z_pay (M.2 6, M.2 4 14, M.2 4 15) (M.1 8 i.toNatClampNeg) = (c_qs M0 (i + 1).toNatClampNeg).foldl z_pay (M0.2 6, M0.2 4 14, M0.2 4 15) := by
            rw [show (i + 1).toNatClampNeg = i.toNatClampNeg + 1 by omega, c_qs_s, List.foldl_append, e3, em]
            rfl
          have fin := (z_pay_N M (M.1 8 i.toNatClampNeg) (0 + M.1 8 i.toNatClampNeg).toNatClampNeg (if M.2 6 (0 + M.1 8 i.toNatClampNeg).toNatClampNeg < M.2 4 14 then M.2 6 (0 + M.1 8 i.toNatClampNeg).toNatClampNeg else M.2 4 14) am_ix0 rfl).trans nx
          repeat' (first | apply And.intro | exact rfl | (intro hx; with_reducible exact absurd hx hz) | intro hx | (refine Exists.intro _ (And.intro rfl ?_)))
          all_goals try first | (with_reducible change am_tI _ _) | (change Ret _ _) | (change Ret _ _ _) | (change Exists _)
          all_goals try dsimp only at *
          all_goals try (with_reducible exact absurd ‹(1000 : Int64) = 0› am_z1000)
          all_goals first
            | omega
            | (with_reducible exact e0.1)
            | (rw [l6]; exact e0.2.1)
            | (rw [l8]; exact ha.2)
            | exact e0.1
            | skip
          exact ⟨_, am_lt_l (by omega), i + 1, rfl, rfl, rfl, ⟨by omega, by omega⟩, ((e2.w (Or.inr rfl)).w (Or.inl rfl)).w (Or.inl rfl), fin⟩
      · cases hI
    · exact h.elim
def c_ask (M : am_M) (y l : Int32) : Int64 := am_asked M ((y * 5 + am_pln M l y) * 6)
def c_sd (M : am_M) (y l : Int32) : Bool := decide (¬ am_loanAt M l 7 = -1 ∧ ¬ y < am_loanAt M l 7)
/-- what is taken of a loan, so much taken ahead -/
def z_tn (ask v o : Int64) : Int64 := z_mn (if ask - v < 0 then 0 else ask - v) o
def z_tk (ask : Int32 → Int64) (sd : Int32 → Bool) (p : (Nat → Int64) × Int64) (l : Int32) : (Nat → Int64) × Int64 :=
  (fun (t : Int64) (n : Nat) => (fun (s3 : Nat → Int64) => (if sd l = true then z_u s3 (150 + n) (s3 (150 + n) + t) else s3, p.2 + t)) ((fun (s2 : Nat → Int64) => z_u s2 (90 + n) (s2 (90 + n) + t)) (z_u (z_u p.1 n (p.1 n - t)) (30 + n) t))) (z_tn (ask l) p.2 (p.1 l.toNatClampNeg)) l.toNatClampNeg
theorem z_tk_N0 (M : am_M) (ask : Int32 → Int64) (sd : Int32 → Bool) (v t : Int64) (q : Int32) (a0 a1 a3 : Nat) (hs : sd q = false) (e0 : a0 = q.toNatClampNeg) (e1 : a1 = 30 + q.toNatClampNeg) (e3 : a3 = 90 + q.toNatClampNeg) (ht : t = z_tn (ask q) v (M.2 6 a0)) : ((am_wJ (am_wJ (am_wJ M 6 a0 (M.2 6 a0 - t)) 6 a1 t) 6 a3 ((am_wJ (am_wJ M 6 a0 (M.2 6 a0 - t)) 6 a1 t).2 6 a3 + t)).2 6, v + t) = z_tk ask sd (M.2 6, v) q := by
  subst e0 e1 e3 ht
  unfold z_tk
  simp only [z_wJ, hs, Bool.false_eq_true, if_false]
theorem z_tk_N1 (M : am_M) (ask : Int32 → Int64) (sd : Int32 → Bool) (v t : Int64) (q : Int32) (a0 a1 a3 a5 : Nat) (hs : sd q = true) (e0 : a0 = q.toNatClampNeg) (e1 : a1 = 30 + q.toNatClampNeg) (e3 : a3 = 90 + q.toNatClampNeg) (e5 : a5 = 150 + q.toNatClampNeg) (ht : t = z_tn (ask q) v (M.2 6 a0)) : ((am_wJ (am_wJ (am_wJ (am_wJ M 6 a0 (M.2 6 a0 - t)) 6 a1 t) 6 a3 ((am_wJ (am_wJ M 6 a0 (M.2 6 a0 - t)) 6 a1 t).2 6 a3 + t)) 6 a5 ((am_wJ (am_wJ (am_wJ M 6 a0 (M.2 6 a0 - t)) 6 a1 t) 6 a3 ((am_wJ (am_wJ M 6 a0 (M.2 6 a0 - t)) 6 a1 t).2 6 a3 + t)).2 6 a5 + t)).2 6, v + t) = z_tk ask sd (M.2 6, v) q := by
  subst e0 e1 e3 e5 ht
  unfold z_tk
  simp only [z_wJ, hs, if_true]
def TE4_takeAll : am_T := fun live as M R => match as with
  | [.ref n, .int y] => am_mn live ∧ n = 4 ∧ am_in y 40 ∧ g_rI M ∧ ∀ M', c_k6 M M' → M'.2 6 = ((c_qs M (c_sz M)).foldl (z_tk (c_ask M y) (c_sd M y)) (M.2 6, 0)).1 → R none M'
  | _ => False
def JE4_takeAll : am_E → List Value → am_M → am_R → am_inv := fun live as M0 _ pc => match as with
  | [.ref n, .int y] => (match pc with
    | 5 => some ([0, 1, 2, 4], fun k L st M => ∃ (v : Int64) (i : Int32), L = [(0, .ref 4), (1, .int y), (2, .long v), (4, .int i)] ∧ st = [] ∧ k = ((31 - i.toInt).toNat, 0) ∧ (0 ≤ i.toInt ∧ i.toInt ≤ (M0.1 4 7).toInt) ∧ c_k6 M0 M ∧ (M.2 6, v) = (c_qs M0 i.toNatClampNeg).foldl (z_tk (c_ask M0 y) (c_sd M0 y)) (M0.2 6, 0))
    | _ => none)
  | _ => none
set_option maxRecDepth 100000 in
set_option maxHeartbeats 4000000 in
theorem metX4_takeAllE : am_Met yX4_takeAll cX4_takeAll 11 none (2) (46) TE4_takeAll := by
  refine am_met (own := RX4) (by decide +kernel) rfl kX4_takeAll koX4_takeAll 150 JE4_takeAll ?_ ?_
  · intro live as M Ret h
    unfold TE4_takeAll at h
    split at h
    · next n y =>
      refine ⟨Nat.le_of_ble_eq_true rfl, ?_⟩
      change am_wp _ _ _ _ [(0, Value.ref n), (1, Value.int y)] _ _
      obtain ⟨hmn, rfl, hy, hr, h⟩ := h
      have q := hr.s.sz
      repeat' (first | apply And.intro | exact rfl | intro hx | (refine Exists.intro _ (And.intro rfl ?_)))
      all_goals try first | (with_reducible change am_tI _ _) | (change Ret _ _) | (change Ret _ _ _) | (change Exists _)
      all_goals try dsimp only at *
      all_goals try (with_reducible exact absurd ‹(1000 : Int64) = 0› am_z1000)
      exact ⟨_, _, _, rfl, rfl, rfl, ⟨by decide, q.1⟩, c_k6.rf, rfl⟩
    · exact h.elim
  · intro live as M0 Ret h k pc I hI L st M hi
    unfold TE4_takeAll at h
    split at h
    · next n y =>
      obtain ⟨hmn, rfl, hy, hr, h⟩ := h
      have hmn2 := hmn
      obtain ⟨i1, i2, rfl⟩ := hmn2
      change (match pc with | 5 => _ | _ => none) = _ at hI
      split at hI
      · cases hI
        obtain ⟨v, i, rfl, rfl, rfl, ⟨e1, e4⟩, e2, e3⟩ := hi
        have q := hr.s.sz
        have ci := i_clamp e1
        have cs : (c_sz M0 : Int) = (M0.1 4 7).toInt := i_clamp q.1
        have em := e2.i
        by_cases hz : M.1 4 7 ≤ i
        · have hz2 := hz
          rw [em] at hz2
          simp only [i_le] at hz2
          rw [show i.toNatClampNeg = c_sz M0 by omega] at e3
          have hh := h M e2 (by rw [← e3])
          repeat' (first | apply And.intro | exact rfl | (intro hx; with_reducible exact absurd hz hx) | intro hx | (refine Exists.intro _ (And.intro rfl ?_)))
          all_goals try first | (with_reducible change am_tI _ _) | (change Ret _ _) | (change Ret _ _ _) | (change Exists _)
          all_goals try dsimp only at *
          all_goals try (with_reducible exact absurd ‹(1000 : Int64) = 0› am_z1000)
          exact hh
        · have hz2 := hz
          rw [em] at hz2
          simp only [i_le] at hz2
          have ha : am_in i 30 := ⟨e1, by omega⟩
          have hrM : g_rI M := hr.eI (fun a b => by rw [em])
          have hb := hrM.s.qu (g_cl ha)
          have hp := hrM.pln hb hy
          have hla := hrM.s.la
          have hi := i_inc (x := i) (by omega) (by omega)
          have ci1 := i_clamp (x := i + 1) (by omega)
          have f0 := g_ix hb 0 0 rfl (by decide)
          have f30 := g_ix hb 30 30 rfl (by decide)
          have f90 := g_ix hb 90 90 rfl (by decide)
          have f150 := g_ix hb 150 150 rfl (by decide)
          have l6 : am_len 6 = 180 := rfl
          have l8 : am_len 8 = 30 := rfl
          have e0 := am_celly hy hp (k := 0) ⟨by decide, by decide⟩
          have k0 : Int32.toInt 0 = 0 := rfl
          rw [Int32.add_zero] at e0
          have hy1 := hy.1
          have hy2 := hy.2
          have hp1 := hp.1
          have hp2 := hp.2
          have ea : c_ask M0 y = c_ask M y := (z_cg1 (fun K => c_ask K y) (fun _ _ _ => rfl) em).symm
          have es : c_sd M0 y = c_sd M y := (z_cg1 (fun K => c_sd K y) (fun _ _ _ => rfl) em).symm
          have nx : z_tk (c_ask M y) (c_sd M y) (M.2 6, v) (M.1 8 i.toNatClampNeg) = (c_qs M0 (i + 1).toNatClampNeg).foldl (z_tk (c_ask M0 y) (c_sd M0 y)) (M0.2 6, 0) := by
            rw [show (i + 1).toNatClampNeg = i.toNatClampNeg + 1 by omega, c_qs_s, List.foldl_append, ← e3, ea, es, em]
            rfl
          have c7 : am_at (M.1 34) (am_len 34) (M.1 8 i.toNatClampNeg * M.1 33 1 + 7) = am_loanAt M (M.1 8 i.toNatClampNeg) 7 := rfl
          by_cases z1 : am_at (M.1 34) (am_len 34) (M.1 8 i.toNatClampNeg * M.1 33 1 + 7) = -1
          · have hs : c_sd M y (M.1 8 i.toNatClampNeg) = false := decide_eq_false (fun z => z.1 z1)
            have fin := (z_tk_N0 M (c_ask M y) (c_sd M y) v (if M.2 6 (0 + M.1 8 i.toNatClampNeg).toNatClampNeg < (if am_asked M ((y * 5 + am_pln M (M.1 8 i.toNatClampNeg) y) * 6) - v < 0 then 0 else am_asked M ((y * 5 + am_pln M (M.1 8 i.toNatClampNeg) y) * 6) - v) then M.2 6 (0 + M.1 8 i.toNatClampNeg).toNatClampNeg else (if am_asked M ((y * 5 + am_pln M (M.1 8 i.toNatClampNeg) y) * 6) - v < 0 then 0 else am_asked M ((y * 5 + am_pln M (M.1 8 i.toNatClampNeg) y) * 6) - v)) (M.1 8 i.toNatClampNeg) (0 + M.1 8 i.toNatClampNeg).toNatClampNeg (30 + M.1 8 i.toNatClampNeg).toNatClampNeg (90 + M.1 8 i.toNatClampNeg).toNatClampNeg hs am_ix0 f30.2.2 f90.2.2 rfl).trans nx
            repeat' (first | ((with_reducible change ¬ am_at _ _ _ = _ → _); intro hx; exact absurd z1 hx) | (with_reducible exact hmn) | (with_reducible exact hb) | (with_reducible exact hy) | (with_reducible exact hla) | apply And.intro | exact rfl | (intro hx; with_reducible exact absurd hx hz) | intro hx | (refine Exists.intro _ (And.intro rfl ?_)))
            all_goals try first | (with_reducible change am_tI _ _) | (change Ret _ _) | (change Ret _ _ _) | (change Exists _)
            all_goals try dsimp only at *
            all_goals try (with_reducible exact absurd ‹(1000 : Int64) = 0› am_z1000)
            all_goals first
              | omega
              | (rw [l8]; exact ha.2)
              | (with_reducible exact f0.1)
              | (rw [l6]; exact f0.2.1)
              | (with_reducible exact f30.1)
              | (rw [l6]; exact f30.2.1)
              | (with_reducible exact f90.1)
              | (rw [l6]; exact f90.2.1)
              | exact f0.1
              | exact f30.1
              | exact f90.1
              | exact ⟨_, am_lt_l (by omega), _, _, rfl, rfl, rfl, ⟨by omega, by omega⟩, ((e2.w).w).w, fin⟩
              | skip
          · by_cases z2 : y < am_at (M.1 34) (am_len 34) (M.1 8 i.toNatClampNeg * M.1 33 1 + 7)
            · have hs : c_sd M y (M.1 8 i.toNatClampNeg) = false := decide_eq_false (fun z => z.2 z2)
              have fin := (z_tk_N0 M (c_ask M y) (c_sd M y) v (if M.2 6 (0 + M.1 8 i.toNatClampNeg).toNatClampNeg < (if am_asked M ((y * 5 + am_pln M (M.1 8 i.toNatClampNeg) y) * 6) - v < 0 then 0 else am_asked M ((y * 5 + am_pln M (M.1 8 i.toNatClampNeg) y) * 6) - v) then M.2 6 (0 + M.1 8 i.toNatClampNeg).toNatClampNeg else (if am_asked M ((y * 5 + am_pln M (M.1 8 i.toNatClampNeg) y) * 6) - v < 0 then 0 else am_asked M ((y * 5 + am_pln M (M.1 8 i.toNatClampNeg) y) * 6) - v)) (M.1 8 i.toNatClampNeg) (0 + M.1 8 i.toNatClampNeg).toNatClampNeg (30 + M.1 8 i.toNatClampNeg).toNatClampNeg (90 + M.1 8 i.toNatClampNeg).toNatClampNeg hs am_ix0 f30.2.2 f90.2.2 rfl).trans nx
              repeat' (first | ((with_reducible change am_at _ _ _ = _ → _); intro hx; exact absurd hx z1) | ((with_reducible change ¬ _ < am_at _ _ _ → _); intro hx; exact absurd z2 hx) | (with_reducible exact hmn) | (with_reducible exact hb) | (with_reducible exact hy) | (with_reducible exact hla) | apply And.intro | exact rfl | (intro hx; with_reducible exact absurd hx hz) | intro hx | (refine Exists.intro _ (And.intro rfl ?_)))
              all_goals try first | (with_reducible change am_tI _ _) | (change Ret _ _) | (change Ret _ _ _) | (change Exists _)
              all_goals try dsimp only at *
              all_goals try (with_reducible exact absurd ‹(1000 : Int64) = 0› am_z1000)
              all_goals first
                | omega
                | (rw [l8]; exact ha.2)
                | (with_reducible exact f0.1)
                | (rw [l6]; exact f0.2.1)
                | (with_reducible exact f30.1)
                | (rw [l6]; exact f30.2.1)
                | (with_reducible exact f90.1)
                | (rw [l6]; exact f90.2.1)
                | exact f0.1
                | exact f30.1
                | exact f90.1
                | exact ⟨_, am_lt_l (by omega), _, _, rfl, rfl, rfl, ⟨by omega, by omega⟩, ((e2.w).w).w, fin⟩
                | skip
            · have hs : c_sd M y (M.1 8 i.toNatClampNeg) = true := decide_eq_true ⟨z1, z2⟩
              have fin := (z_tk_N1 M (c_ask M y) (c_sd M y) v (if M.2 6 (0 + M.1 8 i.toNatClampNeg).toNatClampNeg < (if am_asked M ((y * 5 + am_pln M (M.1 8 i.toNatClampNeg) y) * 6) - v < 0 then 0 else am_asked M ((y * 5 + am_pln M (M.1 8 i.toNatClampNeg) y) * 6) - v) then M.2 6 (0 + M.1 8 i.toNatClampNeg).toNatClampNeg else (if am_asked M ((y * 5 + am_pln M (M.1 8 i.toNatClampNeg) y) * 6) - v < 0 then 0 else am_asked M ((y * 5 + am_pln M (M.1 8 i.toNatClampNeg) y) * 6) - v)) (M.1 8 i.toNatClampNeg) (0 + M.1 8 i.toNatClampNeg).toNatClampNeg (30 + M.1 8 i.toNatClampNeg).toNatClampNeg (90 + M.1 8 i.toNatClampNeg).toNatClampNeg (150 + M.1 8 i.toNatClampNeg).toNatClampNeg hs am_ix0 f30.2.2 f90.2.2 f150.2.2 rfl).trans nx
              repeat' (first | ((with_reducible change am_at _ _ _ = _ → _); intro hx; exact absurd hx z1) | ((with_reducible change _ < am_at _ _ _ → _); intro hx; exact absurd hx z2) | (with_reducible exact hmn) | (with_reducible exact hb) | (with_reducible exact hy) | (with_reducible exact hla) | apply And.intro | exact rfl | (intro hx; with_reducible exact absurd hx hz) | intro hx | (refine Exists.intro _ (And.intro rfl ?_)))
              all_goals try first | (with_reducible change am_tI _ _) | (change Ret _ _) | (change Ret _ _ _) | (change Exists _)
              all_goals try dsimp only at *
              all_goals try (with_reducible exact absurd ‹(1000 : Int64) = 0› am_z1000)
              all_goals first
                | omega
                | (rw [l8]; exact ha.2)
                | (with_reducible exact f0.1)
                | (rw [l6]; exact f0.2.1)
                | (with_reducible exact f30.1)
                | (rw [l6]; exact f30.2.1)
                | (with_reducible exact f90.1)
                | (rw [l6]; exact f90.2.1)
                | (with_reducible exact f150.1)
                | (rw [l6]; exact f150.2.1)
                | exact f0.1
                | exact f30.1
                | exact f90.1
                | exact f150.1
                | exact ⟨_, am_lt_l (by omega), _, _, rfl, rfl, rfl, ⟨by omega, by omega⟩, (((e2.w).w).w).w, fin⟩
                | skip
      · cases hI
    · exact h.elim
/-- loans in their order: those of one number behind those of a lesser one -/
def z_q (f : Int32 → Nat) (ms : List Int32) : Nat → List Int32
  | 0 => []
  | o + 1 => z_q f ms o ++ ms.filter (fun l => decide (f l = o))
theorem z_cnt (f : Int32 → Nat) (o : Nat) : ∀ ms : List Int32, ms.countP (fun l => decide (f l < o + 1)) = ms.countP (fun l => decide (f l < o)) + (ms.filter (fun l => decide (f l = o))).length
  | [] => rfl
  | l :: ms => by
    rw [List.countP_cons, List.countP_cons, z_cnt f o ms, List.filter_cons]
    by_cases z : f l = o
    · rw [if_pos (show decide (f l < o + 1) = true from decide_eq_true (by omega)), if_neg (show ¬ decide (f l < o) = true from fun q => by have := of_decide_eq_true q; omega), if_pos (decide_eq_true z), List.length_cons]
      omega
    · rw [if_neg (show ¬ decide (f l = o) = true from fun q => z (of_decide_eq_true q))]
      by_cases y : f l < o
      · rw [if_pos (show decide (f l < o + 1) = true from decide_eq_true (by omega)), if_pos (decide_eq_true y)]
        omega
      · rw [if_neg (show ¬ decide (f l < o + 1) = true from fun q => by have := of_decide_eq_true q; omega), if_neg (fun q => y (of_decide_eq_true q))]
        omega
theorem z_q_len (f : Int32 → Nat) (ms : List Int32) : ∀ o, (z_q f ms o).length = ms.countP (fun l => decide (f l < o))
  | 0 => by
    show 0 = _
    refine (List.countP_eq_zero.mpr (fun l _ q => ?_)).symm
    exact absurd (of_decide_eq_true q) (Nat.not_lt_zero _)
  | o + 1 => by
    show (z_q f ms o ++ _).length = _
    rw [List.length_append, z_q_len f ms o, z_cnt]
theorem z_q_le (f : Int32 → Nat) (ms : List Int32) (o : Nat) : (z_q f ms o).length ≤ ms.length := by
  rw [z_q_len]
  exact List.countP_le_length
theorem c_ms_pre (M : am_M) {i n : Nat} (h : i ≤ n) : ∃ r, c_ms M n = c_ms M i ++ r := by
  obtain ⟨k, rfl⟩ := Nat.exists_eq_add_of_le h
  exact ⟨((List.range k).map (fun j => i + j)).map (fun i => M.1 7 i), by
    unfold c_ms
    rw [List.range_add, List.map_append]⟩
theorem c_ms_len (M : am_M) (n : Nat) : (c_ms M n).length = n := by
  unfold c_ms
  rw [List.length_map, List.length_range]
theorem c_qs_w {M : am_M} {d : Nat} {v : Int32} : c_qs (am_wI M 8 d v) (d + 1) = c_qs M d ++ [v] := by
  rw [c_qs_s]
  congr 1
  · unfold c_qs
    refine List.map_congr_left (fun j hj => ?_)
    have := List.mem_range.mp hj
    rw [am_wI_1, if_neg (fun q => by omega)]
  · rw [am_wI_1, if_pos ⟨rfl, rfl⟩]
/-- the number by which a loan is lined up -/
def c_of (M : am_M) (y l : Int32) : Nat := (am_cell M l y 4).toNatClampNeg
def c_k8 (M N : am_M) : Prop := ∃ _ : Unit, (∀ a, a ≠ 8 → N.1 a = M.1 a) ∧ N.2 = M.2
theorem c_k8.rf {M : am_M} : c_k8 M M := ⟨(), fun _ _ => rfl, rfl⟩
theorem c_k8.i {M N : am_M} (h : c_k8 M N) {a : Nat} (h8 : a ≠ 8) : N.1 a = M.1 a := by obtain ⟨-, h, -⟩ := h; exact h a h8
theorem c_k8.w {M N : am_M} {k : Nat} {v : Int32} (h : c_k8 M N) : c_k8 M (am_wI N 8 k v) := by
  obtain ⟨-, h1, h2⟩ := h
  exact ⟨(), fun a z => (funext fun b => by rw [am_wI_1, if_neg (fun q => z q.1)]).trans (h1 a z), h2⟩
theorem c_k8.of {M N : am_M} (h : c_k8 M N) (y : Int32) : c_of N y = c_of M y := z_cg8 (fun K => c_of K y) (fun _ _ _ => rfl) (fun _ _ => rfl) (fun _ z => h.i z)
/-- orders are such -/
def c_oo (M : am_M) (y : Int32) : Prop := ∃ _ : Unit, ∀ i : Nat, (i : Int) < (M.1 4 7).toInt → 0 ≤ (am_cell M (M.1 7 i) y 4).toInt ∧ (am_cell M (M.1 7 i) y 4).toInt ≤ 9
theorem c_oo.v {M : am_M} {y : Int32} (h : c_oo M y) {i : Nat} (hi : (i : Int) < (M.1 4 7).toInt) : 0 ≤ (am_cell M (M.1 7 i) y 4).toInt ∧ (am_cell M (M.1 7 i) y 4).toInt ≤ 9 := by obtain ⟨-, h⟩ := h; exact h i hi
def TE4_lineUp : am_T := fun live as M R => match as with
  | [.ref n, .int y] => am_mn live ∧ n = 4 ∧ am_in y 40 ∧ g_rI M ∧ c_oo M y ∧ ∀ M', c_k8 M M' → g_rI M' → c_qs M' (c_sz M) = z_q (c_of M y) (c_ms M (c_sz M)) 10 → R none M'
  | _ => False
def JE4_lineUp : am_E → List Value → am_M → am_R → am_inv := fun live as M0 _ pc => match as with
  | [.ref n, .int y] => (match pc with
    | 4 => some ([0, 1, 2, 3], fun k L st M => ∃ d o : Int32, L = [(0, .ref 4), (1, .int y), (2, .int d), (3, .int o)] ∧ st = [] ∧ k = ((11 - o.toInt).toNat, 31) ∧ (0 ≤ o.toInt ∧ o.toInt ≤ 10) ∧ d.toInt = ((z_q (c_of M0 y) (c_ms M0 (c_sz M0)) o.toNatClampNeg).length : Int) ∧ c_qs M d.toNatClampNeg = z_q (c_of M0 y) (c_ms M0 (c_sz M0)) o.toNatClampNeg ∧ c_k8 M0 M ∧ g_rI M)
    | 16 => some ([0, 1, 2, 3, 4], fun k L st M => ∃ d o i : Int32, L = [(0, .ref 4), (1, .int y), (2, .int d), (3, .int o), (4, .int i)] ∧ st = [] ∧ k = ((11 - o.toInt).toNat, (30 - i.toInt).toNat) ∧ (0 ≤ o.toInt ∧ o.toInt ≤ 9) ∧ (0 ≤ i.toInt ∧ i.toInt ≤ (M0.1 4 7).toInt) ∧ d.toInt = ((z_q (c_of M0 y) (c_ms M0 (c_sz M0)) o.toNatClampNeg ++ (c_ms M0 i.toNatClampNeg).filter (fun l => decide (c_of M0 y l = o.toNatClampNeg))).length : Int) ∧ c_qs M d.toNatClampNeg = z_q (c_of M0 y) (c_ms M0 (c_sz M0)) o.toNatClampNeg ++ (c_ms M0 i.toNatClampNeg).filter (fun l => decide (c_of M0 y l = o.toNatClampNeg)) ∧ c_k8 M0 M ∧ g_rI M)
    | _ => none)
  | _ => none
set_option maxRecDepth 100000 in
set_option maxHeartbeats 4000000 in
theorem metX4_lineUpE : am_Met yX4_lineUp cX4_lineUp 5 none (2) (44) TE4_lineUp := by
  refine am_met (own := RX4) (by decide +kernel) rfl kX4_lineUp koX4_lineUp 100 JE4_lineUp ?_ ?_
  · intro live as M Ret h
    unfold TE4_lineUp at h
    split at h
    · next n y =>
      refine ⟨Nat.le_of_ble_eq_true rfl, ?_⟩
      change am_wp _ _ _ _ [(0, Value.ref n), (1, Value.int y)] _ _
      obtain ⟨hmn, rfl, hy, hr, ho, h⟩ := h
      repeat' (first | apply And.intro | exact rfl | intro hx | (refine Exists.intro _ (And.intro rfl ?_)))
      all_goals try first | (with_reducible change am_tI _ _) | (change Ret _ _) | (change Ret _ _ _) | (change Exists _)
      all_goals try dsimp only at *
      all_goals try (with_reducible exact absurd ‹(1000 : Int64) = 0› am_z1000)
      exact ⟨_, _, _, rfl, rfl, rfl, ⟨by decide, by decide⟩, rfl, rfl, c_k8.rf, hr⟩
    · exact h.elim
  · intro live as M0 Ret h k pc I hI L st M hi
    unfold TE4_lineUp at h
    split at h
    · next n y =>
      obtain ⟨hmn, rfl, hy, hr, hoo, h⟩ := h
      have hmn2 := hmn
      obtain ⟨i1, i2, rfl⟩ := hmn2
      have q := hr.s.sz
      have cs : (c_sz M0 : Int) = (M0.1 4 7).toInt := i_clamp q.1
      have ms := c_ms_len M0 (c_sz M0)
      change (match pc with | 4 => _ | 16 => _ | _ => none) = _ at hI
      split at hI
      · cases hI
        obtain ⟨d, o, rfl, rfl, rfl, ⟨e0, e1⟩, ed, eq, ek, e3⟩ := hi
        have s24 : am_sf 2 (4 : Int32).toNatClampNeg = 9 := rfl
        have co := i_clamp e0
        by_cases hz : am_sf 2 (4 : Int32).toNatClampNeg < o
        · have hz2 := hz
          rw [s24] at hz2
          simp only [i_lt, Int32.reduceToInt] at hz2
          have o10 : o.toNatClampNeg = 10 := by omega
          rw [o10] at ed eq
          have ln : (z_q (c_of M0 y) (c_ms M0 (c_sz M0)) 10).length = c_sz M0 := by
            rw [z_q_len, List.countP_eq_length.mpr, ms]
            intro l hl
            obtain ⟨i, hi, rfl⟩ := List.mem_map.mp hl
            have hi := List.mem_range.mp hi
            have b := hoo.v (i := i) (by omega)
            have cc := i_clamp b.1
            refine decide_eq_true ?_
            show (am_cell M0 (M0.1 7 i) y 4).toNatClampNeg < 10
            omega
          have cd := i_clamp (x := d) (by omega)
          rw [show d.toNatClampNeg = c_sz M0 by omega] at eq
          have hh := h M ek e3 eq
          repeat' (first | apply And.intro | exact rfl | (intro hx; with_reducible exact absurd hz hx) | (intro hx; exact absurd hx (by decide)) | (intro hx; exact absurd (by decide) hx) | decide | intro hx | (refine Exists.intro _ (And.intro rfl ?_)))
          all_goals try first | (with_reducible change am_tI _ _) | (change Ret _ _) | (change Ret _ _ _) | (change Exists _)
          all_goals try dsimp only at *
          all_goals try (with_reducible exact absurd ‹(1000 : Int64) = 0› am_z1000)
          all_goals exact hh
        · have hz2 := hz
          rw [s24] at hz2
          simp only [i_lt, Int32.reduceToInt] at hz2
          have x1 : c_ms M0 (0 : Int32).toNatClampNeg = [] := rfl
          repeat' (first | apply And.intro | exact rfl | (intro hx; with_reducible exact absurd hx hz) | (intro hx; exact absurd hx (by decide)) | (intro hx; exact absurd (by decide) hx) | decide | intro hx | (refine Exists.intro _ (And.intro rfl ?_)))
          all_goals try first | (with_reducible change am_tI _ _) | (change Ret _ _) | (change Ret _ _ _) | (change Exists _)
          all_goals try dsimp only at *
          all_goals try (with_reducible exact absurd ‹(1000 : Int64) = 0› am_z1000)
          all_goals exact ⟨_, am_lt_r (by simp only [Int32.reduceToInt]; omega), _, _, _, rfl, rfl, rfl, ⟨e0, by omega⟩, ⟨by decide, q.1⟩, by rw [x1]; simpa using ed, by rw [x1]; simpa using eq, ek, e3⟩
      · cases hI
        obtain ⟨d, o, i, rfl, rfl, rfl, ⟨e0, e4⟩, ⟨e1, e5⟩, ed, eq, ek, e3⟩ := hi
        have hoi := i_inc (x := o) (by omega) (by omega)
        have co := i_clamp e0
        have co1 := i_clamp (x := o + 1) (by omega)
        have ci := i_clamp e1
        have en : z_q (c_of M0 y) (c_ms M0 (c_sz M0)) (o + 1).toNatClampNeg = z_q (c_of M0 y) (c_ms M0 (c_sz M0)) o.toNatClampNeg ++ (c_ms M0 (c_sz M0)).filter (fun l => decide (c_of M0 y l = o.toNatClampNeg)) := by
          rw [show (o + 1).toNatClampNeg = o.toNatClampNeg + 1 by omega]
          rfl
        have lq := z_q_le (c_of M0 y) (c_ms M0 (c_sz M0)) (o + 1).toNatClampNeg
        rw [ms] at lq
        have em : M.1 4 7 = M0.1 4 7 := by rw [ek.i (by decide)]
        have em7 : M.1 7 = M0.1 7 := ek.i (by decide)
        by_cases hz : M.1 4 7 ≤ i
        · have hz2 := hz
          rw [em] at hz2
          simp only [i_le] at hz2
          rw [show i.toNatClampNeg = c_sz M0 by omega, ← en] at ed eq
          repeat' (first | apply And.intro | exact rfl | (intro hx; with_reducible exact absurd hz hx) | intro hx | (refine Exists.intro _ (And.intro rfl ?_)))
          all_goals try first | (with_reducible change am_tI _ _) | (change Ret _ _) | (change Ret _ _ _) | (change Exists _)
          all_goals try dsimp only at *
          all_goals try (with_reducible exact absurd ‹(1000 : Int64) = 0› am_z1000)
          exact ⟨_, am_lt_l (by omega), _, _, rfl, rfl, rfl, ⟨by omega, by omega⟩, ed, eq, ek, e3⟩
        · have hz2 := hz
          rw [em] at hz2
          simp only [i_le] at hz2
          have ha : am_in i 30 := ⟨e1, by omega⟩
          have hb := e3.s.mi (g_cl ha)
          have hp := e3.pln hb hy
          have c4 := am_celly hy hp (k := 4) ⟨by decide, by decide⟩
          have hi := i_inc (x := i) (by omega) (by omega)
          have ci1 := i_clamp (x := i + 1) (by omega)
          have l5 : am_len 5 = 1200 := rfl
          have l7 : am_len 7 = 30 := rfl
          have l8 : am_len 8 = 30 := rfl
          have k4 : Int32.toInt 4 = 4 := rfl
          have hy1 := hy.1
          have hy2 := hy.2
          have hp1 := hp.1
          have hp2 := hp.2
          have es : c_ms M0 (i + 1).toNatClampNeg = c_ms M0 i.toNatClampNeg ++ [M.1 7 i.toNatClampNeg] := by
            rw [show (i + 1).toNatClampNeg = i.toNatClampNeg + 1 by omega, c_ms_s, em7]
          obtain ⟨rr, er⟩ := c_ms_pre M0 (i := i.toNatClampNeg) (n := c_sz M0) (by omega)
          obtain ⟨r2, er2⟩ := c_ms_pre M0 (i := (i + 1).toNatClampNeg) (n := c_sz M0) (by omega)
          have cd := i_clamp (x := d) (by omega)
          by_cases hd : (30 : Int32) ≤ d
          · have hd2 := hd
            simp only [i_le, Int32.reduceToInt] at hd2
            have nil : rr.filter (fun l => decide (c_of M0 y l = o.toNatClampNeg)) = [] := by
              have l2 := congrArg List.length en
              rw [er, List.filter_append, ← List.append_assoc, List.length_append, ← er] at l2
              refine List.eq_nil_of_length_eq_zero ?_
              omega
            have en2 : z_q (c_of M0 y) (c_ms M0 (c_sz M0)) (o + 1).toNatClampNeg = z_q (c_of M0 y) (c_ms M0 (c_sz M0)) o.toNatClampNeg ++ (c_ms M0 i.toNatClampNeg).filter (fun l => decide (c_of M0 y l = o.toNatClampNeg)) := by
              rw [en]
              congr 1
              rw [er, List.filter_append, nil, List.append_nil]
            rw [← en2] at ed eq
            repeat' (first | apply And.intro | exact rfl | (intro hx; with_reducible exact absurd hx hz) | (intro hx; with_reducible exact absurd hd hx) | intro hx | (refine Exists.intro _ (And.intro rfl ?_)))
            all_goals try first | (with_reducible change am_tI _ _) | (change Ret _ _) | (change Ret _ _ _) | (change Exists _)
            all_goals try dsimp only at *
            all_goals try (with_reducible exact absurd ‹(1000 : Int64) = 0› am_z1000)
            exact ⟨_, am_lt_l (by omega), _, _, rfl, rfl, rfl, ⟨by omega, by omega⟩, ed, eq, ek, e3⟩
          · have hd2 := hd
            simp only [i_le, Int32.reduceToInt] at hd2
            have hdi := i_inc (x := d) (by omega) (by omega)
            have cd1 := i_clamp (x := d + 1) (by omega)
            have ef := congrFun (ek.of y) (M.1 7 i.toNatClampNeg)
            have bo := hoo.v (i := i.toNatClampNeg) (by omega)
            have bo2 : 0 ≤ (am_cell M (M.1 7 i.toNatClampNeg) y 4).toInt ∧ (am_cell M (M.1 7 i.toNatClampNeg) y 4).toInt ≤ 9 := by
              rw [show am_cell M (M.1 7 i.toNatClampNeg) y 4 = am_cell M0 (M0.1 7 i.toNatClampNeg) y 4 from (z_cg8 (fun K => am_cell K (K.1 7 i.toNatClampNeg) y 4) (fun _ _ _ => rfl) (fun _ _ => rfl) (fun _ z => ek.i z))]
              exact bo
            have cb := i_clamp bo2.1
            by_cases ho : M.1 5 ((y * 5 + am_pln M (M.1 7 i.toNatClampNeg) y) * 6 + 4).toNatClampNeg = o
            · have ho2 : c_of M0 y (M.1 7 i.toNatClampNeg) = o.toNatClampNeg := by
                rw [← ef]
                show (am_cell M (M.1 7 i.toNatClampNeg) y 4).toNatClampNeg = _
                rw [show am_cell M (M.1 7 i.toNatClampNeg) y 4 = o from ho]
              have ex : (c_ms M0 (i + 1).toNatClampNeg).filter (fun l => decide (c_of M0 y l = o.toNatClampNeg)) = (c_ms M0 i.toNatClampNeg).filter (fun l => decide (c_of M0 y l = o.toNatClampNeg)) ++ [M.1 7 i.toNatClampNeg] := by
                rw [es, List.filter_append]
                congr 1
                rw [List.filter_cons, if_pos (decide_eq_true ho2)]
                rfl
              have l3 : d.toInt < 30 := by omega
              have ed2 : (d + 1).toInt = ((z_q (c_of M0 y) (c_ms M0 (c_sz M0)) o.toNatClampNeg ++ (c_ms M0 (i + 1).toNatClampNeg).filter (fun l => decide (c_of M0 y l = o.toNatClampNeg))).length : Int) := by
                rw [ex, ← List.append_assoc, List.length_append, hdi, ed]
                rfl
              have eq2 : c_qs (am_wI M 8 d.toNatClampNeg (M.1 7 i.toNatClampNeg)) (d + 1).toNatClampNeg = z_q (c_of M0 y) (c_ms M0 (c_sz M0)) o.toNatClampNeg ++ (c_ms M0 (i + 1).toNatClampNeg).filter (fun l => decide (c_of M0 y l = o.toNatClampNeg)) := by
                rw [show (d + 1).toNatClampNeg = d.toNatClampNeg + 1 by omega, c_qs_w, eq, ex, List.append_assoc]
              repeat' (first | (with_reducible exact hmn) | (with_reducible exact hb) | (with_reducible exact hy) | apply And.intro | exact rfl | (intro hx; with_reducible exact absurd hx hz) | (intro hx; with_reducible exact absurd hx hd) | (intro hx; with_reducible exact absurd ho hx) | intro hx | (refine Exists.intro _ (And.intro rfl ?_)))
              all_goals try first | (with_reducible change am_tI _ _) | (change Ret _ _) | (change Ret _ _ _) | (change Exists _)
              all_goals try dsimp only at *
              all_goals try (with_reducible exact absurd ‹(1000 : Int64) = 0› am_z1000)
              all_goals first
                | omega
                | (rw [l7]; exact ha.2)
                | (rw [l5]; omega)
                | (rw [l8]; omega)
                | exact ⟨_, am_lt_r (by omega), _, _, _, rfl, rfl, rfl, ⟨e0, e4⟩, ⟨by omega, by omega⟩, ed2, eq2, ek.w, e3.w8 hb⟩
                | skip
            · have ho2 : ¬ c_of M0 y (M.1 7 i.toNatClampNeg) = o.toNatClampNeg := fun z => ho (by
                rw [← ef] at z
                have z2 : (am_cell M (M.1 7 i.toNatClampNeg) y 4).toNatClampNeg = o.toNatClampNeg := z
                show am_cell M (M.1 7 i.toNatClampNeg) y 4 = o
                rw [i_eq]
                omega)
              have ex : (c_ms M0 (i + 1).toNatClampNeg).filter (fun l => decide (c_of M0 y l = o.toNatClampNeg)) = (c_ms M0 i.toNatClampNeg).filter (fun l => decide (c_of M0 y l = o.toNatClampNeg)) := by
                rw [es, List.filter_append, List.filter_cons, if_neg (fun z => ho2 (of_decide_eq_true z)), List.filter_nil, List.append_nil]
              rw [← ex] at ed eq
              repeat' (first | (with_reducible exact hmn) | (with_reducible exact hb) | (with_reducible exact hy) | apply And.intro | exact rfl | (intro hx; with_reducible exact absurd hx hz) | (intro hx; with_reducible exact absurd hx hd) | (intro hx; with_reducible exact absurd hx ho) | intro hx | (refine Exists.intro _ (And.intro rfl ?_)))
              all_goals try first | (with_reducible change am_tI _ _) | (change Ret _ _) | (change Ret _ _ _) | (change Exists _)
              all_goals try dsimp only at *
              all_goals try (with_reducible exact absurd ‹(1000 : Int64) = 0› am_z1000)
              all_goals first
                | omega
                | (rw [l7]; exact ha.2)
                | (rw [l5]; omega)
                | (rw [l8]; omega)
                | exact ⟨_, am_lt_r (by omega), _, _, _, rfl, rfl, rfl, ⟨e0, e4⟩, ⟨by omega, by omega⟩, ed, eq, ek, e3⟩
                | skip
      · cases hI
    · exact h.elim
end
-- part 79r.run2.lean.txt
section
/-! runs, exact: the class: a year's turn -/
theorem t_b.e {M N : am_M} {b : Nat} (h : t_b M b) (e : N.1 = M.1) : t_b N b := by
  obtain ⟨-, h⟩ := h
  refine ⟨(), fun t ht => (h t ht).cg ?_ ?_ ?_ (fun j _ => ?_) (fun j _ => ?_)⟩ <;> rw [e]
/-- a loan's year begins -/
def z_b (stk : Int32 → Bool) (gr : Int32 → Int64 → Int64) (dr : Int32 → Int64 → Int64) (s : Nat → Int64) (l : Int32) : Nat → Int64 :=
  if stk l = true then z_u (z_u (z_u s (60 + l.toNatClampNeg) (s l.toNatClampNeg)) (120 + l.toNatClampNeg) 0) l.toNatClampNeg 0
  else (fun s2 : Nat → Int64 => z_u s2 l.toNatClampNeg (dr l (s2 l.toNatClampNeg))) (if 0 < s l.toNatClampNeg then z_u (z_u (z_u (z_u s (60 + l.toNatClampNeg) 0) (120 + l.toNatClampNeg) 0) (120 + l.toNatClampNeg) (gr l (s l.toNatClampNeg))) l.toNatClampNeg (s l.toNatClampNeg + gr l (s l.toNatClampNeg)) else z_u (z_u s (60 + l.toNatClampNeg) 0) (120 + l.toNatClampNeg) 0)
def c_stk (M : am_M) (y l : Int32) : Bool := decide (¬ M.1 4 18 = 0 ∨ ¬ (y - am_loanAt M l 2 < am_cell M l y 3))
theorem c_stk_iff {M : am_M} {y l : Int32} : c_stk M y l = true ↔ am_isStr M l y := by
  unfold c_stk am_isStr
  exact decide_eq_true_iff
def c_gr (M : am_M) (y l : Int32) (o : Int64) : Int64 := am_grown o (c_rt M l y o)
abbrev c_b (M : am_M) (y : Int32) : (Nat → Int64) → Int32 → Nat → Int64 := z_b (c_stk M y) (c_gr M y) (fun l o => c_dr M l y o)
/-- sums, letters, stack have changed -/
def c_lt (M N : am_M) : Prop := ∃ _ : Unit, N.1 = M.1 ∧ ∀ a, a ≠ 6 → a ≠ 9 → a ≠ 10 → N.2 a = M.2 a
theorem c_lt.rf {M : am_M} : c_lt M M := ⟨(), rfl, fun _ _ _ _ => rfl⟩
theorem c_lt.i {M N : am_M} (h : c_lt M N) : N.1 = M.1 := by obtain ⟨-, h, -⟩ := h; exact h
theorem c_lt.j {M N : am_M} (h : c_lt M N) {a : Nat} (h6 : a ≠ 6) (h9 : a ≠ 9) (h10 : a ≠ 10) : N.2 a = M.2 a := by obtain ⟨-, -, h⟩ := h; exact h a h6 h9 h10
theorem c_lt.w {M N : am_M} {k : Nat} {v : Int64} (h : c_lt M N) : c_lt M (am_wJ N 6 k v) := ⟨(), h.i, fun a z6 z9 z10 => by rw [z_wJo z6]; exact h.j z6 z9 z10⟩
theorem c_lt.lk {M N K : am_M} (h : c_lt M N) (h2 : c_lk N K) : c_lt M K := ⟨(), h2.i.trans h.i, fun a z6 z9 z10 => (h2.j z9 z10).trans (h.j z6 z9 z10)⟩
section CB
variable {M N : am_M} {l y : Int32} {a0 a2 a4 : Nat}
theorem c_b_s (e0 : a0 = l.toNatClampNeg) (e2 : a2 = 60 + l.toNatClampNeg) (e4 : a4 = 120 + l.toNatClampNeg) (hs : am_isStr M l y) : (am_wJ (am_wJ (am_wJ M 6 a2 (M.2 6 a0)) 6 a4 0) 6 a0 0).2 6 = c_b M y (M.2 6) l := by
  subst e0 e2 e4
  unfold c_b z_b
  rw [if_pos (c_stk_iff.mpr hs), z_wJ, z_wJ, z_wJ]
theorem c_b_n (e0 : a0 = l.toNatClampNeg) (e2 : a2 = 60 + l.toNatClampNeg) (e4 : a4 = 120 + l.toNatClampNeg) (hs : ¬ am_isStr M l y) (ho : ¬ 0 < M.2 6 a0) : (am_wJ (am_wJ (am_wJ M 6 a2 0) 6 a4 0) 6 l.toNatClampNeg (c_dr (am_wJ (am_wJ M 6 a2 0) 6 a4 0) l y ((am_wJ (am_wJ M 6 a2 0) 6 a4 0).2 6 l.toNatClampNeg))).2 6 = c_b M y (M.2 6) l := by
  subst e0 e2 e4
  unfold c_b z_b
  rw [if_neg (fun z => hs (c_stk_iff.mp z)), if_neg ho, z_wJ, z_wJ, z_wJ]
  rfl
theorem c_b_g {r : Int32} (e0 : a0 = l.toNatClampNeg) (e2 : a2 = 60 + l.toNatClampNeg) (e4 : a4 = 120 + l.toNatClampNeg) (hs : ¬ am_isStr M l y) (ho : 0 < M.2 6 a0) (hN : c_lk (am_wJ (am_wJ M 6 a2 0) 6 a4 0) N) (hr : r = c_rt (am_wJ (am_wJ M 6 a2 0) 6 a4 0) l y ((am_wJ (am_wJ M 6 a2 0) 6 a4 0).2 6 l.toNatClampNeg)) : (am_wJ (am_wJ (am_wJ N 6 (120 + l.toNatClampNeg) (am_grown (N.2 6 l.toNatClampNeg) r)) 6 l.toNatClampNeg (N.2 6 l.toNatClampNeg + am_grown (N.2 6 l.toNatClampNeg) r)) 6 l.toNatClampNeg (c_dr (am_wJ (am_wJ N 6 (120 + l.toNatClampNeg) (am_grown (N.2 6 l.toNatClampNeg) r)) 6 l.toNatClampNeg (N.2 6 l.toNatClampNeg + am_grown (N.2 6 l.toNatClampNeg) r)) l y ((am_wJ (am_wJ N 6 (120 + l.toNatClampNeg) (am_grown (N.2 6 l.toNatClampNeg) r)) 6 l.toNatClampNeg (N.2 6 l.toNatClampNeg + am_grown (N.2 6 l.toNatClampNeg) r)).2 6 l.toNatClampNeg))).2 6 = c_b M y (M.2 6) l := by
  subst e0 e2 e4
  have n6 : N.2 6 = z_u (z_u (M.2 6) (60 + l.toNatClampNeg) 0) (120 + l.toNatClampNeg) 0 := by
    rw [hN.j (by decide) (by decide), z_wJ, z_wJ]
  have nl : N.2 6 l.toNatClampNeg = M.2 6 l.toNatClampNeg := by
    rw [n6, z_u_n (by omega), z_u_n (by omega)]
  have n1 : N.1 = M.1 := hN.i
  have er : r = c_rt M l y (M.2 6 l.toNatClampNeg) := by
    rw [hr, z_wJ, z_wJ, z_u_n (by omega), z_u_n (by omega)]
    rfl
  have ed : ∀ (K : am_M), K.1 = M.1 → c_dr K l y = c_dr M l y := fun K e => z_cg1 (fun K => c_dr K l y) (fun _ _ _ => rfl) e
  have e1 : ∀ (K : am_M), K.1 = M.1 → (am_wJ K 6 l.toNatClampNeg (c_dr K l y (K.2 6 l.toNatClampNeg))).2 6 = z_u (K.2 6) l.toNatClampNeg (c_dr M l y (K.2 6 l.toNatClampNeg)) := fun K hK => by rw [z_wJ, ed K hK]
  rw [e1]
  rotate_left
  · exact n1
  rw [nl, er, z_wJ, z_wJ, n6]
  unfold c_b z_b
  rw [if_neg (fun z => hs (c_stk_iff.mp z)), if_pos ho]
  rfl
end CB
/-- a year's turn: sums, due, paid -/
abbrev z_S := (Nat → Int64) × Int64 × Int64
def z_T (b : (Nat → Int64) → Int32 → Nat → Int64) (f : Int32 → Nat) (ask : Int32 → Int64) (sd : Int32 → Bool) (ms : List Int32) (p : z_S) : z_S :=
  (fun (q : z_S) => (((z_q f ms 10).foldl (z_tk ask sd) (q.1, 0)).1, (if 0 < p.2.1 then 0 else p.2.1), q.2.2)) (if 0 < p.2.1 then (z_q f ms 10).foldl z_pay (ms.foldl b p.1, p.2.1, p.2.2) else (ms.foldl b p.1, p.2.1, p.2.2))
def c_T (M : am_M) (y : Int32) : z_S → z_S := z_T (c_b M y) (c_of M y) (c_ask M y) (c_sd M y) (c_ms M (c_sz M))
abbrev c_st (M : am_M) : z_S := (M.2 6, M.2 4 14, M.2 4 15)
/-- queue, sums, letters, stack, due, paid have changed -/
def c_tn (M N : am_M) : Prop := ∃ _ : Unit, (∀ a, a ≠ 8 → N.1 a = M.1 a) ∧ ∀ a, a ≠ 4 → a ≠ 6 → a ≠ 9 → a ≠ 10 → N.2 a = M.2 a
theorem c_tn.i {M N : am_M} (h : c_tn M N) {a : Nat} (h8 : a ≠ 8) : N.1 a = M.1 a := by obtain ⟨-, h, -⟩ := h; exact h a h8
theorem c_tn.j {M N : am_M} (h : c_tn M N) {a : Nat} (h4 : a ≠ 4) (h6 : a ≠ 6) (h9 : a ≠ 9) (h10 : a ≠ 10) : N.2 a = M.2 a := by obtain ⟨-, -, h⟩ := h; exact h a h4 h6 h9 h10
/-- lined up -/
def c_x1 (M0 : am_M) (y : Int32) (M : am_M) : Prop := ∃ _ : Unit, (∀ a, a ≠ 8 → M.1 a = M0.1 a) ∧ (∀ a, a ≠ 6 → a ≠ 9 → a ≠ 10 → M.2 a = M0.2 a) ∧ M.2 6 = (c_ms M0 (c_sz M0)).foldl (c_b M0 y) (M0.2 6) ∧ c_qs M (c_sz M0) = z_q (c_of M0 y) (c_ms M0 (c_sz M0)) 10 ∧ g_rI M
/-- paid ahead -/
def c_x2 (M0 : am_M) (y : Int32) (M : am_M) : Prop := ∃ _ : Unit, (∀ a, a ≠ 8 → M.1 a = M0.1 a) ∧ (∀ a, a ≠ 4 → a ≠ 6 → a ≠ 9 → a ≠ 10 → M.2 a = M0.2 a) ∧ (M.2 6, (if 0 < M0.2 4 14 then M0.2 4 14 else M.2 4 14), M.2 4 15) = (fun q : z_S => (q.1, M0.2 4 14, q.2.2)) (if 0 < M0.2 4 14 then (z_q (c_of M0 y) (c_ms M0 (c_sz M0)) 10).foldl z_pay ((c_ms M0 (c_sz M0)).foldl (c_b M0 y) (M0.2 6), M0.2 4 14, M0.2 4 15) else ((c_ms M0 (c_sz M0)).foldl (c_b M0 y) (M0.2 6), M0.2 4 14, M0.2 4 15)) ∧ M.2 4 14 = (if 0 < M0.2 4 14 then 0 else M0.2 4 14) ∧ c_qs M (c_sz M0) = z_q (c_of M0 y) (c_ms M0 (c_sz M0)) 10 ∧ g_rI M
theorem c_oo.e {M N : am_M} {y : Int32} (h : c_oo M y) (e : N.1 = M.1) : c_oo N y := ⟨(), fun i hi => by
  rw [e] at hi
  have q := h.v hi
  rw [← z_cg1 (fun K => am_cell K (K.1 7 i) y 4) (fun _ _ _ => rfl) e] at q
  exact q⟩
def kX4_turnE (live : am_E) (Ret : am_R) : am_code := [(0, am_const (.int 0) 1), (1, am_istore 2 7 2), (2, am_iload 2 3), (3, am_aload 0 4), (4, am_getI live 4 7 7), (7, am_if2 (fun x y => y ≤ x) 112 10), (10, am_aload 0 11), (11, am_getR live 4 3 14), (14, am_iload 2 15), (15, am_ald live 0 16), (16, am_istore 3 7 17), (17, am_aload 0 18), (18, am_getR live 4 2 21), (21, am_const (.int 0) 22), (22, am_iload 3 23), (23, am_i2 (fun x y => x + y) 24), (24, am_lald live 1 25), (25, am_lstore 4 7 27), (27, am_aload 0 28), (28, am_iload 3 29), (29, am_iload 1 30), (30, am_callV live 4 2 TX4_isStruck 33), (33, am_istore 6 7 35), (35, am_aload 0 36), (36, am_getR live 4 2 39), (39, am_const (.int 60) 41), (41, am_iload 3 42), (42, am_i2 (fun x y => x + y) 43), (43, am_iload 6 45), (45, am_if1 (fun x => x = 0) 53 48), (48, am_lload 4 50), (50, am_goto 54), (53, am_const (.long 0) 54), (54, am_last live 1 55), (55, am_aload 0 56), (56, am_getR live 4 2 59), (59, am_const (.int 120) 61), (61, am_iload 3 62), (62, am_i2 (fun x y => x + y) 63), (63, am_const (.long 0) 64), (64, am_last live 1 65), (65, am_iload 6 67), (67, am_if1 (fun x => x = 0) 82 70), (70, am_aload 0 71), (71, am_getR live 4 2 74), (74, am_const (.int 0) 75), (75, am_iload 3 76), (76, am_i2 (fun x y => x + y) 77), (77, am_const (.long 0) 78), (78, am_last live 1 79), (79, am_goto 106), (82, am_lload 4 84), (84, am_const (.long 0) 85), (85, am_lcmp 86), (86, am_if1 (fun x => x ≤ 0) 100 89), (89, am_aload 0 90), (90, am_iload 3 91), (91, am_aload 0 92), (92, am_iload 3 93), (93, am_iload 1 94), (94, am_callV live 4 2 TE4_rateOf 97), (97, am_callV live 4 2 TX4_grow 100), (100, am_aload 0 101), (101, am_iload 3 102), (102, am_iload 1 103), (103, am_callV live 4 2 TE4_draw 106), (106, am_iinc 2 7 1 109), (109, am_goto 2), (112, am_aload 0 113), (113, am_iload 1 114), (114, am_callV live 4 1 TE4_lineUp 117), (117, am_aload 0 118), (118, am_getJ live 4 14 121), (121, am_const (.long 0) 122), (122, am_lcmp 123), (123, am_if1 (fun x => x ≤ 0) 130 126), (126, am_aload 0 127), (127, am_callV live 4 0 TE4_payAhead 130), (130, am_aload 0 131), (131, am_iload 1 132), (132, am_callV live 4 1 TE4_takeAll 135), (135, am_retV Ret)]
theorem koX4_turnE (live : am_E) (Ret : am_R) : ∀ q ∈ kX4_turnE live Ret, am_ok RX4 cX4_turn 7 none 3 76 live Ret q.1 q.2 :=
  am_kz dzX4_turn <|
  am_kd (fun d => ak_iconst d (by decide +kernel) rfl) <|
  am_kd (fun d => ak_istore_n d rfl rfl) <|
  am_kd (fun d => ak_iload_n d rfl rfl) <|
  am_kd (fun d => ak_aload_n d rfl rfl) <|
  am_kd (fun d => ak_getI (C := RX4) (T := TX4) (N := 19) rfl inX4w (by decide) rfl rfl rfl wd_303 d rfl) <|
  am_kd (fun d => ak_icmp_ge d (by decide +kernel) rfl) <|
  am_kd (fun d => ak_aload_n d rfl rfl) <|
  am_kd (fun d => ak_getR (C := RX4) (T := TX4) (N := 19) rfl inX4w (by decide) rfl rfl rfl wd_299 d rfl) <|
  am_kd (fun d => ak_iload_n d rfl rfl) <|
  am_kd (fun d => ak_iald (t := 0) (fun _ => rfl) rfl d rfl) <|
  am_kd (fun d => ak_istore_n d rfl rfl) <|
  am_kd (fun d => ak_aload_n d rfl rfl) <|
  am_kd (fun d => ak_getR (C := RX4) (T := TX4) (N := 19) rfl inX4w (by decide) rfl rfl rfl wd_296 d rfl) <|
  am_kd (fun d => ak_iconst d (by decide +kernel) rfl) <|
  am_kd (fun d => ak_iload_n d rfl rfl) <|
  am_kd (fun d => ak_iadd d rfl) <|
  am_kd (fun d => ak_lald (t := 1) (fun _ => rfl) rfl d rfl) <|
  am_kd (fun d => ak_lstore d rfl) <|
  am_kd (fun d => ak_aload_n d rfl rfl) <|
  am_kd (fun d => ak_iload_n d rfl rfl) <|
  am_kd (fun d => ak_iload_n d rfl rfl) <|
  am_kd (fun d => ak_callV (C := RX4) (F := TX4) (N := 19) metX4_isStruck rfl ⟨rfl, hy_X4_isStruck⟩ (am_w5 wd_576 wd_578 wd_3 wd_60 wd_579) (by decide) d rfl) <|
  am_kd (fun d => ak_istore d rfl) <|
  am_kd (fun d => ak_aload_n d rfl rfl) <|
  am_kd (fun d => ak_getR (C := RX4) (T := TX4) (N := 19) rfl inX4w (by decide) rfl rfl rfl wd_296 d rfl) <|
  am_kd (fun d => ak_bipush d (by decide +kernel) rfl) <|
  am_kd (fun d => ak_iload_n d rfl rfl) <|
  am_kd (fun d => ak_iadd d rfl) <|
  am_kd (fun d => ak_iload d rfl) <|
  am_kd (fun d => ak_if_eq d (by decide +kernel) rfl) <|
  am_kd (fun d => ak_lload d rfl) <|
  am_kd (fun d => ak_goto d (by decide +kernel)) <|
  am_kd (fun d => ak_lconst d (by decide +kernel) rfl) <|
  am_kd (fun d => ak_last (t := 1) (fun _ => rfl) rfl d rfl) <|
  am_kd (fun d => ak_aload_n d rfl rfl) <|
  am_kd (fun d => ak_getR (C := RX4) (T := TX4) (N := 19) rfl inX4w (by decide) rfl rfl rfl wd_296 d rfl) <|
  am_kd (fun d => ak_bipush d (by decide +kernel) rfl) <|
  am_kd (fun d => ak_iload_n d rfl rfl) <|
  am_kd (fun d => ak_iadd d rfl) <|
  am_kd (fun d => ak_lconst d (by decide +kernel) rfl) <|
  am_kd (fun d => ak_last (t := 1) (fun _ => rfl) rfl d rfl) <|
  am_kd (fun d => ak_iload d rfl) <|
  am_kd (fun d => ak_if_eq d (by decide +kernel) rfl) <|
  am_kd (fun d => ak_aload_n d rfl rfl) <|
  am_kd (fun d => ak_getR (C := RX4) (T := TX4) (N := 19) rfl inX4w (by decide) rfl rfl rfl wd_296 d rfl) <|
  am_kd (fun d => ak_iconst d (by decide +kernel) rfl) <|
  am_kd (fun d => ak_iload_n d rfl rfl) <|
  am_kd (fun d => ak_iadd d rfl) <|
  am_kd (fun d => ak_lconst d (by decide +kernel) rfl) <|
  am_kd (fun d => ak_last (t := 1) (fun _ => rfl) rfl d rfl) <|
  am_kd (fun d => ak_goto d (by decide +kernel)) <|
  am_kd (fun d => ak_lload d rfl) <|
  am_kd (fun d => ak_lconst d (by decide +kernel) rfl) <|
  am_kd (fun d => ak_lcmp d rfl) <|
  am_kd (fun d => ak_if_le d (by decide +kernel) rfl) <|
  am_kd (fun d => ak_aload_n d rfl rfl) <|
  am_kd (fun d => ak_iload_n d rfl rfl) <|
  am_kd (fun d => ak_aload_n d rfl rfl) <|
  am_kd (fun d => ak_iload_n d rfl rfl) <|
  am_kd (fun d => ak_iload_n d rfl rfl) <|
  am_kd (fun d => ak_callV (C := RX4) (F := TX4) (N := 19) metX4_rateOfE rfl ⟨rfl, hy_X4_rateOf⟩ (am_w5 wd_588 wd_589 wd_590 wd_60 wd_591) (by decide) d rfl) <|
  am_kd (fun d => ak_callV (C := RX4) (F := TX4) (N := 19) metX4_grow rfl ⟨rfl, hy_X4_grow⟩ (am_w5 wd_613 wd_615 wd_6 wd_60 wd_616) (by decide) d rfl) <|
  am_kd (fun d => ak_aload_n d rfl rfl) <|
  am_kd (fun d => ak_iload_n d rfl rfl) <|
  am_kd (fun d => ak_iload_n d rfl rfl) <|
  am_kd (fun d => ak_callV (C := RX4) (F := TX4) (N := 19) metX4_drawE rfl ⟨rfl, hy_X4_draw⟩ (am_w5 wd_619 wd_621 wd_7 wd_60 wd_622) (by decide) d rfl) <|
  am_kd (fun d => ak_iinc d (by decide +kernel) rfl) <|
  am_kd (fun d => ak_goto d (by decide +kernel)) <|
  am_kd (fun d => ak_aload_n d rfl rfl) <|
  am_kd (fun d => ak_iload_n d rfl rfl) <|
  am_kd (fun d => ak_callV (C := RX4) (F := TX4) (N := 19) metX4_lineUpE rfl ⟨rfl, hy_X4_lineUp⟩ (am_w5 wd_624 wd_626 wd_8 wd_60 wd_627) (by decide) d rfl) <|
  am_kd (fun d => ak_aload_n d rfl rfl) <|
  am_kd (fun d => ak_getJ (C := RX4) (T := TX4) (N := 19) rfl inX4w (by decide) rfl rfl rfl wd_310 d rfl) <|
  am_kd (fun d => ak_lconst d (by decide +kernel) rfl) <|
  am_kd (fun d => ak_lcmp d rfl) <|
  am_kd (fun d => ak_if_le d (by decide +kernel) rfl) <|
  am_kd (fun d => ak_aload_n d rfl rfl) <|
  am_kd (fun d => ak_callV (C := RX4) (F := TX4) (N := 19) metX4_payAheadE rfl ⟨rfl, hy_X4_payAhead⟩ (am_w5 wd_629 wd_631 wd_9 wd_60 wd_632) (by decide) d rfl) <|
  am_kd (fun d => ak_aload_n d rfl rfl) <|
  am_kd (fun d => ak_iload_n d rfl rfl) <|
  am_kd (fun d => ak_callV (C := RX4) (F := TX4) (N := 19) metX4_takeAllE rfl ⟨rfl, hy_X4_takeAll⟩ (am_w5 wd_633 wd_635 wd_10 wd_60 wd_636) (by decide) d rfl) <|
  am_kd (fun d => ak_retV d) <| am_kdn
def TE4_turn : am_T := fun live as M R => match as with
  | [.ref n, .int y] => am_mn live ∧ n = 4 ∧ am_in y 40 ∧ g_rI M ∧ t_b M 20 ∧ c_oo M y ∧ ∀ M', c_tn M M' → g_rI M' → c_st M' = c_T M y (c_st M) → R none M'
  | _ => False
def JE4_turn : am_E → List Value → am_M → am_R → am_inv := fun live as M0 _ pc => match as with
  | [.ref n, .int y] => (match pc with
    | 2 => some ([0, 1, 2], fun k L st M => ∃ i : Int32, L = [(0, .ref 4), (1, .int y), (2, .int i)] ∧ st = [] ∧ k = (100 + (31 - i.toInt).toNat, 0) ∧ (0 ≤ i.toInt ∧ i.toInt ≤ (M0.1 4 7).toInt) ∧ c_lt M0 M ∧ M.2 6 = (c_ms M0 i.toNatClampNeg).foldl (c_b M0 y) (M0.2 6))
    | 117 => some ([0, 1], fun k L st M => L = [(0, .ref 4), (1, .int y)] ∧ st = [] ∧ k = (50, 0) ∧ c_x1 M0 y M)
    | 130 => some ([0, 1], fun k L st M => L = [(0, .ref 4), (1, .int y)] ∧ st = [] ∧ k = (40, 0) ∧ c_x2 M0 y M)
    | _ => none)
  | _ => none
set_option maxRecDepth 100000 in
set_option maxHeartbeats 4000000 in
theorem metX4_turnE : am_Met yX4_turn cX4_turn 7 none (3) (76) TE4_turn := by
  refine am_met (own := RX4) (by decide +kernel) rfl kX4_turnE koX4_turnE 150 JE4_turn ?_ ?_
  · intro live as M Ret h
    unfold TE4_turn at h
    split at h
    · next n y =>
      refine ⟨Nat.le_of_ble_eq_true rfl, ?_⟩
      change am_wp _ _ _ _ [(0, Value.ref n), (1, Value.int y)] _ _
      obtain ⟨hmn, rfl, hy, hr, htb, hoo, h⟩ := h
      have q := hr.s.sz
      repeat' (first | apply And.intro | exact rfl | intro hx | (refine Exists.intro _ (And.intro rfl ?_)))
      all_goals try first | (with_reducible change am_tI _ _) | (change Ret _ _) | (change Ret _ _ _) | (change Exists _)
      all_goals try dsimp only at *
      all_goals try (with_reducible exact absurd ‹(1000 : Int64) = 0› am_z1000)
      exact ⟨_, _, rfl, rfl, rfl, ⟨by decide, q.1⟩, c_lt.rf, rfl⟩
    · exact h.elim
  · intro live as M0 Ret h k pc I hI L st M hi
    unfold TE4_turn at h
    split at h
    · next n y =>
      obtain ⟨hmn, rfl, hy, hr, htb, hoo, h⟩ := h
      have hmn2 := hmn
      obtain ⟨i1, i2, rfl⟩ := hmn2
      have q := hr.s.sz
      have cs : (c_sz M0 : Int) = (M0.1 4 7).toInt := i_clamp q.1
      change (match pc with | 2 => _ | 117 => _ | 130 => _ | _ => none) = _ at hI
      split at hI
      · cases hI
        obtain ⟨i, rfl, rfl, rfl, ⟨e1, e4⟩, e2, e3⟩ := hi
        have em := e2.i
        have ci := i_clamp e1
        have hrM : g_rI M := hr.eI (fun a b => by rw [em])
        have htM : t_b M 20 := htb.e em
        by_cases hz : M.1 4 7 ≤ i
        · have hz2 := hz
          rw [em] at hz2
          simp only [i_le] at hz2
          rw [show i.toNatClampNeg = c_sz M0 by omega] at e3
          have hoM := hoo.e em
          repeat' (first | (with_reducible exact hmn) | (with_reducible exact hy) | (with_reducible exact hrM) | (with_reducible exact hoM) | apply And.intro | exact rfl | (intro hx; with_reducible exact absurd hz hx) | ((with_reducible change g_rI _); (with_reducible assumption)) | intro hx | (refine Exists.intro _ (And.intro rfl ?_)))
          all_goals try first | (with_reducible change am_tI _ _) | (change Ret _ _) | (change Ret _ _ _) | (change Exists _)
          all_goals try dsimp only at *
          all_goals try (with_reducible exact absurd ‹(1000 : Int64) = 0› am_z1000)
          all_goals
            rename_i N k8 hrN
            have hq := hx
            refine ⟨_, am_lt_l (by omega), rfl, rfl, rfl, (), fun a z => by rw [k8.i z, em], fun a z6 z9 z10 => ?_, ?_, ?_, hrN⟩
            · obtain ⟨-, -, k82⟩ := k8
              rw [k82]
              exact e2.j z6 z9 z10
            · obtain ⟨-, -, k82⟩ := k8
              rw [k82]
              exact e3
            · rw [show c_sz M = c_sz M0 by unfold c_sz; rw [em], show c_of M y = c_of M0 y from z_cg1 (fun K => c_of K y) (fun _ _ _ => rfl) em, show c_ms M (c_sz M0) = c_ms M0 (c_sz M0) by unfold c_ms; rw [em]] at hq
              exact hq
        · have hz2 := hz
          rw [em] at hz2
          simp only [i_le] at hz2
          have ha : am_in i 30 := ⟨e1, by omega⟩
          have hb := hrM.s.mi (g_cl ha)
          have hp := hrM.pln hb hy
          have hi := i_inc (x := i) (by omega) (by omega)
          have ci1 := i_clamp (x := i + 1) (by omega)
          have f0 := g_ix hb 0 0 rfl (by decide)
          have f60 := g_ix hb 60 60 rfl (by decide)
          have f120 := g_ix hb 120 120 rfl (by decide)
          have l6 : am_len 6 = 180 := rfl
          have l7 : am_len 7 = 30 := rfl
          have nx : c_b M y (M.2 6) (M.1 7 i.toNatClampNeg) = (c_ms M0 (i + 1).toNatClampNeg).foldl (c_b M0 y) (M0.2 6) := by
            rw [show (i + 1).toNatClampNeg = i.toNatClampNeg + 1 by omega, c_ms_s, List.foldl_append, ← e3, z_cg1 (fun K => c_b K y) (fun _ _ _ => rfl) em, em]
            rfl
          have w0 := f0.1
          have w0b : (0 + M.1 7 i.toNatClampNeg).toInt < (am_len 6 : Int) := by rw [l6]; exact f0.2.1
          have w60 := f60.1
          have w60b : (60 + M.1 7 i.toNatClampNeg).toInt < (am_len 6 : Int) := by rw [l6]; exact f60.2.1
          have w120 := f120.1
          have w120b : (120 + M.1 7 i.toNatClampNeg).toInt < (am_len 6 : Int) := by rw [l6]; exact f120.2.1
          have w7 : i.toInt < (am_len 7 : Int) := by rw [l7]; exact ha.2
          by_cases zs : am_isStr M (M.1 7 i.toNatClampNeg) y
          · skip
            repeat' (first | (with_reducible exact e1) | (with_reducible exact w7) | (with_reducible exact w0) | (with_reducible exact w0b) | (with_reducible exact w60) | (with_reducible exact w60b) | (with_reducible exact w120) | (with_reducible exact w120b) | (with_reducible exact hmn) | (with_reducible exact hb) | (with_reducible exact hy) | (with_reducible exact hp) | apply And.intro | exact rfl | (intro hx; with_reducible exact absurd hx hz) | (intro hx; with_reducible exact absurd zs hx) | (intro hx; exact absurd hx (by decide)) | (intro hx; exact absurd (by decide) hx) | decide | intro hx | (refine Exists.intro _ (And.intro rfl ?_)))
            all_goals try first | (with_reducible change am_tI _ _) | (change Ret _ _) | (change Ret _ _ _) | (change Exists _)
            all_goals try dsimp only at *
            all_goals try (with_reducible exact absurd ‹(1000 : Int64) = 0› am_z1000)
            all_goals first
              | (left; rfl)
              | (right; rfl)
              | exact ⟨_, am_lt_l (by omega), _, rfl, rfl, rfl, ⟨by omega, by omega⟩, ((e2.w).w).w, (c_b_s am_ix0 f60.2.2 f120.2.2 zs).trans nx⟩
              | skip
          · by_cases zo : lg_cmp (M.2 6 (0 + M.1 7 i.toNatClampNeg).toNatClampNeg) 0 ≤ 0
            · have zo2 : ¬ 0 < M.2 6 (0 + M.1 7 i.toNatClampNeg).toNatClampNeg := by
                rw [lc_le] at zo
                simp only [j_le, Int64.lt_iff_toInt_lt] at zo ⊢
                omega
              repeat' (first | (with_reducible exact e1) | (with_reducible exact w7) | (with_reducible exact w0) | (with_reducible exact w0b) | (with_reducible exact w60) | (with_reducible exact w60b) | (with_reducible exact w120) | (with_reducible exact w120b) | (with_reducible exact hmn) | (with_reducible exact hb) | (with_reducible exact hy) | (with_reducible exact hp) | apply And.intro | exact rfl | (intro hx; with_reducible exact absurd hx hz) | (intro hx; with_reducible exact absurd hx zs) | (intro hx; with_reducible exact absurd zo hx) | (intro hx; exact absurd hx (by decide)) | (intro hx; exact absurd (by decide) hx) | decide | intro hx | (refine Exists.intro _ (And.intro rfl ?_)))
              all_goals try first | (with_reducible change am_tI _ _) | (change Ret _ _) | (change Ret _ _ _) | (change Exists _)
              all_goals try dsimp only at *
              all_goals try (with_reducible exact absurd ‹(1000 : Int64) = 0› am_z1000)
              all_goals first
                | (left; rfl)
                | (right; rfl)
                | exact ⟨_, am_lt_l (by omega), _, rfl, rfl, rfl, ⟨by omega, by omega⟩, ((e2.w).w).w, (c_b_n am_ix0 f60.2.2 f120.2.2 zs zo2).trans nx⟩
                | skip
            · have zo2 : 0 < M.2 6 (0 + M.1 7 i.toNatClampNeg).toNatClampNeg := by
                rw [lc_le] at zo
                simp only [j_le, Int64.lt_iff_toInt_lt] at zo ⊢
                omega
              have hrM2 : g_rI (am_wJ (am_wJ M 6 (60 + M.1 7 i.toNatClampNeg).toNatClampNeg 0) 6 (120 + M.1 7 i.toNatClampNeg).toNatClampNeg 0) := (hrM.wJ).wJ
              have htM2 : t_b (am_wJ (am_wJ M 6 (60 + M.1 7 i.toNatClampNeg).toNatClampNeg 0) 6 (120 + M.1 7 i.toNatClampNeg).toNatClampNeg 0) 20 := htM.e rfl
              repeat' (first | (with_reducible exact e1) | (with_reducible exact w7) | (with_reducible exact w0) | (with_reducible exact w0b) | (with_reducible exact w60) | (with_reducible exact w60b) | (with_reducible exact w120) | (with_reducible exact w120b) | (with_reducible exact hmn) | (with_reducible exact hb) | (with_reducible exact hy) | (with_reducible exact hp) | (with_reducible exact hrM2) | (with_reducible exact htM2) | apply And.intro | exact rfl | (intro hx; with_reducible exact absurd hx hz) | (intro hx; with_reducible exact absurd hx zs) | (intro hx; with_reducible exact absurd hx zo) | (intro hx; exact absurd hx (by decide)) | (intro hx; exact absurd (by decide) hx) | decide | intro hx | (refine Exists.intro _ (And.intro rfl ?_)))
              all_goals try first | (with_reducible change am_tI _ _) | (change Ret _ _) | (change Ret _ _ _) | (change Exists _)
              all_goals try dsimp only at *
              all_goals try (with_reducible exact absurd ‹(1000 : Int64) = 0› am_z1000)
              all_goals first
                | (left; rfl)
                | (right; rfl)
                | skip
              all_goals
                rename_i N
                have hN := hx
                exact ⟨_, am_lt_l (by omega), _, rfl, rfl, rfl, ⟨by omega, by omega⟩, (((((e2.w).w).lk hN).w).w).w, (c_b_g am_ix0 f60.2.2 f120.2.2 zs zo2 hN rfl).trans nx⟩
      · cases hI
        obtain ⟨rfl, rfl, rfl, x1⟩ := hi
        obtain ⟨-, a1, a2, a3, a4, a5⟩ := x1
        have e14 : M.2 4 = M0.2 4 := a2 4 (by decide) (by decide) (by decide)
        have esz : c_sz M = c_sz M0 := by unfold c_sz; rw [a1 4 (by decide)]
        by_cases zd : lg_cmp (M.2 4 14) 0 ≤ 0
        · have zd2 : ¬ 0 < M0.2 4 14 := by
            rw [lc_le, e14] at zd
            simp only [j_le, Int64.lt_iff_toInt_lt] at zd ⊢
            omega
          repeat' (first | (with_reducible exact hmn) | apply And.intro | exact rfl | (intro hx; with_reducible exact absurd zd hx) | intro hx | (refine Exists.intro _ (And.intro rfl ?_)))
          all_goals try first | (with_reducible change am_tI _ _) | (change Ret _ _) | (change Ret _ _ _) | (change Exists _)
          all_goals try dsimp only at *
          all_goals try (with_reducible exact absurd ‹(1000 : Int64) = 0› am_z1000)
          exact ⟨_, am_lt_l (by omega), rfl, rfl, rfl, (), a1, fun a _ z6 z9 z10 => a2 a z6 z9 z10, by rw [if_neg zd2, if_neg zd2, a3, e14], by rw [if_neg zd2, e14], a4, a5⟩
        · have zd2 : 0 < M0.2 4 14 := by
            rw [lc_le, e14] at zd
            simp only [j_le, Int64.lt_iff_toInt_lt] at zd ⊢
            omega
          repeat' (first | (with_reducible exact hmn) | (with_reducible exact a5) | apply And.intro | exact rfl | (intro hx; with_reducible exact absurd hx zd) | ((with_reducible change g_rI _); (with_reducible assumption)) | intro hx | (refine Exists.intro _ (And.intro rfl ?_)))
          all_goals try first | (with_reducible change am_tI _ _) | (change Ret _ _) | (change Ret _ _ _) | (change Exists _)
          all_goals try dsimp only at *
          all_goals try (with_reducible exact absurd ‹(1000 : Int64) = 0› am_z1000)
          all_goals
            rename_i N k46 n6 n14
            have n15 := hx
            rw [esz, a4, a3, e14] at n6 n15
            refine ⟨_, am_lt_l (by omega), rfl, rfl, rfl, (), fun a z => by rw [k46.i]; exact a1 a z, fun a z4 z6 z9 z10 => (k46.j z4 z6).trans (a2 a z6 z9 z10), by rw [if_pos zd2, if_pos zd2, n6, n15], by rw [if_pos zd2, n14], ?_, a5.eI (fun a b => by rw [k46.i])⟩
            rw [← a4]
            unfold c_qs
            rw [k46.i]
      · cases hI
        obtain ⟨rfl, rfl, rfl, x2⟩ := hi
        obtain ⟨-, a1, a2, a3, a6, a4, a5⟩ := x2
        have esz : c_sz M = c_sz M0 := by unfold c_sz; rw [a1 4 (by decide)]
        have ea : c_ask M y = c_ask M0 y := z_cg8 (fun K => c_ask K y) (fun _ _ _ => rfl) (fun _ _ => rfl) a1
        have es : c_sd M y = c_sd M0 y := z_cg8 (fun K => c_sd K y) (fun _ _ _ => rfl) (fun _ _ => rfl) a1
        repeat' (first | (with_reducible exact hmn) | (with_reducible exact hy) | (with_reducible exact a5) | apply And.intro | exact rfl | ((with_reducible change g_rI _); (with_reducible assumption)) | intro hx | (refine Exists.intro _ (And.intro rfl ?_)))
        all_goals try first | (with_reducible change am_tI _ _) | (change Ret _ _) | (change Ret _ _ _) | (change Exists _)
        all_goals try dsimp only at *
        all_goals try (with_reducible exact absurd ‹(1000 : Int64) = 0› am_z1000)
        all_goals
          rename_i N k6
          have n6 := hx
          rw [esz, a4, ea, es] at n6
          refine h N ⟨(), fun a z => by rw [k6.i]; exact a1 a z, fun a z4 z6 z9 z10 => (k6.j z6).trans (a2 a z4 z6 z9 z10)⟩ (a5.eI (fun a b => by rw [k6.i])) ?_
          have b1 := congrArg (fun q : z_S => q.1) a3
          have b3 := congrArg (fun q : z_S => q.2.2) a3
          dsimp only at b1 b3
          unfold c_T z_T
          refine Prod.ext ?_ (Prod.ext ?_ ?_)
          · show N.2 6 = _
            rw [n6, b1]
          · show N.2 4 14 = _
            rw [k6.j (by decide), a6]
          · show N.2 4 15 = _
            rw [k6.j (by decide), b3]
      · cases hI
    · exact h.elim
end
