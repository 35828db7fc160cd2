/-! texts: the class's reader, exact, II -/
theorem w_dig_n {σ : Nat → Int32} {n u i k : Nat} {v : Int} (h : ¬ (i < n ∧ w_dgt (σ i) = true)) : w_dig σ n (u + 1) i k v = some (i, v) := if_neg h
theorem w_dig_f {σ : Nat → Int32} {n u i : Nat} {v : Int} (h : i < n ∧ w_dgt (σ i) = true) : w_dig σ n (u + 1) i 6 v = none := by
  unfold w_dig
  rw [if_pos h, if_pos rfl]
theorem w_dig_s {σ : Nat → Int32} {n u i k : Nat} {v : Int} (h : i < n ∧ w_dgt (σ i) = true) (hk : k ≠ 6) : w_dig σ n (u + 1) i k v = w_dig σ n u (i + 1) (k + 1) (10 * v + ((σ i).toInt - 48)) := by
  conv => lhs; unfold w_dig
  rw [if_pos h, if_neg hk]
theorem w_dgt_i {c : Int32} : w_dgt c = true ↔ 48 ≤ c ∧ c ≤ 57 := by
  unfold w_dgt
  rw [decide_eq_true_iff, i_le, i_le]
  rfl
def TE5_readDigits : am_T := fun live as M R => match as with
  | [.ref t] => am_tP live t (fun s c => am_tI M t ∧ (M.1 t 6 = -1 ∧ (M.1 t 3).toInt < (M.1 t 5).toInt ∧ w_dgt (M.1 s (t_p M t)) = true) ∧ (∀ (q v : Int32), (M.1 t 3).toInt < q.toInt → q.toInt ≤ (M.1 t 5).toInt → 0 ≤ v.toInt → w_dig (M.1 s) (t_n M t) 8 (t_p M t) 0 0 = some (q.toNatClampNeg, v.toInt) → R none (am_emit (am_wI M t 3 q) t c v)) ∧ (∀ q : Int32, (M.1 t 3).toInt ≤ q.toInt → q.toInt ≤ (M.1 t 5).toInt → w_dig (M.1 s) (t_n M t) 8 (t_p M t) 0 0 = none → R none (am_blame (am_wI M t 3 q) t (M.1 t 3) 2)))
  | _ => False
def JE5_readDigits : am_E → List Value → am_M → am_R → am_inv := fun live as M0 _ pc => match as with
  | [.ref t] => (match pc with
    | 7 => some ([0, 1, 2], fun k L st M => ∃ (v q : Int32) (u : Nat), L = [(0, .ref t), (1, .int (M0.1 t 3)), (2, .int v)] ∧ st = [] ∧ k = ((51 - q.toInt).toNat, 0) ∧ M = am_wI M0 t 3 q ∧ (q.toInt = (M0.1 t 3).toInt + u ∧ u ≤ 6 ∧ q.toInt ≤ (M0.1 t 5).toInt) ∧ (0 ≤ v.toInt ∧ v.toInt + 1 ≤ (10 ^ u : Nat)) ∧ w_dig (M0.1 ((live.2 t 0).getD 0)) (t_n M0 t) (8 - u) q.toNatClampNeg u v.toInt = w_dig (M0.1 ((live.2 t 0).getD 0)) (t_n M0 t) 8 (t_p M0 t) 0 0)
    | _ => none)
  | _ => none
set_option maxRecDepth 100000 in
set_option maxHeartbeats 4000000 in
theorem metX5_readDigitsE : am_Met yX5_readDigits cX5_readDigits 3 none (1) (22) TE5_readDigits := by
  refine am_met (own := RX5) (by decide +kernel) rfl kX5_readDigits koX5_readDigits 60 JE5_readDigits ?_ ?_
  · intro live as M Ret h
    unfold TE5_readDigits at h
    split at h
    · next t =>
      refine ⟨Nat.le_of_ble_eq_true rfl, ?_⟩
      change am_wp _ _ _ _ [(0, Value.ref t)] _ _
      have hh := am_tP_mp h
      clear h
      obtain ⟨s, c, h2, h6, hb, h1, h3, h7, h4, h8, h9, h5, h10, hT, ⟨hw, hlt, hdg⟩, h, hno⟩ := hh
      repeat' (first | (with_reducible exact hT) | (with_reducible exact h1) | (with_reducible exact h2) | (with_reducible exact h3) | (with_reducible exact hb) | (with_reducible exact h6) | (with_reducible exact h7) | (refine Exists.intro _ (Exists.intro _ (And.intro h2 (And.intro h6 ?_)))) | (refine Exists.intro _ (And.intro h2 ?_)) | (refine Exists.intro _ (And.intro h6 ?_)) | apply And.intro | exact rfl | intro hx | (refine Exists.intro _ (And.intro rfl ?_)) | ((with_reducible change _ = true); simp only [h1, h2, h3, hb, h6, h7, Bool.true_and]; rfl))
      all_goals try first | (with_reducible change am_tI _ _) | (change Ret _ _) | (change Ret _ _ _) | (change Exists _)
      all_goals try dsimp only at *
      all_goals try exact absurd ‹(1000 : Int64) = 0› (by decide)
      exact ⟨_, 0, M.1 t 3, 0, rfl, rfl, rfl, am_wI_id.symm, ⟨by omega, by decide, by omega⟩, ⟨by decide, by decide⟩, rfl⟩
    · exact h.elim
  · intro live as M0 Ret h k pc I hI L st M hi
    unfold TE5_readDigits at h
    split at h
    · next t =>
      have hh := am_tP_mp h
      clear h
      obtain ⟨s, c, h2, h6, hb, h1, h3, h7, h4, h8, h9, h5, h10, hT, ⟨hw, hlt, hdg⟩, h, hno⟩ := hh
      change (match pc with | 7 => _ | _ => none) = _ at hI
      split at hI
      · cases hI
        obtain ⟨v, q, u, rfl, rfl, rfl, rfl, ⟨e1, e2, e3⟩, ⟨v1, v2⟩, e4⟩ := hi
        rw [h2] at e4
        have e4 : w_dig (M0.1 s) (t_n M0 t) (8 - u) q.toNatClampNeg u v.toInt = w_dig (M0.1 s) (t_n M0 t) 8 (t_p M0 t) 0 0 := e4
        obtain ⟨a1, a2, a3, a4, a5, b1, b2, b3⟩ := hT.p
        have cq := i_clamp (x := q) (by omega)
        have f3 : (am_wI M0 t 3 q).1 t 3 = q := by rw [am_wI_1, if_pos ⟨rfl, rfl⟩]
        have f5 : (am_wI M0 t 3 q).1 t 5 = M0.1 t 5 := by rw [am_wI_1, if_neg (fun z => absurd z.2 (by decide))]
        have f2 : (am_wI M0 t 3 q).1 t 2 = M0.1 t 2 := by rw [am_wI_1, if_neg (fun z => absurd z.2 (by decide))]
        have fs : ∀ j, (am_wI M0 t 3 q).1 s j = M0.1 s j := fun j => by rw [am_wI_1, if_neg (fun z => h5 z.1.symm)]
        have hcd : 0 ≤ ((am_wI M0 t 3 q).1 t 2).toInt := by rw [f2]; exact a4
        have hv6 : (10 ^ u : Nat) ≤ 1000000 := Nat.le_trans (Nat.pow_le_pow_right (by decide) e2) (by decide)
        by_cases hz : (am_wI M0 t 3 q).1 t 5 ≤ (am_wI M0 t 3 q).1 t 3
        · have hz2 := hz
          rw [f3, f5, i_le] at hz2
          have e5 : w_dig (M0.1 s) (t_n M0 t) (8 - u) q.toNatClampNeg u v.toInt = some (q.toNatClampNeg, v.toInt) := by
            rw [show 8 - u = (7 - u) + 1 by omega]
            exact w_dig_n (fun z => by have := z.1; omega)
          have hh := h q v (by omega) e3 v1 (e4.symm.trans e5)
          repeat' (first | (with_reducible exact hcd) | (with_reducible exact h1) | (with_reducible exact h2) | (with_reducible exact h3) | (with_reducible exact hb) | (with_reducible exact h6) | (with_reducible exact h7) | (refine Exists.intro _ (Exists.intro _ (And.intro h2 (And.intro h6 ?_)))) | (refine Exists.intro _ (And.intro h2 ?_)) | (refine Exists.intro _ (And.intro h6 ?_)) | apply And.intro | exact rfl | (intro hx; with_reducible exact absurd hz hx) | intro hx | (refine Exists.intro _ (And.intro rfl ?_)) | ((with_reducible change _ = true); simp only [h1, h2, h3, hb, h6, h7, Bool.true_and]; rfl))
          all_goals try first | (with_reducible change am_tI _ _) | (change Ret _ _) | (change Ret _ _ _) | (change Exists _)
          all_goals try dsimp only at *
          all_goals try exact absurd ‹(1000 : Int64) = 0› (by decide)
          all_goals exact hh
        · have hz2 := hz
          rw [f3, f5, i_le] at hz2
          have x1 : 0 ≤ ((am_wI M0 t 3 q).1 t 3).toInt := by rw [f3]; omega
          have x2 : ((am_wI M0 t 3 q).1 t 3).toInt < (am_len s : Int) := by rw [f3, h4]; omega
          by_cases zd : 48 ≤ (am_wI M0 t 3 q).1 s ((am_wI M0 t 3 q).1 t 3).toNatClampNeg ∧ (am_wI M0 t 3 q).1 s ((am_wI M0 t 3 q).1 t 3).toNatClampNeg ≤ 57
          · have q0 : ¬ ((if 48 ≤ (am_wI M0 t 3 q).1 s ((am_wI M0 t 3 q).1 t 3).toNatClampNeg ∧ (am_wI M0 t 3 q).1 s ((am_wI M0 t 3 q).1 t 3).toNatClampNeg ≤ 57 then (1 : Int32) else 0) = 0) := by rw [if_pos zd]; decide
            have zd2 : q.toNatClampNeg < t_n M0 t ∧ w_dgt (M0.1 s q.toNatClampNeg) = true := ⟨by omega, w_dgt_i.mpr (by rw [f3, fs] at zd; exact zd)⟩
            have es := i_sub (x := q) (y := M0.1 t 3) (by omega) (by omega)
            by_cases z6 : (am_wI M0 t 3 q).1 t 3 - M0.1 t 3 < 6
            · have z6b := z6
              rw [f3, i_lt, es] at z6b
              simp only [Int32.reduceToInt] at z6b
              have hi := i_inc (x := q) (by omega) (by omega)
              have cq1 := i_clamp (x := q + 1) (by omega)
              have d1 := of_decide_eq_true zd2.2
              have m1 := i_mul (x := 10) (y := v) (by simp only [Int32.reduceToInt]; omega) (by simp only [Int32.reduceToInt]; omega)
              simp only [Int32.reduceToInt] at m1
              have m2 := i_add (x := 10 * v) (y := M0.1 s q.toNatClampNeg) (by omega) (by omega)
              have m3 := i_sub (x := 10 * v + M0.1 s q.toNatClampNeg) (y := 48) (by simp only [Int32.reduceToInt]; omega) (by simp only [Int32.reduceToInt]; omega)
              simp only [Int32.reduceToInt] at m3
              have vv : 10 * v + (am_wI M0 t 3 q).1 s ((am_wI M0 t 3 q).1 t 3).toNatClampNeg - 48 = 10 * v + M0.1 s q.toNatClampNeg - 48 := by rw [f3, fs]
              have mm : am_wI (am_wI M0 t 3 q) t 3 ((am_wI M0 t 3 q).1 t 3 + 1) = am_wI M0 t 3 (q + 1) := by rw [f3, am_wI_wI]
              have pw : (10 ^ (u + 1) : Nat) = 10 * 10 ^ u := by rw [Nat.pow_succ, Nat.mul_comm]
              have e5 : w_dig (M0.1 s) (t_n M0 t) (8 - (u + 1)) (q + 1).toNatClampNeg (u + 1) (10 * v + M0.1 s q.toNatClampNeg - 48).toInt = w_dig (M0.1 s) (t_n M0 t) 8 (t_p M0 t) 0 0 := by
                rw [← e4, show 8 - u = (8 - (u + 1)) + 1 by omega, w_dig_s zd2 (by omega), show (q + 1).toNatClampNeg = q.toNatClampNeg + 1 by omega]
                congr 1
                omega
              repeat' (first | (with_reducible exact hcd) | (with_reducible exact x1) | (with_reducible exact x2) | (with_reducible exact h1) | (with_reducible exact h2) | (with_reducible exact h3) | (with_reducible exact hb) | (with_reducible exact h6) | (with_reducible exact h7) | (refine Exists.intro _ (Exists.intro _ (And.intro h2 (And.intro h6 ?_)))) | (refine Exists.intro _ (And.intro h2 ?_)) | (refine Exists.intro _ (And.intro h6 ?_)) | apply And.intro | exact rfl | (intro hx; with_reducible exact absurd hx hz) | (intro hx; with_reducible exact absurd hx q0) | (intro hx; with_reducible exact absurd z6 hx) | (intro hx; exact absurd hx (by decide)) | (intro hx; exact absurd (by decide) hx) | decide | intro hx | (refine Exists.intro _ (And.intro rfl ?_)) | ((with_reducible change _ = true); simp only [h1, h2, h3, hb, h6, h7, Bool.true_and]; rfl))
              all_goals try first | (with_reducible change am_tI _ _) | (change Ret _ _) | (change Ret _ _ _) | (change Exists _)
              all_goals try dsimp only at *
              all_goals try exact absurd ‹(1000 : Int64) = 0› (by decide)
              all_goals
                rw [h2]
                exact ⟨_, am_lt_l (by omega), _, q + 1, u + 1, rfl, rfl, rfl, mm, ⟨by omega, by omega, by omega⟩, ⟨by rw [vv]; omega, by rw [vv, pw]; omega⟩, by rw [vv]; exact e5⟩
            · have z6b := z6
              rw [f3, i_lt, es] at z6b
              simp only [Int32.reduceToInt] at z6b
              have u6 : u = 6 := by omega
              subst u6
              have e5 : w_dig (M0.1 s) (t_n M0 t) (8 - 6) q.toNatClampNeg 6 v.toInt = none := w_dig_f zd2
              have hh := hno q (by omega) e3 (e4.symm.trans e5)
              repeat' (first | (with_reducible exact hcd) | (with_reducible exact x1) | (with_reducible exact x2) | (with_reducible exact h1) | (with_reducible exact h2) | (with_reducible exact h3) | (with_reducible exact hb) | (with_reducible exact h6) | (with_reducible exact h7) | (refine Exists.intro _ (Exists.intro _ (And.intro h2 (And.intro h6 ?_)))) | (refine Exists.intro _ (And.intro h2 ?_)) | (refine Exists.intro _ (And.intro h6 ?_)) | apply And.intro | exact rfl | (intro hx; with_reducible exact absurd hx hz) | (intro hx; with_reducible exact absurd hx q0) | (intro hx; with_reducible exact absurd hx z6) | (intro hx; exact absurd hx (by decide)) | (intro hx; exact absurd (by decide) hx) | decide | intro hx | (refine Exists.intro _ (And.intro rfl ?_)) | ((with_reducible change _ = true); simp only [h1, h2, h3, hb, h6, h7, Bool.true_and]; rfl))
              all_goals try first | (with_reducible change am_tI _ _) | (change Ret _ _) | (change Ret _ _ _) | (change Exists _)
              all_goals try dsimp only at *
              all_goals try exact absurd ‹(1000 : Int64) = 0› (by decide)
              all_goals exact hh
          · have q0 : (if 48 ≤ (am_wI M0 t 3 q).1 s ((am_wI M0 t 3 q).1 t 3).toNatClampNeg ∧ (am_wI M0 t 3 q).1 s ((am_wI M0 t 3 q).1 t 3).toNatClampNeg ≤ 57 then (1 : Int32) else 0) = 0 := if_neg zd
            have zd2 : ¬ (q.toNatClampNeg < t_n M0 t ∧ w_dgt (M0.1 s q.toNatClampNeg) = true) := fun z => zd (by rw [f3, fs]; exact w_dgt_i.mp z.2)
            have e5 : w_dig (M0.1 s) (t_n M0 t) (8 - u) q.toNatClampNeg u v.toInt = some (q.toNatClampNeg, v.toInt) := by
              rw [show 8 - u = (7 - u) + 1 by omega]
              exact w_dig_n zd2
            have hpq : (M0.1 t 3).toInt < q.toInt := by
              rcases Nat.eq_zero_or_pos u with z | z
              · subst z
                exact absurd (show q.toNatClampNeg < t_n M0 t ∧ w_dgt (M0.1 s q.toNatClampNeg) = true from ⟨by omega, by rw [show q.toNatClampNeg = t_p M0 t by omega]; exact hdg⟩) zd2
              · omega
            have hh := h q v hpq e3 v1 (e4.symm.trans e5)
            repeat' (first | (with_reducible exact hcd) | (with_reducible exact x1) | (with_reducible exact x2) | (with_reducible exact h1) | (with_reducible exact h2) | (with_reducible exact h3) | (with_reducible exact hb) | (with_reducible exact h6) | (with_reducible exact h7) | (refine Exists.intro _ (Exists.intro _ (And.intro h2 (And.intro h6 ?_)))) | (refine Exists.intro _ (And.intro h2 ?_)) | (refine Exists.intro _ (And.intro h6 ?_)) | apply And.intro | exact rfl | (intro hx; with_reducible exact absurd hx hz) | (intro hx; with_reducible exact absurd q0 hx) | (intro hx; exact absurd hx (by decide)) | (intro hx; exact absurd (by decide) hx) | decide | intro hx | (refine Exists.intro _ (And.intro rfl ?_)) | ((with_reducible change _ = true); simp only [h1, h2, h3, hb, h6, h7, Bool.true_and]; rfl))
            all_goals try first | (with_reducible change am_tI _ _) | (change Ret _ _) | (change Ret _ _ _) | (change Exists _)
            all_goals try dsimp only at *
            all_goals try exact absurd ‹(1000 : Int64) = 0› (by decide)
            all_goals exact hh
      · cases hI
    · exact h.elim
/-- what was read without a fault: from p, nc codes to p', nc' -/
def y_io (p nc p' nc' : Nat) (cd cd' : Nat → Int32) (G : (Int32 → Int64) → Nat → Int64 → Prop) : Prop := p < p' ∧ nc ≤ nc' ∧ nc' + p ≤ p' + nc ∧ (∀ j, j < nc → cd' j = cd j) ∧ ∀ fa, ∃ v, (∀ st, w_ev fa cd' nc (nc' - nc) st = v :: st) ∧ G fa p' v
def x_io (t c : Nat) (M M' : am_M) (G : (Int32 → Int64) → Nat → Int64 → Prop) (F : (Int32 → Int64) → Int → Prop) : Prop := ∃ _ : Unit, (¬ M.1 t 6 = -1 → M'.1 t 6 = M.1 t 6) ∧ (M.1 t 6 = -1 → M'.1 t 6 = -1 → M'.1 t 4 = M.1 t 4 ∧ y_io (t_p M t) (t_c M t) (t_p M' t) (t_c M' t) (M.1 c) (M'.1 c) G) ∧ (M.1 t 6 = -1 → ¬ M'.1 t 6 = -1 → ∀ fa, F fa (M'.1 t 6).toInt)
section XIO
variable {t c : Nat} {M M' : am_M} {G : (Int32 → Int64) → Nat → Int64 → Prop} {F : (Int32 → Int64) → Int → Prop}
theorem x_io.no (h : ¬ M.1 t 6 = -1) (e : M'.1 t 6 = M.1 t 6) : x_io t c M M' G F := ⟨(), fun _ => e, fun z => absurd z h, fun z => absurd z h⟩
theorem x_io.ok (h : M.1 t 6 = -1) (e : M'.1 t 6 = -1) (e4 : M'.1 t 4 = M.1 t 4) (y : y_io (t_p M t) (t_c M t) (t_p M' t) (t_c M' t) (M.1 c) (M'.1 c) G) : x_io t c M M' G F := ⟨(), fun z => absurd h z, fun _ _ => ⟨e4, y⟩, fun _ z => absurd e z⟩
theorem x_io.bad (h : M.1 t 6 = -1) (e : ¬ M'.1 t 6 = -1) (f : ∀ fa, F fa (M'.1 t 6).toInt) : x_io t c M M' G F := ⟨(), fun z => absurd h z, fun _ z => absurd z e, fun _ _ => f⟩
theorem x_io.n (x : x_io t c M M' G F) (h : ¬ M.1 t 6 = -1) : M'.1 t 6 = M.1 t 6 := by obtain ⟨-, x, -, -⟩ := x; exact x h
theorem x_io.y (x : x_io t c M M' G F) (h : M.1 t 6 = -1) (e : M'.1 t 6 = -1) : M'.1 t 4 = M.1 t 4 ∧ y_io (t_p M t) (t_c M t) (t_p M' t) (t_c M' t) (M.1 c) (M'.1 c) G := by obtain ⟨-, -, x, -⟩ := x; exact x h e
theorem x_io.f (x : x_io t c M M' G F) (h : M.1 t 6 = -1) (e : ¬ M'.1 t 6 = -1) (fa : Int32 → Int64) : F fa (M'.1 t 6).toInt := by obtain ⟨-, -, -, x⟩ := x; exact x h e fa
end XIO
def x_pre (t s : Nat) (M : am_M) (e : Int) : Prop := ∃ _ : Unit, x_sg t s M ∧ (M.1 t 6 = -1 → (0 ≤ (M.1 t 4).toInt ∧ (M.1 t 4).toInt ≤ 8) ∧ 2 * e ≤ (M.1 t 3).toInt + (M.1 t 4).toInt ∧ (M.1 t 2).toInt ≤ (M.1 t 3).toInt)
theorem x_pre.s {t s : Nat} {M : am_M} {e : Int} (h : x_pre t s M e) : x_sg t s M := by obtain ⟨-, h, -⟩ := h; exact h
theorem x_pre.w {t s : Nat} {M : am_M} {e : Int} (h : x_pre t s M e) (w : M.1 t 6 = -1) : (0 ≤ (M.1 t 4).toInt ∧ (M.1 t 4).toInt ≤ 8) ∧ 2 * e ≤ (M.1 t 3).toInt + (M.1 t 4).toInt ∧ (M.1 t 2).toInt ≤ (M.1 t 3).toInt := by obtain ⟨-, -, h⟩ := h; exact h w
/-- a blame where none was -/
theorem t_bl {M : am_M} {t : Nat} {a k : Int32} (h : M.1 t 6 = -1) (ha : 0 ≤ a.toInt ∧ a.toInt ≤ 50) (hk : 1 ≤ k.toInt ∧ k.toInt ≤ 3) : ¬ (am_blame M t a k).1 t 6 = -1 ∧ ((am_blame M t a k).1 t 6).toInt = 10 * (a.toNatClampNeg : Int) + k.toInt := by
  have e : (am_blame M t a k).1 t 6 = 10 * a + k := by
    unfold am_blame
    rw [am_wIc_t h, am_wI_self]
  have m := i_mul (x := 10) (y := a) (by simp only [Int32.reduceToInt]; omega) (by simp only [Int32.reduceToInt]; omega)
  simp only [Int32.reduceToInt] at m
  have m2 := i_add (x := 10 * a) (y := k) (by omega) (by omega)
  have ca := i_clamp ha.1
  rw [e]
  exact ⟨fun z => by rw [z] at m2; simp only [Int32.reduceToInt] at m2; omega, by omega⟩
theorem t_bln {M : am_M} {t : Nat} {a k : Int32} (h : ¬ M.1 t 6 = -1) : am_blame M t a k = M := am_wIc_f h
/-- a value of one code: a number or a letter -/
theorem y_io.one {p p' nc : Nat} {cd cd' : Nat → Int32} {G : (Int32 → Int64) → Nat → Int64 → Prop} {v : Int32} {w : (Int32 → Int64) → Int64} (hp : p < p') (h0 : ∀ j, j < nc → cd' j = cd j) (h1 : cd' nc = v) (hv : ∀ fa st, w_ex fa v st = w fa :: st) (hG : ∀ fa, G fa p' (w fa)) : y_io p nc p' (nc + 1) cd cd' G := ⟨by omega, by omega, by omega, h0, fun fa => ⟨w fa, fun st => by
  rw [show nc + 1 - nc = 1 by omega]
  show w_ex fa (cd' (nc + 0)) st = _
  rw [Nat.add_zero, h1, hv], hG fa⟩⟩
theorem w_ex_n {fa : Int32 → Int64} {v : Int32} {st : List Int64} (h : 0 ≤ v.toInt) : w_ex fa v st = Int64.ofInt v.toInt :: st := if_pos h
theorem i_neg {x : Int32} (h : -2147483648 < x.toInt) : (-x).toInt = -x.toInt := by
  have h2 := i_hi x
  rw [Int32.toInt_neg]
  exact Int.bmod_eq_of_le (by omega) (by omega)
theorem w_ex_l {fa : Int32 → Int64} {c : Int32} {st : List Int64} (h : am_ops c = 0) (hc : 0 < c.toInt) : w_ex fa (-c) st = fa c :: st := by
  unfold w_ex
  rw [if_neg (by rw [i_neg (by omega)]; omega), Int32.neg_neg, if_pos h]
theorem w_ex_2 {fa : Int32 → Int64} {c : Int32} {a b : Int64} {st : List Int64} (h : am_ops c = 2) (hc : 0 < c.toInt) : w_ex fa (-c) (b :: a :: st) = am_join c a b :: st := by
  unfold w_ex
  rw [if_neg (by rw [i_neg (by omega)]; omega), Int32.neg_neg, if_neg (by rw [h]; decide), if_neg (by rw [h]; decide), if_pos h]
theorem w_ex_3 {fa : Int32 → Int64} {x y z : Int64} {st : List Int64} : w_ex fa (-63) (z :: y :: x :: st) = (if x ≠ 0 then y else z) :: st := by
  unfold w_ex
  rw [if_neg (by decide), if_neg (by decide), if_neg (by decide), if_neg (by decide)]
/-- signs and plain thing together -/
theorem y_io.unit {p b p' nc n1 n2 : Nat} {σ cd cd1 cd2 : Nat → Int32} {n op : Nat} (hu : x_un σ n p b) (h : y_io b nc p' n1 cd cd1 (fun fa p' v => s_pl fa σ n b p' op v)) (he : x_em σ cd1 cd2 n1 n2 p b) : y_io p nc p' n2 cd cd2 (fun fa p' v => s_ch fa σ n p p' op 7 v) := by
  obtain ⟨a1, a2, a3, a4, a5⟩ := h
  obtain ⟨b1, b2, b3⟩ := he
  have l := w_un_len (σ := σ) (b := p) (b - p)
  have hp := hu.1
  refine ⟨by omega, by omega, by omega, fun j hj => by rw [b1 j (by omega), a4 j hj], fun fa => ?_⟩
  obtain ⟨v, v1, v2⟩ := a5 fa
  refine ⟨w_ap (w_un σ p (b - p)) v, fun st => ?_, s_unit (fun W V => hu.2.2 fa W V) v2⟩
  rw [show n2 - nc = (n1 - nc) + (n2 - n1) by omega, w_ev_add, w_ev_cg (cd := cd1) (cd' := cd2) (b := nc) (k := n1 - nc) (fun j _ z => b1 j (by omega)), v1, show nc + (n1 - nc) = n1 by omega, b3]
/-- one more of a chain -/
theorem y_io.op {p p1 q p3 nc n1 n3 : Nat} {cd cd1 cd3 cd4 : Nat → Int32} {G G1 G3 : (Int32 → Int64) → Nat → Int64 → Prop} {c : Int32} (h : y_io p nc p1 n1 cd cd1 G) (hq : p1 ≤ q) (h3 : y_io (q + 1) n1 p3 n3 cd1 cd3 G1) (e1 : ∀ j, j < n3 → cd4 j = cd3 j) (e2 : cd4 n3 = -c) (hc : am_ops c = 2 ∧ 0 < c.toInt) (hG : ∀ fa v1 v2, G fa p1 v1 → G1 fa p3 v2 → G3 fa p3 (am_join c v1 v2)) : y_io p nc p3 (n3 + 1) cd cd4 G3 := by
  obtain ⟨a1, a2, a3, a4, a5⟩ := h
  obtain ⟨b1, b2, b3, b4, b5⟩ := h3
  refine ⟨by omega, by omega, by omega, fun j hj => by rw [e1 j (by omega), b4 j (by omega), a4 j hj], fun fa => ?_⟩
  obtain ⟨v1, u1, w1⟩ := a5 fa
  obtain ⟨v2, u2, w2⟩ := b5 fa
  refine ⟨am_join c v1 v2, fun st => ?_, hG fa v1 v2 w1 w2⟩
  rw [show n3 + 1 - nc = (n3 - nc) + 1 by omega]
  show w_ex fa (cd4 (nc + (n3 - nc))) (w_ev fa cd4 nc (n3 - nc) st) = _
  rw [show nc + (n3 - nc) = n3 by omega, e2, w_ev_cg (cd := cd3) (fun j _ z => e1 j (by omega)), show n3 - nc = (n1 - nc) + (n3 - n1) by omega, w_ev_add, show nc + (n1 - nc) = n1 by omega, w_ev_cg (cd := cd1) (cd' := cd3) (b := nc) (k := n1 - nc) (fun j _ z => b4 j (by omega)), u1, u2, w_ex_2 hc.1 hc.2]
/-- a choice -/
theorem y_io.ask {p p1 q1 p2 q2 p3 nc n1 n2 n3 : Nat} {cd cd1 cd2 cd3 cd4 : Nat → Int32} {G1 G2 G3 G : (Int32 → Int64) → Nat → Int64 → Prop} (h1 : y_io p nc p1 n1 cd cd1 G1) (hq : p1 ≤ q1) (h2 : y_io (q1 + 1) n1 p2 n2 cd1 cd2 G2) (hq2 : p2 ≤ q2) (h3 : y_io (q2 + 1) n2 p3 n3 cd2 cd3 G3) (e1 : ∀ j, j < n3 → cd4 j = cd3 j) (e2 : cd4 n3 = -63) (hG : ∀ fa v1 v2 v3, G1 fa p1 v1 → G2 fa p2 v2 → G3 fa p3 v3 → G fa p3 (if v1 ≠ 0 then v2 else v3)) : y_io p nc p3 (n3 + 1) cd cd4 G := by
  obtain ⟨a1, a2, a3, a4, a5⟩ := h1
  obtain ⟨b1, b2, b3, b4, b5⟩ := h2
  obtain ⟨c1, c2, c3, c4, c5⟩ := h3
  refine ⟨by omega, by omega, by omega, fun j hj => by rw [e1 j (by omega), c4 j (by omega), b4 j (by omega), a4 j hj], fun fa => ?_⟩
  obtain ⟨v1, u1, w1⟩ := a5 fa
  obtain ⟨v2, u2, w2⟩ := b5 fa
  obtain ⟨v3, u3, w3⟩ := c5 fa
  refine ⟨if v1 ≠ 0 then v2 else v3, fun st => ?_, hG fa v1 v2 v3 w1 w2 w3⟩
  rw [show n3 + 1 - nc = (n3 - nc) + 1 by omega]
  show w_ex fa (cd4 (nc + (n3 - nc))) (w_ev fa cd4 nc (n3 - nc) st) = _
  rw [show nc + (n3 - nc) = n3 by omega, e2, w_ev_cg (cd := cd3) (fun j _ z => e1 j (by omega)), show n3 - nc = (n2 - nc) + (n3 - n2) by omega, w_ev_add, show nc + (n2 - nc) = n2 by omega, w_ev_cg (cd := cd2) (cd' := cd3) (b := nc) (k := n2 - nc) (fun j _ z => c4 j (by omega)), show n2 - nc = (n1 - nc) + (n2 - n1) by omega, w_ev_add, show nc + (n1 - nc) = n1 by omega, w_ev_cg (cd := cd1) (cd' := cd2) (b := nc) (k := n1 - nc) (fun j _ z => b4 j (by omega)), u1, u2, u3, w_ex_3]
