/-! texts: the class's reader, exact, I -/
abbrev t_n (M : am_M) (t : Nat) : Nat := (M.1 t 5).toNatClampNeg
abbrev t_p (M : am_M) (t : Nat) : Nat := (M.1 t 3).toNatClampNeg
abbrev t_c (M : am_M) (t : Nat) : Nat := (M.1 t 2).toNatClampNeg
abbrev t_o (M : am_M) (t : Nat) : Nat := (M.1 t 4).toNatClampNeg
/-- a text's signs are such -/
def x_sg (t s : Nat) (M : am_M) : Prop := ∃ _ : Unit, ∀ j : Nat, (j : Int) < (M.1 t 5).toInt → 0 ≤ (M.1 s j).toInt
theorem x_sg.v {t s : Nat} {M : am_M} (h : x_sg t s M) {j : Nat} (hj : (j : Int) < (M.1 t 5).toInt) : 0 ≤ (M.1 s j).toInt := by obtain ⟨-, h⟩ := h; exact h j hj
theorem am_tI.p {M : am_M} {t : Nat} (h : am_tI M t) : 0 ≤ (M.1 t 3).toInt ∧ (M.1 t 3).toInt ≤ (M.1 t 5).toInt ∧ (M.1 t 5).toInt ≤ 50 ∧ 0 ≤ (M.1 t 2).toInt ∧ (M.1 t 2).toInt ≤ 50 ∧ (t_p M t : Int) = (M.1 t 3).toInt ∧ (t_n M t : Int) = (M.1 t 5).toInt ∧ (t_c M t : Int) = (M.1 t 2).toInt := by
  obtain ⟨-, q1, q2, q3⟩ := h
  have a := i_clamp (x := M.1 t 3) (by omega)
  have b := i_clamp (x := M.1 t 5) (by omega)
  have c := i_clamp (x := M.1 t 2) (by omega)
  exact ⟨by omega, by omega, by omega, by omega, by omega, a, b, c⟩
theorem x_nx {M : am_M} {t s : Nat} {q : Int32} (hT : am_tI M t) (hs : x_sg t s M) (hp : am_skip M t s q) : w_nx (M.1 s) (t_n M t) (t_p M t) q.toNatClampNeg (am_sign M t s q) ∧ (q.toNatClampNeg : Int) = q.toInt := by
  obtain ⟨a1, a2, a3, a4, a5, e1, e2, e3⟩ := hT.p
  obtain ⟨p1, p2, p3, p4⟩ := hp
  have cq := i_clamp (x := q) (by omega)
  refine ⟨⟨by omega, by omega, fun j z1 z2 => p3 j (by omega) (by omega), fun z => ?_, fun z => ?_⟩, cq⟩
  · have hq : q.toInt < (M.1 t 5).toInt := by omega
    have v := hs.v (j := q.toNatClampNeg) (by omega)
    have e : am_sign M t s q = M.1 s q.toNatClampNeg := if_pos hq
    rw [e]
    exact ⟨p4 hq, rfl, fun z => by rw [z] at v; exact absurd v (by decide)⟩
  · exact if_neg (by omega)
def TE5_pass : am_T := fun live as M R => match as with
  | [.ref t, .int g] => am_tP live t (fun s c => am_tI M t ∧ ¬ g = -1 ∧ (¬ M.1 t 6 = -1 → R none M) ∧ (M.1 t 6 = -1 → ∀ p, am_skip M t s p → (am_sign M t s p = g → R none (am_wI M t 3 (p + 1))) ∧ (¬ am_sign M t s p = g → R none (am_blame (am_wI M t 3 p) t p 1))))
  | _ => False
set_option maxRecDepth 100000 in
set_option maxHeartbeats 4000000 in
theorem metX5_passE : am_Met yX5_pass cX5_pass 2 none (1) (22) TE5_pass := by
  refine am_met (own := RX5) (by decide +kernel) rfl kX5_pass koX5_pass 60 (fun _ _ _ _ _ => none) (fun live as M Ret h => ?_) (fun _ _ _ _ _ _ _ _ hI => by cases hI)
  unfold TE5_pass at h
  split at h
  · next t g =>
    refine ⟨Nat.le_of_ble_eq_true rfl, ?_⟩
    change am_wp _ _ _ _ [(0, Value.ref t), (1, Value.int g)] _ _
    have hh := am_tP_mp h
    clear h
    obtain ⟨s, c, h2, h6, hb, h1, h3, h7, h4, h8, h9, h5, h10, hT, hg, hw, h⟩ := hh
    by_cases z : M.1 t 6 = -1
    · have h := h z
      repeat' (first | (with_reducible exact hT) | (with_reducible exact hg) | (with_reducible exact h1) | (with_reducible exact h2) | (with_reducible exact h3) | (with_reducible exact hb) | (with_reducible exact h6) | (with_reducible exact h7) | (refine Exists.intro _ (Exists.intro _ (And.intro h2 (And.intro h6 ?_)))) | (refine Exists.intro _ (And.intro h2 ?_)) | (refine Exists.intro _ (And.intro h6 ?_)) | apply And.intro | exact rfl | (intro hx; with_reducible exact absurd z hx) | intro hx | (refine Exists.intro _ (And.intro rfl ?_)) | ((with_reducible change _ = true); simp only [h1, h2, h3, hb, h6, h7, Bool.true_and]; rfl))
      all_goals try first | (with_reducible change am_tI _ _) | (change Ret _ _) | (change Ret _ _ _) | (change Exists _)
      all_goals try dsimp only at *
      all_goals try exact absurd ‹(1000 : Int64) = 0› (by decide)
      all_goals obtain ⟨-, q1, q2, q3⟩ := hT
      · rename_i w p hp
        have e := (h p hp).1 hx
        simp only [am_wI_1, and_self, if_true, am_wI_wI]
        exact e
      · rename_i w p hp
        have e := (h p hp).2 hx
        simp only [am_wI_1, and_self, if_true]
        exact e
    · have h := hw z
      have e : am_blame M t (M.1 t 3) 1 = M := am_wIc_f z
      rw [← e] at h
      repeat' (first | (with_reducible exact hT) | (with_reducible exact hg) | (with_reducible exact h1) | (with_reducible exact h2) | (with_reducible exact h3) | (with_reducible exact hb) | (with_reducible exact h6) | (with_reducible exact h7) | (refine Exists.intro _ (Exists.intro _ (And.intro h2 (And.intro h6 ?_)))) | (refine Exists.intro _ (And.intro h2 ?_)) | (refine Exists.intro _ (And.intro h6 ?_)) | apply And.intro | exact rfl | (intro hx; with_reducible exact absurd hx z) | intro hx | (refine Exists.intro _ (And.intro rfl ?_)) | ((with_reducible change _ = true); simp only [h1, h2, h3, hb, h6, h7, Bool.true_and]; rfl))
      all_goals try first | (with_reducible change am_tI _ _) | (change Ret _ _) | (change Ret _ _ _) | (change Exists _)
      all_goals try dsimp only at *
      all_goals try exact absurd ‹(1000 : Int64) = 0› (by decide)
      all_goals exact h
  · exact h.elim
/-- signs passed, as far as q -/
def x_un (σ : Nat → Int32) (n p q : Nat) : Prop := p ≤ q ∧ q ≤ n ∧ ∀ (fa : Int32 → Int64) (W : List Int32) (V : List Int64), w_res fa σ n p true W V = w_res fa σ n q true (w_un σ p (q - p) ++ W) V
theorem x_un.o {σ : Nat → Int32} {n p q : Nat} {c : Int32} (h : w_nx σ n p q c) : x_un σ n p q := ⟨h.le.1, h.le.2, fun fa W V => by
  rw [h.r, w_un_b (fun j a b => h.2.2.1 j a (by have := h.1; omega))]
  rfl⟩
theorem x_un.s {σ : Nat → Int32} {n p q q2 : Nat} {c c2 : Int32} (h : x_un σ n p q) (hq : w_nx σ n q q c) (hc : c = 33 ∨ c = 45) (h2 : w_nx σ n (q + 1) q2 c2) : x_un σ n p q2 := by
  have ha := hq.at (by rcases hc with rfl | rfl <;> decide)
  have hl := h2.le
  refine ⟨by have := h.1; omega, hl.2, fun fa W V => ?_⟩
  rw [h.2.2, s_sign hq hc, h2.r]
  have e : w_un σ p (q2 - p) = (if c = 33 then 1 else 2) :: w_un σ p (q - p) := by
    have hp := h.1
    rw [show q2 - p = (q + 1 - p) + (q2 - (q + 1)) by omega, w_un_add, show p + (q + 1 - p) = q + 1 by omega, w_un_b (fun j a b => h2.2.2.1 j a (by omega)), List.nil_append, show q + 1 - p = (q - p) + 1 by omega]
    conv => lhs; unfold w_un
    rw [show p + (q - p) = q by omega, ha.2.1]
    rcases hc with rfl | rfl
    · rw [if_pos rfl, if_pos rfl]
    · rw [if_neg (by decide), if_pos rfl, if_neg (by decide)]
  rw [e]
  rfl
def TE5_passSigns : am_T := fun live as M R => match as with
  | [.ref t] => am_tP live t (fun s c => am_tI M t ∧ x_sg t s M ∧ ∀ q : Int32, (M.1 t 3).toInt ≤ q.toInt → q.toInt ≤ (M.1 t 5).toInt → x_un (M.1 s) (t_n M t) (t_p M t) q.toNatClampNeg → (∀ q' g, w_nx (M.1 s) (t_n M t) q.toNatClampNeg q' g → g ≠ 33 ∧ g ≠ 45) → R (some (.int q)) (am_wI M t 3 q))
  | _ => False
def JE5_passSigns : am_E → List Value → am_M → am_R → am_inv := fun live as M0 _ pc => match as with
  | [.ref t] => (match pc with
    | 5 => some ([0, 1], fun k L st M => ∃ x q : Int32, L = [(0, .ref t), (1, .int x)] ∧ st = [] ∧ k = ((51 - q.toInt).toNat, 0) ∧ M = am_wI M0 t 3 q ∧ ((M0.1 t 3).toInt ≤ q.toInt ∧ q.toInt ≤ (M0.1 t 5).toInt) ∧ x_un (M0.1 ((live.2 t 0).getD 0)) (t_n M0 t) (t_p M0 t) q.toNatClampNeg ∧ w_nx (M0.1 ((live.2 t 0).getD 0)) (t_n M0 t) q.toNatClampNeg q.toNatClampNeg x)
    | _ => none)
  | _ => none
set_option maxRecDepth 100000 in
set_option maxHeartbeats 4000000 in
theorem metX5_passSignsE : am_Met yX5_passSigns cX5_passSigns 2 (some .int) (1) (20) TE5_passSigns := by
  refine am_met (own := RX5) (by decide +kernel) rfl kX5_passSigns koX5_passSigns 60 JE5_passSigns ?_ ?_
  · intro live as M Ret h
    unfold TE5_passSigns at h
    split at h
    · next t =>
      refine ⟨Nat.le_of_ble_eq_true rfl, ?_⟩
      change am_wp _ _ _ _ [(0, Value.ref t)] _ _
      have hh := am_tP_mp h
      clear h
      obtain ⟨s, c, h2, h6, hb, h1, h3, h7, h4, h8, h9, h5, h10, hT, hs, h⟩ := hh
      repeat' (first | (with_reducible exact hT) | (with_reducible exact h1) | (with_reducible exact h2) | (with_reducible exact h3) | (with_reducible exact hb) | (with_reducible exact h6) | (with_reducible exact h7) | (refine Exists.intro _ (Exists.intro _ (And.intro h2 (And.intro h6 ?_)))) | (refine Exists.intro _ (And.intro h2 ?_)) | (refine Exists.intro _ (And.intro h6 ?_)) | apply And.intro | exact rfl | intro hx | (refine Exists.intro _ (And.intro rfl ?_)) | ((with_reducible change _ = true); simp only [h1, h2, h3, hb, h6, h7, Bool.true_and]; rfl))
      all_goals try first | (with_reducible change am_tI _ _) | (change Ret _ _) | (change Ret _ _ _) | (change Exists _)
      all_goals try dsimp only at *
      all_goals try exact absurd ‹(1000 : Int64) = 0› (by decide)
      rename_i p
      obtain ⟨g, cq⟩ := x_nx hT hs hx
      rw [h2]
      exact ⟨_, _, _, rfl, rfl, rfl, rfl, ⟨hx.1, hx.2.1⟩, x_un.o g, g.mv⟩
    · exact h.elim
  · intro live as M0 Ret h k pc I hI L st M hi
    unfold TE5_passSigns at h
    split at h
    · next t =>
      have hh := am_tP_mp h
      clear h
      obtain ⟨s, c, h2, h6, hb, h1, h3, h7, h4, h8, h9, h5, h10, hT, hs, h⟩ := hh
      change (match pc with | 5 => _ | _ => none) = _ at hI
      split at hI
      · cases hI
        obtain ⟨x, q, rfl, rfl, rfl, rfl, ⟨e1, e2⟩, e3, e4⟩ := hi
        rw [h2] at e3 e4
        have e3 : x_un (M0.1 s) (t_n M0 t) (t_p M0 t) q.toNatClampNeg := e3
        have e4 : w_nx (M0.1 s) (t_n M0 t) q.toNatClampNeg q.toNatClampNeg x := e4
        obtain ⟨a1, a2, a3, a4, a5, b1, b2, b3⟩ := hT.p
        have cq := i_clamp (x := q) (by omega)
        have f3 : (am_wI M0 t 3 q).1 t 3 = q := by rw [am_wI_1, if_pos ⟨rfl, rfl⟩]
        have f5 : (am_wI M0 t 3 q).1 t 5 = M0.1 t 5 := by rw [am_wI_1, if_neg (fun z => absurd z.2 (by decide))]
        have fs : ∀ j, (am_wI M0 t 3 q).1 s j = M0.1 s j := fun j => by rw [am_wI_1, if_neg (fun z => h5 z.1.symm)]
        by_cases zc : x = 33 ∨ x = 45
        · have ha := e4.at (by rcases zc with rfl | rfl <;> decide)
          have hz : ¬ (am_wI M0 t 3 q).1 t 5 ≤ (am_wI M0 t 3 q).1 t 3 := by rw [f3, f5, i_le]; omega
          have hi := i_inc (x := q) (by omega) (by omega)
          have cq1 := i_clamp (x := q + 1) (by omega)
          have hT1 : am_tI (am_wI (am_wI M0 t 3 q) t 3 ((am_wI M0 t 3 q).1 t 3 + 1)) t := by
            rw [f3, am_wI_wI]
            refine am_tI_of ?_ ?_ ?_ ?_ ?_
            all_goals simp [am_wI_1, -Int32.toInt_add]
            all_goals omega
          have go : ∀ p, am_skip (am_wI (am_wI M0 t 3 q) t 3 ((am_wI M0 t 3 q).1 t 3 + 1)) t s p → w_nx (M0.1 s) (t_n M0 t) (q.toNatClampNeg + 1) p.toNatClampNeg (am_sign (am_wI (am_wI M0 t 3 q) t 3 ((am_wI M0 t 3 q).1 t 3 + 1)) t s p) ∧ ((M0.1 t 3).toInt ≤ p.toInt ∧ p.toInt ≤ (M0.1 t 5).toInt ∧ q.toInt < p.toInt) := fun p hp => by
            rw [f3, am_wI_wI] at hp ⊢
            have g5 : (am_wI M0 t 3 (q + 1)).1 t 5 = M0.1 t 5 := by rw [am_wI_1, if_neg (fun z => absurd z.2 (by decide))]
            have gs : (am_wI M0 t 3 (q + 1)).1 s = M0.1 s := funext fun j => by rw [am_wI_1, if_neg (fun z => h5 z.1.symm)]
            have g3 : (am_wI M0 t 3 (q + 1)).1 t 3 = q + 1 := by rw [am_wI_1, if_pos ⟨rfl, rfl⟩]
            rw [f3, am_wI_wI] at hT1
            have w := (x_nx (s := s) hT1 ⟨(), fun j hj => by rw [gs]; rw [g5] at hj; exact hs.v hj⟩ hp).1
            rw [gs, t_n, t_p, g5, g3, show (q + 1).toNatClampNeg = q.toNatClampNeg + 1 by omega] at w
            have w1 := hp.1
            have w2 := hp.2.1
            rw [g3] at w1
            rw [g5] at w2
            exact ⟨w, by omega, w2, by omega⟩
          rcases zc with rfl | rfl
          · skip
            repeat' (first | (with_reducible exact hT1) | (with_reducible exact h1) | (with_reducible exact h2) | (with_reducible exact h3) | (with_reducible exact hb) | (with_reducible exact h6) | (with_reducible exact h7) | (refine Exists.intro _ (Exists.intro _ (And.intro h2 (And.intro h6 ?_)))) | (refine Exists.intro _ (And.intro h2 ?_)) | (refine Exists.intro _ (And.intro h6 ?_)) | apply And.intro | exact rfl | (intro hx; with_reducible exact absurd hx hz) | (intro hx; exact absurd hx (by decide)) | (intro hx; exact absurd (by decide) hx) | decide | intro hx | (refine Exists.intro _ (And.intro rfl ?_)) | ((with_reducible change _ = true); simp only [h1, h2, h3, hb, h6, h7, Bool.true_and]; rfl))
            all_goals try first | (with_reducible change am_tI _ _) | (change Ret _ _) | (change Ret _ _ _) | (change Exists _)
            all_goals try dsimp only at *
            all_goals try exact absurd ‹(1000 : Int64) = 0› (by decide)
            all_goals
              obtain ⟨g, g2⟩ := go _ hx
              rw [h2]
              have k := e3.s e4 (Or.inl rfl) g
              refine ⟨_, am_lt_l ?_, _, _, rfl, rfl, rfl, ?_, ⟨g2.1, g2.2.1⟩, k, g.mv⟩
              · omega
              · rw [am_wI_wI, am_wI_wI]
          · skip
            repeat' (first | (with_reducible exact hT1) | (with_reducible exact h1) | (with_reducible exact h2) | (with_reducible exact h3) | (with_reducible exact hb) | (with_reducible exact h6) | (with_reducible exact h7) | (refine Exists.intro _ (Exists.intro _ (And.intro h2 (And.intro h6 ?_)))) | (refine Exists.intro _ (And.intro h2 ?_)) | (refine Exists.intro _ (And.intro h6 ?_)) | apply And.intro | exact rfl | (intro hx; with_reducible exact absurd hx hz) | (intro hx; exact absurd hx (by decide)) | (intro hx; exact absurd (by decide) hx) | decide | intro hx | (refine Exists.intro _ (And.intro rfl ?_)) | ((with_reducible change _ = true); simp only [h1, h2, h3, hb, h6, h7, Bool.true_and]; rfl))
            all_goals try first | (with_reducible change am_tI _ _) | (change Ret _ _) | (change Ret _ _ _) | (change Exists _)
            all_goals try dsimp only at *
            all_goals try exact absurd ‹(1000 : Int64) = 0› (by decide)
            all_goals
              obtain ⟨g, g2⟩ := go _ hx
              rw [h2]
              have k := e3.s e4 (Or.inr rfl) g
              refine ⟨_, am_lt_l ?_, _, _, rfl, rfl, rfl, ?_, ⟨g2.1, g2.2.1⟩, k, g.mv⟩
              · omega
              · rw [am_wI_wI, am_wI_wI]
        · have z1 : ¬ x = 33 := fun z => zc (Or.inl z)
          have z2 : ¬ x = 45 := fun z => zc (Or.inr z)
          have hh := h q e1 e2 e3 (fun q' g hg => by rw [(hg.u e4).2]; exact ⟨z1, z2⟩)
          have hh : Ret (some (.int ((am_wI M0 t 3 q).1 t 3))) (am_wI M0 t 3 q) := by rw [f3]; exact hh
          repeat' (first | (with_reducible exact h1) | (with_reducible exact h2) | (with_reducible exact h3) | (with_reducible exact hb) | (with_reducible exact h6) | (with_reducible exact h7) | (refine Exists.intro _ (Exists.intro _ (And.intro h2 (And.intro h6 ?_)))) | (refine Exists.intro _ (And.intro h2 ?_)) | (refine Exists.intro _ (And.intro h6 ?_)) | apply And.intro | exact rfl | (intro hx; with_reducible exact absurd hx z1) | (intro hx; with_reducible exact absurd hx z2) | intro hx | (refine Exists.intro _ (And.intro rfl ?_)) | ((with_reducible change _ = true); simp only [h1, h2, h3, hb, h6, h7, Bool.true_and]; rfl))
          all_goals try first | (with_reducible change am_tI _ _) | (change Ret _ _) | (change Ret _ _ _) | (change Exists _)
          all_goals try dsimp only at *
          all_goals try exact absurd ‹(1000 : Int64) = 0› (by decide)
          all_goals exact hh
      · cases hI
    · exact h.elim
theorem w_ap_app : ∀ (U U' : List Int32) (x : Int64), w_ap (U ++ U') x = w_ap U' (w_ap U x)
  | [], _, _ => rfl
  | c :: U, U', x => w_ap_app U U' _
theorem w_un_len {σ : Nat → Int32} {b : Nat} : ∀ k, (w_un σ b k).length ≤ k
  | 0 => Nat.le_refl _
  | k + 1 => by
    have ih := w_un_len (σ := σ) (b := b) k
    unfold w_un
    split
    · simp only [List.length_cons]; omega
    · split
      · simp only [List.length_cons]; omega
      · omega
/-- what emitting the signs from b on, down to i, has made -/
def x_em (σ cd0 cd : Nat → Int32) (n0 n1 i b : Nat) : Prop := (∀ j, j < n0 → cd j = cd0 j) ∧ n1 = n0 + (w_un σ i (b - i)).length ∧ ∀ (fa : Int32 → Int64) (x : Int64) (st : List Int64), w_ev fa cd n0 (n1 - n0) (x :: st) = w_ap (w_un σ i (b - i)) x :: st
theorem w_un_dn {σ : Nat → Int32} {i b : Nat} (h : i < b) : w_un σ i (b - i) = w_un σ (i + 1) (b - (i + 1)) ++ w_un σ i 1 := by
  rw [show b - i = 1 + (b - (i + 1)) by omega, w_un_add]
theorem x_em.k {σ cd0 cd : Nat → Int32} {n0 n1 i b : Nat} (h : x_em σ cd0 cd n0 n1 (i + 1) b) (hi : i < b) (h1 : σ i ≠ 33) (h2 : σ i ≠ 45) : x_em σ cd0 cd n0 n1 i b := by
  have e : w_un σ i (b - i) = w_un σ (i + 1) (b - (i + 1)) := by
    rw [w_un_dn hi, show w_un σ i 1 = [] by unfold w_un; rw [Nat.add_zero, if_neg h1, if_neg h2]; rfl, List.append_nil]
  unfold x_em
  rw [e]
  exact h
theorem x_em.s {σ cd0 cd cd' : Nat → Int32} {n0 n1 i b : Nat} {c : Int32} (h : x_em σ cd0 cd n0 n1 (i + 1) b) (hi : i < b) (h1 : (σ i = 33 ∧ c = -33) ∨ (σ i = 45 ∧ c = -126)) (e1 : cd' n1 = c) (e2 : ∀ j, j < n1 → cd' j = cd j) : x_em σ cd0 cd' n0 (n1 + 1) i b := by
  obtain ⟨a1, a2, a3⟩ := h
  have e : w_un σ i 1 = [if c = -33 then 1 else 2] := by
    unfold w_un
    rcases h1 with ⟨h, rfl⟩ | ⟨h, rfl⟩
    · rw [Nat.add_zero, if_pos h, if_pos rfl]; rfl
    · rw [Nat.add_zero, if_neg (by rw [h]; decide), if_pos h, if_neg (by decide)]; rfl
  refine ⟨fun j hj => by rw [e2 j (by omega), a1 j hj], ?_, fun fa x st => ?_⟩
  · rw [w_un_dn hi, e, List.length_append]
    simp only [List.length_cons, List.length_nil]
    omega
  · rw [w_un_dn hi, e, w_ap_app, show n1 + 1 - n0 = (n1 - n0) + 1 by omega]
    show w_ex fa (cd' (n0 + (n1 - n0))) (w_ev fa cd' n0 (n1 - n0) (x :: st)) = _
    rw [show n0 + (n1 - n0) = n1 by omega, e1, w_ev_cg (fun j _ z => e2 j (by omega)), a3]
    rcases h1 with ⟨-, rfl⟩ | ⟨-, rfl⟩ <;> rfl
def TE5_emitSigns : am_T := fun live as M R => match as with
  | [.ref t, .int a, .int b] => am_tP live t (fun s c => am_tI M t ∧ (0 ≤ a.toInt ∧ a.toInt ≤ b.toInt ∧ b.toInt ≤ 50 ∧ (t_c M t + (w_un (M.1 s) a.toNatClampNeg (b.toNatClampNeg - a.toNatClampNeg)).length ≤ 50 ∨ ¬ M.1 t 6 = -1)) ∧ ∀ M', am_ch (am_tS t c) M M' → am_tI M' t → (M'.1 t 3 = M.1 t 3 ∧ M'.1 t 4 = M.1 t 4 ∧ M'.1 t 6 = M.1 t 6) → (M.1 t 6 = -1 → x_em (M.1 s) (M.1 c) (M'.1 c) (t_c M t) (t_c M' t) a.toNatClampNeg b.toNatClampNeg) → R none M')
  | _ => False
def JE5_emitSigns : am_E → List Value → am_M → am_R → am_inv := fun live as M0 _ pc => match as with
  | [.ref t, .int a, .int b] => (match pc with
    | 4 => some ([0, 1, 3], fun k L st M => ∃ i : Int32, L = [(0, .ref t), (1, .int a), (3, .int i)] ∧ st = [] ∧ k = ((i.toInt + 1).toNat, 0) ∧ (-1 ≤ i.toInt ∧ a.toInt ≤ i.toInt + 1 ∧ i.toInt + 1 ≤ b.toInt) ∧ am_ch (am_tS t ((live.2 t 1).getD 0)) M0 M ∧ am_tI M t ∧ (M.1 t 3 = M0.1 t 3 ∧ M.1 t 4 = M0.1 t 4 ∧ M.1 t 6 = M0.1 t 6) ∧ (M0.1 t 6 = -1 → x_em (M0.1 ((live.2 t 0).getD 0)) (M0.1 ((live.2 t 1).getD 0)) (M.1 ((live.2 t 1).getD 0)) (t_c M0 t) (t_c M t) (i.toInt + 1).toNat b.toNatClampNeg))
    | _ => none)
  | _ => none
theorem am_emit_f {M : am_M} {t c : Nat} {v : Int32} (hn : t ≠ c) {k : Nat} (hk : k ≠ 2) : (am_emit M t c v).1 t k = M.1 t k := by
  unfold am_emit
  split
  · simp [am_wI_1, hn, hk]
  · rfl
theorem am_emit_y {M : am_M} {t c : Nat} {v : Int32} (hn : t ≠ c) (hT : am_tI M t) (h : t_c M t < 50) : t_c (am_emit M t c v) t = t_c M t + 1 ∧ (am_emit M t c v).1 c (t_c M t) = v ∧ ∀ j, j < t_c M t → (am_emit M t c v).1 c j = M.1 c j := by
  obtain ⟨a1, a2, a3, a4, a5, b1, b2, b3⟩ := hT.p
  have hi := i_inc (x := M.1 t 2) (by omega) (by omega)
  have c2 := i_clamp (x := M.1 t 2 + 1) (by omega)
  have e : am_emit M t c v = am_wI (am_wI M c (M.1 t 2).toNatClampNeg v) t 2 (M.1 t 2 + 1) := if_pos (by omega)
  rw [e]
  refine ⟨?_, ?_, fun j hj => ?_⟩
  · show ((am_wI _ t 2 _).1 t 2).toNatClampNeg = t_c M t + 1
    rw [am_wI_self]
    omega
  · rw [am_wI_1, if_neg (fun z => hn z.1.symm), am_wI_1, if_pos ⟨rfl, rfl⟩]
  · rw [am_wI_1, if_neg (fun z => hn z.1.symm), am_wI_1, if_neg (fun z => by have y : j = t_c M t := z.2; omega)]
theorem w_un_ge {σ : Nat → Int32} {a i b : Nat} (h1 : a ≤ i) (h2 : i < b) (h : σ i = 33 ∨ σ i = 45) : (w_un σ (i + 1) (b - (i + 1))).length + 1 ≤ (w_un σ a (b - a)).length := by
  have e : w_un σ a (b - a) = (w_un σ (i + 1) (b - (i + 1)) ++ w_un σ i 1) ++ w_un σ a (i - a) := by
    rw [show b - a = (i - a) + (b - i) by omega, w_un_add, show a + (i - a) = i by omega, w_un_dn h2]
  have e1 : (w_un σ i 1).length = 1 := by
    unfold w_un
    rw [Nat.add_zero]
    rcases h with h | h
    · rw [if_pos h]; rfl
    · rw [if_neg (by rw [h]; decide), if_pos h]; rfl
  rw [e, List.length_append, List.length_append, e1]
  omega
theorem x_emi {i a b : Int32} (h1 : -1 ≤ i.toInt) (h2 : ¬ i.toInt < a.toInt) (h3 : i.toInt + 1 ≤ b.toInt) (ha : 0 ≤ a.toInt) (hb : b.toInt ≤ 50) : 0 ≤ i.toInt ∧ (i + -1).toInt = i.toInt - 1 ∧ (i.toInt + 1).toNat = i.toNatClampNeg + 1 ∧ ((i + -1).toInt + 1).toNat = i.toNatClampNeg ∧ i.toNatClampNeg < b.toNatClampNeg ∧ a.toNatClampNeg ≤ i.toNatClampNeg ∧ ((i + -1).toInt + 1).toNat < (i.toInt + 1).toNat ∧ (-1 ≤ (i + -1).toInt ∧ a.toInt ≤ (i + -1).toInt + 1 ∧ (i + -1).toInt + 1 ≤ b.toInt) := by
  have hi := i_add (x := i) (y := -1) (by simp only [Int32.reduceToInt]; omega) (by simp only [Int32.reduceToInt]; omega)
  simp only [Int32.reduceToInt] at hi
  have ci := i_clamp (x := i) (by omega)
  have ca := i_clamp ha
  have cb := i_clamp (x := b) (by omega)
  exact ⟨by omega, by omega, by omega, by omega, by omega, by omega, by omega, by omega, by omega, by omega⟩
set_option maxRecDepth 100000 in
set_option maxHeartbeats 4000000 in
theorem metX5_emitSignsE : am_Met yX5_emitSigns cX5_emitSigns 4 none (1) (21) TE5_emitSigns := by
  refine am_met (own := RX5) (by decide +kernel) rfl kX5_emitSigns koX5_emitSigns 60 JE5_emitSigns ?_ ?_
  · intro live as M Ret h
    unfold TE5_emitSigns at h
    split at h
    · next t a b =>
      refine ⟨Nat.le_of_ble_eq_true rfl, ?_⟩
      change am_wp _ _ _ _ [(0, Value.ref t), (1, Value.int a), (2, Value.int b)] _ _
      have hh := am_tP_mp h
      clear h
      obtain ⟨s, c, h2, h6, hb, h1, h3, h7, h4, h8, h9, h5, h10, hT, ⟨ha, hab, hbb, hcap⟩, h⟩ := hh
      repeat' (first | (with_reducible exact hT) | (with_reducible exact h1) | (with_reducible exact h2) | (with_reducible exact h3) | (with_reducible exact hb) | (with_reducible exact h6) | (with_reducible exact h7) | (refine Exists.intro _ (Exists.intro _ (And.intro h2 (And.intro h6 ?_)))) | (refine Exists.intro _ (And.intro h2 ?_)) | (refine Exists.intro _ (And.intro h6 ?_)) | apply And.intro | exact rfl | intro hx | (refine Exists.intro _ (And.intro rfl ?_)) | ((with_reducible change _ = true); simp only [h1, h2, h3, hb, h6, h7, Bool.true_and]; rfl))
      all_goals try first | (with_reducible change am_tI _ _) | (change Ret _ _) | (change Ret _ _ _) | (change Exists _)
      all_goals try dsimp only at *
      all_goals try exact absurd ‹(1000 : Int64) = 0› (by decide)
      have hi := i_sub (x := b) (y := 1) (by simp only [Int32.reduceToInt]; omega) (by simp only [Int32.reduceToInt]; omega)
      simp only [Int32.reduceToInt] at hi
      have cb := i_clamp (x := b) (by omega)
      refine ⟨_, _, rfl, rfl, rfl, ⟨by omega, by omega, by omega⟩, am_ch.rf, hT, ⟨rfl, rfl, rfl⟩, fun _ => ?_⟩
      rw [show ((b - 1).toInt + 1).toNat = b.toNatClampNeg by omega]
      exact ⟨fun _ _ => rfl, by rw [Nat.sub_self]; rfl, fun _ _ _ => by rw [Nat.sub_self, Nat.sub_self]; rfl⟩
    · exact h.elim
  · intro live as M0 Ret h k pc I hI L st M hi
    unfold TE5_emitSigns at h
    split at h
    · next t a b =>
      have hh := am_tP_mp h
      clear h
      obtain ⟨s, c, h2, h6, hb, h1, h3, h7, h4, h8, h9, h5, h10, hT, ⟨ha, hab, hbb, hcap⟩, h⟩ := hh
      change (match pc with | 4 => _ | _ => none) = _ at hI
      split at hI
      · cases hI
        obtain ⟨i, rfl, rfl, rfl, ⟨e0, ea, eb⟩, e1, e2, e3, e4⟩ := hi
        rw [h2, h6] at e4
        rw [h6] at e1
        have e1 : am_ch (am_tS t c) M0 M := e1
        have e4 : M0.1 t 6 = -1 → x_em (M0.1 s) (M0.1 c) (M.1 c) (t_c M0 t) (t_c M t) (i.toInt + 1).toNat b.toNatClampNeg := e4
        have hcd : 0 ≤ (M.1 t 2).toInt := e2.p.2.2.2.1
        have ca := i_clamp ha
        have cb := i_clamp (x := b) (by omega)
        by_cases hz : i < a
        · have hz2 := hz
          simp only [i_lt] at hz2
          repeat' (first | (with_reducible exact h1) | (with_reducible exact h2) | (with_reducible exact h3) | (with_reducible exact hb) | (with_reducible exact h6) | (with_reducible exact h7) | (refine Exists.intro _ (Exists.intro _ (And.intro h2 (And.intro h6 ?_)))) | (refine Exists.intro _ (And.intro h2 ?_)) | (refine Exists.intro _ (And.intro h6 ?_)) | apply And.intro | exact rfl | (intro hx; with_reducible exact absurd hz hx) | intro hx | (refine Exists.intro _ (And.intro rfl ?_)) | ((with_reducible change _ = true); simp only [h1, h2, h3, hb, h6, h7, Bool.true_and]; rfl))
          all_goals try first | (with_reducible change am_tI _ _) | (change Ret _ _) | (change Ret _ _ _) | (change Exists _)
          all_goals try dsimp only at *
          all_goals try exact absurd ‹(1000 : Int64) = 0› (by decide)
          all_goals
            refine h _ e1 e2 e3 (fun z => ?_)
            have q := e4 z
            rw [show (i.toInt + 1).toNat = a.toNatClampNeg by omega] at q
            exact q
        · have hz2 := hz
          simp only [i_lt] at hz2
          obtain ⟨x1, hi, en, en2, ib, ia, im, ir⟩ := x_emi e0 hz2 eb ha hbb
          have h50 : ¬ (50 : Int32) ≤ i := fun q => by simp only [i_le, Int32.reduceToInt] at q; omega
          have x2 : i.toInt < (am_len s : Int) := by rw [h4]; omega
          have ss := am_ch_s e1 h9 h5 i.toNatClampNeg
          have cap : M0.1 t 6 = -1 → (M0.1 s i.toNatClampNeg = 33 ∨ M0.1 s i.toNatClampNeg = 45) → t_c M t < 50 := fun z w => by
            have q := (e4 z).2.1
            rw [en] at q
            have u := w_un_ge (σ := M0.1 s) ia ib w
            have v := hcap.resolve_right (not_not_intro z)
            omega
          have step : ∀ v, (M0.1 s i.toNatClampNeg = 33 ∧ v = -33) ∨ (M0.1 s i.toNatClampNeg = 45 ∧ v = -126) → M0.1 t 6 = -1 → x_em (M0.1 s) (M0.1 c) ((am_emit M t c v).1 c) (t_c M0 t) (t_c (am_emit M t c v) t) ((i + -1).toInt + 1).toNat b.toNatClampNeg := fun v hv z => by
            obtain ⟨y1, y2, y3⟩ := am_emit_y (v := v) h10 e2 (cap z (hv.imp (fun q => q.1) (fun q => q.1)))
            rw [en2, y1]
            have q := e4 z
            rw [en] at q
            exact q.s ib hv y2 y3
          have ff : ∀ v k, k ≠ 2 → (am_emit M t c v).1 t k = M.1 t k := fun v k hk => am_emit_f h10 hk
          have fin : ∀ v, (am_emit M t c v).1 t 3 = M0.1 t 3 ∧ (am_emit M t c v).1 t 4 = M0.1 t 4 ∧ (am_emit M t c v).1 t 6 = M0.1 t 6 := fun v => ⟨(ff v 3 (by decide)).trans e3.1, (ff v 4 (by decide)).trans e3.2.1, (ff v 6 (by decide)).trans e3.2.2⟩
          by_cases z1 : M.1 s i.toNatClampNeg = 33
          · skip
            repeat' (first | (with_reducible exact e2) | (with_reducible exact hcd) | (with_reducible exact x1) | (with_reducible exact x2) | (with_reducible exact h1) | (with_reducible exact h2) | (with_reducible exact h3) | (with_reducible exact hb) | (with_reducible exact h6) | (with_reducible exact h7) | (refine Exists.intro _ (Exists.intro _ (And.intro h2 (And.intro h6 ?_)))) | (refine Exists.intro _ (And.intro h2 ?_)) | (refine Exists.intro _ (And.intro h6 ?_)) | apply And.intro | exact rfl | (intro hx; with_reducible exact absurd hx hz) | (intro hx; with_reducible exact absurd hx h50) | (intro hx; with_reducible exact absurd z1 hx) | intro hx | (refine Exists.intro _ (And.intro rfl ?_)) | ((with_reducible change _ = true); simp only [h1, h2, h3, hb, h6, h7, Bool.true_and]; rfl))
            all_goals try first | (with_reducible change am_tI _ _) | (change Ret _ _) | (change Ret _ _ _) | (change Exists _)
            all_goals
              rw [h6, h2]
              exact ⟨_, Or.inl (by dsimp only; with_reducible exact im), i + -1, rfl, rfl, rfl, ir, am_ch_emit e1, am_tI_emit e2 h10, fin _, step _ (Or.inl ⟨by rw [← ss]; exact z1, rfl⟩)⟩
          · by_cases z2 : M.1 s i.toNatClampNeg = 45
            · skip
              repeat' (first | (with_reducible exact e2) | (with_reducible exact hcd) | (with_reducible exact x1) | (with_reducible exact x2) | (with_reducible exact h1) | (with_reducible exact h2) | (with_reducible exact h3) | (with_reducible exact hb) | (with_reducible exact h6) | (with_reducible exact h7) | (refine Exists.intro _ (Exists.intro _ (And.intro h2 (And.intro h6 ?_)))) | (refine Exists.intro _ (And.intro h2 ?_)) | (refine Exists.intro _ (And.intro h6 ?_)) | apply And.intro | exact rfl | (intro hx; with_reducible exact absurd hx hz) | (intro hx; with_reducible exact absurd hx h50) | (intro hx; with_reducible exact absurd hx z1) | (intro hx; with_reducible exact absurd z2 hx) | intro hx | (refine Exists.intro _ (And.intro rfl ?_)) | ((with_reducible change _ = true); simp only [h1, h2, h3, hb, h6, h7, Bool.true_and]; rfl))
              all_goals try first | (with_reducible change am_tI _ _) | (change Ret _ _) | (change Ret _ _ _) | (change Exists _)
              all_goals
                rw [h6, h2]
                exact ⟨_, Or.inl (by dsimp only; with_reducible exact im), i + -1, rfl, rfl, rfl, ir, am_ch_emit e1, am_tI_emit e2 h10, fin _, step _ (Or.inr ⟨by rw [← ss]; exact z2, rfl⟩)⟩
            · skip
              repeat' (first | (with_reducible exact e2) | (with_reducible exact hcd) | (with_reducible exact x1) | (with_reducible exact x2) | (with_reducible exact h1) | (with_reducible exact h2) | (with_reducible exact h3) | (with_reducible exact hb) | (with_reducible exact h6) | (with_reducible exact h7) | (refine Exists.intro _ (Exists.intro _ (And.intro h2 (And.intro h6 ?_)))) | (refine Exists.intro _ (And.intro h2 ?_)) | (refine Exists.intro _ (And.intro h6 ?_)) | apply And.intro | exact rfl | (intro hx; with_reducible exact absurd hx hz) | (intro hx; with_reducible exact absurd hx h50) | (intro hx; with_reducible exact absurd hx z1) | (intro hx; with_reducible exact absurd hx z2) | intro hx | (refine Exists.intro _ (And.intro rfl ?_)) | ((with_reducible change _ = true); simp only [h1, h2, h3, hb, h6, h7, Bool.true_and]; rfl))
              all_goals try first | (with_reducible change am_tI _ _) | (change Ret _ _) | (change Ret _ _ _) | (change Exists _)
              all_goals
                rw [h6, h2]
                refine ⟨_, Or.inl (by dsimp only; with_reducible exact im), i + -1, rfl, rfl, rfl, ir, e1, e2, e3, fun z => ?_⟩
                have q := e4 z
                rw [en] at q
                rw [en2]
                exact q.k ib (by rw [← ss]; exact z1) (by rw [← ss]; exact z2)
      · cases hI
    · exact h.elim
