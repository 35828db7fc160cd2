-- part 79d.text2.lean.txt
section
/-! texts: the class's reader, exact, I -/
abbrev t_n (M : am_M) (t : Nat) : Nat := (M.1 t 5).toNatClampNeg
abbrev t_p (M : am_M) (t : Nat) : Nat := (M.1 t 3).toNatClampNeg
abbrev t_c (M : am_M) (t : Nat) : Nat := (M.1 t 2).toNatClampNeg
abbrev t_o (M : am_M) (t : Nat) : Nat := (M.1 t 4).toNatClampNeg
/-- a text's signs are such -/
def x_sg (t s : Nat) (M : am_M) : Prop := ∃ _ : Unit, ∀ j : Nat, (j : Int) < (M.1 t 5).toInt → 0 ≤ (M.1 s j).toInt
theorem x_sg.v {t s : Nat} {M : am_M} (h : x_sg t s M) {j : Nat} (hj : (j : Int) < (M.1 t 5).toInt) : 0 ≤ (M.1 s j).toInt := by obtain ⟨-, h⟩ := h; exact h j hj
theorem am_tI.p {M : am_M} {t : Nat} (h : am_tI M t) : 0 ≤ (M.1 t 3).toInt ∧ (M.1 t 3).toInt ≤ (M.1 t 5).toInt ∧ (M.1 t 5).toInt ≤ 50 ∧ 0 ≤ (M.1 t 2).toInt ∧ (M.1 t 2).toInt ≤ 50 ∧ (t_p M t : Int) = (M.1 t 3).toInt ∧ (t_n M t : Int) = (M.1 t 5).toInt ∧ (t_c M t : Int) = (M.1 t 2).toInt := by
  obtain ⟨-, q1, q2, q3⟩ := h
  have a := i_clamp (x := M.1 t 3) (by omega)
  have b := i_clamp (x := M.1 t 5) (by omega)
  have c := i_clamp (x := M.1 t 2) (by omega)
  exact ⟨by omega, by omega, by omega, by omega, by omega, a, b, c⟩
theorem x_nx {M : am_M} {t s : Nat} {q : Int32} (hT : am_tI M t) (hs : x_sg t s M) (hp : am_skip M t s q) : w_nx (M.1 s) (t_n M t) (t_p M t) q.toNatClampNeg (am_sign M t s q) ∧ (q.toNatClampNeg : Int) = q.toInt := by
  obtain ⟨a1, a2, a3, a4, a5, e1, e2, e3⟩ := hT.p
  obtain ⟨p1, p2, p3, p4⟩ := hp
  have cq := i_clamp (x := q) (by omega)
  refine ⟨⟨by omega, by omega, fun j z1 z2 => p3 j (by omega) (by omega), fun z => ?_, fun z => ?_⟩, cq⟩
  · have hq : q.toInt < (M.1 t 5).toInt := by omega
    have v := hs.v (j := q.toNatClampNeg) (by omega)
    have e : am_sign M t s q = M.1 s q.toNatClampNeg := if_pos hq
    rw [e]
    exact ⟨p4 hq, rfl, fun z => by rw [z] at v; exact absurd v (by decide)⟩
  · exact if_neg (by omega)
def TE5_pass : am_T := fun live as M R => match as with
  | [.ref t, .int g] => am_tP live t (fun s c => am_tI M t ∧ ¬ g = -1 ∧ (¬ M.1 t 6 = -1 → R none M) ∧ (M.1 t 6 = -1 → ∀ p, am_skip M t s p → (am_sign M t s p = g → R none (am_wI M t 3 (p + 1))) ∧ (¬ am_sign M t s p = g → R none (am_blame (am_wI M t 3 p) t p 1))))
  | _ => False
set_option maxRecDepth 100000 in
set_option maxHeartbeats 4000000 in
theorem metX5_passE : am_Met yX5_pass cX5_pass 2 none (1) (22) TE5_pass := by
  refine am_met (own := RX5) (by decide +kernel) rfl kX5_pass koX5_pass 60 (fun _ _ _ _ _ => none) (fun live as M Ret h => ?_) (fun _ _ _ _ _ _ _ _ hI => by cases hI)
  unfold TE5_pass at h
  split at h
  · next t g =>
    refine ⟨Nat.le_of_ble_eq_true rfl, ?_⟩
    change am_wp _ _ _ _ [(0, Value.ref t), (1, Value.int g)] _ _
    have hh := am_tP_mp h
    clear h
    obtain ⟨s, c, h2, h6, hb, h1, h3, h7, h4, h8, h9, h5, h10, hT, hg, hw, h⟩ := hh
    by_cases z : M.1 t 6 = -1
    · have h := h z
      repeat' (first | (with_reducible exact hT) | (with_reducible exact hg) | (with_reducible exact h1) | (with_reducible exact h2) | (with_reducible exact h3) | (with_reducible exact hb) | (with_reducible exact h6) | (with_reducible exact h7) | (refine Exists.intro _ (Exists.intro _ (And.intro h2 (And.intro h6 ?_)))) | (refine Exists.intro _ (And.intro h2 ?_)) | (refine Exists.intro _ (And.intro h6 ?_)) | apply And.intro | exact rfl | (intro hx; with_reducible exact absurd z hx) | intro hx | (refine Exists.intro _ (And.intro rfl ?_)) | ((with_reducible change _ = true); simp only [h1, h2, h3, hb, h6, h7, Bool.true_and]; rfl))
      all_goals try first | (with_reducible change am_tI _ _) | (change Ret _ _) | (change Ret _ _ _) | (change Exists _)
      all_goals try dsimp only at *
      all_goals try (with_reducible exact absurd ‹(1000 : Int64) = 0› am_z1000)
      all_goals obtain ⟨-, q1, q2, q3⟩ := hT
      · rename_i w p hp
        have e := (h p hp).1 hx
        simp only [am_wI_1, and_self, if_true, am_wI_wI]
        exact e
      · rename_i w p hp
        have e := (h p hp).2 hx
        simp only [am_wI_1, and_self, if_true]
        exact e
    · have h := hw z
      have e : am_blame M t (M.1 t 3) 1 = M := am_wIc_f z
      rw [← e] at h
      repeat' (first | (with_reducible exact hT) | (with_reducible exact hg) | (with_reducible exact h1) | (with_reducible exact h2) | (with_reducible exact h3) | (with_reducible exact hb) | (with_reducible exact h6) | (with_reducible exact h7) | (refine Exists.intro _ (Exists.intro _ (And.intro h2 (And.intro h6 ?_)))) | (refine Exists.intro _ (And.intro h2 ?_)) | (refine Exists.intro _ (And.intro h6 ?_)) | apply And.intro | exact rfl | (intro hx; with_reducible exact absurd hx z) | intro hx | (refine Exists.intro _ (And.intro rfl ?_)) | ((with_reducible change _ = true); simp only [h1, h2, h3, hb, h6, h7, Bool.true_and]; rfl))
      all_goals try first | (with_reducible change am_tI _ _) | (change Ret _ _) | (change Ret _ _ _) | (change Exists _)
      all_goals try dsimp only at *
      all_goals try (with_reducible exact absurd ‹(1000 : Int64) = 0› am_z1000)
      all_goals exact h
  · exact h.elim
/-- signs passed, as far as q -/
def x_un (σ : Nat → Int32) (n p q : Nat) : Prop := p ≤ q ∧ q ≤ n ∧ ∀ (fa : Int32 → Int64) (W : List Int32) (V : List Int64), w_res fa σ n p true W V = w_res fa σ n q true (w_un σ p (q - p) ++ W) V
theorem x_un.o {σ : Nat → Int32} {n p q : Nat} {c : Int32} (h : w_nx σ n p q c) : x_un σ n p q := ⟨h.le.1, h.le.2, fun fa W V => by
  rw [h.r, w_un_b (fun j a b => h.2.2.1 j a (by have := h.1; omega))]
  rfl⟩
theorem x_un.s {σ : Nat → Int32} {n p q q2 : Nat} {c c2 : Int32} (h : x_un σ n p q) (hq : w_nx σ n q q c) (hc : c = 33 ∨ c = 45) (h2 : w_nx σ n (q + 1) q2 c2) : x_un σ n p q2 := by
  have ha := hq.at (by rcases hc with rfl | rfl <;> decide)
  have hl := h2.le
  refine ⟨by have := h.1; omega, hl.2, fun fa W V => ?_⟩
  rw [h.2.2, s_sign hq hc, h2.r]
  have e : w_un σ p (q2 - p) = (if c = 33 then 1 else 2) :: w_un σ p (q - p) := by
    have hp := h.1
    rw [show q2 - p = (q + 1 - p) + (q2 - (q + 1)) by omega, w_un_add, show p + (q + 1 - p) = q + 1 by omega, w_un_b (fun j a b => h2.2.2.1 j a (by omega)), List.nil_append, show q + 1 - p = (q - p) + 1 by omega]
    conv => lhs; unfold w_un
    rw [show p + (q - p) = q by omega, ha.2.1]
    rcases hc with rfl | rfl
    · rw [if_pos rfl, if_pos rfl]
    · rw [if_neg (by decide), if_pos rfl, if_neg (by decide)]
  rw [e]
  rfl
def TE5_passSigns : am_T := fun live as M R => match as with
  | [.ref t] => am_tP live t (fun s c => am_tI M t ∧ x_sg t s M ∧ ∀ q : Int32, (M.1 t 3).toInt ≤ q.toInt → q.toInt ≤ (M.1 t 5).toInt → x_un (M.1 s) (t_n M t) (t_p M t) q.toNatClampNeg → (∀ q' g, w_nx (M.1 s) (t_n M t) q.toNatClampNeg q' g → g ≠ 33 ∧ g ≠ 45) → R (some (.int q)) (am_wI M t 3 q))
  | _ => False
def JE5_passSigns : am_E → List Value → am_M → am_R → am_inv := fun live as M0 _ pc => match as with
  | [.ref t] => (match pc with
    | 5 => some ([0, 1], fun k L st M => ∃ x q : Int32, L = [(0, .ref t), (1, .int x)] ∧ st = [] ∧ k = ((51 - q.toInt).toNat, 0) ∧ M = am_wI M0 t 3 q ∧ ((M0.1 t 3).toInt ≤ q.toInt ∧ q.toInt ≤ (M0.1 t 5).toInt) ∧ x_un (M0.1 ((live.2 t 0).getD 0)) (t_n M0 t) (t_p M0 t) q.toNatClampNeg ∧ w_nx (M0.1 ((live.2 t 0).getD 0)) (t_n M0 t) q.toNatClampNeg q.toNatClampNeg x)
    | _ => none)
  | _ => none
set_option maxRecDepth 100000 in
set_option maxHeartbeats 4000000 in
theorem metX5_passSignsE : am_Met yX5_passSigns cX5_passSigns 2 (some .int) (1) (20) TE5_passSigns := by
  refine am_met (own := RX5) (by decide +kernel) rfl kX5_passSigns koX5_passSigns 60 JE5_passSigns ?_ ?_
  · intro live as M Ret h
    unfold TE5_passSigns at h
    split at h
    · next t =>
      refine ⟨Nat.le_of_ble_eq_true rfl, ?_⟩
      change am_wp _ _ _ _ [(0, Value.ref t)] _ _
      have hh := am_tP_mp h
      clear h
      obtain ⟨s, c, h2, h6, hb, h1, h3, h7, h4, h8, h9, h5, h10, hT, hs, h⟩ := hh
      repeat' (first | (with_reducible exact hT) | (with_reducible exact h1) | (with_reducible exact h2) | (with_reducible exact h3) | (with_reducible exact hb) | (with_reducible exact h6) | (with_reducible exact h7) | (refine Exists.intro _ (Exists.intro _ (And.intro h2 (And.intro h6 ?_)))) | (refine Exists.intro _ (And.intro h2 ?_)) | (refine Exists.intro _ (And.intro h6 ?_)) | apply And.intro | exact rfl | intro hx | (refine Exists.intro _ (And.intro rfl ?_)) | ((with_reducible change _ = true); simp only [h1, h2, h3, hb, h6, h7, Bool.true_and]; rfl))
      all_goals try first | (with_reducible change am_tI _ _) | (change Ret _ _) | (change Ret _ _ _) | (change Exists _)
      all_goals try dsimp only at *
      all_goals try (with_reducible exact absurd ‹(1000 : Int64) = 0› am_z1000)
      rename_i p
      obtain ⟨g, cq⟩ := x_nx hT hs hx
      rw [h2]
      exact ⟨_, _, _, rfl, rfl, rfl, rfl, ⟨hx.1, hx.2.1⟩, x_un.o g, g.mv⟩
    · exact h.elim
  · intro live as M0 Ret h k pc I hI L st M hi
    unfold TE5_passSigns at h
    split at h
    · next t =>
      have hh := am_tP_mp h
      clear h
      obtain ⟨s, c, h2, h6, hb, h1, h3, h7, h4, h8, h9, h5, h10, hT, hs, h⟩ := hh
      change (match pc with | 5 => _ | _ => none) = _ at hI
      split at hI
      · cases hI
        obtain ⟨x, q, rfl, rfl, rfl, rfl, ⟨e1, e2⟩, e3, e4⟩ := hi
        rw [h2] at e3 e4
        have e3 : x_un (M0.1 s) (t_n M0 t) (t_p M0 t) q.toNatClampNeg := e3
        have e4 : w_nx (M0.1 s) (t_n M0 t) q.toNatClampNeg q.toNatClampNeg x := e4
        obtain ⟨a1, a2, a3, a4, a5, b1, b2, b3⟩ := hT.p
        have cq := i_clamp (x := q) (by omega)
        have f3 : (am_wI M0 t 3 q).1 t 3 = q := by rw [am_wI_1, if_pos ⟨rfl, rfl⟩]
        have f5 : (am_wI M0 t 3 q).1 t 5 = M0.1 t 5 := by rw [am_wI_1, if_neg (fun z => absurd z.2 (by decide))]
        have fs : ∀ j, (am_wI M0 t 3 q).1 s j = M0.1 s j := fun j => by rw [am_wI_1, if_neg (fun z => h5 z.1.symm)]
        by_cases zc : x = 33 ∨ x = 45
        · have ha := e4.at (by rcases zc with rfl | rfl <;> decide)
          have hz : ¬ (am_wI M0 t 3 q).1 t 5 ≤ (am_wI M0 t 3 q).1 t 3 := by rw [f3, f5, i_le]; omega
          have hi := i_inc (x := q) (by omega) (by omega)
          have cq1 := i_clamp (x := q + 1) (by omega)
          have hT1 : am_tI (am_wI (am_wI M0 t 3 q) t 3 ((am_wI M0 t 3 q).1 t 3 + 1)) t := by
            rw [f3, am_wI_wI]
            refine am_tI_of ?_ ?_ ?_ ?_ ?_
            all_goals simp [am_wI_1, -Int32.toInt_add]
            all_goals omega
          have go : ∀ p, am_skip (am_wI (am_wI M0 t 3 q) t 3 ((am_wI M0 t 3 q).1 t 3 + 1)) t s p → w_nx (M0.1 s) (t_n M0 t) (q.toNatClampNeg + 1) p.toNatClampNeg (am_sign (am_wI (am_wI M0 t 3 q) t 3 ((am_wI M0 t 3 q).1 t 3 + 1)) t s p) ∧ ((M0.1 t 3).toInt ≤ p.toInt ∧ p.toInt ≤ (M0.1 t 5).toInt ∧ q.toInt < p.toInt) := fun p hp => by
            rw [f3, am_wI_wI] at hp ⊢
            have g5 : (am_wI M0 t 3 (q + 1)).1 t 5 = M0.1 t 5 := by rw [am_wI_1, if_neg (fun z => absurd z.2 (by decide))]
            have gs : (am_wI M0 t 3 (q + 1)).1 s = M0.1 s := funext fun j => by rw [am_wI_1, if_neg (fun z => h5 z.1.symm)]
            have g3 : (am_wI M0 t 3 (q + 1)).1 t 3 = q + 1 := by rw [am_wI_1, if_pos ⟨rfl, rfl⟩]
            rw [f3, am_wI_wI] at hT1
            have w := (x_nx (s := s) hT1 ⟨(), fun j hj => by rw [gs]; rw [g5] at hj; exact hs.v hj⟩ hp).1
            rw [gs, t_n, t_p, g5, g3, show (q + 1).toNatClampNeg = q.toNatClampNeg + 1 by omega] at w
            have w1 := hp.1
            have w2 := hp.2.1
            rw [g3] at w1
            rw [g5] at w2
            exact ⟨w, by omega, w2, by omega⟩
          rcases zc with rfl | rfl
          · skip
            repeat' (first | (with_reducible exact hT1) | (with_reducible exact h1) | (with_reducible exact h2) | (with_reducible exact h3) | (with_reducible exact hb) | (with_reducible exact h6) | (with_reducible exact h7) | (refine Exists.intro _ (Exists.intro _ (And.intro h2 (And.intro h6 ?_)))) | (refine Exists.intro _ (And.intro h2 ?_)) | (refine Exists.intro _ (And.intro h6 ?_)) | apply And.intro | exact rfl | (intro hx; with_reducible exact absurd hx hz) | (intro hx; exact absurd hx (by decide)) | (intro hx; exact absurd (by decide) hx) | decide | intro hx | (refine Exists.intro _ (And.intro rfl ?_)) | ((with_reducible change _ = true); simp only [h1, h2, h3, hb, h6, h7, Bool.true_and]; rfl))
            all_goals try first | (with_reducible change am_tI _ _) | (change Ret _ _) | (change Ret _ _ _) | (change Exists _)
            all_goals try dsimp only at *
            all_goals try (with_reducible exact absurd ‹(1000 : Int64) = 0› am_z1000)
            all_goals
              obtain ⟨g, g2⟩ := go _ hx
              rw [h2]
              have k := e3.s e4 (Or.inl rfl) g
              refine ⟨_, am_lt_l ?_, _, _, rfl, rfl, rfl, ?_, ⟨g2.1, g2.2.1⟩, k, g.mv⟩
              · omega
              · rw [am_wI_wI, am_wI_wI]
          · skip
            repeat' (first | (with_reducible exact hT1) | (with_reducible exact h1) | (with_reducible exact h2) | (with_reducible exact h3) | (with_reducible exact hb) | (with_reducible exact h6) | (with_reducible exact h7) | (refine Exists.intro _ (Exists.intro _ (And.intro h2 (And.intro h6 ?_)))) | (refine Exists.intro _ (And.intro h2 ?_)) | (refine Exists.intro _ (And.intro h6 ?_)) | apply And.intro | exact rfl | (intro hx; with_reducible exact absurd hx hz) | (intro hx; exact absurd hx (by decide)) | (intro hx; exact absurd (by decide) hx) | decide | intro hx | (refine Exists.intro _ (And.intro rfl ?_)) | ((with_reducible change _ = true); simp only [h1, h2, h3, hb, h6, h7, Bool.true_and]; rfl))
            all_goals try first | (with_reducible change am_tI _ _) | (change Ret _ _) | (change Ret _ _ _) | (change Exists _)
            all_goals try dsimp only at *
            all_goals try (with_reducible exact absurd ‹(1000 : Int64) = 0› am_z1000)
            all_goals
              obtain ⟨g, g2⟩ := go _ hx
              rw [h2]
              have k := e3.s e4 (Or.inr rfl) g
              refine ⟨_, am_lt_l ?_, _, _, rfl, rfl, rfl, ?_, ⟨g2.1, g2.2.1⟩, k, g.mv⟩
              · omega
              · rw [am_wI_wI, am_wI_wI]
        · have z1 : ¬ x = 33 := fun z => zc (Or.inl z)
          have z2 : ¬ x = 45 := fun z => zc (Or.inr z)
          have hh := h q e1 e2 e3 (fun q' g hg => by rw [(hg.u e4).2]; exact ⟨z1, z2⟩)
          have hh : Ret (some (.int ((am_wI M0 t 3 q).1 t 3))) (am_wI M0 t 3 q) := by rw [f3]; exact hh
          repeat' (first | (with_reducible exact h1) | (with_reducible exact h2) | (with_reducible exact h3) | (with_reducible exact hb) | (with_reducible exact h6) | (with_reducible exact h7) | (refine Exists.intro _ (Exists.intro _ (And.intro h2 (And.intro h6 ?_)))) | (refine Exists.intro _ (And.intro h2 ?_)) | (refine Exists.intro _ (And.intro h6 ?_)) | apply And.intro | exact rfl | (intro hx; with_reducible exact absurd hx z1) | (intro hx; with_reducible exact absurd hx z2) | intro hx | (refine Exists.intro _ (And.intro rfl ?_)) | ((with_reducible change _ = true); simp only [h1, h2, h3, hb, h6, h7, Bool.true_and]; rfl))
          all_goals try first | (with_reducible change am_tI _ _) | (change Ret _ _) | (change Ret _ _ _) | (change Exists _)
          all_goals try dsimp only at *
          all_goals try (with_reducible exact absurd ‹(1000 : Int64) = 0› am_z1000)
          all_goals exact hh
      · cases hI
    · exact h.elim
theorem w_ap_app : ∀ (U U' : List Int32) (x : Int64), w_ap (U ++ U') x = w_ap U' (w_ap U x)
  | [], _, _ => rfl
  | c :: U, U', x => w_ap_app U U' _
theorem w_un_len {σ : Nat → Int32} {b : Nat} : ∀ k, (w_un σ b k).length ≤ k
  | 0 => Nat.le_refl _
  | k + 1 => by
    have ih := w_un_len (σ := σ) (b := b) k
    unfold w_un
    split
    · simp only [List.length_cons]; omega
    · split
      · simp only [List.length_cons]; omega
      · omega
/-- what emitting the signs from b on, down to i, has made -/
def x_em (σ cd0 cd : Nat → Int32) (n0 n1 i b : Nat) : Prop := (∀ j, j < n0 → cd j = cd0 j) ∧ n1 = n0 + (w_un σ i (b - i)).length ∧ ∀ (fa : Int32 → Int64) (x : Int64) (st : List Int64), w_ev fa cd n0 (n1 - n0) (x :: st) = w_ap (w_un σ i (b - i)) x :: st
theorem w_un_dn {σ : Nat → Int32} {i b : Nat} (h : i < b) : w_un σ i (b - i) = w_un σ (i + 1) (b - (i + 1)) ++ w_un σ i 1 := by
  rw [show b - i = 1 + (b - (i + 1)) by omega, w_un_add]
theorem x_em.k {σ cd0 cd : Nat → Int32} {n0 n1 i b : Nat} (h : x_em σ cd0 cd n0 n1 (i + 1) b) (hi : i < b) (h1 : σ i ≠ 33) (h2 : σ i ≠ 45) : x_em σ cd0 cd n0 n1 i b := by
  have e : w_un σ i (b - i) = w_un σ (i + 1) (b - (i + 1)) := by
    rw [w_un_dn hi, show w_un σ i 1 = [] by unfold w_un; rw [Nat.add_zero, if_neg h1, if_neg h2]; rfl, List.append_nil]
  unfold x_em
  rw [e]
  exact h
theorem x_em.s {σ cd0 cd cd' : Nat → Int32} {n0 n1 i b : Nat} {c : Int32} (h : x_em σ cd0 cd n0 n1 (i + 1) b) (hi : i < b) (h1 : (σ i = 33 ∧ c = -33) ∨ (σ i = 45 ∧ c = -126)) (e1 : cd' n1 = c) (e2 : ∀ j, j < n1 → cd' j = cd j) : x_em σ cd0 cd' n0 (n1 + 1) i b := by
  obtain ⟨a1, a2, a3⟩ := h
  have e : w_un σ i 1 = [if c = -33 then 1 else 2] := by
    unfold w_un
    rcases h1 with ⟨h, rfl⟩ | ⟨h, rfl⟩
    · rw [Nat.add_zero, if_pos h, if_pos rfl]; rfl
    · rw [Nat.add_zero, if_neg (by rw [h]; decide), if_pos h, if_neg (by decide)]; rfl
  refine ⟨fun j hj => by rw [e2 j (by omega), a1 j hj], ?_, fun fa x st => ?_⟩
  · rw [w_un_dn hi, e, List.length_append]
    simp only [List.length_cons, List.length_nil]
    omega
  · rw [w_un_dn hi, e, w_ap_app, show n1 + 1 - n0 = (n1 - n0) + 1 by omega]
    show w_ex fa (cd' (n0 + (n1 - n0))) (w_ev fa cd' n0 (n1 - n0) (x :: st)) = _
    rw [show n0 + (n1 - n0) = n1 by omega, e1, w_ev_cg (fun j _ z => e2 j (by omega)), a3]
    rcases h1 with ⟨-, rfl⟩ | ⟨-, rfl⟩ <;> rfl
def TE5_emitSigns : am_T := fun live as M R => match as with
  | [.ref t, .int a, .int b] => am_tP live t (fun s c => am_tI M t ∧ (0 ≤ a.toInt ∧ a.toInt ≤ b.toInt ∧ b.toInt ≤ 50 ∧ (t_c M t + (w_un (M.1 s) a.toNatClampNeg (b.toNatClampNeg - a.toNatClampNeg)).length ≤ 50 ∨ ¬ M.1 t 6 = -1)) ∧ ∀ M', am_ch (am_tS t c) M M' → am_tI M' t → (M'.1 t 3 = M.1 t 3 ∧ M'.1 t 4 = M.1 t 4 ∧ M'.1 t 6 = M.1 t 6) → (M.1 t 6 = -1 → x_em (M.1 s) (M.1 c) (M'.1 c) (t_c M t) (t_c M' t) a.toNatClampNeg b.toNatClampNeg) → R none M')
  | _ => False
def JE5_emitSigns : am_E → List Value → am_M → am_R → am_inv := fun live as M0 _ pc => match as with
  | [.ref t, .int a, .int b] => (match pc with
    | 4 => some ([0, 1, 3], fun k L st M => ∃ i : Int32, L = [(0, .ref t), (1, .int a), (3, .int i)] ∧ st = [] ∧ k = ((i.toInt + 1).toNat, 0) ∧ (-1 ≤ i.toInt ∧ a.toInt ≤ i.toInt + 1 ∧ i.toInt + 1 ≤ b.toInt) ∧ am_ch (am_tS t ((live.2 t 1).getD 0)) M0 M ∧ am_tI M t ∧ (M.1 t 3 = M0.1 t 3 ∧ M.1 t 4 = M0.1 t 4 ∧ M.1 t 6 = M0.1 t 6) ∧ (M0.1 t 6 = -1 → x_em (M0.1 ((live.2 t 0).getD 0)) (M0.1 ((live.2 t 1).getD 0)) (M.1 ((live.2 t 1).getD 0)) (t_c M0 t) (t_c M t) (i.toInt + 1).toNat b.toNatClampNeg))
    | _ => none)
  | _ => none
theorem am_emit_f {M : am_M} {t c : Nat} {v : Int32} (hn : t ≠ c) {k : Nat} (hk : k ≠ 2) : (am_emit M t c v).1 t k = M.1 t k := by
  unfold am_emit
  split
  · simp [am_wI_1, hn, hk]
  · rfl
theorem am_emit_y {M : am_M} {t c : Nat} {v : Int32} (hn : t ≠ c) (hT : am_tI M t) (h : t_c M t < 50) : t_c (am_emit M t c v) t = t_c M t + 1 ∧ (am_emit M t c v).1 c (t_c M t) = v ∧ ∀ j, j < t_c M t → (am_emit M t c v).1 c j = M.1 c j := by
  obtain ⟨a1, a2, a3, a4, a5, b1, b2, b3⟩ := hT.p
  have hi := i_inc (x := M.1 t 2) (by omega) (by omega)
  have c2 := i_clamp (x := M.1 t 2 + 1) (by omega)
  have e : am_emit M t c v = am_wI (am_wI M c (M.1 t 2).toNatClampNeg v) t 2 (M.1 t 2 + 1) := if_pos (by omega)
  rw [e]
  refine ⟨?_, ?_, fun j hj => ?_⟩
  · show ((am_wI _ t 2 _).1 t 2).toNatClampNeg = t_c M t + 1
    rw [am_wI_self]
    omega
  · rw [am_wI_1, if_neg (fun z => hn z.1.symm), am_wI_1, if_pos ⟨rfl, rfl⟩]
  · rw [am_wI_1, if_neg (fun z => hn z.1.symm), am_wI_1, if_neg (fun z => by have y : j = t_c M t := z.2; omega)]
theorem w_un_ge {σ : Nat → Int32} {a i b : Nat} (h1 : a ≤ i) (h2 : i < b) (h : σ i = 33 ∨ σ i = 45) : (w_un σ (i + 1) (b - (i + 1))).length + 1 ≤ (w_un σ a (b - a)).length := by
  have e : w_un σ a (b - a) = (w_un σ (i + 1) (b - (i + 1)) ++ w_un σ i 1) ++ w_un σ a (i - a) := by
    rw [show b - a = (i - a) + (b - i) by omega, w_un_add, show a + (i - a) = i by omega, w_un_dn h2]
  have e1 : (w_un σ i 1).length = 1 := by
    unfold w_un
    rw [Nat.add_zero]
    rcases h with h | h
    · rw [if_pos h]; rfl
    · rw [if_neg (by rw [h]; decide), if_pos h]; rfl
  rw [e, List.length_append, List.length_append, e1]
  omega
theorem x_emi {i a b : Int32} (h1 : -1 ≤ i.toInt) (h2 : ¬ i.toInt < a.toInt) (h3 : i.toInt + 1 ≤ b.toInt) (ha : 0 ≤ a.toInt) (hb : b.toInt ≤ 50) : 0 ≤ i.toInt ∧ (i + -1).toInt = i.toInt - 1 ∧ (i.toInt + 1).toNat = i.toNatClampNeg + 1 ∧ ((i + -1).toInt + 1).toNat = i.toNatClampNeg ∧ i.toNatClampNeg < b.toNatClampNeg ∧ a.toNatClampNeg ≤ i.toNatClampNeg ∧ ((i + -1).toInt + 1).toNat < (i.toInt + 1).toNat ∧ (-1 ≤ (i + -1).toInt ∧ a.toInt ≤ (i + -1).toInt + 1 ∧ (i + -1).toInt + 1 ≤ b.toInt) := by
  have hi := i_add (x := i) (y := -1) (by simp only [Int32.reduceToInt]; omega) (by simp only [Int32.reduceToInt]; omega)
  simp only [Int32.reduceToInt] at hi
  have ci := i_clamp (x := i) (by omega)
  have ca := i_clamp ha
  have cb := i_clamp (x := b) (by omega)
  exact ⟨by omega, by omega, by omega, by omega, by omega, by omega, by omega, by omega, by omega, by omega⟩
set_option maxRecDepth 100000 in
set_option maxHeartbeats 4000000 in
theorem metX5_emitSignsE : am_Met yX5_emitSigns cX5_emitSigns 4 none (1) (21) TE5_emitSigns := by
  refine am_met (own := RX5) (by decide +kernel) rfl kX5_emitSigns koX5_emitSigns 60 JE5_emitSigns ?_ ?_
  · intro live as M Ret h
    unfold TE5_emitSigns at h
    split at h
    · next t a b =>
      refine ⟨Nat.le_of_ble_eq_true rfl, ?_⟩
      change am_wp _ _ _ _ [(0, Value.ref t), (1, Value.int a), (2, Value.int b)] _ _
      have hh := am_tP_mp h
      clear h
      obtain ⟨s, c, h2, h6, hb, h1, h3, h7, h4, h8, h9, h5, h10, hT, ⟨ha, hab, hbb, hcap⟩, h⟩ := hh
      repeat' (first | (with_reducible exact hT) | (with_reducible exact h1) | (with_reducible exact h2) | (with_reducible exact h3) | (with_reducible exact hb) | (with_reducible exact h6) | (with_reducible exact h7) | (refine Exists.intro _ (Exists.intro _ (And.intro h2 (And.intro h6 ?_)))) | (refine Exists.intro _ (And.intro h2 ?_)) | (refine Exists.intro _ (And.intro h6 ?_)) | apply And.intro | exact rfl | intro hx | (refine Exists.intro _ (And.intro rfl ?_)) | ((with_reducible change _ = true); simp only [h1, h2, h3, hb, h6, h7, Bool.true_and]; rfl))
      all_goals try first | (with_reducible change am_tI _ _) | (change Ret _ _) | (change Ret _ _ _) | (change Exists _)
      all_goals try dsimp only at *
      all_goals try (with_reducible exact absurd ‹(1000 : Int64) = 0› am_z1000)
      have hi := i_sub (x := b) (y := 1) (by simp only [Int32.reduceToInt]; omega) (by simp only [Int32.reduceToInt]; omega)
      simp only [Int32.reduceToInt] at hi
      have cb := i_clamp (x := b) (by omega)
      refine ⟨_, _, rfl, rfl, rfl, ⟨by omega, by omega, by omega⟩, am_ch.rf, hT, ⟨rfl, rfl, rfl⟩, fun _ => ?_⟩
      rw [show ((b - 1).toInt + 1).toNat = b.toNatClampNeg by omega]
      exact ⟨fun _ _ => rfl, by rw [Nat.sub_self]; rfl, fun _ _ _ => by rw [Nat.sub_self, Nat.sub_self]; rfl⟩
    · exact h.elim
  · intro live as M0 Ret h k pc I hI L st M hi
    unfold TE5_emitSigns at h
    split at h
    · next t a b =>
      have hh := am_tP_mp h
      clear h
      obtain ⟨s, c, h2, h6, hb, h1, h3, h7, h4, h8, h9, h5, h10, hT, ⟨ha, hab, hbb, hcap⟩, h⟩ := hh
      change (match pc with | 4 => _ | _ => none) = _ at hI
      split at hI
      · cases hI
        obtain ⟨i, rfl, rfl, rfl, ⟨e0, ea, eb⟩, e1, e2, e3, e4⟩ := hi
        rw [h2, h6] at e4
        rw [h6] at e1
        have e1 : am_ch (am_tS t c) M0 M := e1
        have e4 : M0.1 t 6 = -1 → x_em (M0.1 s) (M0.1 c) (M.1 c) (t_c M0 t) (t_c M t) (i.toInt + 1).toNat b.toNatClampNeg := e4
        have hcd : 0 ≤ (M.1 t 2).toInt := e2.p.2.2.2.1
        have ca := i_clamp ha
        have cb := i_clamp (x := b) (by omega)
        by_cases hz : i < a
        · have hz2 := hz
          simp only [i_lt] at hz2
          repeat' (first | (with_reducible exact h1) | (with_reducible exact h2) | (with_reducible exact h3) | (with_reducible exact hb) | (with_reducible exact h6) | (with_reducible exact h7) | (refine Exists.intro _ (Exists.intro _ (And.intro h2 (And.intro h6 ?_)))) | (refine Exists.intro _ (And.intro h2 ?_)) | (refine Exists.intro _ (And.intro h6 ?_)) | apply And.intro | exact rfl | (intro hx; with_reducible exact absurd hz hx) | intro hx | (refine Exists.intro _ (And.intro rfl ?_)) | ((with_reducible change _ = true); simp only [h1, h2, h3, hb, h6, h7, Bool.true_and]; rfl))
          all_goals try first | (with_reducible change am_tI _ _) | (change Ret _ _) | (change Ret _ _ _) | (change Exists _)
          all_goals try dsimp only at *
          all_goals try (with_reducible exact absurd ‹(1000 : Int64) = 0› am_z1000)
          all_goals
            refine h _ e1 e2 e3 (fun z => ?_)
            have q := e4 z
            rw [show (i.toInt + 1).toNat = a.toNatClampNeg by omega] at q
            exact q
        · have hz2 := hz
          simp only [i_lt] at hz2
          obtain ⟨x1, hi, en, en2, ib, ia, im, ir⟩ := x_emi e0 hz2 eb ha hbb
          have h50 : ¬ (50 : Int32) ≤ i := fun q => by simp only [i_le, Int32.reduceToInt] at q; omega
          have x2 : i.toInt < (am_len s : Int) := by rw [h4]; omega
          have ss := am_ch_s e1 h9 h5 i.toNatClampNeg
          have cap : M0.1 t 6 = -1 → (M0.1 s i.toNatClampNeg = 33 ∨ M0.1 s i.toNatClampNeg = 45) → t_c M t < 50 := fun z w => by
            have q := (e4 z).2.1
            rw [en] at q
            have u := w_un_ge (σ := M0.1 s) ia ib w
            have v := hcap.resolve_right (not_not_intro z)
            omega
          have step : ∀ v, (M0.1 s i.toNatClampNeg = 33 ∧ v = -33) ∨ (M0.1 s i.toNatClampNeg = 45 ∧ v = -126) → M0.1 t 6 = -1 → x_em (M0.1 s) (M0.1 c) ((am_emit M t c v).1 c) (t_c M0 t) (t_c (am_emit M t c v) t) ((i + -1).toInt + 1).toNat b.toNatClampNeg := fun v hv z => by
            obtain ⟨y1, y2, y3⟩ := am_emit_y (v := v) h10 e2 (cap z (hv.imp (fun q => q.1) (fun q => q.1)))
            rw [en2, y1]
            have q := e4 z
            rw [en] at q
            exact q.s ib hv y2 y3
          have ff : ∀ v k, k ≠ 2 → (am_emit M t c v).1 t k = M.1 t k := fun v k hk => am_emit_f h10 hk
          have fin : ∀ v, (am_emit M t c v).1 t 3 = M0.1 t 3 ∧ (am_emit M t c v).1 t 4 = M0.1 t 4 ∧ (am_emit M t c v).1 t 6 = M0.1 t 6 := fun v => ⟨(ff v 3 (by decide)).trans e3.1, (ff v 4 (by decide)).trans e3.2.1, (ff v 6 (by decide)).trans e3.2.2⟩
          by_cases z1 : M.1 s i.toNatClampNeg = 33
          · skip
            repeat' (first | (with_reducible exact e2) | (with_reducible exact hcd) | (with_reducible exact x1) | (with_reducible exact x2) | (with_reducible exact h1) | (with_reducible exact h2) | (with_reducible exact h3) | (with_reducible exact hb) | (with_reducible exact h6) | (with_reducible exact h7) | (refine Exists.intro _ (Exists.intro _ (And.intro h2 (And.intro h6 ?_)))) | (refine Exists.intro _ (And.intro h2 ?_)) | (refine Exists.intro _ (And.intro h6 ?_)) | apply And.intro | exact rfl | (intro hx; with_reducible exact absurd hx hz) | (intro hx; with_reducible exact absurd hx h50) | (intro hx; with_reducible exact absurd z1 hx) | intro hx | (refine Exists.intro _ (And.intro rfl ?_)) | ((with_reducible change _ = true); simp only [h1, h2, h3, hb, h6, h7, Bool.true_and]; rfl))
            all_goals try first | (with_reducible change am_tI _ _) | (change Ret _ _) | (change Ret _ _ _) | (change Exists _)
            all_goals
              rw [h6, h2]
              exact ⟨_, Or.inl (by dsimp only; with_reducible exact im), i + -1, rfl, rfl, rfl, ir, am_ch_emit e1, am_tI_emit e2 h10, fin _, step _ (Or.inl ⟨by rw [← ss]; exact z1, rfl⟩)⟩
          · by_cases z2 : M.1 s i.toNatClampNeg = 45
            · skip
              repeat' (first | (with_reducible exact e2) | (with_reducible exact hcd) | (with_reducible exact x1) | (with_reducible exact x2) | (with_reducible exact h1) | (with_reducible exact h2) | (with_reducible exact h3) | (with_reducible exact hb) | (with_reducible exact h6) | (with_reducible exact h7) | (refine Exists.intro _ (Exists.intro _ (And.intro h2 (And.intro h6 ?_)))) | (refine Exists.intro _ (And.intro h2 ?_)) | (refine Exists.intro _ (And.intro h6 ?_)) | apply And.intro | exact rfl | (intro hx; with_reducible exact absurd hx hz) | (intro hx; with_reducible exact absurd hx h50) | (intro hx; with_reducible exact absurd hx z1) | (intro hx; with_reducible exact absurd z2 hx) | intro hx | (refine Exists.intro _ (And.intro rfl ?_)) | ((with_reducible change _ = true); simp only [h1, h2, h3, hb, h6, h7, Bool.true_and]; rfl))
              all_goals try first | (with_reducible change am_tI _ _) | (change Ret _ _) | (change Ret _ _ _) | (change Exists _)
              all_goals
                rw [h6, h2]
                exact ⟨_, Or.inl (by dsimp only; with_reducible exact im), i + -1, rfl, rfl, rfl, ir, am_ch_emit e1, am_tI_emit e2 h10, fin _, step _ (Or.inr ⟨by rw [← ss]; exact z2, rfl⟩)⟩
            · skip
              repeat' (first | (with_reducible exact e2) | (with_reducible exact hcd) | (with_reducible exact x1) | (with_reducible exact x2) | (with_reducible exact h1) | (with_reducible exact h2) | (with_reducible exact h3) | (with_reducible exact hb) | (with_reducible exact h6) | (with_reducible exact h7) | (refine Exists.intro _ (Exists.intro _ (And.intro h2 (And.intro h6 ?_)))) | (refine Exists.intro _ (And.intro h2 ?_)) | (refine Exists.intro _ (And.intro h6 ?_)) | apply And.intro | exact rfl | (intro hx; with_reducible exact absurd hx hz) | (intro hx; with_reducible exact absurd hx h50) | (intro hx; with_reducible exact absurd hx z1) | (intro hx; with_reducible exact absurd hx z2) | intro hx | (refine Exists.intro _ (And.intro rfl ?_)) | ((with_reducible change _ = true); simp only [h1, h2, h3, hb, h6, h7, Bool.true_and]; rfl))
              all_goals try first | (with_reducible change am_tI _ _) | (change Ret _ _) | (change Ret _ _ _) | (change Exists _)
              all_goals
                rw [h6, h2]
                refine ⟨_, Or.inl (by dsimp only; with_reducible exact im), i + -1, rfl, rfl, rfl, ir, e1, e2, e3, fun z => ?_⟩
                have q := e4 z
                rw [en] at q
                rw [en2]
                exact q.k ib (by rw [← ss]; exact z1) (by rw [← ss]; exact z2)
      · cases hI
    · exact h.elim
end
-- part 79e.text3.lean.txt
section
/-! texts: the class's reader, exact, II -/
theorem w_dig_n {σ : Nat → Int32} {n u i k : Nat} {v : Int} (h : ¬ (i < n ∧ w_dgt (σ i) = true)) : w_dig σ n (u + 1) i k v = some (i, v) := if_neg h
theorem w_dig_f {σ : Nat → Int32} {n u i : Nat} {v : Int} (h : i < n ∧ w_dgt (σ i) = true) : w_dig σ n (u + 1) i 6 v = none := by
  unfold w_dig
  rw [if_pos h, if_pos rfl]
theorem w_dig_s {σ : Nat → Int32} {n u i k : Nat} {v : Int} (h : i < n ∧ w_dgt (σ i) = true) (hk : k ≠ 6) : w_dig σ n (u + 1) i k v = w_dig σ n u (i + 1) (k + 1) (10 * v + ((σ i).toInt - 48)) := by
  conv => lhs; unfold w_dig
  rw [if_pos h, if_neg hk]
theorem w_dgt_i {c : Int32} : w_dgt c = true ↔ 48 ≤ c ∧ c ≤ 57 := by
  unfold w_dgt
  rw [decide_eq_true_iff, i_le, i_le]
  rfl
def TE5_readDigits : am_T := fun live as M R => match as with
  | [.ref t] => am_tP live t (fun s c => am_tI M t ∧ (M.1 t 6 = -1 ∧ (M.1 t 3).toInt < (M.1 t 5).toInt ∧ w_dgt (M.1 s (t_p M t)) = true) ∧ (∀ (q v : Int32), (M.1 t 3).toInt < q.toInt → q.toInt ≤ (M.1 t 5).toInt → 0 ≤ v.toInt → w_dig (M.1 s) (t_n M t) 8 (t_p M t) 0 0 = some (q.toNatClampNeg, v.toInt) → R none (am_emit (am_wI M t 3 q) t c v)) ∧ (∀ q : Int32, (M.1 t 3).toInt ≤ q.toInt → q.toInt ≤ (M.1 t 5).toInt → w_dig (M.1 s) (t_n M t) 8 (t_p M t) 0 0 = none → R none (am_blame (am_wI M t 3 q) t (M.1 t 3) 2)))
  | _ => False
def JE5_readDigits : am_E → List Value → am_M → am_R → am_inv := fun live as M0 _ pc => match as with
  | [.ref t] => (match pc with
    | 7 => some ([0, 1, 2], fun k L st M => ∃ (v q : Int32) (u : Nat), L = [(0, .ref t), (1, .int (M0.1 t 3)), (2, .int v)] ∧ st = [] ∧ k = ((51 - q.toInt).toNat, 0) ∧ M = am_wI M0 t 3 q ∧ (q.toInt = (M0.1 t 3).toInt + u ∧ u ≤ 6 ∧ q.toInt ≤ (M0.1 t 5).toInt) ∧ (0 ≤ v.toInt ∧ v.toInt + 1 ≤ (10 ^ u : Nat)) ∧ w_dig (M0.1 ((live.2 t 0).getD 0)) (t_n M0 t) (8 - u) q.toNatClampNeg u v.toInt = w_dig (M0.1 ((live.2 t 0).getD 0)) (t_n M0 t) 8 (t_p M0 t) 0 0)
    | _ => none)
  | _ => none
set_option maxRecDepth 100000 in
set_option maxHeartbeats 4000000 in
theorem metX5_readDigitsE : am_Met yX5_readDigits cX5_readDigits 3 none (1) (22) TE5_readDigits := by
  refine am_met (own := RX5) (by decide +kernel) rfl kX5_readDigits koX5_readDigits 60 JE5_readDigits ?_ ?_
  · intro live as M Ret h
    unfold TE5_readDigits at h
    split at h
    · next t =>
      refine ⟨Nat.le_of_ble_eq_true rfl, ?_⟩
      change am_wp _ _ _ _ [(0, Value.ref t)] _ _
      have hh := am_tP_mp h
      clear h
      obtain ⟨s, c, h2, h6, hb, h1, h3, h7, h4, h8, h9, h5, h10, hT, ⟨hw, hlt, hdg⟩, h, hno⟩ := hh
      repeat' (first | (with_reducible exact hT) | (with_reducible exact h1) | (with_reducible exact h2) | (with_reducible exact h3) | (with_reducible exact hb) | (with_reducible exact h6) | (with_reducible exact h7) | (refine Exists.intro _ (Exists.intro _ (And.intro h2 (And.intro h6 ?_)))) | (refine Exists.intro _ (And.intro h2 ?_)) | (refine Exists.intro _ (And.intro h6 ?_)) | apply And.intro | exact rfl | intro hx | (refine Exists.intro _ (And.intro rfl ?_)) | ((with_reducible change _ = true); simp only [h1, h2, h3, hb, h6, h7, Bool.true_and]; rfl))
      all_goals try first | (with_reducible change am_tI _ _) | (change Ret _ _) | (change Ret _ _ _) | (change Exists _)
      all_goals try dsimp only at *
      all_goals try (with_reducible exact absurd ‹(1000 : Int64) = 0› am_z1000)
      exact ⟨_, 0, M.1 t 3, 0, rfl, rfl, rfl, am_wI_id.symm, ⟨by omega, by decide, by omega⟩, ⟨by decide, by decide⟩, rfl⟩
    · exact h.elim
  · intro live as M0 Ret h k pc I hI L st M hi
    unfold TE5_readDigits at h
    split at h
    · next t =>
      have hh := am_tP_mp h
      clear h
      obtain ⟨s, c, h2, h6, hb, h1, h3, h7, h4, h8, h9, h5, h10, hT, ⟨hw, hlt, hdg⟩, h, hno⟩ := hh
      change (match pc with | 7 => _ | _ => none) = _ at hI
      split at hI
      · cases hI
        obtain ⟨v, q, u, rfl, rfl, rfl, rfl, ⟨e1, e2, e3⟩, ⟨v1, v2⟩, e4⟩ := hi
        rw [h2] at e4
        have e4 : w_dig (M0.1 s) (t_n M0 t) (8 - u) q.toNatClampNeg u v.toInt = w_dig (M0.1 s) (t_n M0 t) 8 (t_p M0 t) 0 0 := e4
        obtain ⟨a1, a2, a3, a4, a5, b1, b2, b3⟩ := hT.p
        have cq := i_clamp (x := q) (by omega)
        have f3 : (am_wI M0 t 3 q).1 t 3 = q := by rw [am_wI_1, if_pos ⟨rfl, rfl⟩]
        have f5 : (am_wI M0 t 3 q).1 t 5 = M0.1 t 5 := by rw [am_wI_1, if_neg (fun z => absurd z.2 (by decide))]
        have f2 : (am_wI M0 t 3 q).1 t 2 = M0.1 t 2 := by rw [am_wI_1, if_neg (fun z => absurd z.2 (by decide))]
        have fs : ∀ j, (am_wI M0 t 3 q).1 s j = M0.1 s j := fun j => by rw [am_wI_1, if_neg (fun z => h5 z.1.symm)]
        have hcd : 0 ≤ ((am_wI M0 t 3 q).1 t 2).toInt := by rw [f2]; exact a4
        have hv6 : (10 ^ u : Nat) ≤ 1000000 := Nat.le_trans (Nat.pow_le_pow_right (by decide) e2) (by decide)
        by_cases hz : (am_wI M0 t 3 q).1 t 5 ≤ (am_wI M0 t 3 q).1 t 3
        · have hz2 := hz
          rw [f3, f5, i_le] at hz2
          have e5 : w_dig (M0.1 s) (t_n M0 t) (8 - u) q.toNatClampNeg u v.toInt = some (q.toNatClampNeg, v.toInt) := by
            rw [show 8 - u = (7 - u) + 1 by omega]
            exact w_dig_n (fun z => by have := z.1; omega)
          have hh := h q v (by omega) e3 v1 (e4.symm.trans e5)
          repeat' (first | (with_reducible exact hcd) | (with_reducible exact h1) | (with_reducible exact h2) | (with_reducible exact h3) | (with_reducible exact hb) | (with_reducible exact h6) | (with_reducible exact h7) | (refine Exists.intro _ (Exists.intro _ (And.intro h2 (And.intro h6 ?_)))) | (refine Exists.intro _ (And.intro h2 ?_)) | (refine Exists.intro _ (And.intro h6 ?_)) | apply And.intro | exact rfl | (intro hx; with_reducible exact absurd hz hx) | intro hx | (refine Exists.intro _ (And.intro rfl ?_)) | ((with_reducible change _ = true); simp only [h1, h2, h3, hb, h6, h7, Bool.true_and]; rfl))
          all_goals try first | (with_reducible change am_tI _ _) | (change Ret _ _) | (change Ret _ _ _) | (change Exists _)
          all_goals try dsimp only at *
          all_goals try (with_reducible exact absurd ‹(1000 : Int64) = 0› am_z1000)
          all_goals exact hh
        · have hz2 := hz
          rw [f3, f5, i_le] at hz2
          have x1 : 0 ≤ ((am_wI M0 t 3 q).1 t 3).toInt := by rw [f3]; omega
          have x2 : ((am_wI M0 t 3 q).1 t 3).toInt < (am_len s : Int) := by rw [f3, h4]; omega
          by_cases zd : 48 ≤ (am_wI M0 t 3 q).1 s ((am_wI M0 t 3 q).1 t 3).toNatClampNeg ∧ (am_wI M0 t 3 q).1 s ((am_wI M0 t 3 q).1 t 3).toNatClampNeg ≤ 57
          · have q0 : ¬ ((if 48 ≤ (am_wI M0 t 3 q).1 s ((am_wI M0 t 3 q).1 t 3).toNatClampNeg ∧ (am_wI M0 t 3 q).1 s ((am_wI M0 t 3 q).1 t 3).toNatClampNeg ≤ 57 then (1 : Int32) else 0) = 0) := by rw [if_pos zd]; decide
            have zd2 : q.toNatClampNeg < t_n M0 t ∧ w_dgt (M0.1 s q.toNatClampNeg) = true := ⟨by omega, w_dgt_i.mpr (by rw [f3, fs] at zd; exact zd)⟩
            have es := i_sub (x := q) (y := M0.1 t 3) (by omega) (by omega)
            by_cases z6 : (am_wI M0 t 3 q).1 t 3 - M0.1 t 3 < 6
            · have z6b := z6
              rw [f3, i_lt, es] at z6b
              simp only [Int32.reduceToInt] at z6b
              have hi := i_inc (x := q) (by omega) (by omega)
              have cq1 := i_clamp (x := q + 1) (by omega)
              have d1 := of_decide_eq_true zd2.2
              have m1 := i_mul (x := 10) (y := v) (by simp only [Int32.reduceToInt]; omega) (by simp only [Int32.reduceToInt]; omega)
              simp only [Int32.reduceToInt] at m1
              have m2 := i_add (x := 10 * v) (y := M0.1 s q.toNatClampNeg) (by omega) (by omega)
              have m3 := i_sub (x := 10 * v + M0.1 s q.toNatClampNeg) (y := 48) (by simp only [Int32.reduceToInt]; omega) (by simp only [Int32.reduceToInt]; omega)
              simp only [Int32.reduceToInt] at m3
              have vv : 10 * v + (am_wI M0 t 3 q).1 s ((am_wI M0 t 3 q).1 t 3).toNatClampNeg - 48 = 10 * v + M0.1 s q.toNatClampNeg - 48 := by rw [f3, fs]
              have mm : am_wI (am_wI M0 t 3 q) t 3 ((am_wI M0 t 3 q).1 t 3 + 1) = am_wI M0 t 3 (q + 1) := by rw [f3, am_wI_wI]
              have pw : (10 ^ (u + 1) : Nat) = 10 * 10 ^ u := by rw [Nat.pow_succ, Nat.mul_comm]
              have e5 : w_dig (M0.1 s) (t_n M0 t) (8 - (u + 1)) (q + 1).toNatClampNeg (u + 1) (10 * v + M0.1 s q.toNatClampNeg - 48).toInt = w_dig (M0.1 s) (t_n M0 t) 8 (t_p M0 t) 0 0 := by
                rw [← e4, show 8 - u = (8 - (u + 1)) + 1 by omega, w_dig_s zd2 (by omega), show (q + 1).toNatClampNeg = q.toNatClampNeg + 1 by omega]
                congr 1
                omega
              repeat' (first | (with_reducible exact hcd) | (with_reducible exact x1) | (with_reducible exact x2) | (with_reducible exact h1) | (with_reducible exact h2) | (with_reducible exact h3) | (with_reducible exact hb) | (with_reducible exact h6) | (with_reducible exact h7) | (refine Exists.intro _ (Exists.intro _ (And.intro h2 (And.intro h6 ?_)))) | (refine Exists.intro _ (And.intro h2 ?_)) | (refine Exists.intro _ (And.intro h6 ?_)) | apply And.intro | exact rfl | (intro hx; with_reducible exact absurd hx hz) | (intro hx; with_reducible exact absurd hx q0) | (intro hx; with_reducible exact absurd z6 hx) | (intro hx; exact absurd hx (by decide)) | (intro hx; exact absurd (by decide) hx) | decide | intro hx | (refine Exists.intro _ (And.intro rfl ?_)) | ((with_reducible change _ = true); simp only [h1, h2, h3, hb, h6, h7, Bool.true_and]; rfl))
              all_goals try first | (with_reducible change am_tI _ _) | (change Ret _ _) | (change Ret _ _ _) | (change Exists _)
              all_goals try dsimp only at *
              all_goals try (with_reducible exact absurd ‹(1000 : Int64) = 0› am_z1000)
              all_goals
                rw [h2]
                exact ⟨_, am_lt_l (by omega), _, q + 1, u + 1, rfl, rfl, rfl, mm, ⟨by omega, by omega, by omega⟩, ⟨by rw [vv]; omega, by rw [vv, pw]; omega⟩, by rw [vv]; exact e5⟩
            · have z6b := z6
              rw [f3, i_lt, es] at z6b
              simp only [Int32.reduceToInt] at z6b
              have u6 : u = 6 := by omega
              subst u6
              have e5 : w_dig (M0.1 s) (t_n M0 t) (8 - 6) q.toNatClampNeg 6 v.toInt = none := w_dig_f zd2
              have hh := hno q (by omega) e3 (e4.symm.trans e5)
              repeat' (first | (with_reducible exact hcd) | (with_reducible exact x1) | (with_reducible exact x2) | (with_reducible exact h1) | (with_reducible exact h2) | (with_reducible exact h3) | (with_reducible exact hb) | (with_reducible exact h6) | (with_reducible exact h7) | (refine Exists.intro _ (Exists.intro _ (And.intro h2 (And.intro h6 ?_)))) | (refine Exists.intro _ (And.intro h2 ?_)) | (refine Exists.intro _ (And.intro h6 ?_)) | apply And.intro | exact rfl | (intro hx; with_reducible exact absurd hx hz) | (intro hx; with_reducible exact absurd hx q0) | (intro hx; with_reducible exact absurd hx z6) | (intro hx; exact absurd hx (by decide)) | (intro hx; exact absurd (by decide) hx) | decide | intro hx | (refine Exists.intro _ (And.intro rfl ?_)) | ((with_reducible change _ = true); simp only [h1, h2, h3, hb, h6, h7, Bool.true_and]; rfl))
              all_goals try first | (with_reducible change am_tI _ _) | (change Ret _ _) | (change Ret _ _ _) | (change Exists _)
              all_goals try dsimp only at *
              all_goals try (with_reducible exact absurd ‹(1000 : Int64) = 0› am_z1000)
              all_goals exact hh
          · have q0 : (if 48 ≤ (am_wI M0 t 3 q).1 s ((am_wI M0 t 3 q).1 t 3).toNatClampNeg ∧ (am_wI M0 t 3 q).1 s ((am_wI M0 t 3 q).1 t 3).toNatClampNeg ≤ 57 then (1 : Int32) else 0) = 0 := if_neg zd
            have zd2 : ¬ (q.toNatClampNeg < t_n M0 t ∧ w_dgt (M0.1 s q.toNatClampNeg) = true) := fun z => zd (by rw [f3, fs]; exact w_dgt_i.mp z.2)
            have e5 : w_dig (M0.1 s) (t_n M0 t) (8 - u) q.toNatClampNeg u v.toInt = some (q.toNatClampNeg, v.toInt) := by
              rw [show 8 - u = (7 - u) + 1 by omega]
              exact w_dig_n zd2
            have hpq : (M0.1 t 3).toInt < q.toInt := by
              rcases Nat.eq_zero_or_pos u with z | z
              · subst z
                exact absurd (show q.toNatClampNeg < t_n M0 t ∧ w_dgt (M0.1 s q.toNatClampNeg) = true from ⟨by omega, by rw [show q.toNatClampNeg = t_p M0 t by omega]; exact hdg⟩) zd2
              · omega
            have hh := h q v hpq e3 v1 (e4.symm.trans e5)
            repeat' (first | (with_reducible exact hcd) | (with_reducible exact x1) | (with_reducible exact x2) | (with_reducible exact h1) | (with_reducible exact h2) | (with_reducible exact h3) | (with_reducible exact hb) | (with_reducible exact h6) | (with_reducible exact h7) | (refine Exists.intro _ (Exists.intro _ (And.intro h2 (And.intro h6 ?_)))) | (refine Exists.intro _ (And.intro h2 ?_)) | (refine Exists.intro _ (And.intro h6 ?_)) | apply And.intro | exact rfl | (intro hx; with_reducible exact absurd hx hz) | (intro hx; with_reducible exact absurd q0 hx) | (intro hx; exact absurd hx (by decide)) | (intro hx; exact absurd (by decide) hx) | decide | intro hx | (refine Exists.intro _ (And.intro rfl ?_)) | ((with_reducible change _ = true); simp only [h1, h2, h3, hb, h6, h7, Bool.true_and]; rfl))
            all_goals try first | (with_reducible change am_tI _ _) | (change Ret _ _) | (change Ret _ _ _) | (change Exists _)
            all_goals try dsimp only at *
            all_goals try (with_reducible exact absurd ‹(1000 : Int64) = 0› am_z1000)
            all_goals exact hh
      · cases hI
    · exact h.elim
/-- what was read without a fault: from p, nc codes to p', nc' -/
def y_io (p nc p' nc' : Nat) (cd cd' : Nat → Int32) (G : (Int32 → Int64) → Nat → Int64 → Prop) : Prop := p < p' ∧ nc ≤ nc' ∧ nc' + p ≤ p' + nc ∧ (∀ j, j < nc → cd' j = cd j) ∧ ∀ fa, ∃ v, (∀ st, w_ev fa cd' nc (nc' - nc) st = v :: st) ∧ G fa p' v
def x_io (t c : Nat) (M M' : am_M) (G : (Int32 → Int64) → Nat → Int64 → Prop) (F : (Int32 → Int64) → Int → Prop) : Prop := ∃ _ : Unit, (¬ M.1 t 6 = -1 → M'.1 t 6 = M.1 t 6) ∧ (M.1 t 6 = -1 → M'.1 t 6 = -1 → M'.1 t 4 = M.1 t 4 ∧ y_io (t_p M t) (t_c M t) (t_p M' t) (t_c M' t) (M.1 c) (M'.1 c) G) ∧ (M.1 t 6 = -1 → ¬ M'.1 t 6 = -1 → ∀ fa, F fa (M'.1 t 6).toInt)
section XIO
variable {t c : Nat} {M M' : am_M} {G : (Int32 → Int64) → Nat → Int64 → Prop} {F : (Int32 → Int64) → Int → Prop}
theorem x_io.no (h : ¬ M.1 t 6 = -1) (e : M'.1 t 6 = M.1 t 6) : x_io t c M M' G F := ⟨(), fun _ => e, fun z => absurd z h, fun z => absurd z h⟩
theorem x_io.ok (h : M.1 t 6 = -1) (e : M'.1 t 6 = -1) (e4 : M'.1 t 4 = M.1 t 4) (y : y_io (t_p M t) (t_c M t) (t_p M' t) (t_c M' t) (M.1 c) (M'.1 c) G) : x_io t c M M' G F := ⟨(), fun z => absurd h z, fun _ _ => ⟨e4, y⟩, fun _ z => absurd e z⟩
theorem x_io.bad (h : M.1 t 6 = -1) (e : ¬ M'.1 t 6 = -1) (f : ∀ fa, F fa (M'.1 t 6).toInt) : x_io t c M M' G F := ⟨(), fun z => absurd h z, fun _ z => absurd z e, fun _ _ => f⟩
theorem x_io.n (x : x_io t c M M' G F) (h : ¬ M.1 t 6 = -1) : M'.1 t 6 = M.1 t 6 := by obtain ⟨-, x, -, -⟩ := x; exact x h
theorem x_io.y (x : x_io t c M M' G F) (h : M.1 t 6 = -1) (e : M'.1 t 6 = -1) : M'.1 t 4 = M.1 t 4 ∧ y_io (t_p M t) (t_c M t) (t_p M' t) (t_c M' t) (M.1 c) (M'.1 c) G := by obtain ⟨-, -, x, -⟩ := x; exact x h e
theorem x_io.f (x : x_io t c M M' G F) (h : M.1 t 6 = -1) (e : ¬ M'.1 t 6 = -1) (fa : Int32 → Int64) : F fa (M'.1 t 6).toInt := by obtain ⟨-, -, -, x⟩ := x; exact x h e fa
end XIO
def x_pre (t s : Nat) (M : am_M) (e : Int) : Prop := ∃ _ : Unit, x_sg t s M ∧ (M.1 t 6 = -1 → (0 ≤ (M.1 t 4).toInt ∧ (M.1 t 4).toInt ≤ 8) ∧ 2 * e ≤ (M.1 t 3).toInt + (M.1 t 4).toInt ∧ (M.1 t 2).toInt ≤ (M.1 t 3).toInt)
theorem x_pre.s {t s : Nat} {M : am_M} {e : Int} (h : x_pre t s M e) : x_sg t s M := by obtain ⟨-, h, -⟩ := h; exact h
theorem x_pre.w {t s : Nat} {M : am_M} {e : Int} (h : x_pre t s M e) (w : M.1 t 6 = -1) : (0 ≤ (M.1 t 4).toInt ∧ (M.1 t 4).toInt ≤ 8) ∧ 2 * e ≤ (M.1 t 3).toInt + (M.1 t 4).toInt ∧ (M.1 t 2).toInt ≤ (M.1 t 3).toInt := by obtain ⟨-, -, h⟩ := h; exact h w
/-- a blame where none was -/
theorem t_bl {M : am_M} {t : Nat} {a k : Int32} (h : M.1 t 6 = -1) (ha : 0 ≤ a.toInt ∧ a.toInt ≤ 50) (hk : 1 ≤ k.toInt ∧ k.toInt ≤ 3) : ¬ (am_blame M t a k).1 t 6 = -1 ∧ ((am_blame M t a k).1 t 6).toInt = 10 * (a.toNatClampNeg : Int) + k.toInt := by
  have e : (am_blame M t a k).1 t 6 = 10 * a + k := by
    unfold am_blame
    rw [am_wIc_t h, am_wI_self]
  have m := i_mul (x := 10) (y := a) (by simp only [Int32.reduceToInt]; omega) (by simp only [Int32.reduceToInt]; omega)
  simp only [Int32.reduceToInt] at m
  have m2 := i_add (x := 10 * a) (y := k) (by omega) (by omega)
  have ca := i_clamp ha.1
  rw [e]
  exact ⟨fun z => by rw [z] at m2; simp only [Int32.reduceToInt] at m2; omega, by omega⟩
theorem t_bln {M : am_M} {t : Nat} {a k : Int32} (h : ¬ M.1 t 6 = -1) : am_blame M t a k = M := am_wIc_f h
/-- a value of one code: a number or a letter -/
theorem y_io.one {p p' nc : Nat} {cd cd' : Nat → Int32} {G : (Int32 → Int64) → Nat → Int64 → Prop} {v : Int32} {w : (Int32 → Int64) → Int64} (hp : p < p') (h0 : ∀ j, j < nc → cd' j = cd j) (h1 : cd' nc = v) (hv : ∀ fa st, w_ex fa v st = w fa :: st) (hG : ∀ fa, G fa p' (w fa)) : y_io p nc p' (nc + 1) cd cd' G := ⟨by omega, by omega, by omega, h0, fun fa => ⟨w fa, fun st => by
  rw [show nc + 1 - nc = 1 by omega]
  show w_ex fa (cd' (nc + 0)) st = _
  rw [Nat.add_zero, h1, hv], hG fa⟩⟩
theorem w_ex_n {fa : Int32 → Int64} {v : Int32} {st : List Int64} (h : 0 ≤ v.toInt) : w_ex fa v st = Int64.ofInt v.toInt :: st := if_pos h
theorem i_neg {x : Int32} (h : -2147483648 < x.toInt) : (-x).toInt = -x.toInt := by
  have h2 := i_hi x
  rw [Int32.toInt_neg]
  exact Int.bmod_eq_of_le (by omega) (by omega)
theorem w_ex_l {fa : Int32 → Int64} {c : Int32} {st : List Int64} (h : am_ops c = 0) (hc : 0 < c.toInt) : w_ex fa (-c) st = fa c :: st := by
  unfold w_ex
  rw [if_neg (by rw [i_neg (by omega)]; omega), Int32.neg_neg, if_pos h]
theorem w_ex_2 {fa : Int32 → Int64} {c : Int32} {a b : Int64} {st : List Int64} (h : am_ops c = 2) (hc : 0 < c.toInt) : w_ex fa (-c) (b :: a :: st) = am_join c a b :: st := by
  unfold w_ex
  rw [if_neg (by rw [i_neg (by omega)]; omega), Int32.neg_neg, if_neg (by rw [h]; decide), if_neg (by rw [h]; decide), if_pos h]
theorem w_ex_3 {fa : Int32 → Int64} {x y z : Int64} {st : List Int64} : w_ex fa (-63) (z :: y :: x :: st) = (if x ≠ 0 then y else z) :: st := by
  unfold w_ex
  rw [if_neg (by decide), if_neg (by decide), if_neg (by decide), if_neg (by decide)]
/-- signs and plain thing together -/
theorem y_io.unit {p b p' nc n1 n2 : Nat} {σ cd cd1 cd2 : Nat → Int32} {n op : Nat} (hu : x_un σ n p b) (h : y_io b nc p' n1 cd cd1 (fun fa p' v => s_pl fa σ n b p' op v)) (he : x_em σ cd1 cd2 n1 n2 p b) : y_io p nc p' n2 cd cd2 (fun fa p' v => s_ch fa σ n p p' op 7 v) := by
  obtain ⟨a1, a2, a3, a4, a5⟩ := h
  obtain ⟨b1, b2, b3⟩ := he
  have l := w_un_len (σ := σ) (b := p) (b - p)
  have hp := hu.1
  refine ⟨by omega, by omega, by omega, fun j hj => by rw [b1 j (by omega), a4 j hj], fun fa => ?_⟩
  obtain ⟨v, v1, v2⟩ := a5 fa
  refine ⟨w_ap (w_un σ p (b - p)) v, fun st => ?_, s_unit (fun W V => hu.2.2 fa W V) v2⟩
  rw [show n2 - nc = (n1 - nc) + (n2 - n1) by omega, w_ev_add, w_ev_cg (cd := cd1) (cd' := cd2) (b := nc) (k := n1 - nc) (fun j _ z => b1 j (by omega)), v1, show nc + (n1 - nc) = n1 by omega, b3]
/-- one more of a chain -/
theorem y_io.op {p p1 q p3 nc n1 n3 : Nat} {cd cd1 cd3 cd4 : Nat → Int32} {G G1 G3 : (Int32 → Int64) → Nat → Int64 → Prop} {c : Int32} (h : y_io p nc p1 n1 cd cd1 G) (hq : p1 ≤ q) (h3 : y_io (q + 1) n1 p3 n3 cd1 cd3 G1) (e1 : ∀ j, j < n3 → cd4 j = cd3 j) (e2 : cd4 n3 = -c) (hc : am_ops c = 2 ∧ 0 < c.toInt) (hG : ∀ fa v1 v2, G fa p1 v1 → G1 fa p3 v2 → G3 fa p3 (am_join c v1 v2)) : y_io p nc p3 (n3 + 1) cd cd4 G3 := by
  obtain ⟨a1, a2, a3, a4, a5⟩ := h
  obtain ⟨b1, b2, b3, b4, b5⟩ := h3
  refine ⟨by omega, by omega, by omega, fun j hj => by rw [e1 j (by omega), b4 j (by omega), a4 j hj], fun fa => ?_⟩
  obtain ⟨v1, u1, w1⟩ := a5 fa
  obtain ⟨v2, u2, w2⟩ := b5 fa
  refine ⟨am_join c v1 v2, fun st => ?_, hG fa v1 v2 w1 w2⟩
  rw [show n3 + 1 - nc = (n3 - nc) + 1 by omega]
  show w_ex fa (cd4 (nc + (n3 - nc))) (w_ev fa cd4 nc (n3 - nc) st) = _
  rw [show nc + (n3 - nc) = n3 by omega, e2, w_ev_cg (cd := cd3) (fun j _ z => e1 j (by omega)), show n3 - nc = (n1 - nc) + (n3 - n1) by omega, w_ev_add, show nc + (n1 - nc) = n1 by omega, w_ev_cg (cd := cd1) (cd' := cd3) (b := nc) (k := n1 - nc) (fun j _ z => b4 j (by omega)), u1, u2, w_ex_2 hc.1 hc.2]
/-- a choice -/
theorem y_io.ask {p p1 q1 p2 q2 p3 nc n1 n2 n3 : Nat} {cd cd1 cd2 cd3 cd4 : Nat → Int32} {G1 G2 G3 G : (Int32 → Int64) → Nat → Int64 → Prop} (h1 : y_io p nc p1 n1 cd cd1 G1) (hq : p1 ≤ q1) (h2 : y_io (q1 + 1) n1 p2 n2 cd1 cd2 G2) (hq2 : p2 ≤ q2) (h3 : y_io (q2 + 1) n2 p3 n3 cd2 cd3 G3) (e1 : ∀ j, j < n3 → cd4 j = cd3 j) (e2 : cd4 n3 = -63) (hG : ∀ fa v1 v2 v3, G1 fa p1 v1 → G2 fa p2 v2 → G3 fa p3 v3 → G fa p3 (if v1 ≠ 0 then v2 else v3)) : y_io p nc p3 (n3 + 1) cd cd4 G := by
  obtain ⟨a1, a2, a3, a4, a5⟩ := h1
  obtain ⟨b1, b2, b3, b4, b5⟩ := h2
  obtain ⟨c1, c2, c3, c4, c5⟩ := h3
  refine ⟨by omega, by omega, by omega, fun j hj => by rw [e1 j (by omega), c4 j (by omega), b4 j (by omega), a4 j hj], fun fa => ?_⟩
  obtain ⟨v1, u1, w1⟩ := a5 fa
  obtain ⟨v2, u2, w2⟩ := b5 fa
  obtain ⟨v3, u3, w3⟩ := c5 fa
  refine ⟨if v1 ≠ 0 then v2 else v3, fun st => ?_, hG fa v1 v2 v3 w1 w2 w3⟩
  rw [show n3 + 1 - nc = (n3 - nc) + 1 by omega]
  show w_ex fa (cd4 (nc + (n3 - nc))) (w_ev fa cd4 nc (n3 - nc) st) = _
  rw [show nc + (n3 - nc) = n3 by omega, e2, w_ev_cg (cd := cd3) (fun j _ z => e1 j (by omega)), show n3 - nc = (n2 - nc) + (n3 - n2) by omega, w_ev_add, show nc + (n2 - nc) = n2 by omega, w_ev_cg (cd := cd2) (cd' := cd3) (b := nc) (k := n2 - nc) (fun j _ z => c4 j (by omega)), show n2 - nc = (n1 - nc) + (n2 - n1) by omega, w_ev_add, show nc + (n1 - nc) = n1 by omega, w_ev_cg (cd := cd1) (cd' := cd2) (b := nc) (k := n1 - nc) (fun j _ z => b4 j (by omega)), u1, u2, u3, w_ex_3]
end
-- part 79f.text4.lean.txt
section
/-! texts: the class's reader, exact, III: the recursion -/
def x_pl (t s c : Nat) (M M' : am_M) : Prop := x_io t c M M' (fun fa p' v => s_pl fa (M.1 s) (t_n M t) (t_p M t) p' (t_o M t) v) (fun fa f => s_bp fa (M.1 s) (t_n M t) (t_p M t) (t_o M t) f)
def x_ch (k : Int32) (t s c : Nat) (M M' : am_M) : Prop := x_io t c M M' (fun fa p' v => s_ch fa (M.1 s) (t_n M t) (t_p M t) p' (t_o M t) k v) (fun fa f => s_bd fa (M.1 s) (t_n M t) (t_p M t) (t_o M t) k.toInt f)
def x_cl (k : Int32) (t s c : Nat) (M M' : am_M) : Prop := x_io t c M M' (fun fa p' v => s_cl fa (M.1 s) (t_n M t) (t_p M t) p' (t_o M t) k v) (fun fa f => s_bd fa (M.1 s) (t_n M t) (t_p M t) (t_o M t) k.toInt f)
def x_va (t s c : Nat) (M M' : am_M) : Prop := x_io t c M M' (fun fa p' v => s_va fa (M.1 s) (t_n M t) (t_p M t) p' (t_o M t) v) (fun fa f => s_bd fa (M.1 s) (t_n M t) (t_p M t) (t_o M t) 1 f)
def TE5_readValue (d : Nat) : am_T := fun live as M R => match as with
  | [.ref t, .int e] => am_tP live t (fun s c => am_tI M t ∧ x_pre t s M e.toInt ∧ 0 ≤ e.toInt ∧ e.toInt ≤ 41 ∧ 41 ≤ e.toInt + (d : Int) ∧ ∀ M', am_ch (am_tS t c) M M' → am_tI M' t → x_va t s c M M' → R none M')
  | _ => False
def TE5_readPlain (d : Nat) : am_T := fun live as M R => match as with
  | [.ref t, .int e] => am_tP live t (fun s c => am_tI M t ∧ x_pre t s M e.toInt ∧ 0 ≤ e.toInt ∧ e.toInt ≤ 40 ∧ 40 ≤ e.toInt + (d : Int) ∧ (∀ q g, w_nx (M.1 s) (t_n M t) (t_p M t) q g → g ≠ 33 ∧ g ≠ 45) ∧ ∀ M', am_ch (am_tS t c) M M' → am_tI M' t → x_pl t s c M M' → R none M')
  | _ => False
def TE5_readChain (d n : Nat) : am_T := fun live as M R => match as with
  | [.ref t, .int l, .int e] => am_tP live t (fun s c => am_tI M t ∧ x_pre t s M e.toInt ∧ (0 ≤ l.toInt ∧ l.toInt ≤ 5 ∧ 5 ≤ l.toInt + (n : Int)) ∧ 0 ≤ e.toInt ∧ e.toInt ≤ 40 ∧ 40 ≤ e.toInt + (d : Int) ∧ ∀ M', am_ch (am_tS t c) M M' → am_tI M' t → x_ch (l + 2) t s c M M' → R none M')
  | _ => False
/-- one code for what was read -/
theorem x_lit {M : am_M} {t c : Nat} {q v : Int32} {w : (Int32 → Int64) → Int64} {G : (Int32 → Int64) → Nat → Int64 → Prop} {F : (Int32 → Int64) → Int → Prop} (hn : t ≠ c) (hT : am_tI M t) (hT2 : am_tI (am_wI M t 3 q) t) (hw : M.1 t 6 = -1) (hq : (M.1 t 3).toInt < q.toInt) (hcap : (M.1 t 2).toInt ≤ (M.1 t 3).toInt) (hv : ∀ fa st, w_ex fa v st = w fa :: st) (hG : ∀ fa, G fa q.toNatClampNeg (w fa)) : x_io t c M (am_emit (am_wI M t 3 q) t c v) G F := by
  have f : ∀ k, k ≠ 3 → (am_wI M t 3 q).1 t k = M.1 t k := fun k hk => by rw [am_wI_1, if_neg (fun z => hk z.2)]
  have f3 : (am_wI M t 3 q).1 t 3 = q := by rw [am_wI_1, if_pos ⟨rfl, rfl⟩]
  have fc : (am_wI M t 3 q).1 c = M.1 c := funext fun j => by rw [am_wI_1, if_neg (fun z => hn z.1.symm)]
  have a := hT.p
  have a2 := hT2.p
  rw [f3, f 5 (by decide)] at a2
  have ec : t_c (am_wI M t 3 q) t = t_c M t := by show ((am_wI M t 3 q).1 t 2).toNatClampNeg = _; rw [f 2 (by decide)]
  have cq := i_clamp (x := q) (by omega)
  obtain ⟨y1, y2, y3⟩ := am_emit_y (v := v) hn hT2 (by rw [ec]; omega)
  rw [ec] at y1 y2 y3
  have g : ∀ k, k ≠ 2 → (am_emit (am_wI M t 3 q) t c v).1 t k = (am_wI M t 3 q).1 t k := fun k hk => am_emit_f hn hk
  refine x_io.ok hw (by rw [g 6 (by decide), f 6 (by decide)]; exact hw) (by rw [g 4 (by decide), f 4 (by decide)]) ?_
  rw [y1, show t_p (am_emit (am_wI M t 3 q) t c v) t = q.toNatClampNeg by show ((am_emit (am_wI M t 3 q) t c v).1 t 3).toNatClampNeg = _; rw [g 3 (by decide), f3]]
  exact y_io.one (v := v) (w := w) (by omega) (fun j hj => by rw [y3 j hj, fc]) y2 hv hG
theorem w_lets {g : Int32} (h : am_ops g = 0) : 0 < g.toInt := by
  unfold am_ops at h
  split at h
  · next z => rcases z with rfl | rfl | rfl | rfl | rfl | rfl | rfl <;> decide
  · split at h
    · exact absurd h (by decide)
    · split at h <;> exact absurd h (by decide)
/-- an opening, what stands in it, its end -/
def t_M2 (M : am_M) (t : Nat) (p : Int32) : am_M := am_wI (am_wI M t 3 (p + 1)) t 4 (M.1 t 4 + 1)
theorem t_M2_f {M : am_M} {t s c : Nat} {p : Int32} (h9 : t ≠ s) (h10 : t ≠ c) : (t_M2 M t p).1 t 3 = p + 1 ∧ (t_M2 M t p).1 t 4 = M.1 t 4 + 1 ∧ (∀ k, k ≠ 3 → k ≠ 4 → (t_M2 M t p).1 t k = M.1 t k) ∧ (t_M2 M t p).1 s = M.1 s ∧ (t_M2 M t p).1 c = M.1 c := by
  unfold t_M2
  refine ⟨?_, ?_, fun k h3 h4 => ?_, funext fun j => ?_, funext fun j => ?_⟩
  · rw [am_wI_1, if_neg (fun z => absurd z.2 (by decide)), am_wI_1, if_pos ⟨rfl, rfl⟩]
  · rw [am_wI_1, if_pos ⟨rfl, rfl⟩]
  · rw [am_wI_1, if_neg (fun z => h4 z.2), am_wI_1, if_neg (fun z => h3 z.2)]
  · rw [am_wI_1, if_neg (fun z => h9 z.1.symm), am_wI_1, if_neg (fun z => h9 z.1.symm)]
  · rw [am_wI_1, if_neg (fun z => h10 z.1.symm), am_wI_1, if_neg (fun z => h10 z.1.symm)]
section PAR
variable {M M3 : am_M} {t s c : Nat} {p : Int32}
theorem x_par (h9 : t ≠ s) (h10 : t ≠ c) (h5 : s ≠ c) (hT : am_tI M t) (hs : x_sg t s M) (hp : am_skip M t s p) (hg : am_sign M t s p = 40) (zw : M.1 t 6 = -1) (ho : 0 ≤ (M.1 t 4).toInt ∧ (M.1 t 4).toInt < 8) (hcap : (M.1 t 2).toInt ≤ (M.1 t 3).toInt) (hT3 : am_tI M3 t) (c3 : am_ch (am_tS t c) (t_M2 M t p) M3) (x : x_va t s c (t_M2 M t p) M3) :
    (¬ M3.1 t 6 = -1 → ∀ v, x_pl t s c M (am_wI M3 t 4 v)) ∧ (M3.1 t 6 = -1 → ∀ p', am_skip M3 t s p' → (am_sign M3 t s p' = 41 → x_pl t s c M (am_wI (am_wI M3 t 3 (p' + 1)) t 4 ((am_wI M3 t 3 (p' + 1)).1 t 4 - 1)) ∧ am_tI (am_wI M3 t 3 (p' + 1)) t) ∧ (¬ am_sign M3 t s p' = 41 → ∀ v, x_pl t s c M (am_wI (am_blame (am_wI M3 t 3 p') t p' 1) t 4 v))) := by
  obtain ⟨nx, cp⟩ := x_nx hT hs hp
  rw [hg] at nx
  have ha := nx.at (by decide)
  have a := hT.p
  have p1 := hp.1
  have p2 := hp.2.1
  have hi := i_inc (x := p) (by omega) (by omega)
  have cp1 := i_clamp (x := p + 1) (by omega)
  have ho1 := i_inc (x := M.1 t 4) (by omega) (by omega)
  have co := i_clamp ho.1
  have co1 := i_clamp (x := M.1 t 4 + 1) (by omega)
  obtain ⟨m3, m4, mk, ms, mc⟩ := t_M2_f (M := M) (p := p) h9 h10
  have e6 : (t_M2 M t p).1 t 6 = -1 := by rw [mk 6 (by decide) (by decide)]; exact zw
  have en : t_n (t_M2 M t p) t = t_n M t := by unfold t_n; rw [mk 5 (by decide) (by decide)]
  have ep : t_p (t_M2 M t p) t = p.toNatClampNeg + 1 := by unfold t_p; rw [m3]; omega
  have eo : t_o (t_M2 M t p) t = t_o M t + 1 := by unfold t_o; rw [m4]; omega
  have ec : t_c (t_M2 M t p) t = t_c M t := by unfold t_c; rw [mk 2 (by decide) (by decide)]
  have ho8 : t_o M t ≠ 8 := by unfold t_o; omega
  have s3 : M3.1 s = M.1 s := (funext fun j => am_ch_s c3 h5 h9 j).trans ms
  have n3 : M3.1 t 5 = M.1 t 5 := (am_ch_t5 c3 h10).trans (mk 5 (by decide) (by decide))
  have o4 : ∀ (N : am_M) v k, k ≠ 4 → (am_wI N t 4 v).1 t k = N.1 t k := fun N v k hk => by rw [am_wI_1, if_neg (fun z => hk z.2)]
  have oc : ∀ (N : am_M) k v, (am_wI N t k v).1 c = N.1 c := fun N k v => funext fun j => by rw [am_wI_1, if_neg (fun z => h10 z.1.symm)]
  refine ⟨fun w3 v => ?_, fun w3 p' hp' => ?_⟩
  · refine x_io.bad zw (by rw [o4 _ _ 6 (by decide)]; exact w3) (fun fa => ?_)
    rw [o4 _ _ 6 (by decide)]
    have q := x.f e6 w3 fa
    rw [ms, en, ep, eo] at q
    exact s_parb nx ho8 q
  · have nx3 := (x_nx hT3 (s := s) ⟨(), fun j hj => by rw [s3]; rw [n3] at hj; exact hs.v hj⟩ hp')
    rw [s3, show t_n M3 t = t_n M t by unfold t_n; rw [n3]] at nx3
    obtain ⟨nx3, cp'⟩ := nx3
    obtain ⟨y4, y⟩ := x.y e6 w3
    rw [ec, ep, ms, mc, en, eo] at y
    obtain ⟨b1, b2, b3, b4, b5⟩ := y
    have a3 := hT3.p
    have q1 := hp'.1
    have q2 := hp'.2.1
    have hi' := i_inc (x := p') (by omega) (by omega)
    have cp1' := i_clamp (x := p' + 1) (by omega)
    refine ⟨fun hg' => ?_, fun hg' v => ?_⟩
    · rw [hg'] at nx3
      have ha3 := nx3.at (by decide)
      have f3 : ∀ k, k ≠ 3 → (am_wI M3 t 3 (p' + 1)).1 t k = M3.1 t k := fun k hk => by rw [am_wI_1, if_neg (fun z => hk z.2)]
      have f33 : (am_wI M3 t 3 (p' + 1)).1 t 3 = p' + 1 := by rw [am_wI_1, if_pos ⟨rfl, rfl⟩]
      refine ⟨?_, ?_⟩
      · refine x_io.ok zw (by rw [o4 _ _ 6 (by decide), f3 6 (by decide)]; exact w3) (by rw [am_wI_self, f3 4 (by decide), y4, m4, Int32.add_sub_cancel]) ?_
        rw [oc, oc, show t_p (am_wI (am_wI M3 t 3 (p' + 1)) t 4 ((am_wI M3 t 3 (p' + 1)).1 t 4 - 1)) t = p'.toNatClampNeg + 1 by unfold t_p; rw [o4 _ _ 3 (by decide), f33]; omega, show t_c (am_wI (am_wI M3 t 3 (p' + 1)) t 4 ((am_wI M3 t 3 (p' + 1)).1 t 4 - 1)) t = t_c M3 t by unfold t_c; rw [o4 _ _ 2 (by decide), f3 2 (by decide)]]
        refine ⟨by omega, b2, by omega, b4, fun fa => ?_⟩
        obtain ⟨v, u, w⟩ := b5 fa
        exact ⟨v, u, s_par nx ho8 w nx3⟩
      · have n3' : (M3.1 t 5).toInt = (M.1 t 5).toInt := by rw [n3]
        refine am_tI_of ?_ ?_ ?_ ?_ ?_
        all_goals simp [am_wI_1, -Int32.toInt_add]
        all_goals omega
    · have w3' : (am_wI M3 t 3 p').1 t 6 = -1 := by rw [am_wI_1, if_neg (fun z => absurd z.2 (by decide))]; exact w3
      have bl := t_bl (M := am_wI M3 t 3 p') (t := t) (a := p') (k := 1) w3' ⟨by omega, by omega⟩ ⟨by decide, by decide⟩
      refine x_io.bad zw (by rw [o4 _ _ 6 (by decide)]; exact bl.1) (fun fa => ?_)
      rw [o4 _ _ 6 (by decide), bl.2]
      obtain ⟨v, u, w⟩ := b5 fa
      exact s_parm nx ho8 w nx3 hg'
end PAR
def kX5_readPlainE (d : Nat) (live : am_E) (Ret : am_R) : am_code := [(0, am_aload 0 1), (1, am_callV live 5 0 TX5_next 4), (4, am_istore 2 3 5), (5, am_aload 0 6), (6, am_getI live 5 6 9), (9, am_const (.int (-1)) 10), (10, am_if2 (fun x y => x = y) 14 13), (13, am_retV Ret), (14, am_iload 2 15), (15, am_callS live 1 TX5_isDigit 18), (18, am_if1 (fun x => x = 0) 28 21), (21, am_aload 0 22), (22, am_callV live 5 0 TE5_readDigits 25), (25, am_goto 136), (28, am_iload 2 29), (29, am_callS live 1 TX5_operands 32), (32, am_if1 (fun x => x = 0) 35 54), (35, am_aload 0 36), (36, am_dup 37), (37, am_getI live 5 3 40), (40, am_const (.int 1) 41), (41, am_i2 (fun x y => x + y) 42), (42, am_putI live 5 3 45), (45, am_aload 0 46), (46, am_iload 2 47), (47, am_i1 (fun x => -x) 48), (48, am_callV live 5 1 TX5_emit 51), (51, am_goto 136), (54, am_iload 2 55), (55, am_const (.int 40) 57), (57, am_if2 (fun x y => x = y) 72 60), (60, am_aload 0 61), (61, am_aload 0 62), (62, am_getI live 5 3 65), (65, am_const (.int 1) 66), (66, am_callV live 5 2 TX5_blame 69), (69, am_goto 136), (72, am_aload 0 73), (73, am_getI live 5 4 76), (76, am_const (.int 8) 78), (78, am_if2 (fun x y => x < y) 93 81), (81, am_aload 0 82), (82, am_aload 0 83), (83, am_getI live 5 3 86), (86, am_const (.int 3) 87), (87, am_callV live 5 2 TX5_blame 90), (90, am_goto 136), (93, am_aload 0 94), (94, am_dup 95), (95, am_getI live 5 3 98), (98, am_const (.int 1) 99), (99, am_i2 (fun x y => x + y) 100), (100, am_putI live 5 3 103), (103, am_aload 0 104), (104, am_dup 105), (105, am_getI live 5 4 108), (108, am_const (.int 1) 109), (109, am_i2 (fun x y => x + y) 110), (110, am_putI live 5 4 113), (113, am_aload 0 114), (114, am_iload 1 115), (115, am_const (.int 1) 116), (116, am_i2 (fun x y => x + y) 117), (117, am_callV live 5 1 (TE5_readValue d) 120), (120, am_aload 0 121), (121, am_const (.int 41) 123), (123, am_callV live 5 1 TE5_pass 126), (126, am_aload 0 127), (127, am_dup 128), (128, am_getI live 5 4 131), (131, am_const (.int 1) 132), (132, am_i2 (fun x y => x - y) 133), (133, am_putI live 5 4 136), (136, am_retV Ret)]
theorem koX5_readPlainE (d : Nat) (hV : am_Met yX5_readValue cX5_readValue 2 none (4 + 8 * d) (200 + 200 * d) (TE5_readValue d)) (live : am_E) (Ret : am_R) : ∀ q ∈ kX5_readPlainE d live Ret, am_ok RX5 cX5_readPlain 3 none (4 + 8 * d + 1) (200 + 200 * d + 25) live Ret q.1 q.2 :=
  am_kz dzX5_readPlain <|
  am_kd (fun d => ak_aload_n d rfl rfl) <|
  am_kd (fun d => ak_callV (C := RX5) (F := TX5) (N := 7) metX5_next rfl ⟨rfl, hy_X5_next⟩ (am_w5 wd_688 wd_690 wd_17 wd_65 wd_691) (by omega) d rfl) <|
  am_kd (fun d => ak_istore_n d rfl rfl) <|
  am_kd (fun d => ak_aload_n d rfl rfl) <|
  am_kd (fun d => ak_getI (C := RX5) (T := TX5) (N := 7) rfl inX5w (by decide) rfl rfl rfl wd_175 d rfl) <|
  am_kd (fun d => ak_iconst d (by decide +kernel) rfl) <|
  am_kd (fun d => ak_icmp_eq d (by decide +kernel) rfl) <|
  am_kd (fun d => ak_retV d) <|
  am_kd (fun d => ak_iload_n d rfl rfl) <|
  am_kd (fun d => ak_callS metX5_isDigit ⟨rfl, hy_X5_isDigit⟩ (am_w4 wd_696 wd_697 wd_65 wd_698) (by omega) d rfl) <|
  am_kd (fun d => ak_if_eq d (by decide +kernel) rfl) <|
  am_kd (fun d => ak_aload_n d rfl rfl) <|
  am_kd (fun d => ak_callV (C := RX5) (F := TX5) (N := 7) metX5_readDigitsE rfl ⟨rfl, hy_X5_readDigits⟩ (am_w5 wd_699 wd_701 wd_19 wd_65 wd_702) (by omega) d rfl) <|
  am_kd (fun d => ak_goto d (by decide +kernel)) <|
  am_kd (fun d => ak_iload_n d rfl rfl) <|
  am_kd (fun d => ak_callS metX5_operands ⟨rfl, hy_X5_operands⟩ (am_w4 wd_596 wd_597 wd_65 wd_598) (by omega) d rfl) <|
  am_kd (fun d => ak_if_ne d (by decide +kernel) rfl) <|
  am_kd (fun d => ak_aload_n d rfl rfl) <|
  am_kd (fun d => ak_dup d rfl) <|
  am_kd (fun d => ak_getI (C := RX5) (T := TX5) (N := 7) rfl inX5w (by decide) rfl rfl rfl wd_171 d rfl) <|
  am_kd (fun d => ak_iconst d (by decide +kernel) rfl) <|
  am_kd (fun d => ak_iadd d rfl) <|
  am_kd (fun d => ak_putI (C := RX5) (T := TX5) (N := 7) rfl inX5w tyX5_ok nmX5 (by decide) rfl rfl rfl rfl (by decide +kernel) wd_171 d rfl) <|
  am_kd (fun d => ak_aload_n d rfl rfl) <|
  am_kd (fun d => ak_iload_n d rfl rfl) <|
  am_kd (fun d => ak_ineg d rfl) <|
  am_kd (fun d => ak_callV (C := RX5) (F := TX5) (N := 7) metX5_emit rfl ⟨rfl, hy_X5_emit⟩ (am_w5 wd_703 wd_705 wd_20 wd_65 wd_706) (by omega) d rfl) <|
  am_kd (fun d => ak_goto d (by decide +kernel)) <|
  am_kd (fun d => ak_iload_n d rfl rfl) <|
  am_kd (fun d => ak_bipush d (by decide +kernel) rfl) <|
  am_kd (fun d => ak_icmp_eq d (by decide +kernel) rfl) <|
  am_kd (fun d => ak_aload_n d rfl rfl) <|
  am_kd (fun d => ak_aload_n d rfl rfl) <|
  am_kd (fun d => ak_getI (C := RX5) (T := TX5) (N := 7) rfl inX5w (by decide) rfl rfl rfl wd_171 d rfl) <|
  am_kd (fun d => ak_iconst d (by decide +kernel) rfl) <|
  am_kd (fun d => ak_callV (C := RX5) (F := TX5) (N := 7) metX5_blame rfl ⟨rfl, hy_X5_blame⟩ (am_w5 wd_676 wd_678 wd_14 wd_65 wd_679) (by omega) d rfl) <|
  am_kd (fun d => ak_goto d (by decide +kernel)) <|
  am_kd (fun d => ak_aload_n d rfl rfl) <|
  am_kd (fun d => ak_getI (C := RX5) (T := TX5) (N := 7) rfl inX5w (by decide) rfl rfl rfl wd_172 d rfl) <|
  am_kd (fun d => ak_bipush d (by decide +kernel) rfl) <|
  am_kd (fun d => ak_icmp_lt d (by decide +kernel) rfl) <|
  am_kd (fun d => ak_aload_n d rfl rfl) <|
  am_kd (fun d => ak_aload_n d rfl rfl) <|
  am_kd (fun d => ak_getI (C := RX5) (T := TX5) (N := 7) rfl inX5w (by decide) rfl rfl rfl wd_171 d rfl) <|
  am_kd (fun d => ak_iconst d (by decide +kernel) rfl) <|
  am_kd (fun d => ak_callV (C := RX5) (F := TX5) (N := 7) metX5_blame rfl ⟨rfl, hy_X5_blame⟩ (am_w5 wd_676 wd_678 wd_14 wd_65 wd_679) (by omega) d rfl) <|
  am_kd (fun d => ak_goto d (by decide +kernel)) <|
  am_kd (fun d => ak_aload_n d rfl rfl) <|
  am_kd (fun d => ak_dup d rfl) <|
  am_kd (fun d => ak_getI (C := RX5) (T := TX5) (N := 7) rfl inX5w (by decide) rfl rfl rfl wd_171 d rfl) <|
  am_kd (fun d => ak_iconst d (by decide +kernel) rfl) <|
  am_kd (fun d => ak_iadd d rfl) <|
  am_kd (fun d => ak_putI (C := RX5) (T := TX5) (N := 7) rfl inX5w tyX5_ok nmX5 (by decide) rfl rfl rfl rfl (by decide +kernel) wd_171 d rfl) <|
  am_kd (fun d => ak_aload_n d rfl rfl) <|
  am_kd (fun d => ak_dup d rfl) <|
  am_kd (fun d => ak_getI (C := RX5) (T := TX5) (N := 7) rfl inX5w (by decide) rfl rfl rfl wd_172 d rfl) <|
  am_kd (fun d => ak_iconst d (by decide +kernel) rfl) <|
  am_kd (fun d => ak_iadd d rfl) <|
  am_kd (fun d => ak_putI (C := RX5) (T := TX5) (N := 7) rfl inX5w tyX5_ok nmX5 (by decide) rfl rfl rfl rfl (by decide +kernel) wd_172 d rfl) <|
  am_kd (fun d => ak_aload_n d rfl rfl) <|
  am_kd (fun d => ak_iload_n d rfl rfl) <|
  am_kd (fun d => ak_iconst d (by decide +kernel) rfl) <|
  am_kd (fun d => ak_iadd d rfl) <|
  am_kd (fun d => ak_callV (C := RX5) (F := TX5) (N := 7) hV rfl ⟨rfl, hy_X5_readValue⟩ (am_w5 wd_672 wd_674 wd_13 wd_65 wd_675) (by omega) d rfl) <|
  am_kd (fun d => ak_aload_n d rfl rfl) <|
  am_kd (fun d => ak_bipush d (by decide +kernel) rfl) <|
  am_kd (fun d => ak_callV (C := RX5) (F := TX5) (N := 7) metX5_passE rfl ⟨rfl, hy_X5_pass⟩ (am_w5 wd_707 wd_709 wd_21 wd_65 wd_710) (by omega) d rfl) <|
  am_kd (fun d => ak_aload_n d rfl rfl) <|
  am_kd (fun d => ak_dup d rfl) <|
  am_kd (fun d => ak_getI (C := RX5) (T := TX5) (N := 7) rfl inX5w (by decide) rfl rfl rfl wd_172 d rfl) <|
  am_kd (fun d => ak_iconst d (by decide +kernel) rfl) <|
  am_kd (fun d => ak_isub d rfl) <|
  am_kd (fun d => ak_putI (C := RX5) (T := TX5) (N := 7) rfl inX5w tyX5_ok nmX5 (by decide) rfl rfl rfl rfl (by decide +kernel) wd_172 d rfl) <|
  am_kd (fun d => ak_retV d) <| am_kdn
def JE5_readPlain : am_E → List Value → am_M → am_R → am_inv := fun live as M0 _ pc => match as with
  | [.ref t, .int e] => (match pc with
    | 5 => some ([0, 1, 2], fun k L st M => ∃ p : Int32, L = [(0, .ref t), (1, .int e), (2, .int (am_sign M0 t ((live.2 t 0).getD 0) p))] ∧ st = [] ∧ k = (9, 0) ∧ M = am_wI M0 t 3 p ∧ am_skip M0 t ((live.2 t 0).getD 0) p)
    | 120 => some ([0], fun k L st M => ∃ p : Int32, L = [(0, .ref t)] ∧ st = [] ∧ k = (8, 0) ∧ (am_skip M0 t ((live.2 t 0).getD 0) p ∧ am_sign M0 t ((live.2 t 0).getD 0) p = 40 ∧ M0.1 t 6 = -1 ∧ (M0.1 t 4).toInt < 8) ∧ am_ch (am_tS t ((live.2 t 1).getD 0)) (t_M2 M0 t p) M ∧ am_tI M t ∧ x_va t ((live.2 t 0).getD 0) ((live.2 t 1).getD 0) (t_M2 M0 t p) M)
    | 126 => some ([0], fun k L st M => L = [(0, .ref t)] ∧ st = [] ∧ k = (7, 0) ∧ am_ch (am_tS t ((live.2 t 1).getD 0)) M0 M ∧ am_tI M t ∧ x_pl t ((live.2 t 0).getD 0) ((live.2 t 1).getD 0) M0 (am_wI M t 4 (M.1 t 4 - 1)))
    | _ => none)
  | _ => none
set_option maxRecDepth 100000 in
set_option maxHeartbeats 4000000 in
theorem metX5_readPlainE (d : Nat) (hV : am_Met yX5_readValue cX5_readValue 2 none (4 + 8 * d) (200 + 200 * d) (TE5_readValue d)) : am_Met yX5_readPlain cX5_readPlain 3 none ((4 + 8 * d + 1)) ((200 + 200 * d + 25)) (TE5_readPlain d) := by
  refine am_met (own := RX5) (by decide +kernel) rfl (kX5_readPlainE d ) (koX5_readPlainE d  hV ) 120 JE5_readPlain ?_ ?_
  · intro live as M Ret h
    unfold TE5_readPlain at h
    split at h
    · next t e =>
      refine ⟨Nat.le_of_ble_eq_true rfl, ?_⟩
      change am_wp _ _ _ _ [(0, Value.ref t), (1, Value.int e)] _ _
      have hh := am_tP_mp h
      clear h
      obtain ⟨s, c, h2, h6, hb, h1, h3, h7, h4, h8, h9, h5, h10, hT, hP, he1, he2, he3, hun, h⟩ := hh
      have e0 : (live.2 t 0).getD 0 = s := by rw [h2]; rfl
      have ec : (live.2 t 1).getD 0 = c := by rw [h6]; rfl
      repeat' (first | (with_reducible exact hT) | (with_reducible exact h1) | (with_reducible exact h2) | (with_reducible exact h3) | (with_reducible exact hb) | (with_reducible exact h6) | (with_reducible exact h7) | (refine Exists.intro _ (Exists.intro _ (And.intro h2 (And.intro h6 ?_)))) | (refine Exists.intro _ (And.intro h2 ?_)) | (refine Exists.intro _ (And.intro h6 ?_)) | apply And.intro | exact rfl | intro hx | (refine Exists.intro _ (And.intro rfl ?_)) | ((with_reducible change _ = true); simp only [h1, h2, h3, hb, h6, h7, Bool.true_and]; rfl))
      all_goals try first | (with_reducible change am_tI _ _) | (change Ret _ _) | (change Ret _ _ _) | (change Exists _)
      all_goals try dsimp only at *
      all_goals try (with_reducible exact absurd ‹(1000 : Int64) = 0› am_z1000)
      all_goals
        rw [e0]
        exact ⟨_, _, rfl, rfl, rfl, rfl, hx⟩
    · exact h.elim
  · intro live as M0 Ret h k pc I hI L st M hi
    unfold TE5_readPlain at h
    split at h
    · next t e =>
      have hh := am_tP_mp h
      clear h
      obtain ⟨s, c, h2, h6, hb, h1, h3, h7, h4, h8, h9, h5, h10, hT, hP, he1, he2, he3, hun, h⟩ := hh
      have e0 : (live.2 t 0).getD 0 = s := by rw [h2]; rfl
      have ec : (live.2 t 1).getD 0 = c := by rw [h6]; rfl
      change (match pc with | 5 => _ | 120 => _ | 126 => _ | _ => none) = _ at hI
      split at hI
      · cases hI
        obtain ⟨p, rfl, rfl, rfl, rfl, hp⟩ := hi
        rw [e0] at hp ⊢
        obtain ⟨nx, cp⟩ := x_nx hT hP.s hp
        have a := hT.p
        have hT1 := am_tI_w3 hT hp
        have f3 : (am_wI M0 t 3 p).1 t 3 = p := by rw [am_wI_1, if_pos ⟨rfl, rfl⟩]
        have f : ∀ k, k ≠ 3 → (am_wI M0 t 3 p).1 t k = M0.1 t k := fun k hk => by rw [am_wI_1, if_neg (fun z => hk z.2)]
        have fs : (am_wI M0 t 3 p).1 s = M0.1 s := funext fun j => by rw [am_wI_1, if_neg (fun z => h5 z.1.symm)]
        have f6 := f 6 (by decide)
        have f4 := f 4 (by decide)
        have f5 := f 5 (by decide)
        have f2 := f 2 (by decide)
        have c1 : am_ch (am_tS t c) M0 (am_wI M0 t 3 p) := am_ch.rf.wI am_tS_3
        have cd1 : 0 ≤ ((am_wI M0 t 3 p).1 t 2).toInt := by rw [f2]; exact a.2.2.2.1
        by_cases zw : M0.1 t 6 = -1
        rotate_left
        · have zw1 : ¬ (am_wI M0 t 3 p).1 t 6 = -1 := by rw [f6]; exact zw
          repeat' (first | (with_reducible exact h1) | (with_reducible exact h2) | (with_reducible exact h3) | (with_reducible exact hb) | (with_reducible exact h6) | (with_reducible exact h7) | (refine Exists.intro _ (Exists.intro _ (And.intro h2 (And.intro h6 ?_)))) | (refine Exists.intro _ (And.intro h2 ?_)) | (refine Exists.intro _ (And.intro h6 ?_)) | apply And.intro | exact rfl | (intro hx; with_reducible exact absurd hx zw1) | intro hx | (refine Exists.intro _ (And.intro rfl ?_)) | ((with_reducible change _ = true); simp only [h1, h2, h3, hb, h6, h7, Bool.true_and]; rfl))
          all_goals try first | (with_reducible change am_tI _ _) | (change Ret _ _) | (change Ret _ _ _) | (change Exists _)
          all_goals try dsimp only at *
          all_goals try (with_reducible exact absurd ‹(1000 : Int64) = 0› am_z1000)
          all_goals exact h _ c1 hT1 (x_io.no zw f6)
        · skip
          have zw1 : (am_wI M0 t 3 p).1 t 6 = -1 := by rw [f6]; exact zw
          have pre := hP.w zw
          have p1 := hp.1
          have p2 := hp.2.1
          generalize hg : am_sign M0 t s p = g at nx ⊢
          by_cases zd : 48 ≤ g ∧ g ≤ 57
          · have q0 : ¬ ((if 48 ≤ g ∧ g ≤ 57 then (1 : Int32) else 0) = 0) := by rw [if_pos zd]; decide
            have dg : w_dgt g = true := w_dgt_i.mpr zd
            have ha := nx.at (w_dgt_clo dg).2
            have tn : t_n (am_wI M0 t 3 p) t = t_n M0 t := by show ((am_wI M0 t 3 p).1 t 5).toNatClampNeg = _; rw [f5]
            have tp : t_p (am_wI M0 t 3 p) t = p.toNatClampNeg := by show ((am_wI M0 t 3 p).1 t 3).toNatClampNeg = _; rw [f3]
            have x3 : (am_wI M0 t 3 p).1 t 6 = -1 ∧ ((am_wI M0 t 3 p).1 t 3).toInt < ((am_wI M0 t 3 p).1 t 5).toInt ∧ w_dgt ((am_wI M0 t 3 p).1 s (t_p (am_wI M0 t 3 p) t)) = true := by
              rw [f3, f5, fs, tp, ha.2.1]
              exact ⟨zw1, by omega, dg⟩
            have k1 : ∀ (q v : Int32), ((am_wI M0 t 3 p).1 t 3).toInt < q.toInt → q.toInt ≤ ((am_wI M0 t 3 p).1 t 5).toInt → 0 ≤ v.toInt → w_dig ((am_wI M0 t 3 p).1 s) (t_n (am_wI M0 t 3 p) t) 8 (t_p (am_wI M0 t 3 p) t) 0 0 = some (q.toNatClampNeg, v.toInt) → Ret none (am_emit (am_wI (am_wI M0 t 3 p) t 3 q) t c v) := fun q v b1 b2 b3 b4 => by
              rw [fs, tn, tp] at b4
              rw [f3] at b1
              rw [f5] at b2
              rw [am_wI_wI]
              have hT2 : am_tI (am_wI M0 t 3 q) t := by
                refine am_tI_of ?_ ?_ ?_ ?_ ?_
                all_goals simp [am_wI_1]
                all_goals omega
              exact h _ (am_ch_emit (am_ch.rf.wI am_tS_3)) (am_tI_emit hT2 h10) (x_lit h10 hT hT2 zw (by omega) (by omega) (fun fa st => w_ex_n b3) (fun fa => s_num nx dg b4))
            have k2 : ∀ q : Int32, ((am_wI M0 t 3 p).1 t 3).toInt ≤ q.toInt → q.toInt ≤ ((am_wI M0 t 3 p).1 t 5).toInt → w_dig ((am_wI M0 t 3 p).1 s) (t_n (am_wI M0 t 3 p) t) 8 (t_p (am_wI M0 t 3 p) t) 0 0 = none → Ret none (am_blame (am_wI (am_wI M0 t 3 p) t 3 q) t ((am_wI M0 t 3 p).1 t 3) 2) := fun q b1 b2 b4 => by
              rw [fs, tn, tp] at b4
              rw [f3] at b1
              rw [f5] at b2
              rw [f3, am_wI_wI]
              have hT2 : am_tI (am_wI M0 t 3 q) t := by
                refine am_tI_of ?_ ?_ ?_ ?_ ?_
                all_goals simp [am_wI_1]
                all_goals omega
              have bl := t_bl (M := am_wI M0 t 3 q) (t := t) (a := p) (k := 2) (by rw [am_wI_1, if_neg (fun z => absurd z.2 (by decide))]; exact zw) ⟨by omega, by omega⟩ ⟨by decide, by decide⟩
              exact h _ (am_ch_blame (am_ch.rf.wI am_tS_3)) (am_tI_blame hT2) (x_io.bad zw bl.1 (fun fa => by rw [bl.2]; exact s_numf nx dg b4))
            repeat' (first | (with_reducible exact hT1) | (with_reducible exact x3) | (with_reducible exact k1) | (with_reducible exact k2) | (with_reducible exact h1) | (with_reducible exact h2) | (with_reducible exact h3) | (with_reducible exact hb) | (with_reducible exact h6) | (with_reducible exact h7) | (refine Exists.intro _ (Exists.intro _ (And.intro h2 (And.intro h6 ?_)))) | (refine Exists.intro _ (And.intro h2 ?_)) | (refine Exists.intro _ (And.intro h6 ?_)) | apply And.intro | exact rfl | (intro hx; with_reducible exact absurd hx q0) | (intro hx; with_reducible exact absurd zw1 hx) | (intro hx; exact absurd hx (by decide)) | (intro hx; exact absurd (by decide) hx) | decide | intro hx | (refine Exists.intro _ (And.intro rfl ?_)) | ((with_reducible change _ = true); simp only [h1, h2, h3, hb, h6, h7, Bool.true_and]; rfl))
            all_goals try first | (with_reducible change am_tI _ _) | (change Ret _ _) | (change Ret _ _ _) | (change Exists _)
            all_goals try dsimp only at *
            all_goals try (with_reducible exact absurd ‹(1000 : Int64) = 0› am_z1000)
            all_goals first
              | exact k1 _ _ (by with_reducible assumption) (by with_reducible assumption) (by with_reducible assumption) hx
              | exact k2 _ (by with_reducible assumption) (by with_reducible assumption) hx
          · have q0 : (if 48 ≤ g ∧ g ≤ 57 then (1 : Int32) else 0) = 0 := if_neg zd
            have dg : w_dgt g = false := by
              cases e : w_dgt g with
              | false => rfl
              | true => exact absurd (w_dgt_i.mp e) zd
            by_cases zl : am_ops g = 0
            · have ha := nx.at (am_ne1 zl)
              have hi := i_inc (x := p) (by omega) (by omega)
              have cp1 := i_clamp (x := p + 1) (by omega)
              have e1 : am_wI (am_wI M0 t 3 p) t 3 ((am_wI M0 t 3 p).1 t 3 + 1) = am_wI M0 t 3 (p + 1) := by rw [f3, am_wI_wI]
              have hT2 : am_tI (am_wI M0 t 3 (p + 1)) t := by
                refine am_tI_of ?_ ?_ ?_ ?_ ?_
                all_goals simp [am_wI_1, -Int32.toInt_add]
                all_goals omega
              have cd2 : 0 ≤ ((am_wI (am_wI M0 t 3 p) t 3 ((am_wI M0 t 3 p).1 t 3 + 1)).1 t 2).toInt := by rw [e1]; exact hT2.p.2.2.2.1
              have hh := h _ (am_ch_emit (v := -g) (am_ch.rf.wI am_tS_3)) (am_tI_emit hT2 h10) (x_lit (q := p + 1) (w := fun fa => fa g) h10 hT hT2 zw (by omega) (by omega) (fun fa st => w_ex_l zl (w_lets zl)) (fun fa => by rw [show (p + 1).toNatClampNeg = p.toNatClampNeg + 1 by omega]; exact s_let nx zl))
              rw [← e1] at hh
              repeat' (first | (with_reducible exact cd2) | (with_reducible exact h1) | (with_reducible exact h2) | (with_reducible exact h3) | (with_reducible exact hb) | (with_reducible exact h6) | (with_reducible exact h7) | (refine Exists.intro _ (Exists.intro _ (And.intro h2 (And.intro h6 ?_)))) | (refine Exists.intro _ (And.intro h2 ?_)) | (refine Exists.intro _ (And.intro h6 ?_)) | apply And.intro | exact rfl | (intro hx; with_reducible exact absurd zw1 hx) | (intro hx; with_reducible exact absurd q0 hx) | (intro hx; with_reducible exact absurd zl hx) | (intro hx; exact absurd hx (by decide)) | (intro hx; exact absurd (by decide) hx) | decide | intro hx | (refine Exists.intro _ (And.intro rfl ?_)) | ((with_reducible change _ = true); simp only [h1, h2, h3, hb, h6, h7, Bool.true_and]; rfl))
              all_goals try first | (with_reducible change am_tI _ _) | (change Ret _ _) | (change Ret _ _ _) | (change Exists _)
              all_goals try dsimp only at *
              all_goals try (with_reducible exact absurd ‹(1000 : Int64) = 0› am_z1000)
              all_goals exact hh
            · by_cases zp : g = 40
              rotate_left
              · have hT2 := am_tI_blame (a := p) (k := 1) hT1
                have bl := t_bl (M := am_wI M0 t 3 p) (t := t) (a := p) (k := 1) zw1 ⟨by omega, by omega⟩ ⟨by decide, by decide⟩
                have hq := hun _ _ nx
                have hh := h _ (am_ch_blame c1) hT2 (x_io.bad zw bl.1 (fun fa => by rw [bl.2]; exact s_oth nx dg zl zp hq.1 hq.2))
                have hh : Ret none (am_blame (am_wI M0 t 3 p) t ((am_wI M0 t 3 p).1 t 3) 1) := by rw [f3]; exact hh
                repeat' (first | (with_reducible exact h1) | (with_reducible exact h2) | (with_reducible exact h3) | (with_reducible exact hb) | (with_reducible exact h6) | (with_reducible exact h7) | (refine Exists.intro _ (Exists.intro _ (And.intro h2 (And.intro h6 ?_)))) | (refine Exists.intro _ (And.intro h2 ?_)) | (refine Exists.intro _ (And.intro h6 ?_)) | apply And.intro | exact rfl | (intro hx; with_reducible exact absurd hx zl) | (intro hx; with_reducible exact absurd hx zp) | (intro hx; with_reducible exact absurd zw1 hx) | (intro hx; with_reducible exact absurd q0 hx) | (intro hx; exact absurd hx (by decide)) | (intro hx; exact absurd (by decide) hx) | decide | intro hx | (refine Exists.intro _ (And.intro rfl ?_)) | ((with_reducible change _ = true); simp only [h1, h2, h3, hb, h6, h7, Bool.true_and]; rfl))
                all_goals try first | (with_reducible change am_tI _ _) | (change Ret _ _) | (change Ret _ _ _) | (change Exists _)
                all_goals try dsimp only at *
                all_goals try (with_reducible exact absurd ‹(1000 : Int64) = 0› am_z1000)
                all_goals exact hh
              · skip
                have ha := nx.at (by rw [zp]; decide)
                have hi := i_inc (x := p) (by omega) (by omega)
                have co := i_clamp pre.1.1
                by_cases z8 : (am_wI M0 t 3 p).1 t 4 < 8
                rotate_left
                · have hT2 := am_tI_blame (a := p) (k := 3) hT1
                  have bl := t_bl (M := am_wI M0 t 3 p) (t := t) (a := p) (k := 3) zw1 ⟨by omega, by omega⟩ ⟨by decide, by decide⟩
                  have o8 : t_o M0 t = 8 := by
                    have z := z8
                    rw [f4, i_lt] at z
                    simp only [Int32.reduceToInt] at z
                    unfold t_o
                    omega
                  have hh := h _ (am_ch_blame c1) hT2 (x_io.bad zw bl.1 (fun fa => by rw [bl.2, o8]; rw [zp] at nx; exact s_full nx))
                  have hh : Ret none (am_blame (am_wI M0 t 3 p) t ((am_wI M0 t 3 p).1 t 3) 3) := by rw [f3]; exact hh
                  repeat' (first | (with_reducible exact h1) | (with_reducible exact h2) | (with_reducible exact h3) | (with_reducible exact hb) | (with_reducible exact h6) | (with_reducible exact h7) | (refine Exists.intro _ (Exists.intro _ (And.intro h2 (And.intro h6 ?_)))) | (refine Exists.intro _ (And.intro h2 ?_)) | (refine Exists.intro _ (And.intro h6 ?_)) | apply And.intro | exact rfl | (intro hx; with_reducible exact absurd hx zl) | (intro hx; with_reducible exact absurd hx z8) | (intro hx; with_reducible exact absurd zw1 hx) | (intro hx; with_reducible exact absurd q0 hx) | (intro hx; with_reducible exact absurd zp hx) | (intro hx; exact absurd hx (by decide)) | (intro hx; exact absurd (by decide) hx) | decide | intro hx | (refine Exists.intro _ (And.intro rfl ?_)) | ((with_reducible change _ = true); simp only [h1, h2, h3, hb, h6, h7, Bool.true_and]; rfl))
                  all_goals try first | (with_reducible change am_tI _ _) | (change Ret _ _) | (change Ret _ _ _) | (change Exists _)
                  all_goals try dsimp only at *
                  all_goals try (with_reducible exact absurd ‹(1000 : Int64) = 0› am_z1000)
                  all_goals exact hh
                · skip
                  have z := z8
                  rw [f4, i_lt] at z
                  simp only [Int32.reduceToInt] at z
                  have ho1 := i_inc (x := M0.1 t 4) (by omega) (by omega)
                  have he := i_inc (x := e) (by omega) (by omega)
                  have e2 : am_wI (am_wI (am_wI M0 t 3 p) t 3 ((am_wI M0 t 3 p).1 t 3 + 1)) t 4 ((am_wI (am_wI M0 t 3 p) t 3 ((am_wI M0 t 3 p).1 t 3 + 1)).1 t 4 + 1) = t_M2 M0 t p := by
                    unfold t_M2
                    rw [f3, am_wI_wI, show (am_wI M0 t 3 (p + 1)).1 t 4 = M0.1 t 4 by rw [am_wI_1, if_neg (fun z => absurd z.2 (by decide))]]
                  obtain ⟨m3, m4, mk, ms, mc⟩ := t_M2_f (M := M0) (p := p) h5 h10
                  have hT2 : am_tI (t_M2 M0 t p) t := am_tI_of (by rw [mk 2 (by decide) (by decide)]; omega) (by rw [mk 2 (by decide) (by decide)]; omega) (by rw [m3]; omega) (by rw [m3, mk 5 (by decide) (by decide)]; omega) (by rw [mk 5 (by decide) (by decide)]; omega)
                  have hP2 : x_pre t s (t_M2 M0 t p) (e + 1).toInt := ⟨(), ⟨(), fun j hj => by rw [ms]; rw [mk 5 (by decide) (by decide)] at hj; exact hP.s.v hj⟩, fun _ => by rw [m3, m4, mk 2 (by decide) (by decide)]; exact ⟨⟨by omega, by omega⟩, by omega, by omega⟩⟩
                  have hf1 : 0 ≤ (e + 1).toInt := by omega
                  have hf2 : (e + 1).toInt ≤ 41 := by omega
                  have hf3 : 41 ≤ (e + 1).toInt + (d : Int) := by omega
                  rw [← e2] at hT2 hP2
                  have n41 : ¬ (41 : Int32) = -1 := by decide
                  repeat' (first | (with_reducible exact hT2) | (with_reducible exact hP2) | (with_reducible exact hf1) | (with_reducible exact hf2) | (with_reducible exact hf3) | (with_reducible exact n41) | (with_reducible exact h1) | (with_reducible exact h2) | (with_reducible exact h3) | (with_reducible exact hb) | (with_reducible exact h6) | (with_reducible exact h7) | (refine Exists.intro _ (Exists.intro _ (And.intro h2 (And.intro h6 ?_)))) | (refine Exists.intro _ (And.intro h2 ?_)) | (refine Exists.intro _ (And.intro h6 ?_)) | apply And.intro | exact rfl | (intro hx; with_reducible exact absurd hx zl) | (intro hx; with_reducible exact absurd zw1 hx) | (intro hx; with_reducible exact absurd q0 hx) | (intro hx; with_reducible exact absurd zp hx) | (intro hx; with_reducible exact absurd z8 hx) | (intro hx; exact absurd hx (by decide)) | (intro hx; exact absurd (by decide) hx) | decide | intro hx | (refine Exists.intro _ (And.intro rfl ?_)) | ((with_reducible change _ = true); simp only [h1, h2, h3, hb, h6, h7, Bool.true_and]; rfl))
                  all_goals try first | (with_reducible change am_tI _ _) | (change Ret _ _) | (change Ret _ _ _) | (change Exists _)
                  all_goals try dsimp only at *
                  all_goals try (with_reducible exact absurd ‹(1000 : Int64) = 0› am_z1000)
                  all_goals
                    rename_i M3 d1 d2
                    rw [e0, ec]
                    rw [e2] at d1 hx
                    exact ⟨_, am_lt_l (by decide), _, rfl, rfl, rfl, ⟨hp, hg.trans zp, zw, z⟩, d1, d2, hx⟩
      · cases hI
        obtain ⟨p, rfl, rfl, rfl, ⟨hp, hg, zw, z8⟩, d1, d2, x⟩ := hi
        rw [e0] at hp hg x
        rw [ec] at d1 x
        have pre := hP.w zw
        have w := x_par h5 h10 h9 hT hP.s hp hg zw ⟨pre.1.1, z8⟩ pre.2.2 d2 d1 x
        have c0 : am_ch (am_tS t c) M0 M := ((am_ch.rf.wI am_tS_3).wI am_tS_4).tr d1
        have n41 : ¬ (41 : Int32) = -1 := by decide
        by_cases w3 : M.1 t 6 = -1
        · have w2 := w.2 w3
          repeat' (first | (with_reducible exact d2) | (with_reducible exact n41) | (with_reducible exact h1) | (with_reducible exact h2) | (with_reducible exact h3) | (with_reducible exact hb) | (with_reducible exact h6) | (with_reducible exact h7) | (refine Exists.intro _ (Exists.intro _ (And.intro h2 (And.intro h6 ?_)))) | (refine Exists.intro _ (And.intro h2 ?_)) | (refine Exists.intro _ (And.intro h6 ?_)) | apply And.intro | exact rfl | (intro hx; with_reducible exact absurd w3 hx) | intro hx | (refine Exists.intro _ (And.intro rfl ?_)) | ((with_reducible change _ = true); simp only [h1, h2, h3, hb, h6, h7, Bool.true_and]; rfl))
          all_goals try first | (with_reducible change am_tI _ _) | (change Ret _ _) | (change Ret _ _ _) | (change Exists _)
          all_goals try dsimp only at *
          all_goals try (with_reducible exact absurd ‹(1000 : Int64) = 0› am_z1000)
          all_goals
            rename_i p' hp'
            rw [e0, ec]
          · exact ⟨_, am_lt_l (by decide), rfl, rfl, rfl, c0.wI am_tS_3, ((w2 p' hp').1 hx).2, ((w2 p' hp').1 hx).1⟩
          · exact ⟨_, am_lt_l (by decide), rfl, rfl, rfl, am_ch_blame (c0.wI am_tS_3), am_tI_blame (am_tI_w3 d2 hp'), (w2 p' hp').2 hx _⟩
        · have w2 := w.1 w3
          repeat' (first | (with_reducible exact d2) | (with_reducible exact n41) | (with_reducible exact h1) | (with_reducible exact h2) | (with_reducible exact h3) | (with_reducible exact hb) | (with_reducible exact h6) | (with_reducible exact h7) | (refine Exists.intro _ (Exists.intro _ (And.intro h2 (And.intro h6 ?_)))) | (refine Exists.intro _ (And.intro h2 ?_)) | (refine Exists.intro _ (And.intro h6 ?_)) | apply And.intro | exact rfl | (intro hx; with_reducible exact absurd hx w3) | intro hx | (refine Exists.intro _ (And.intro rfl ?_)) | ((with_reducible change _ = true); simp only [h1, h2, h3, hb, h6, h7, Bool.true_and]; rfl))
          all_goals try first | (with_reducible change am_tI _ _) | (change Ret _ _) | (change Ret _ _ _) | (change Exists _)
          all_goals try dsimp only at *
          all_goals try (with_reducible exact absurd ‹(1000 : Int64) = 0› am_z1000)
          all_goals
            rw [e0, ec]
            exact ⟨_, am_lt_l (by decide), rfl, rfl, rfl, c0, d2, w2 _⟩
      · cases hI
        obtain ⟨rfl, rfl, rfl, d1, d2, x⟩ := hi
        rw [e0, ec] at x
        rw [ec] at d1
        repeat' (first | (with_reducible exact h1) | (with_reducible exact h2) | (with_reducible exact h3) | (with_reducible exact hb) | (with_reducible exact h6) | (with_reducible exact h7) | (refine Exists.intro _ (Exists.intro _ (And.intro h2 (And.intro h6 ?_)))) | (refine Exists.intro _ (And.intro h2 ?_)) | (refine Exists.intro _ (And.intro h6 ?_)) | apply And.intro | exact rfl | intro hx | (refine Exists.intro _ (And.intro rfl ?_)) | ((with_reducible change _ = true); simp only [h1, h2, h3, hb, h6, h7, Bool.true_and]; rfl))
        all_goals try first | (with_reducible change am_tI _ _) | (change Ret _ _) | (change Ret _ _ _) | (change Exists _)
        all_goals try dsimp only at *
        all_goals try (with_reducible exact absurd ‹(1000 : Int64) = 0› am_z1000)
        all_goals exact h _ (d1.wI am_tS_4) (am_tI_4 d2) x
      · cases hI
    · exact h.elim
def kX5_readChainE (d n rc lc : Nat) (Tc : am_T) (live : am_E) (Ret : am_R) : am_code := [(0, am_iload 1 1), (1, am_const (.int 5) 2), (2, am_if2 (fun x y => x < y) 29 5), (5, am_aload 0 6), (6, am_getI live 5 3 9), (9, am_istore 3 6 10), (10, am_aload 0 11), (11, am_callV live 5 0 TE5_passSigns 14), (14, am_istore 4 6 16), (16, am_aload 0 17), (17, am_iload 2 18), (18, am_callV live 5 1 (TE5_readPlain d) 21), (21, am_aload 0 22), (22, am_iload 3 23), (23, am_iload 4 25), (25, am_callV live 5 2 TE5_emitSigns 28), (28, am_retV Ret), (29, am_aload 0 30), (30, am_iload 1 31), (31, am_const (.int 1) 32), (32, am_i2 (fun x y => x + y) 33), (33, am_iload 2 34), (34, am_callV live 5 2 Tc 37), (37, am_iload 1 38), (38, am_const (.int 2) 39), (39, am_if2 (fun x y => x = y) 42 46), (42, am_const (.int 1) 43), (43, am_goto 48), (46, am_const (.int 50) 48), (48, am_istore 3 6 49), (49, am_const (.int 0) 50), (50, am_istore 4 6 52), (52, am_iload 4 54), (54, am_iload 3 55), (55, am_if2 (fun x y => y ≤ x) 119 58), (58, am_aload 0 59), (59, am_getI live 5 6 62), (62, am_const (.int (-1)) 63), (63, am_if2 (fun x y => x = y) 66 119), (66, am_aload 0 67), (67, am_callV live 5 0 TX5_next 70), (70, am_callS live 1 TX5_levelOf 73), (73, am_iload 1 74), (74, am_if2 (fun x y => x = y) 77 119), (77, am_aload 0 78), (78, am_getR live 5 0 81), (81, am_aload 0 82), (82, am_getI live 5 3 85), (85, am_ald live 0 86), (86, am_istore 5 6 88), (88, am_aload 0 89), (89, am_dup 90), (90, am_getI live 5 3 93), (93, am_const (.int 1) 94), (94, am_i2 (fun x y => x + y) 95), (95, am_putI live 5 3 98), (98, am_aload 0 99), (99, am_iload 1 100), (100, am_const (.int 1) 101), (101, am_i2 (fun x y => x + y) 102), (102, am_iload 2 103), (103, am_callV live 5 2 Tc 106), (106, am_aload 0 107), (107, am_iload 5 109), (109, am_i1 (fun x => -x) 110), (110, am_callV live 5 1 TX5_emit 113), (113, am_iinc 4 6 1 116), (116, am_goto 52), (119, am_retV Ret)]
theorem koX5_readChainE (d n rc lc : Nat) (Tc : am_T) (hP : am_Met yX5_readPlain cX5_readPlain 3 none (4 + 8 * d + 1) (200 + 200 * d + 25) (TE5_readPlain d)) (hC : am_Met yX5_readChain cX5_readChain 6 none rc lc Tc) (hrc : rc + 1 ≤ 4 + 8 * d + 2 + n ∧ lc + 25 ≤ 200 + 200 * d + 50 + 25 * n) (live : am_E) (Ret : am_R) : ∀ q ∈ kX5_readChainE d n rc lc Tc live Ret, am_ok RX5 cX5_readChain 6 none (4 + 8 * d + 2 + n) (200 + 200 * d + 50 + 25 * n) live Ret q.1 q.2 :=
  am_kz dzX5_readChain <|
  am_kd (fun d => ak_iload_n d rfl rfl) <|
  am_kd (fun d => ak_iconst d (by decide +kernel) rfl) <|
  am_kd (fun d => ak_icmp_lt d (by decide +kernel) rfl) <|
  am_kd (fun d => ak_aload_n d rfl rfl) <|
  am_kd (fun d => ak_getI (C := RX5) (T := TX5) (N := 7) rfl inX5w (by decide) rfl rfl rfl wd_171 d rfl) <|
  am_kd (fun d => ak_istore_n d rfl rfl) <|
  am_kd (fun d => ak_aload_n d rfl rfl) <|
  am_kd (fun d => ak_callV (C := RX5) (F := TX5) (N := 7) metX5_passSignsE rfl ⟨rfl, hy_X5_passSigns⟩ (am_w5 wd_684 wd_686 wd_16 wd_65 wd_687) (by omega) d rfl) <|
  am_kd (fun d => ak_istore d rfl) <|
  am_kd (fun d => ak_aload_n d rfl rfl) <|
  am_kd (fun d => ak_iload_n d rfl rfl) <|
  am_kd (fun d => ak_callV (C := RX5) (F := TX5) (N := 7) hP rfl ⟨rfl, hy_X5_readPlain⟩ (am_w5 wd_692 wd_694 wd_18 wd_65 wd_695) (by omega) d rfl) <|
  am_kd (fun d => ak_aload_n d rfl rfl) <|
  am_kd (fun d => ak_iload_n d rfl rfl) <|
  am_kd (fun d => ak_iload d rfl) <|
  am_kd (fun d => ak_callV (C := RX5) (F := TX5) (N := 7) metX5_emitSignsE rfl ⟨rfl, hy_X5_emitSigns⟩ (am_w5 wd_711 wd_713 wd_22 wd_65 wd_714) (by omega) d rfl) <|
  am_kd (fun d => ak_retV d) <|
  am_kd (fun d => ak_aload_n d rfl rfl) <|
  am_kd (fun d => ak_iload_n d rfl rfl) <|
  am_kd (fun d => ak_iconst d (by decide +kernel) rfl) <|
  am_kd (fun d => ak_iadd d rfl) <|
  am_kd (fun d => ak_iload_n d rfl rfl) <|
  am_kd (fun d => ak_callV (C := RX5) (F := TX5) (N := 7) hC rfl ⟨rfl, hy_X5_readChain⟩ (am_w5 wd_680 wd_682 wd_15 wd_65 wd_683) (by omega) d rfl) <|
  am_kd (fun d => ak_iload_n d rfl rfl) <|
  am_kd (fun d => ak_iconst d (by decide +kernel) rfl) <|
  am_kd (fun d => ak_icmp_ne d (by decide +kernel) rfl) <|
  am_kd (fun d => ak_iconst d (by decide +kernel) rfl) <|
  am_kd (fun d => ak_goto d (by decide +kernel)) <|
  am_kd (fun d => ak_bipush d (by decide +kernel) rfl) <|
  am_kd (fun d => ak_istore_n d rfl rfl) <|
  am_kd (fun d => ak_iconst d (by decide +kernel) rfl) <|
  am_kd (fun d => ak_istore d rfl) <|
  am_kd (fun d => ak_iload d rfl) <|
  am_kd (fun d => ak_iload_n d rfl rfl) <|
  am_kd (fun d => ak_icmp_ge d (by decide +kernel) rfl) <|
  am_kd (fun d => ak_aload_n d rfl rfl) <|
  am_kd (fun d => ak_getI (C := RX5) (T := TX5) (N := 7) rfl inX5w (by decide) rfl rfl rfl wd_175 d rfl) <|
  am_kd (fun d => ak_iconst d (by decide +kernel) rfl) <|
  am_kd (fun d => ak_icmp_ne d (by decide +kernel) rfl) <|
  am_kd (fun d => ak_aload_n d rfl rfl) <|
  am_kd (fun d => ak_callV (C := RX5) (F := TX5) (N := 7) metX5_next rfl ⟨rfl, hy_X5_next⟩ (am_w5 wd_688 wd_690 wd_17 wd_65 wd_691) (by omega) d rfl) <|
  am_kd (fun d => ak_callS metX5_levelOf ⟨rfl, hy_X5_levelOf⟩ (am_w4 wd_715 wd_716 wd_65 wd_717) (by omega) d rfl) <|
  am_kd (fun d => ak_iload_n d rfl rfl) <|
  am_kd (fun d => ak_icmp_ne d (by decide +kernel) rfl) <|
  am_kd (fun d => ak_aload_n d rfl rfl) <|
  am_kd (fun d => ak_getR (C := RX5) (T := TX5) (N := 7) rfl inX5w (by decide) rfl rfl rfl wd_168 d rfl) <|
  am_kd (fun d => ak_aload_n d rfl rfl) <|
  am_kd (fun d => ak_getI (C := RX5) (T := TX5) (N := 7) rfl inX5w (by decide) rfl rfl rfl wd_171 d rfl) <|
  am_kd (fun d => ak_iald (t := 0) (fun _ => rfl) rfl d rfl) <|
  am_kd (fun d => ak_istore d rfl) <|
  am_kd (fun d => ak_aload_n d rfl rfl) <|
  am_kd (fun d => ak_dup d rfl) <|
  am_kd (fun d => ak_getI (C := RX5) (T := TX5) (N := 7) rfl inX5w (by decide) rfl rfl rfl wd_171 d rfl) <|
  am_kd (fun d => ak_iconst d (by decide +kernel) rfl) <|
  am_kd (fun d => ak_iadd d rfl) <|
  am_kd (fun d => ak_putI (C := RX5) (T := TX5) (N := 7) rfl inX5w tyX5_ok nmX5 (by decide) rfl rfl rfl rfl (by decide +kernel) wd_171 d rfl) <|
  am_kd (fun d => ak_aload_n d rfl rfl) <|
  am_kd (fun d => ak_iload_n d rfl rfl) <|
  am_kd (fun d => ak_iconst d (by decide +kernel) rfl) <|
  am_kd (fun d => ak_iadd d rfl) <|
  am_kd (fun d => ak_iload_n d rfl rfl) <|
  am_kd (fun d => ak_callV (C := RX5) (F := TX5) (N := 7) hC rfl ⟨rfl, hy_X5_readChain⟩ (am_w5 wd_680 wd_682 wd_15 wd_65 wd_683) (by omega) d rfl) <|
  am_kd (fun d => ak_aload_n d rfl rfl) <|
  am_kd (fun d => ak_iload d rfl) <|
  am_kd (fun d => ak_ineg d rfl) <|
  am_kd (fun d => ak_callV (C := RX5) (F := TX5) (N := 7) metX5_emit rfl ⟨rfl, hy_X5_emit⟩ (am_w5 wd_703 wd_705 wd_20 wd_65 wd_706) (by omega) d rfl) <|
  am_kd (fun d => ak_iinc d (by decide +kernel) rfl) <|
  am_kd (fun d => ak_goto d (by decide +kernel)) <|
  am_kd (fun d => ak_retV d) <| am_kdn
/-- the state of a chain at its turn -/
def x_tu (t s c : Nat) (l i : Int32) (M0 M : am_M) : Prop := ∃ _ : Unit, am_ch (am_tS t c) M0 M ∧ am_tI M t ∧ (0 ≤ i.toInt ∧ i.toInt ≤ 50 ∧ 0 ≤ l.toInt ∧ l.toInt < 5) ∧ ((i = 0 ∨ ¬ l = 2) → x_cl (l + 2) t s c M0 M) ∧ (¬ (i = 0 ∨ ¬ l = 2) → x_ch (l + 2) t s c M0 M) ∧ (M0.1 t 6 = -1 → M.1 t 6 = -1 → i.toInt + (M0.1 t 3).toInt ≤ (M.1 t 3).toInt)
def x_mo (l : Int32) : Int32 := if l = 2 then 1 else 50
def JE5_readChain : am_E → List Value → am_M → am_R → am_inv := fun live as M0 _ pc => match as with
  | [.ref t, .int l, .int e] => (match pc with
    | 14 => some ([0, 1, 2, 3], fun k L st M => ∃ q : Int32, L = [(0, .ref t), (1, .int l), (2, .int e), (3, .int (M0.1 t 3))] ∧ st = [.int q] ∧ k = (60, 2) ∧ M = am_wI M0 t 3 q ∧ ((M0.1 t 3).toInt ≤ q.toInt ∧ q.toInt ≤ (M0.1 t 5).toInt ∧ 5 ≤ l.toInt) ∧ x_un (M0.1 ((live.2 t 0).getD 0)) (t_n M0 t) (t_p M0 t) q.toNatClampNeg ∧ (∀ q' g, w_nx (M0.1 ((live.2 t 0).getD 0)) (t_n M0 t) q.toNatClampNeg q' g → g ≠ 33 ∧ g ≠ 45))
    | 21 => some ([0, 3, 4], fun k L st M => ∃ q : Int32, L = [(0, .ref t), (3, .int (M0.1 t 3)), (4, .int q)] ∧ st = [] ∧ k = (60, 1) ∧ ((M0.1 t 3).toInt ≤ q.toInt ∧ q.toInt ≤ (M0.1 t 5).toInt ∧ 5 ≤ l.toInt) ∧ x_un (M0.1 ((live.2 t 0).getD 0)) (t_n M0 t) (t_p M0 t) q.toNatClampNeg ∧ am_ch (am_tS t ((live.2 t 1).getD 0)) (am_wI M0 t 3 q) M ∧ am_tI M t ∧ x_pl t ((live.2 t 0).getD 0) ((live.2 t 1).getD 0) (am_wI M0 t 3 q) M)
    | 37 => some ([0, 1, 2], fun k L st M => L = [(0, .ref t), (1, .int l), (2, .int e)] ∧ st = [] ∧ k = (60, 0) ∧ (0 ≤ l.toInt ∧ l.toInt < 5) ∧ am_ch (am_tS t ((live.2 t 1).getD 0)) M0 M ∧ am_tI M t ∧ x_ch (l + 1 + 2) t ((live.2 t 0).getD 0) ((live.2 t 1).getD 0) M0 M)
    | 52 => some ([0, 1, 2, 3, 4], fun k L st M => ∃ i : Int32, L = [(0, .ref t), (1, .int l), (2, .int e), (3, .int (x_mo l)), (4, .int i)] ∧ st = [] ∧ k = ((51 - i.toInt).toNat, 3) ∧ x_tu t ((live.2 t 0).getD 0) ((live.2 t 1).getD 0) l i M0 M)
    | 70 => some ([0, 1, 2, 3, 4], fun k L st M => ∃ (i q : Int32) (Mb : am_M), L = [(0, .ref t), (1, .int l), (2, .int e), (3, .int (x_mo l)), (4, .int i)] ∧ st = [.int (am_sign Mb t ((live.2 t 0).getD 0) q)] ∧ k = ((51 - i.toInt).toNat, 2) ∧ x_tu t ((live.2 t 0).getD 0) ((live.2 t 1).getD 0) l i M0 Mb ∧ (¬ x_mo l ≤ i ∧ Mb.1 t 6 = -1) ∧ am_skip Mb t ((live.2 t 0).getD 0) q ∧ M = am_wI Mb t 3 q)
    | 106 => some ([0, 1, 2, 3, 4, 5], fun k L st M => ∃ (i q : Int32) (Mb : am_M), L = [(0, .ref t), (1, .int l), (2, .int e), (3, .int (x_mo l)), (4, .int i), (5, .int (am_sign Mb t ((live.2 t 0).getD 0) q))] ∧ st = [] ∧ k = ((51 - i.toInt).toNat, 1) ∧ x_tu t ((live.2 t 0).getD 0) ((live.2 t 1).getD 0) l i M0 Mb ∧ (¬ x_mo l ≤ i ∧ Mb.1 t 6 = -1) ∧ (am_skip Mb t ((live.2 t 0).getD 0) q ∧ am_level (am_sign Mb t ((live.2 t 0).getD 0) q) = l) ∧ am_ch (am_tS t ((live.2 t 1).getD 0)) (am_wI Mb t 3 (q + 1)) M ∧ am_tI M t ∧ x_ch (l + 1 + 2) t ((live.2 t 0).getD 0) ((live.2 t 1).getD 0) (am_wI Mb t 3 (q + 1)) M)
    | _ => none)
  | _ => none
theorem w_lev {c l : Int32} (hl : 0 ≤ l.toInt ∧ l.toInt < 5) : (am_level c = l → r_clo c = l + 2 ∧ am_ops c = 2 ∧ 0 < c.toInt) ∧ (¬ am_level c = l → r_clo c ≠ l + 2) := by
  have h5 : l = 0 ∨ l = 1 ∨ l = 2 ∨ l = 3 ∨ l = 4 := by
    simp only [i_eq, Int32.reduceToInt]
    omega
  constructor
  · intro h
    unfold am_level at h
    split at h
    · next z => subst z; subst h; exact ⟨by decide, by decide, by decide⟩
    · split at h
      · next z => subst z; subst h; exact ⟨by decide, by decide, by decide⟩
      · split at h
        · next z => subst h; rcases z with rfl | rfl | rfl <;> exact ⟨by decide, by decide, by decide⟩
        · split at h
          · next z => subst h; rcases z with rfl | rfl <;> exact ⟨by decide, by decide, by decide⟩
          · split at h
            · next z => subst h; rcases z with rfl | rfl <;> exact ⟨by decide, by decide, by decide⟩
            · subst h; exact absurd hl.2 (by decide)
  · intro h e
    apply h
    unfold r_clo at e
    unfold am_level
    split at e
    · next z =>
      have e4 : l = 4 := by rcases h5 with rfl | rfl | rfl | rfl | rfl <;> first | rfl | exact absurd e (by decide)
      rcases z with rfl | rfl <;> (rw [e4]; decide)
    · split at e
      · next z =>
        have e4 : l = 3 := by rcases h5 with rfl | rfl | rfl | rfl | rfl <;> first | rfl | exact absurd e (by decide)
        rcases z with rfl | rfl <;> (rw [e4]; decide)
      · split at e
        · next z =>
          have e4 : l = 2 := by rcases h5 with rfl | rfl | rfl | rfl | rfl <;> first | rfl | exact absurd e (by decide)
          rcases z with rfl | rfl | rfl <;> (rw [e4]; decide)
        · split at e
          · next z =>
            have e4 : l = 1 := by rcases h5 with rfl | rfl | rfl | rfl | rfl <;> first | rfl | exact absurd e (by decide)
            rw [z, e4]; decide
          · split at e
            · next z =>
              have e4 : l = 0 := by rcases h5 with rfl | rfl | rfl | rfl | rfl <;> first | rfl | exact absurd e (by decide)
              rw [z, e4]; decide
            · rcases h5 with rfl | rfl | rfl | rfl | rfl <;> exact absurd e (by decide)
section CHN
variable {M M1 M2 M3 M4 : am_M} {t s c : Nat} {q l : Int32}
theorem w3_f (M : am_M) (t s c : Nat) (q : Int32) (h9 : t ≠ s) (h10 : t ≠ c) : (am_wI M t 3 q).1 t 3 = q ∧ (∀ k, k ≠ 3 → (am_wI M t 3 q).1 t k = M.1 t k) ∧ (am_wI M t 3 q).1 s = M.1 s ∧ (am_wI M t 3 q).1 c = M.1 c := by
  refine ⟨?_, fun k hk => ?_, funext fun j => ?_, funext fun j => ?_⟩
  · rw [am_wI_1, if_pos ⟨rfl, rfl⟩]
  · rw [am_wI_1, if_neg (fun z => hk z.2)]
  · rw [am_wI_1, if_neg (fun z => h9 z.1.symm)]
  · rw [am_wI_1, if_neg (fun z => h10 z.1.symm)]
theorem x_unitm (h9 : t ≠ s) (h10 : t ≠ c) (h5 : s ≠ c) (xu : x_un (M.1 s) (t_n M t) (t_p M t) q.toNatClampNeg) (c2 : am_ch (am_tS t c) (am_wI M t 3 q) M2) (x : x_pl t s c (am_wI M t 3 q) M2) (hcap : M.1 t 6 = -1 → (M.1 t 2).toInt ≤ (M.1 t 3).toInt) (hT : am_tI M t) (hT2 : am_tI M2 t) :
    (t_c M2 t + (w_un (M2.1 s) (M.1 t 3).toNatClampNeg (q.toNatClampNeg - (M.1 t 3).toNatClampNeg)).length ≤ 50 ∨ ¬ M2.1 t 6 = -1) ∧ ∀ M3 : am_M, (M3.1 t 3 = M2.1 t 3 ∧ M3.1 t 4 = M2.1 t 4 ∧ M3.1 t 6 = M2.1 t 6) → (M2.1 t 6 = -1 → x_em (M2.1 s) (M2.1 c) (M3.1 c) (t_c M2 t) (t_c M3 t) (M.1 t 3).toNatClampNeg q.toNatClampNeg) → x_ch 7 t s c M M3 := by
  obtain ⟨f3, fk, fs, fc⟩ := w3_f M t s c q h9 h10
  have s2 : M2.1 s = M.1 s := (funext fun j => am_ch_s c2 h5 h9 j).trans fs
  have en : t_n (am_wI M t 3 q) t = t_n M t := by unfold t_n; rw [fk 5 (by decide)]
  have ep : t_p (am_wI M t 3 q) t = q.toNatClampNeg := by unfold t_p; rw [f3]
  have eo : t_o (am_wI M t 3 q) t = t_o M t := by unfold t_o; rw [fk 4 (by decide)]
  have ec : t_c (am_wI M t 3 q) t = t_c M t := by unfold t_c; rw [fk 2 (by decide)]
  have a := hT.p
  have a2 := hT2.p
  have key : M.1 t 6 = -1 → M2.1 t 6 = -1 → M2.1 t 4 = M.1 t 4 ∧ y_io q.toNatClampNeg (t_c M t) (t_p M2 t) (t_c M2 t) (M.1 c) (M2.1 c) (fun fa p' v => s_pl fa (M.1 s) (t_n M t) q.toNatClampNeg p' (t_o M t) v) := fun w w2 => by
    obtain ⟨y4, y⟩ := x.y (by rw [fk 6 (by decide)]; exact w) w2
    rw [fk 4 (by decide)] at y4
    rw [ec, ep, fs, fc, en, eo] at y
    exact ⟨y4, y⟩
  have k6 : ¬ M.1 t 6 = -1 → M2.1 t 6 = M.1 t 6 := fun w => by
    have z := x.n (by rw [fk 6 (by decide)]; exact w)
    rwa [fk 6 (by decide)] at z
  have n2 : M2.1 t 5 = M.1 t 5 := (am_ch_t5 c2 h10).trans (fk 5 (by decide))
  refine ⟨?_, fun M3 e hem => ?_⟩
  · by_cases w2 : M2.1 t 6 = -1
    · left
      have w : M.1 t 6 = -1 := by
        by_cases z : M.1 t 6 = -1
        · exact z
        · rw [← k6 z]; exact w2
      obtain ⟨-, b1, b2, b3, -⟩ := key w w2
      have l := w_un_len (σ := M2.1 s) (b := (M.1 t 3).toNatClampNeg) (q.toNatClampNeg - (M.1 t 3).toNatClampNeg)
      have hp := xu.1
      have hc := hcap w
      have ek : t_p M t = (M.1 t 3).toNatClampNeg := rfl
      rw [n2] at a2
      omega
    · exact Or.inr w2
  · by_cases w : M.1 t 6 = -1
    · by_cases w2 : M2.1 t 6 = -1
      · obtain ⟨y4, y⟩ := key w w2
        have em := hem w2
        rw [s2] at em
        refine x_io.ok w (by rw [e.2.2]; exact w2) (by rw [e.2.1]; exact y4) ?_
        rw [show t_p M3 t = t_p M2 t by unfold t_p; rw [e.1]]
        exact y.unit xu em
      · refine x_io.bad w (by rw [e.2.2]; exact w2) (fun fa => ?_)
        rw [e.2.2]
        have z := x.f (by rw [fk 6 (by decide)]; exact w) w2 fa
        rw [fs, en, ep, eo] at z
        exact s_unitb (fun W V => xu.2.2 fa W V) z
    · exact x_io.no w (by rw [e.2.2]; exact k6 w)
theorem i_l2 (hl : 0 ≤ l.toInt ∧ l.toInt ≤ 5) : (l + 2).toInt = l.toInt + 2 ∧ (l + 1 + 2).toInt = l.toInt + 3 := by
  have a := i_add (x := l) (y := 2) (by simp only [Int32.reduceToInt]; omega) (by simp only [Int32.reduceToInt]; omega)
  have b := i_add (x := l) (y := 1) (by simp only [Int32.reduceToInt]; omega) (by simp only [Int32.reduceToInt]; omega)
  simp only [Int32.reduceToInt] at a b
  have d := i_add (x := l + 1) (y := 2) (by simp only [Int32.reduceToInt]; omega) (by simp only [Int32.reduceToInt]; omega)
  simp only [Int32.reduceToInt] at d
  exact ⟨a, by omega⟩
theorem x_first (hl : 0 ≤ l.toInt ∧ l.toInt < 5) (x : x_ch (l + 1 + 2) t s c M M1) : x_cl (l + 2) t s c M M1 := by
  have e := i_l2 (l := l) ⟨hl.1, by omega⟩
  by_cases w : M.1 t 6 = -1
  · by_cases w1 : M1.1 t 6 = -1
    · obtain ⟨y4, y⟩ := x.y w w1
      obtain ⟨b1, b2, b3, b4, b5⟩ := y
      exact x_io.ok w w1 y4 ⟨b1, b2, b3, b4, fun fa => by
        obtain ⟨v, u, z⟩ := b5 fa
        exact ⟨v, u, s_cl.of z (by omega)⟩⟩
    · exact x_io.bad w w1 (fun fa => (x.f w w1 fa).up (by omega))
  · exact x_io.no w (x.n w)
/-- the chain ends here: what follows isn't of it -/
theorem x_cl.end (h9 : t ≠ s) (h10 : t ≠ c) (h5 : s ≠ c) (hT : am_tI M t) (hT1 : am_tI M1 t) (hs : x_sg t s M) (c1 : am_ch (am_tS t c) M M1) (x : x_cl (l + 2) t s c M M1) (hp : am_skip M1 t s q) (w1 : M1.1 t 6 = -1) (hk : r_clo (am_sign M1 t s q) ≠ l + 2) : x_ch (l + 2) t s c M (am_wI M1 t 3 q) := by
  obtain ⟨f3, fk, fs, fc⟩ := w3_f M1 t s c q h9 h10
  have s1 : M1.1 s = M.1 s := funext fun j => am_ch_s c1 h5 h9 j
  have n1 : M1.1 t 5 = M.1 t 5 := am_ch_t5 c1 h10
  obtain ⟨nx, cq⟩ := x_nx hT1 (s := s) ⟨(), fun j hj => by rw [s1]; rw [n1] at hj; exact hs.v hj⟩ hp
  rw [s1, show t_n M1 t = t_n M t by unfold t_n; rw [n1]] at nx
  by_cases w : M.1 t 6 = -1
  · obtain ⟨y4, b1, b2, b3, b4, b5⟩ := x.y w w1
    refine x_io.ok w (by rw [fk 6 (by decide)]; exact w1) (by rw [fk 4 (by decide)]; exact y4) ?_
    rw [show t_p (am_wI M1 t 3 q) t = q.toNatClampNeg by unfold t_p; rw [f3], show t_c (am_wI M1 t 3 q) t = t_c M1 t by unfold t_c; rw [fk 2 (by decide)], fc]
    have hq := nx.1
    exact ⟨by omega, b2, by omega, b4, fun fa => by
      obtain ⟨v, u, z⟩ := b5 fa
      exact ⟨v, u, z.e nx hk⟩⟩
  · exact absurd (x.n w) (fun z => w (z ▸ w1))
/-- the text ends -/
theorem x_cl.fin (h9 : t ≠ s) (h10 : t ≠ c) (hT : am_tI M t) (hT1 : am_tI M1 t) (c1 : am_ch (am_tS t c) M M1) (x : x_cl (l + 2) t s c M M1) (hl : 0 ≤ l.toInt ∧ l.toInt < 5) (hn : M.1 t 6 = -1 → M1.1 t 6 = -1 → (M1.1 t 5).toInt ≤ (M1.1 t 3).toInt) : x_ch (l + 2) t s c M M1 := by
  have e := i_l2 (l := l) ⟨hl.1, by omega⟩
  by_cases w : M.1 t 6 = -1
  · by_cases w1 : M1.1 t 6 = -1
    · obtain ⟨y4, b1, b2, b3, b4, b5⟩ := x.y w w1
      have hn := hn w w1
      have a1 := hT1.p
      have n1 : M1.1 t 5 = M.1 t 5 := am_ch_t5 c1 h10
      have tn : t_n M1 t = t_n M t := by unfold t_n; rw [n1]
      have nx : w_nx (M.1 s) (t_n M t) (t_p M1 t) (t_p M1 t) (-1) := ⟨Nat.le_refl _, by omega, fun j z1 z2 => by omega, fun z => by omega, fun _ => rfl⟩
      refine x_io.ok w w1 y4 ⟨b1, b2, b3, b4, fun fa => ?_⟩
      obtain ⟨v, u, z⟩ := b5 fa
      exact ⟨v, u, z.e nx (fun y => by
        have y2 : (r_clo (-1)).toInt = (l + 2).toInt := by rw [y]
        rw [show r_clo (-1) = 0 by decide] at y2
        simp only [Int32.reduceToInt] at y2
        omega)⟩
    · exact x_io.bad w w1 (fun fa => x.f w w1 fa)
  · exact x_io.no w (x.n w)
/-- one more -/
theorem x_cl.step (h9 : t ≠ s) (h10 : t ≠ c) (h5 : s ≠ c) (hT : am_tI M t) (hT1 : am_tI M1 t) (hT3 : am_tI M3 t) (hs : x_sg t s M) (hcap : M.1 t 6 = -1 → (M.1 t 2).toInt ≤ (M.1 t 3).toInt) (hl : 0 ≤ l.toInt ∧ l.toInt < 5) (c1 : am_ch (am_tS t c) M M1) (x : x_cl (l + 2) t s c M M1) (hp : am_skip M1 t s q) (w1 : M1.1 t 6 = -1) (hk : am_level (am_sign M1 t s q) = l) (c3 : am_ch (am_tS t c) (am_wI M1 t 3 (q + 1)) M3) (x3 : x_ch (l + 1 + 2) t s c (am_wI M1 t 3 (q + 1)) M3) :
    (¬ l = 2 → x_cl (l + 2) t s c M (am_emit M3 t c (-(am_sign M1 t s q)))) ∧ (l = 2 → x_ch (l + 2) t s c M (am_emit M3 t c (-(am_sign M1 t s q)))) ∧ (M3.1 t 6 = -1 → (M1.1 t 3).toInt + 1 ≤ (M3.1 t 3).toInt) := by
  obtain ⟨e2, e3⟩ := i_l2 (l := l) ⟨hl.1, by omega⟩
  obtain ⟨f3, fk, fs, fc⟩ := w3_f M1 t s c (q + 1) h9 h10
  have s1 : M1.1 s = M.1 s := funext fun j => am_ch_s c1 h5 h9 j
  have n1 : M1.1 t 5 = M.1 t 5 := am_ch_t5 c1 h10
  obtain ⟨nx, cq⟩ := x_nx hT1 (s := s) ⟨(), fun j hj => by rw [s1]; rw [n1] at hj; exact hs.v hj⟩ hp
  rw [s1, show t_n M1 t = t_n M t by unfold t_n; rw [n1]] at nx
  obtain ⟨k1, k2, k3⟩ := (w_lev hl).1 hk
  generalize am_sign M1 t s q = g at *
  have ha := nx.at (fun z => by rw [z] at k3; exact absurd k3 (by decide))
  have a := hT.p
  have a1 := hT1.p
  have a3 := hT3.p
  have p1 := hp.1
  have p2 := hp.2.1
  have hi := i_inc (x := q) (by omega) (by omega)
  have cq1 := i_clamp (x := q + 1) (by omega)
  have n3 : M3.1 t 5 = M.1 t 5 := (am_ch_t5 c3 h10).trans ((fk 5 (by decide)).trans n1)
  have en : t_n (am_wI M1 t 3 (q + 1)) t = t_n M t := by unfold t_n; rw [fk 5 (by decide), n1]
  have ep : t_p (am_wI M1 t 3 (q + 1)) t = q.toNatClampNeg + 1 := by unfold t_p; rw [f3]; omega
  have eo : t_o (am_wI M1 t 3 (q + 1)) t = t_o M1 t := by unfold t_o; rw [fk 4 (by decide)]
  have ec : t_c (am_wI M1 t 3 (q + 1)) t = t_c M1 t := by unfold t_c; rw [fk 2 (by decide)]
  have w : M.1 t 6 = -1 := by
    by_cases z : M.1 t 6 = -1
    · exact z
    · exact absurd (x.n z) (fun y => z (y ▸ w1))
  have wq : (am_wI M1 t 3 (q + 1)).1 t 6 = -1 := by rw [fk 6 (by decide)]; exact w1
  obtain ⟨y4, y⟩ := x.y w w1
  have eo2 : t_o M1 t = t_o M t := by unfold t_o; rw [y4]
  have g6 : ∀ v, (am_emit M3 t c v).1 t 6 = M3.1 t 6 := fun v => am_emit_f h10 (by decide)
  have g4 : ∀ v, (am_emit M3 t c v).1 t 4 = M3.1 t 4 := fun v => am_emit_f h10 (by decide)
  have g3 : ∀ v, (am_emit M3 t c v).1 t 3 = M3.1 t 3 := fun v => am_emit_f h10 (by decide)
  have hc := hcap w
  by_cases w3 : M3.1 t 6 = -1
  · obtain ⟨z4, z⟩ := x3.y wq w3
    rw [ec, ep, fs, fc, s1, en, eo, eo2] at z
    rw [fk 4 (by decide)] at z4
    obtain ⟨u1, u2, u3, u4⟩ := y
    obtain ⟨v1, v2, v3, v4⟩ := z
    have cap : t_c M3 t < 50 := by rw [n3] at a3; omega
    obtain ⟨r1, r2, r3⟩ := am_emit_y (v := -g) h10 hT3 cap
    have hq := nx.1
    have res : ∀ (G3 : (Int32 → Int64) → Nat → Int64 → Prop), (∀ fa v1 v2, s_cl fa (M.1 s) (t_n M t) (t_p M t) (t_p M1 t) (t_o M t) (l + 2) v1 → s_ch fa (M.1 s) (t_n M t) (q.toNatClampNeg + 1) (t_p M3 t) (t_o M t) (l + 1 + 2) v2 → G3 fa (t_p M3 t) (am_join g v1 v2)) → M3.1 t 4 = M.1 t 4 ∧ y_io (t_p M t) (t_c M t) (t_p (am_emit M3 t c (-g)) t) (t_c (am_emit M3 t c (-g)) t) (M.1 c) ((am_emit M3 t c (-g)).1 c) G3 := fun G3 hG => by
      rw [show t_p (am_emit M3 t c (-g)) t = t_p M3 t by unfold t_p; rw [g3], r1]
      exact ⟨z4.trans y4, y_io.op (G := fun fa p' v => s_cl fa (M.1 s) (t_n M t) (t_p M t) p' (t_o M t) (l + 2) v) (G1 := fun fa p' v => s_ch fa (M.1 s) (t_n M t) (q.toNatClampNeg + 1) p' (t_o M t) (l + 1 + 2) v) (G3 := G3) ⟨u1, u2, u3, u4⟩ hq ⟨v1, v2, v3, v4⟩ r3 r2 ⟨k2, k3⟩ hG⟩
    refine ⟨fun hl2 => ?_, fun hl2 => ?_, fun _ => by omega⟩
    · have q := res (fun fa p' v => s_cl fa (M.1 s) (t_n M t) (t_p M t) p' (t_o M t) (l + 2) v) (fun fa v1 v2 b1 b2 => b1.s nx k1 (by omega) (by omega) b2 (fun y => hl2 (by rw [i_eq] at y ⊢; simp only [Int32.reduceToInt] at y ⊢; omega)))
      exact x_io.ok w (by rw [g6]; exact w3) (by rw [g4]; exact q.1) q.2
    · subst hl2
      have e22 : (2 : Int32) + 2 = 4 := by decide
      have e23 : (2 : Int32) + 1 + 2 = 5 := by decide
      have q := res (fun fa p' v => s_ch fa (M.1 s) (t_n M t) (t_p M t) p' (t_o M t) (2 + 2) v) (fun fa v1 v2 b1 b2 => by
        rw [e22] at b1 k1 ⊢
        rw [e23] at b2
        exact s_cl.h b1 nx k1 b2)
      exact x_io.ok w (by rw [g6]; exact w3) (by rw [g4]; exact q.1) q.2
  · have bad : ∀ fa, s_bd fa (M.1 s) (t_n M t) (t_p M t) (t_o M t) (l + 2).toInt ((am_emit M3 t c (-g)).1 t 6).toInt := fun fa => by
      rw [g6]
      have z := x3.f wq w3 fa
      rw [fs, s1, en, ep, eo, eo2] at z
      obtain ⟨u1, u2, u3, u4, u5⟩ := y
      obtain ⟨v, -, h⟩ := u5 fa
      exact h.b nx k1 (by omega) (show (l + 2).toInt < (l + 1 + 2).toInt by omega) z
    exact ⟨fun _ => x_io.bad w (by rw [g6]; exact w3) bad, fun _ => x_io.bad w (by rw [g6]; exact w3) bad, fun z => absurd z w3⟩
end CHN
end
-- part 79g.text5.lean.txt
section
/-! texts: the class's reader, exact, IV: chains, values, all of it -/
theorem x_pre.m {t s c : Nat} {M : am_M} {e : Int} {q : Int32} (h9 : t ≠ s) (h10 : t ≠ c) (h : x_pre t s M e) (hq : (M.1 t 3).toInt ≤ q.toInt) : x_pre t s (am_wI M t 3 q) e := by
  obtain ⟨f3, fk, fs, fc⟩ := w3_f M t s c q h9 h10
  refine ⟨(), ⟨(), fun j hj => ?_⟩, fun w => ?_⟩
  · rw [fs]
    rw [fk 5 (by decide)] at hj
    exact h.s.v hj
  · rw [fk 6 (by decide)] at w
    have p := h.w w
    rw [fk 4 (by decide), fk 2 (by decide), f3]
    exact ⟨p.1, by omega, by omega⟩
theorem x_pre.io {t s c : Nat} {M M1 : am_M} {e : Int} {G : (Int32 → Int64) → Nat → Int64 → Prop} {F : (Int32 → Int64) → Int → Prop} (h9 : s ≠ c) (h5 : t ≠ s) (h10 : t ≠ c) (h : x_pre t s M e) (hT : am_tI M t) (hT1 : am_tI M1 t) (c1 : am_ch (am_tS t c) M M1) (x : x_io t c M M1 G F) : x_pre t s M1 e := by
  have s1 : M1.1 s = M.1 s := funext fun j => am_ch_s c1 h9 h5 j
  have n1 : M1.1 t 5 = M.1 t 5 := am_ch_t5 c1 h10
  refine ⟨(), ⟨(), fun j hj => ?_⟩, fun w1 => ?_⟩
  · rw [s1]
    rw [n1] at hj
    exact h.s.v hj
  · by_cases w : M.1 t 6 = -1
    · obtain ⟨y4, b1, b2, b3, -⟩ := x.y w w1
      have p := h.w w
      have a := hT.p
      have a1 := hT1.p
      rw [y4]
      exact ⟨p.1, by omega, by omega⟩
    · exact absurd (x.n w) (fun y => w (y ▸ w1))
theorem am_tI.m {t : Nat} {M : am_M} {q : Int32} (h : am_tI M t) (h1 : (M.1 t 3).toInt ≤ q.toInt) (h2 : q.toInt ≤ (M.1 t 5).toInt) : am_tI (am_wI M t 3 q) t := by
  have a := h.p
  refine am_tI_of ?_ ?_ ?_ ?_ ?_
  all_goals simp [am_wI_1]
  all_goals omega
theorem x_io.g {t c : Nat} {M M1 : am_M} {G : (Int32 → Int64) → Nat → Int64 → Prop} {F : (Int32 → Int64) → Int → Prop} (x : x_io t c M M1 G F) (hT : am_tI M t) (hT1 : am_tI M1 t) (w : M.1 t 6 = -1) (w1 : M1.1 t 6 = -1) : (M.1 t 3).toInt ≤ (M1.1 t 3).toInt := by
  obtain ⟨-, b1, -⟩ := x.y w w1
  have a := hT.p
  have a1 := hT1.p
  omega
theorem x_mo2 {l i : Int32} (hl : l = 2) (h : ¬ x_mo l ≤ i) (hi : 0 ≤ i.toInt) : i = 0 := by
  unfold x_mo at h
  rw [if_pos hl, i_le] at h
  simp only [Int32.reduceToInt] at h
  rw [i_eq]
  simp only [Int32.reduceToInt]
  omega
set_option maxRecDepth 100000 in
set_option maxHeartbeats 4000000 in
theorem metX5_readChainGE (d n rc lc : Nat) (Tc : am_T) (hP : am_Met yX5_readPlain cX5_readPlain 3 none (4 + 8 * d + 1) (200 + 200 * d + 25) (TE5_readPlain d)) (hC : am_Met yX5_readChain cX5_readChain 6 none rc lc Tc) (hrc : rc + 1 ≤ 4 + 8 * d + 2 + n ∧ lc + 25 ≤ 200 + 200 * d + 50 + 25 * n)
    (hT0 : ∀ (live : am_E) (t s c : Nat) (l e : Int32) (M : am_M) (R : am_R), live.2 t 0 = some s → live.2 t 1 = some c → am_tc live t s c = true → am_tI M t → x_pre t s M e.toInt → 0 ≤ l.toInt → l.toInt < 5 → 5 ≤ l.toInt + (n : Int) → 0 ≤ e.toInt → e.toInt ≤ 40 → 40 ≤ e.toInt + (d : Int) → (∀ M', am_ch (am_tS t c) M M' → am_tI M' t → x_ch (l + 1 + 2) t s c M M' → R none M') → Tc live [.ref t, .int (l + 1), .int e] M R) :
    am_Met yX5_readChain cX5_readChain 6 none (4 + 8 * d + 2 + n) (200 + 200 * d + 50 + 25 * n) (TE5_readChain d n) := by
  refine am_met (own := RX5) (by decide +kernel) rfl (kX5_readChainE d n rc lc Tc) (koX5_readChainE d n rc lc Tc hP hC hrc) 120 JE5_readChain ?_ ?_
  · intro live as M Ret h
    unfold TE5_readChain at h
    split at h
    · next t l e =>
      refine ⟨Nat.le_of_ble_eq_true rfl, ?_⟩
      change am_wp _ _ _ _ [(0, Value.ref t), (1, Value.int l), (2, Value.int e)] _ _
      have hh := am_tP_mp h
      clear h
      obtain ⟨s, c, h2, h6, hb, h1, h3, h7, h4, h8, h9, h5, h10, hT, hPr, ⟨hl1, hl2, hl3⟩, he1, he2, he3, h⟩ := hh
      have e0 : (live.2 t 0).getD 0 = s := by rw [h2]; rfl
      have ec : (live.2 t 1).getD 0 = c := by rw [h6]; rfl
      by_cases z5 : l < 5
      · have z6 := z5
        simp only [i_lt, Int32.reduceToInt] at z6
        repeat' (first | (with_reducible exact hT) | (with_reducible exact h1) | (with_reducible exact h2) | (with_reducible exact h3) | (with_reducible exact hb) | (with_reducible exact h6) | (with_reducible exact h7) | (refine Exists.intro _ (Exists.intro _ (And.intro h2 (And.intro h6 ?_)))) | (refine Exists.intro _ (And.intro h2 ?_)) | (refine Exists.intro _ (And.intro h6 ?_)) | apply And.intro | exact rfl | (intro hx; with_reducible exact absurd z5 hx) | intro hx | (refine Exists.intro _ (And.intro rfl ?_)) | (refine hT0 _ _ s c _ _ _ _ h2 h6 hb hT hPr hl1 z6 hl3 he1 he2 he3 (fun M' c' i' x' => ?_)) | ((with_reducible change _ = true); simp only [h1, h2, h3, hb, h6, h7, Bool.true_and]; rfl))
        all_goals try first | (with_reducible change am_tI _ _) | (change Ret _ _) | (change Ret _ _ _) | (change Exists _)
        all_goals try dsimp only at *
        all_goals try (with_reducible exact absurd ‹(1000 : Int64) = 0› am_z1000)
        all_goals
          rw [e0, ec]
          exact ⟨_, rfl, rfl, rfl, ⟨hl1, z6⟩, c', i', x'⟩
      · have z6 := z5
        simp only [i_lt, Int32.reduceToInt] at z6
        have hsg := hPr.s
        repeat' (first | (with_reducible exact hT) | (with_reducible exact hsg) | (with_reducible exact h1) | (with_reducible exact h2) | (with_reducible exact h3) | (with_reducible exact hb) | (with_reducible exact h6) | (with_reducible exact h7) | (refine Exists.intro _ (Exists.intro _ (And.intro h2 (And.intro h6 ?_)))) | (refine Exists.intro _ (And.intro h2 ?_)) | (refine Exists.intro _ (And.intro h6 ?_)) | apply And.intro | exact rfl | (intro hx; with_reducible exact absurd hx z5) | intro hx | (refine Exists.intro _ (And.intro rfl ?_)) | ((with_reducible change _ = true); simp only [h1, h2, h3, hb, h6, h7, Bool.true_and]; rfl))
        all_goals try first | (with_reducible change am_tI _ _) | (change Ret _ _) | (change Ret _ _ _) | (change Exists _)
        all_goals try dsimp only at *
        all_goals try (with_reducible exact absurd ‹(1000 : Int64) = 0› am_z1000)
        all_goals
          rename_i q q1 q2 q3
          rw [e0]
          exact ⟨_, _, rfl, rfl, rfl, rfl, ⟨q1, q2, by omega⟩, q3, hx⟩
    · exact h.elim
  · intro live as M0 Ret h k pc I hI L st M hi
    unfold TE5_readChain at h
    split at h
    · next t l e =>
      have hh := am_tP_mp h
      clear h
      obtain ⟨s, c, h2, h6, hb, h1, h3, h7, h4, h8, h9, h5, h10, hT, hPr, ⟨hl1, hl2, hl3⟩, he1, he2, he3, h⟩ := hh
      have e0 : (live.2 t 0).getD 0 = s := by rw [h2]; rfl
      have ec : (live.2 t 1).getD 0 = c := by rw [h6]; rfl
      have a := hT.p
      change (match pc with | 14 => _ | 21 => _ | 37 => _ | 52 => _ | 70 => _ | 106 => _ | _ => none) = _ at hI
      split at hI
      · cases hI
        obtain ⟨q, rfl, rfl, rfl, rfl, ⟨b1, b2, b3⟩, xu, hun⟩ := hi
        rw [e0] at xu hun
        obtain ⟨f3, fk, fs, fc⟩ := w3_f M0 t s c q h5 h10
        have hT1 := hT.m b1 b2
        have hP1 := hPr.m (c := c) h5 h10 b1
        have hun1 : ∀ (q' : Nat) (g : Int32), w_nx ((am_wI M0 t 3 q).1 s) (t_n (am_wI M0 t 3 q) t) (t_p (am_wI M0 t 3 q) t) q' g → g ≠ 33 ∧ g ≠ 45 := fun q' g hg => by
          rw [fs, show t_n (am_wI M0 t 3 q) t = t_n M0 t by unfold t_n; rw [fk 5 (by decide)], show t_p (am_wI M0 t 3 q) t = q.toNatClampNeg by unfold t_p; rw [f3]] at hg
          exact hun q' g hg
        repeat' (first | (with_reducible exact hT1) | (with_reducible exact hP1) | (with_reducible exact he1) | (with_reducible exact he2) | (with_reducible exact he3) | (with_reducible exact hun1) | (with_reducible exact h1) | (with_reducible exact h2) | (with_reducible exact h3) | (with_reducible exact hb) | (with_reducible exact h6) | (with_reducible exact h7) | (refine Exists.intro _ (Exists.intro _ (And.intro h2 (And.intro h6 ?_)))) | (refine Exists.intro _ (And.intro h2 ?_)) | (refine Exists.intro _ (And.intro h6 ?_)) | apply And.intro | exact rfl | intro hx | (refine Exists.intro _ (And.intro rfl ?_)) | ((with_reducible change _ = true); simp only [h1, h2, h3, hb, h6, h7, Bool.true_and]; rfl))
        all_goals try first | (with_reducible change am_tI _ _) | (change Ret _ _) | (change Ret _ _ _) | (change Exists _)
        all_goals try dsimp only at *
        all_goals try (with_reducible exact absurd ‹(1000 : Int64) = 0› am_z1000)
        all_goals
          rename_i M3 d1 d2
          rw [e0, ec]
          exact ⟨_, am_lt_r (by decide), q, rfl, rfl, rfl, ⟨b1, b2, b3⟩, xu, d1, d2, hx⟩
      · cases hI
        obtain ⟨q, rfl, rfl, rfl, ⟨b1, b2, b3⟩, xu, d1, d2, x⟩ := hi
        rw [e0] at xu x
        rw [ec] at d1 x
        have l5 : l = 5 := by
          rw [i_eq]
          simp only [Int32.reduceToInt]
          omega
        subst l5
        obtain ⟨cap, u⟩ := x_unitm h5 h10 h9 xu d1 x (fun w => (hPr.w w).2.2) hT d2
        have g1 : 0 ≤ (M0.1 t 3).toInt := by omega
        have g2 : q.toInt ≤ 50 := by omega
        have e7 : (5 : Int32) + 2 = 7 := by decide
        rw [e7] at h
        repeat' (first | (with_reducible exact d2) | (with_reducible exact g1) | (with_reducible exact b1) | (with_reducible exact g2) | (with_reducible exact cap) | (with_reducible exact h1) | (with_reducible exact h2) | (with_reducible exact h3) | (with_reducible exact hb) | (with_reducible exact h6) | (with_reducible exact h7) | (refine Exists.intro _ (Exists.intro _ (And.intro h2 (And.intro h6 ?_)))) | (refine Exists.intro _ (And.intro h2 ?_)) | (refine Exists.intro _ (And.intro h6 ?_)) | apply And.intro | exact rfl | intro hx | (refine Exists.intro _ (And.intro rfl ?_)) | ((with_reducible change _ = true); simp only [h1, h2, h3, hb, h6, h7, Bool.true_and]; rfl))
        all_goals try first | (with_reducible change am_tI _ _) | (change Ret _ _) | (change Ret _ _ _) | (change Exists _)
        all_goals try dsimp only at *
        all_goals try (with_reducible exact absurd ‹(1000 : Int64) = 0› am_z1000)
        all_goals
          rename_i M3 w1 w2 w3
          exact h _ ((am_ch.rf.wI am_tS_3).tr (d1.tr w1)) w2 (u M3 w3 hx)
      · cases hI
        obtain ⟨rfl, rfl, rfl, ⟨l1, l5⟩, d1, d2, x⟩ := hi
        rw [e0] at x
        rw [ec] at d1 x
        have tu : x_tu t s c l 0 M0 M := ⟨(), d1, d2, ⟨by decide, by decide, l1, l5⟩, fun _ => x_first ⟨l1, l5⟩ x, fun z => absurd (Or.inl rfl) z, fun w w1 => by
          have g := x.g hT d2 w w1
          simp only [Int32.reduceToInt]
          omega⟩
        by_cases z2 : l = 2
        · have em : x_mo l = 1 := if_pos z2
          repeat' (first | (with_reducible exact h1) | (with_reducible exact h2) | (with_reducible exact h3) | (with_reducible exact hb) | (with_reducible exact h6) | (with_reducible exact h7) | (refine Exists.intro _ (Exists.intro _ (And.intro h2 (And.intro h6 ?_)))) | (refine Exists.intro _ (And.intro h2 ?_)) | (refine Exists.intro _ (And.intro h6 ?_)) | apply And.intro | exact rfl | (intro hx; with_reducible exact absurd z2 hx) | intro hx | (refine Exists.intro _ (And.intro rfl ?_)) | ((with_reducible change _ = true); simp only [h1, h2, h3, hb, h6, h7, Bool.true_and]; rfl))
          all_goals try first | (with_reducible change am_tI _ _) | (change Ret _ _) | (change Ret _ _ _) | (change Exists _)
          all_goals try dsimp only at *
          all_goals try (with_reducible exact absurd ‹(1000 : Int64) = 0› am_z1000)
          all_goals
            rw [e0, ec, em]
            exact ⟨_, am_lt_l (by decide), _, rfl, rfl, rfl, tu⟩
        · have em : x_mo l = 50 := if_neg z2
          repeat' (first | (with_reducible exact h1) | (with_reducible exact h2) | (with_reducible exact h3) | (with_reducible exact hb) | (with_reducible exact h6) | (with_reducible exact h7) | (refine Exists.intro _ (Exists.intro _ (And.intro h2 (And.intro h6 ?_)))) | (refine Exists.intro _ (And.intro h2 ?_)) | (refine Exists.intro _ (And.intro h6 ?_)) | apply And.intro | exact rfl | (intro hx; with_reducible exact absurd hx z2) | intro hx | (refine Exists.intro _ (And.intro rfl ?_)) | ((with_reducible change _ = true); simp only [h1, h2, h3, hb, h6, h7, Bool.true_and]; rfl))
          all_goals try first | (with_reducible change am_tI _ _) | (change Ret _ _) | (change Ret _ _ _) | (change Exists _)
          all_goals try dsimp only at *
          all_goals try (with_reducible exact absurd ‹(1000 : Int64) = 0› am_z1000)
          all_goals
            rw [e0, ec, em]
            exact ⟨_, am_lt_l (by decide), _, rfl, rfl, rfl, tu⟩
      · cases hI
        obtain ⟨i, rfl, rfl, rfl, tu⟩ := hi
        rw [e0, ec] at tu
        have tu2 := tu
        obtain ⟨-, d1, d2, ⟨i0, i5, l1, l5⟩, t1, t2, t3⟩ := tu2
        by_cases zi : x_mo l ≤ i
        · have res : x_ch (l + 2) t s c M0 M := by
            by_cases zz : i = 0 ∨ ¬ l = 2
            · refine (t1 zz).fin h5 h10 hT d2 d1 ⟨l1, l5⟩ (fun w w1 => ?_)
              have g := t3 w w1
              have i50 : 50 ≤ i.toInt := by
                rcases zz with rfl | z2
                · unfold x_mo at zi
                  split at zi <;> exact absurd zi (by decide)
                · rw [show x_mo l = 50 from if_neg z2, i_le] at zi
                  simp only [Int32.reduceToInt] at zi
                  exact zi
              have n1 : (M.1 t 5).toInt ≤ 50 := d2.p.2.2.1
              omega
            · exact t2 zz
          repeat' (first | (with_reducible exact h1) | (with_reducible exact h2) | (with_reducible exact h3) | (with_reducible exact hb) | (with_reducible exact h6) | (with_reducible exact h7) | (refine Exists.intro _ (Exists.intro _ (And.intro h2 (And.intro h6 ?_)))) | (refine Exists.intro _ (And.intro h2 ?_)) | (refine Exists.intro _ (And.intro h6 ?_)) | apply And.intro | exact rfl | (intro hx; with_reducible exact absurd zi hx) | intro hx | (refine Exists.intro _ (And.intro rfl ?_)) | ((with_reducible change _ = true); simp only [h1, h2, h3, hb, h6, h7, Bool.true_and]; rfl))
          all_goals try first | (with_reducible change am_tI _ _) | (change Ret _ _) | (change Ret _ _ _) | (change Exists _)
          all_goals try dsimp only at *
          all_goals try (with_reducible exact absurd ‹(1000 : Int64) = 0› am_z1000)
          all_goals exact h _ d1 d2 res
        · by_cases w1 : M.1 t 6 = -1
          · skip
            repeat' (first | (with_reducible exact d2) | (with_reducible exact h1) | (with_reducible exact h2) | (with_reducible exact h3) | (with_reducible exact hb) | (with_reducible exact h6) | (with_reducible exact h7) | (refine Exists.intro _ (Exists.intro _ (And.intro h2 (And.intro h6 ?_)))) | (refine Exists.intro _ (And.intro h2 ?_)) | (refine Exists.intro _ (And.intro h6 ?_)) | apply And.intro | exact rfl | (intro hx; with_reducible exact absurd hx zi) | (intro hx; with_reducible exact absurd w1 hx) | intro hx | (refine Exists.intro _ (And.intro rfl ?_)) | ((with_reducible change _ = true); simp only [h1, h2, h3, hb, h6, h7, Bool.true_and]; rfl))
            all_goals try first | (with_reducible change am_tI _ _) | (change Ret _ _) | (change Ret _ _ _) | (change Exists _)
            all_goals try dsimp only at *
            all_goals try (with_reducible exact absurd ‹(1000 : Int64) = 0› am_z1000)
            all_goals
              rename_i q
              rw [e0, ec]
              exact ⟨_, am_lt_r (by decide), i, q, M, rfl, rfl, rfl, tu, ⟨zi, w1⟩, hx, rfl⟩
          · have res : x_ch (l + 2) t s c M0 M := by
              by_cases zz : i = 0 ∨ ¬ l = 2
              · exact (t1 zz).fin h5 h10 hT d2 d1 ⟨l1, l5⟩ (fun _ w => absurd w w1)
              · exact t2 zz
            repeat' (first | (with_reducible exact h1) | (with_reducible exact h2) | (with_reducible exact h3) | (with_reducible exact hb) | (with_reducible exact h6) | (with_reducible exact h7) | (refine Exists.intro _ (Exists.intro _ (And.intro h2 (And.intro h6 ?_)))) | (refine Exists.intro _ (And.intro h2 ?_)) | (refine Exists.intro _ (And.intro h6 ?_)) | apply And.intro | exact rfl | (intro hx; with_reducible exact absurd hx zi) | (intro hx; with_reducible exact absurd hx w1) | intro hx | (refine Exists.intro _ (And.intro rfl ?_)) | ((with_reducible change _ = true); simp only [h1, h2, h3, hb, h6, h7, Bool.true_and]; rfl))
            all_goals try first | (with_reducible change am_tI _ _) | (change Ret _ _) | (change Ret _ _ _) | (change Exists _)
            all_goals try dsimp only at *
            all_goals try (with_reducible exact absurd ‹(1000 : Int64) = 0› am_z1000)
            all_goals exact h _ d1 d2 res
      · cases hI
        obtain ⟨i, q, Mb, rfl, rfl, rfl, tu, ⟨zi, w1⟩, hp, rfl⟩ := hi
        rw [e0] at hp
        rw [e0, ec] at tu
        rw [e0]
        have tu2 := tu
        obtain ⟨-, d1, d2, ⟨i0, i5, l1, l5⟩, t1, t2, t3⟩ := tu2
        obtain ⟨f3, fk, fs, fc⟩ := w3_f Mb t s c q h5 h10
        have p1 := hp.1
        have p2 := hp.2.1
        have hT1 := d2.m p1 p2
        have zz : i = 0 ∨ ¬ l = 2 := by
          by_cases z2 : l = 2
          · exact Or.inl (x_mo2 z2 zi i0)
          · exact Or.inr z2
        by_cases zl : am_level (am_sign Mb t s q) = l
        rotate_left
        · have res := (t1 zz).end h5 h10 h9 hT d2 hPr.s d1 hp w1 ((w_lev ⟨l1, l5⟩).2 zl)
          repeat' (first | (with_reducible exact h1) | (with_reducible exact h2) | (with_reducible exact h3) | (with_reducible exact hb) | (with_reducible exact h6) | (with_reducible exact h7) | (refine Exists.intro _ (Exists.intro _ (And.intro h2 (And.intro h6 ?_)))) | (refine Exists.intro _ (And.intro h2 ?_)) | (refine Exists.intro _ (And.intro h6 ?_)) | apply And.intro | exact rfl | (intro hx; with_reducible exact absurd hx zl) | intro hx | (refine Exists.intro _ (And.intro rfl ?_)) | ((with_reducible change _ = true); simp only [h1, h2, h3, hb, h6, h7, Bool.true_and]; rfl))
          all_goals try first | (with_reducible change am_tI _ _) | (change Ret _ _) | (change Ret _ _ _) | (change Exists _)
          all_goals try dsimp only at *
          all_goals try (with_reducible exact absurd ‹(1000 : Int64) = 0› am_z1000)
          all_goals exact h _ (d1.wI am_tS_3) hT1 res
        · have lv := (w_lev ⟨l1, l5⟩).1 zl
          have hlt : q.toInt < (Mb.1 t 5).toInt := am_sign_lt (s := s) (fun z => by have k3 := lv.2.2; rw [z] at k3; exact absurd k3 (by decide))
          have es : am_sign Mb t s q = Mb.1 s q.toNatClampNeg := if_pos hlt
          have b50 := d2.p.2.2.1
          have hi := i_inc (x := q) (by have := d2.p.1; omega) (by omega)
          have cl : (am_wI Mb t 3 q).1 s ((am_wI Mb t 3 q).1 t 3).toNatClampNeg = am_sign Mb t s q := by rw [f3, fs, es]
          have x1 : 0 ≤ ((am_wI Mb t 3 q).1 t 3).toInt := by rw [f3]; have := d2.p.1; omega
          have x2 : ((am_wI Mb t 3 q).1 t 3).toInt < (am_len s : Int) := by rw [f3, h4]; omega
          have e1 : am_wI (am_wI Mb t 3 q) t 3 ((am_wI Mb t 3 q).1 t 3 + 1) = am_wI Mb t 3 (q + 1) := by rw [f3, am_wI_wI]
          have hT2 := d2.m (q := q + 1) (by omega) (by omega)
          have w : M0.1 t 6 = -1 := by
            by_cases z : M0.1 t 6 = -1
            · exact z
            · exact absurd ((t1 zz).n z) (fun y => z (y ▸ w1))
          have hP2 := (hPr.io h9 h5 h10 hT d2 d1 (t1 zz)).m (c := c) (q := q + 1) h5 h10 (by omega)
          rw [← e1] at hT2 hP2
          repeat' (first | (with_reducible exact x1) | (with_reducible exact x2) | (with_reducible exact h1) | (with_reducible exact h2) | (with_reducible exact h3) | (with_reducible exact hb) | (with_reducible exact h6) | (with_reducible exact h7) | (refine Exists.intro _ (Exists.intro _ (And.intro h2 (And.intro h6 ?_)))) | (refine Exists.intro _ (And.intro h2 ?_)) | (refine Exists.intro _ (And.intro h6 ?_)) | apply And.intro | exact rfl | (intro hx; with_reducible exact absurd zl hx) | intro hx | (refine Exists.intro _ (And.intro rfl ?_)) | (refine hT0 _ _ s c _ _ _ _ h2 h6 hb hT2 hP2 l1 l5 hl3 he1 he2 he3 (fun M' c' j' x' => ?_)) | ((with_reducible change _ = true); simp only [h1, h2, h3, hb, h6, h7, Bool.true_and]; rfl))
          all_goals try first | (with_reducible change am_tI _ _) | (change Ret _ _) | (change Ret _ _ _) | (change Exists _)
          all_goals try dsimp only at *
          all_goals try (with_reducible exact absurd ‹(1000 : Int64) = 0› am_z1000)
          all_goals
            rw [e0, ec]
            rw [e1] at c' x'
            exact ⟨_, am_lt_r (by decide), i, q, Mb, by rw [cl]; rfl, rfl, rfl, tu, ⟨zi, w1⟩, ⟨hp, zl⟩, c', j', x'⟩
      · cases hI
        obtain ⟨i, q, Mb, rfl, rfl, rfl, tu, ⟨zi, w1⟩, ⟨hp, zl⟩, d3, d4, x⟩ := hi
        rw [e0] at hp zl x
        rw [ec] at d3 x
        rw [e0, ec] at tu
        rw [e0]
        have tu2 := tu
        obtain ⟨-, d1, d2, ⟨i0, i5, l1, l5⟩, t1, t2, t3⟩ := tu2
        have zz : i = 0 ∨ ¬ l = 2 := by
          by_cases z2 : l = 2
          · exact Or.inl (x_mo2 z2 zi i0)
          · exact Or.inr z2
        obtain ⟨r1, r2, r3⟩ := x_cl.step h5 h10 h9 hT d2 d4 hPr.s (fun w => (hPr.w w).2.2) ⟨l1, l5⟩ d1 (t1 zz) hp w1 zl d3 x
        have hcd : 0 ≤ (M.1 t 2).toInt := d4.p.2.2.2.1
        have cm : am_ch (am_tS t c) M0 M := d1.tr ((am_ch.rf.wI am_tS_3).tr d3)
        have i49 : i.toInt < 50 := by
          have z := zi
          unfold x_mo at z
          split at z
          · rw [i_le] at z
            simp only [Int32.reduceToInt] at z
            omega
          · rw [i_le] at z
            simp only [Int32.reduceToInt] at z
            omega
        have hi := i_inc (x := i) (by omega) (by omega)
        have tu3 : x_tu t s c l (i + 1) M0 (am_emit M t c (-(am_sign Mb t s q))) := by
          refine ⟨(), am_ch_emit cm, am_tI_emit d4 h10, ⟨by omega, by omega, l1, l5⟩, fun z => ?_, fun z => ?_, fun w w2 => ?_⟩
          · rcases z with z | z
            · rw [z] at hi
              simp only [Int32.reduceToInt] at hi
              omega
            · exact r1 z
          · have z2 : l = 2 := by
              by_cases y : l = 2
              · exact y
              · exact absurd (Or.inr y) z
            exact r2 z2
          · rw [am_emit_f h10 (by decide)] at w2
            have g := r3 w2
            have g2 := t3 w w1
            rw [am_emit_f h10 (by decide)]
            omega
        repeat' (first | (with_reducible exact hcd) | (with_reducible exact h1) | (with_reducible exact h2) | (with_reducible exact h3) | (with_reducible exact hb) | (with_reducible exact h6) | (with_reducible exact h7) | (refine Exists.intro _ (Exists.intro _ (And.intro h2 (And.intro h6 ?_)))) | (refine Exists.intro _ (And.intro h2 ?_)) | (refine Exists.intro _ (And.intro h6 ?_)) | apply And.intro | exact rfl | intro hx | (refine Exists.intro _ (And.intro rfl ?_)) | ((with_reducible change _ = true); simp only [h1, h2, h3, hb, h6, h7, Bool.true_and]; rfl))
        all_goals try first | (with_reducible change am_tI _ _) | (change Ret _ _) | (change Ret _ _ _) | (change Exists _)
        all_goals try dsimp only at *
        all_goals try (with_reducible exact absurd ‹(1000 : Int64) = 0› am_z1000)
        all_goals
          rw [e0, ec]
          exact ⟨_, am_lt_l (by omega), i + 1, rfl, rfl, rfl, tu3⟩
      · cases hI
    · exact h.elim
theorem metX5_readChainE (d : Nat) (hP : am_Met yX5_readPlain cX5_readPlain 3 none (4 + 8 * d + 1) (200 + 200 * d + 25) (TE5_readPlain d)) : ∀ n : Nat, am_Met yX5_readChain cX5_readChain 6 none (4 + 8 * d + 2 + n) (200 + 200 * d + 50 + 25 * n) (TE5_readChain d n)
  | 0 => metX5_readChainGE d 0 0 0 _ hP (am_MetF _ _ _ _ _ _) (by omega) (fun live t s c l e M R _ _ _ _ _ _ h1 h2 _ _ _ _ => by exfalso; omega)
  | n + 1 => metX5_readChainGE d (n + 1) (4 + 8 * d + 2 + n) (200 + 200 * d + 50 + 25 * n) _ hP (metX5_readChainE d hP n) (by omega) (fun live t s c l e M R a1 a2 a3 a4 a4b a5 a6 a7 a8 a9 a10 hh => by
      have hi := i_add (x := l) (y := 1) (by simp only [Int32.reduceToInt]; omega) (by simp only [Int32.reduceToInt]; omega)
      simp only [Int32.reduceToInt] at hi
      exact am_tP_in a1 a2 a3 ⟨a4, a4b, ⟨by omega, by omega, by omega⟩, a8, a9, a10, hh⟩)
end
-- part 79h.text6.lean.txt
section
/-! texts: the class's reader, exact, V: values, all of it -/
def kX5_readValueE (n rc lc rv lv : Nat) (Tc Tv : am_T) (live : am_E) (Ret : am_R) : am_code := [(0, am_iload 1 1), (1, am_const (.int 40) 3), (3, am_if2 (fun x y => x ≤ y) 16 6), (6, am_aload 0 7), (7, am_aload 0 8), (8, am_getI live 5 3 11), (11, am_const (.int 1) 12), (12, am_callV live 5 2 TX5_blame 15), (15, am_retV Ret), (16, am_aload 0 17), (17, am_const (.int 0) 18), (18, am_iload 1 19), (19, am_callV live 5 2 Tc 22), (22, am_aload 0 23), (23, am_getI live 5 6 26), (26, am_const (.int (-1)) 27), (27, am_if2 (fun x y => x = y) 30 75), (30, am_aload 0 31), (31, am_callV live 5 0 TX5_next 34), (34, am_const (.int 63) 36), (36, am_if2 (fun x y => x = y) 39 75), (39, am_aload 0 40), (40, am_dup 41), (41, am_getI live 5 3 44), (44, am_const (.int 1) 45), (45, am_i2 (fun x y => x + y) 46), (46, am_putI live 5 3 49), (49, am_aload 0 50), (50, am_iload 1 51), (51, am_const (.int 1) 52), (52, am_i2 (fun x y => x + y) 53), (53, am_callV live 5 1 Tv 56), (56, am_aload 0 57), (57, am_const (.int 58) 59), (59, am_callV live 5 1 TE5_pass 62), (62, am_aload 0 63), (63, am_iload 1 64), (64, am_const (.int 1) 65), (65, am_i2 (fun x y => x + y) 66), (66, am_callV live 5 1 Tv 69), (69, am_aload 0 70), (70, am_const (.int (-63)) 72), (72, am_callV live 5 1 TX5_emit 75), (75, am_retV Ret)]
theorem koX5_readValueE (n rc lc rv lv : Nat) (Tc Tv : am_T) (hC : am_Met yX5_readChain cX5_readChain 6 none rc lc Tc) (hV : am_Met yX5_readValue cX5_readValue 2 none rv lv Tv) (hrc : rc + 1 ≤ 4 + 8 * n ∧ lc + 25 ≤ 200 + 200 * n ∧ rv + 1 ≤ 4 + 8 * n ∧ lv + 25 ≤ 200 + 200 * n) (live : am_E) (Ret : am_R) : ∀ q ∈ kX5_readValueE n rc lc rv lv Tc Tv live Ret, am_ok RX5 cX5_readValue 2 none (4 + 8 * n) (200 + 200 * n) live Ret q.1 q.2 :=
  am_kz dzX5_readValue <|
  am_kd (fun d => ak_iload_n d rfl rfl) <|
  am_kd (fun d => ak_bipush d (by decide +kernel) rfl) <|
  am_kd (fun d => ak_icmp_le d (by decide +kernel) rfl) <|
  am_kd (fun d => ak_aload_n d rfl rfl) <|
  am_kd (fun d => ak_aload_n d rfl rfl) <|
  am_kd (fun d => ak_getI (C := RX5) (T := TX5) (N := 7) rfl inX5w (by decide) rfl rfl rfl wd_171 d rfl) <|
  am_kd (fun d => ak_iconst d (by decide +kernel) rfl) <|
  am_kd (fun d => ak_callV (C := RX5) (F := TX5) (N := 7) metX5_blame rfl ⟨rfl, hy_X5_blame⟩ (am_w5 wd_676 wd_678 wd_14 wd_65 wd_679) (by omega) d rfl) <|
  am_kd (fun d => ak_retV d) <|
  am_kd (fun d => ak_aload_n d rfl rfl) <|
  am_kd (fun d => ak_iconst d (by decide +kernel) rfl) <|
  am_kd (fun d => ak_iload_n d rfl rfl) <|
  am_kd (fun d => ak_callV (C := RX5) (F := TX5) (N := 7) hC rfl ⟨rfl, hy_X5_readChain⟩ (am_w5 wd_680 wd_682 wd_15 wd_65 wd_683) (by omega) d rfl) <|
  am_kd (fun d => ak_aload_n d rfl rfl) <|
  am_kd (fun d => ak_getI (C := RX5) (T := TX5) (N := 7) rfl inX5w (by decide) rfl rfl rfl wd_175 d rfl) <|
  am_kd (fun d => ak_iconst d (by decide +kernel) rfl) <|
  am_kd (fun d => ak_icmp_ne d (by decide +kernel) rfl) <|
  am_kd (fun d => ak_aload_n d rfl rfl) <|
  am_kd (fun d => ak_callV (C := RX5) (F := TX5) (N := 7) metX5_next rfl ⟨rfl, hy_X5_next⟩ (am_w5 wd_688 wd_690 wd_17 wd_65 wd_691) (by omega) d rfl) <|
  am_kd (fun d => ak_bipush d (by decide +kernel) rfl) <|
  am_kd (fun d => ak_icmp_ne d (by decide +kernel) rfl) <|
  am_kd (fun d => ak_aload_n d rfl rfl) <|
  am_kd (fun d => ak_dup d rfl) <|
  am_kd (fun d => ak_getI (C := RX5) (T := TX5) (N := 7) rfl inX5w (by decide) rfl rfl rfl wd_171 d rfl) <|
  am_kd (fun d => ak_iconst d (by decide +kernel) rfl) <|
  am_kd (fun d => ak_iadd d rfl) <|
  am_kd (fun d => ak_putI (C := RX5) (T := TX5) (N := 7) rfl inX5w tyX5_ok nmX5 (by decide) rfl rfl rfl rfl (by decide +kernel) wd_171 d rfl) <|
  am_kd (fun d => ak_aload_n d rfl rfl) <|
  am_kd (fun d => ak_iload_n d rfl rfl) <|
  am_kd (fun d => ak_iconst d (by decide +kernel) rfl) <|
  am_kd (fun d => ak_iadd d rfl) <|
  am_kd (fun d => ak_callV (C := RX5) (F := TX5) (N := 7) hV rfl ⟨rfl, hy_X5_readValue⟩ (am_w5 wd_672 wd_674 wd_13 wd_65 wd_675) (by omega) d rfl) <|
  am_kd (fun d => ak_aload_n d rfl rfl) <|
  am_kd (fun d => ak_bipush d (by decide +kernel) rfl) <|
  am_kd (fun d => ak_callV (C := RX5) (F := TX5) (N := 7) metX5_passE rfl ⟨rfl, hy_X5_pass⟩ (am_w5 wd_707 wd_709 wd_21 wd_65 wd_710) (by omega) d rfl) <|
  am_kd (fun d => ak_aload_n d rfl rfl) <|
  am_kd (fun d => ak_iload_n d rfl rfl) <|
  am_kd (fun d => ak_iconst d (by decide +kernel) rfl) <|
  am_kd (fun d => ak_iadd d rfl) <|
  am_kd (fun d => ak_callV (C := RX5) (F := TX5) (N := 7) hV rfl ⟨rfl, hy_X5_readValue⟩ (am_w5 wd_672 wd_674 wd_13 wd_65 wd_675) (by omega) d rfl) <|
  am_kd (fun d => ak_aload_n d rfl rfl) <|
  am_kd (fun d => ak_bipush d (by decide +kernel) rfl) <|
  am_kd (fun d => ak_callV (C := RX5) (F := TX5) (N := 7) metX5_emit rfl ⟨rfl, hy_X5_emit⟩ (am_w5 wd_703 wd_705 wd_20 wd_65 wd_706) (by omega) d rfl) <|
  am_kd (fun d => ak_retV d) <| am_kdn
section VAL
variable {M M1 M2 M3 : am_M} {t s c : Nat} {q : Int32}
/-- no question: the chain is all -/
theorem x_va.of (h9 : s ≠ c) (h5 : t ≠ s) (h10 : t ≠ c) (hT : am_tI M t) (hT1 : am_tI M1 t) (hs : x_sg t s M) (c1 : am_ch (am_tS t c) M M1) (x : x_ch 2 t s c M M1) (hp : am_skip M1 t s q) (w1 : M1.1 t 6 = -1) (hk : ¬ am_sign M1 t s q = 63) : x_va t s c M (am_wI M1 t 3 q) := by
  obtain ⟨f3, fk, fs, fc⟩ := w3_f M1 t s c q h5 h10
  have s1 : M1.1 s = M.1 s := funext fun j => am_ch_s c1 h9 h5 j
  have n1 : M1.1 t 5 = M.1 t 5 := am_ch_t5 c1 h10
  obtain ⟨nx, cq⟩ := x_nx hT1 (s := s) ⟨(), fun j hj => by rw [s1]; rw [n1] at hj; exact hs.v hj⟩ hp
  rw [s1, show t_n M1 t = t_n M t by unfold t_n; rw [n1]] at nx
  by_cases w : M.1 t 6 = -1
  · obtain ⟨y4, b1, b2, b3, b4, b5⟩ := x.y w w1
    refine x_io.ok w (by rw [fk 6 (by decide)]; exact w1) (by rw [fk 4 (by decide)]; exact y4) ?_
    rw [show t_p (am_wI M1 t 3 q) t = q.toNatClampNeg by unfold t_p; rw [f3], show t_c (am_wI M1 t 3 q) t = t_c M1 t by unfold t_c; rw [fk 2 (by decide)], fc]
    have hq := nx.1
    exact ⟨by omega, b2, by omega, b4, fun fa => by
      obtain ⟨v, u, z⟩ := b5 fa
      exact ⟨v, u, s_va.of z nx hk⟩⟩
  · exact absurd (x.n w) (fun z => w (z ▸ w1))
theorem x_va.b (x : x_ch 2 t s c M M1) (w1 : ¬ M1.1 t 6 = -1) : x_va t s c M M1 := by
  by_cases w : M.1 t 6 = -1
  · exact x_io.bad w w1 (fun fa => (x.f w w1 fa).up (by decide))
  · exact x_io.no w (x.n w)
/-- behind the colon -/
def x_62 (t s c : Nat) (M M2 : am_M) : Prop := ∃ _ : Unit, M.1 t 6 = -1 ∧ (¬ M2.1 t 6 = -1 → ∀ fa, s_bd fa (M.1 s) (t_n M t) (t_p M t) (t_o M t) 1 (M2.1 t 6).toInt) ∧ (M2.1 t 6 = -1 → M2.1 t 4 = M.1 t 4 ∧ ∃ (p1 q1 p2 n1 : Nat) (cd1 : Nat → Int32), y_io (t_p M t) (t_c M t) p1 n1 (M.1 c) cd1 (fun fa p' v => s_ch fa (M.1 s) (t_n M t) (t_p M t) p' (t_o M t) 2 v) ∧ w_nx (M.1 s) (t_n M t) p1 q1 63 ∧ y_io (q1 + 1) n1 p2 (t_c M2 t) cd1 (M2.1 c) (fun fa p' v => s_va fa (M.1 s) (t_n M t) (q1 + 1) p' (t_o M t) v) ∧ ∃ q2, w_nx (M.1 s) (t_n M t) p2 q2 58 ∧ t_p M2 t = q2 + 1)
/-- the second value read, then the colon -/
theorem x_col (h9 : s ≠ c) (h5 : t ≠ s) (h10 : t ≠ c) (hT : am_tI M t) (hT1 : am_tI M1 t) (hT2 : am_tI M2 t) (hs : x_sg t s M) (w : M.1 t 6 = -1) (c1 : am_ch (am_tS t c) M M1) (x : x_ch 2 t s c M M1) (hp : am_skip M1 t s q) (w1 : M1.1 t 6 = -1) (hk : am_sign M1 t s q = 63) (c2 : am_ch (am_tS t c) (am_wI M1 t 3 (q + 1)) M2) (x2 : x_va t s c (am_wI M1 t 3 (q + 1)) M2) :
    (¬ M2.1 t 6 = -1 → x_62 t s c M M2) ∧ (M2.1 t 6 = -1 → ∀ p', am_skip M2 t s p' → (am_sign M2 t s p' = 58 → x_62 t s c M (am_wI M2 t 3 (p' + 1)) ∧ am_tI (am_wI M2 t 3 (p' + 1)) t) ∧ (¬ am_sign M2 t s p' = 58 → x_62 t s c M (am_blame (am_wI M2 t 3 p') t p' 1))) := by
  obtain ⟨f3, fk, fs, fc⟩ := w3_f M1 t s c (q + 1) h5 h10
  have s1 : M1.1 s = M.1 s := funext fun j => am_ch_s c1 h9 h5 j
  have n1 : M1.1 t 5 = M.1 t 5 := am_ch_t5 c1 h10
  obtain ⟨nx, cq⟩ := x_nx hT1 (s := s) ⟨(), fun j hj => by rw [s1]; rw [n1] at hj; exact hs.v hj⟩ hp
  rw [s1, show t_n M1 t = t_n M t by unfold t_n; rw [n1], hk] at nx
  have ha := nx.at (by decide)
  have a1 := hT1.p
  have p1 := hp.1
  have p2 := hp.2.1
  have n1' : (M1.1 t 5).toInt = (M.1 t 5).toInt := by rw [n1]
  have a := hT.p
  have hi := i_inc (x := q) (by omega) (by omega)
  have cq1 := i_clamp (x := q + 1) (by omega)
  have en : t_n (am_wI M1 t 3 (q + 1)) t = t_n M t := by unfold t_n; rw [fk 5 (by decide), n1]
  have ep : t_p (am_wI M1 t 3 (q + 1)) t = q.toNatClampNeg + 1 := by unfold t_p; rw [f3]; omega
  have eo : t_o (am_wI M1 t 3 (q + 1)) t = t_o M1 t := by unfold t_o; rw [fk 4 (by decide)]
  have ec : t_c (am_wI M1 t 3 (q + 1)) t = t_c M1 t := by unfold t_c; rw [fk 2 (by decide)]
  have wq : (am_wI M1 t 3 (q + 1)).1 t 6 = -1 := by rw [fk 6 (by decide)]; exact w1
  obtain ⟨y4, y⟩ := x.y w w1
  have eo2 : t_o M1 t = t_o M t := by unfold t_o; rw [y4]
  have s2 : M2.1 s = M.1 s := (funext fun j => am_ch_s c2 h9 h5 j).trans (fs.trans s1)
  have n2 : M2.1 t 5 = M.1 t 5 := (am_ch_t5 c2 h10).trans ((fk 5 (by decide)).trans n1)
  refine ⟨fun w2 => ⟨(), w, fun _ fa => ?_, fun z => absurd z w2⟩, fun w2 p' hp' => ?_⟩
  · have z := x2.f wq w2 fa
    rw [fs, s1, en, ep, eo, eo2] at z
    obtain ⟨-, -, -, -, u5⟩ := y
    obtain ⟨v, -, h⟩ := u5 fa
    exact s_bd.v h nx z
  · obtain ⟨z4, z⟩ := x2.y wq w2
    rw [ec, ep, fs, fc, s1, en, eo, eo2] at z
    rw [fk 4 (by decide)] at z4
    obtain ⟨nx3, cp'⟩ := x_nx hT2 (s := s) ⟨(), fun j hj => by rw [s2]; rw [n2] at hj; exact hs.v hj⟩ hp'
    rw [s2, show t_n M2 t = t_n M t by unfold t_n; rw [n2]] at nx3
    have a2 := hT2.p
    have r1 := hp'.1
    have r2 := hp'.2.1
    have hi' := i_inc (x := p') (by omega) (by omega)
    have cp1' := i_clamp (x := p' + 1) (by omega)
    have n2' : (M2.1 t 5).toInt = (M.1 t 5).toInt := by rw [n2]
    refine ⟨fun hg' => ?_, fun hg' => ?_⟩
    · rw [hg'] at nx3
      have ha3 := nx3.at (by decide)
      obtain ⟨g3, gk, gs, gc⟩ := w3_f M2 t s c (p' + 1) h5 h10
      refine ⟨⟨(), w, fun z => absurd ((gk 6 (by decide)).trans w2) z, fun _ => ⟨(gk 4 (by decide)).trans (z4.trans y4), t_p M1 t, q.toNatClampNeg, t_p M2 t, t_c M1 t, M1.1 c, y, nx, ?_, p'.toNatClampNeg, nx3, ?_⟩⟩, hT2.m (by omega) (by omega)⟩
      · rw [show t_c (am_wI M2 t 3 (p' + 1)) t = t_c M2 t by unfold t_c; rw [gk 2 (by decide)], gc]
        exact z
      · show ((am_wI M2 t 3 (p' + 1)).1 t 3).toNatClampNeg = p'.toNatClampNeg + 1
        rw [g3]
        omega
    · have w3' : (am_wI M2 t 3 p').1 t 6 = -1 := by rw [am_wI_1, if_neg (fun z => absurd z.2 (by decide))]; exact w2
      have bl := t_bl (M := am_wI M2 t 3 p') (t := t) (a := p') (k := 1) w3' ⟨by omega, by omega⟩ ⟨by decide, by decide⟩
      refine ⟨(), w, fun _ fa => ?_, fun z => absurd z bl.1⟩
      rw [bl.2]
      obtain ⟨-, -, -, -, u5⟩ := y
      obtain ⟨v, -, h⟩ := u5 fa
      obtain ⟨-, -, -, -, v5⟩ := z
      obtain ⟨v2, -, h2⟩ := v5 fa
      exact s_bd.m h nx h2 nx3 hg'
/-- the third value read -/
theorem x_thi (h9 : s ≠ c) (h5 : t ≠ s) (h10 : t ≠ c) (hT : am_tI M t) (hT3 : am_tI M3 t) (hcap : (M.1 t 2).toInt ≤ (M.1 t 3).toInt) (c2 : am_ch (am_tS t c) M M2) (x : x_62 t s c M M2) (c3 : am_ch (am_tS t c) M2 M3) (x3 : x_va t s c M2 M3) : x_va t s c M (am_emit M3 t c (-63)) := by
  obtain ⟨-, w, xb, xg⟩ := x
  have s2 : M2.1 s = M.1 s := funext fun j => am_ch_s c2 h9 h5 j
  have n2 : M2.1 t 5 = M.1 t 5 := am_ch_t5 c2 h10
  have en : t_n M2 t = t_n M t := by unfold t_n; rw [n2]
  have g : ∀ k, k ≠ 2 → (am_emit M3 t c (-63)).1 t k = M3.1 t k := fun k hk => am_emit_f h10 hk
  have n3 : (M3.1 t 5).toInt = (M.1 t 5).toInt := by rw [am_ch_t5 c3 h10, n2]
  have a := hT.p
  have a3 := hT3.p
  by_cases w2 : M2.1 t 6 = -1
  · obtain ⟨o4, p1, q1, p2, m1, cd1, y1, nx1, y2, q2, nx2, eq2⟩ := xg w2
    have eo : t_o M2 t = t_o M t := by unfold t_o; rw [o4]
    by_cases w3 : M3.1 t 6 = -1
    · obtain ⟨z4, z⟩ := x3.y w2 w3
      rw [s2, en, eo, eq2] at z
      have b1 := y1.1
      have b2 := y1.2.1
      have b3 := y1.2.2.1
      have d1 := y2.1
      have d2 := y2.2.1
      have d3 := y2.2.2.1
      have f1 := z.1
      have f2 := z.2.1
      have f3 := z.2.2.1
      have l1 := nx1.1
      have l2 := nx2.1
      obtain ⟨r1, r2, r3⟩ := am_emit_y (v := -63) h10 hT3 (by omega)
      refine x_io.ok w (by rw [g 6 (by decide)]; exact w3) (by rw [g 4 (by decide), z4, o4]) ?_
      rw [show t_p (am_emit M3 t c (-63)) t = t_p M3 t by unfold t_p; rw [g 3 (by decide)], r1]
      exact y_io.ask (G := fun fa p' v => s_va fa (M.1 s) (t_n M t) (t_p M t) p' (t_o M t) v) y1 l1 y2 l2 z r3 r2 (fun fa v1 v2 v3 k1 k2 k3 => s_va.c k1 nx1 k2 nx2 k3)
    · refine x_io.bad w (by rw [g 6 (by decide)]; exact w3) (fun fa => ?_)
      rw [g 6 (by decide)]
      have z := x3.f w2 w3 fa
      rw [s2, en, eo, eq2] at z
      obtain ⟨-, -, -, -, u5⟩ := y1
      obtain ⟨v, -, h⟩ := u5 fa
      obtain ⟨-, -, -, -, v5⟩ := y2
      obtain ⟨v2, -, h2⟩ := v5 fa
      exact s_bd.e h nx1 h2 nx2 z
  · have e3 := x3.n w2
    refine x_io.bad w (by rw [g 6 (by decide), e3]; exact w2) (fun fa => ?_)
    rw [g 6 (by decide), e3]
    exact xb w2 fa
end VAL
def JE5_readValue : am_E → List Value → am_M → am_R → am_inv := fun live as M0 _ pc => match as with
  | [.ref t, .int e] => (match pc with
    | 22 => some ([0, 1], fun k L st M => L = [(0, .ref t), (1, .int e)] ∧ st = [] ∧ k = (9, 0) ∧ e.toInt ≤ 40 ∧ am_ch (am_tS t ((live.2 t 1).getD 0)) M0 M ∧ am_tI M t ∧ x_ch 2 t ((live.2 t 0).getD 0) ((live.2 t 1).getD 0) M0 M)
    | 34 => some ([0, 1], fun k L st M => ∃ (q : Int32) (Mb : am_M), L = [(0, .ref t), (1, .int e)] ∧ st = [.int (am_sign Mb t ((live.2 t 0).getD 0) q)] ∧ k = (8, 0) ∧ e.toInt ≤ 40 ∧ (am_ch (am_tS t ((live.2 t 1).getD 0)) M0 Mb ∧ am_tI Mb t ∧ x_ch 2 t ((live.2 t 0).getD 0) ((live.2 t 1).getD 0) M0 Mb ∧ Mb.1 t 6 = -1) ∧ am_skip Mb t ((live.2 t 0).getD 0) q ∧ M = am_wI Mb t 3 q)
    | 56 => some ([0, 1], fun k L st M => ∃ (q : Int32) (Mb : am_M), L = [(0, .ref t), (1, .int e)] ∧ st = [] ∧ k = (7, 0) ∧ e.toInt ≤ 40 ∧ (am_ch (am_tS t ((live.2 t 1).getD 0)) M0 Mb ∧ am_tI Mb t ∧ x_ch 2 t ((live.2 t 0).getD 0) ((live.2 t 1).getD 0) M0 Mb ∧ Mb.1 t 6 = -1) ∧ (am_skip Mb t ((live.2 t 0).getD 0) q ∧ am_sign Mb t ((live.2 t 0).getD 0) q = 63) ∧ am_ch (am_tS t ((live.2 t 1).getD 0)) (am_wI Mb t 3 (q + 1)) M ∧ am_tI M t ∧ x_va t ((live.2 t 0).getD 0) ((live.2 t 1).getD 0) (am_wI Mb t 3 (q + 1)) M)
    | 62 => some ([0, 1], fun k L st M => L = [(0, .ref t), (1, .int e)] ∧ st = [] ∧ k = (6, 0) ∧ e.toInt ≤ 40 ∧ am_ch (am_tS t ((live.2 t 1).getD 0)) M0 M ∧ am_tI M t ∧ x_62 t ((live.2 t 0).getD 0) ((live.2 t 1).getD 0) M0 M)
    | _ => none)
  | _ => none
theorem x_62.pre {t s c : Nat} {M M2 : am_M} {e : Int32} (h9 : s ≠ c) (h5 : t ≠ s) (h10 : t ≠ c) (hT : am_tI M t) (hT2 : am_tI M2 t) (c2 : am_ch (am_tS t c) M M2) (h : x_pre t s M e.toInt) (x : x_62 t s c M M2) (he : (e + 1).toInt = e.toInt + 1) : x_pre t s M2 (e + 1).toInt := by
  have s2 : M2.1 s = M.1 s := funext fun j => am_ch_s c2 h9 h5 j
  have n2 : M2.1 t 5 = M.1 t 5 := am_ch_t5 c2 h10
  refine ⟨(), ⟨(), fun j hj => ?_⟩, fun w2 => ?_⟩
  · rw [s2]
    rw [n2] at hj
    exact h.s.v hj
  · obtain ⟨-, w, -, xg⟩ := x
    obtain ⟨o4, p1, q1, p2, m1, cd1, y1, nx1, y2, q2, nx2, eq2⟩ := xg w2
    have p := h.w w
    have a := hT.p
    have a2 := hT2.p
    have b1 := y1.1
    have b2 := y1.2.1
    have b3 := y1.2.2.1
    have d1 := y2.1
    have d2 := y2.2.1
    have d3 := y2.2.2.1
    have l1 := nx1.1
    have l2 := nx2.1
    rw [o4, he]
    exact ⟨p.1, by omega, by omega⟩
set_option maxRecDepth 100000 in
set_option maxHeartbeats 4000000 in
theorem metX5_readValueGE (n rc lc rv lv : Nat) (Tc Tv : am_T) (hC : am_Met yX5_readChain cX5_readChain 6 none rc lc Tc) (hV : am_Met yX5_readValue cX5_readValue 2 none rv lv Tv) (hrc : rc + 1 ≤ 4 + 8 * n ∧ lc + 25 ≤ 200 + 200 * n ∧ rv + 1 ≤ 4 + 8 * n ∧ lv + 25 ≤ 200 + 200 * n)
    (hT1 : ∀ (live : am_E) (t s c : Nat) (e : Int32) (M : am_M) (R : am_R), live.2 t 0 = some s → live.2 t 1 = some c → am_tc live t s c = true → am_tI M t → x_pre t s M e.toInt → 0 ≤ e.toInt → e.toInt ≤ 40 → 41 ≤ e.toInt + (n : Int) → (∀ M', am_ch (am_tS t c) M M' → am_tI M' t → x_ch 2 t s c M M' → R none M') → Tc live [.ref t, .int 0, .int e] M R)
    (hT2 : ∀ (live : am_E) (t s c : Nat) (e : Int32) (M : am_M) (R : am_R), live.2 t 0 = some s → live.2 t 1 = some c → am_tc live t s c = true → am_tI M t → x_pre t s M (e + 1).toInt → 0 ≤ e.toInt → e.toInt ≤ 40 → 41 ≤ e.toInt + (n : Int) → (∀ M', am_ch (am_tS t c) M M' → am_tI M' t → x_va t s c M M' → R none M') → Tv live [.ref t, .int (e + 1)] M R) :
    am_Met yX5_readValue cX5_readValue 2 none (4 + 8 * n) (200 + 200 * n) (TE5_readValue n) := by
  refine am_met (own := RX5) (by decide +kernel) rfl (kX5_readValueE n rc lc rv lv Tc Tv) (koX5_readValueE n rc lc rv lv Tc Tv hC hV hrc) 120 JE5_readValue ?_ ?_
  · intro live as M Ret h
    unfold TE5_readValue at h
    split at h
    · next t e =>
      refine ⟨Nat.le_of_ble_eq_true rfl, ?_⟩
      change am_wp _ _ _ _ [(0, Value.ref t), (1, Value.int e)] _ _
      have hh := am_tP_mp h
      clear h
      obtain ⟨s, c, h2, h6, hb, h1, h3, h7, h4, h8, h9, h5, h10, hT, hPr, he1, he2, he3, h⟩ := hh
      have e0 : (live.2 t 0).getD 0 = s := by rw [h2]; rfl
      have ec : (live.2 t 1).getD 0 = c := by rw [h6]; rfl
      by_cases z4 : e ≤ 40
      · have z5 := z4
        simp only [i_le, Int32.reduceToInt] at z5
        repeat' (first | (with_reducible exact hT) | (with_reducible exact h1) | (with_reducible exact h2) | (with_reducible exact h3) | (with_reducible exact hb) | (with_reducible exact h6) | (with_reducible exact h7) | (refine Exists.intro _ (Exists.intro _ (And.intro h2 (And.intro h6 ?_)))) | (refine Exists.intro _ (And.intro h2 ?_)) | (refine Exists.intro _ (And.intro h6 ?_)) | apply And.intro | exact rfl | (intro hx; with_reducible exact absurd z4 hx) | intro hx | (refine Exists.intro _ (And.intro rfl ?_)) | (refine hT1 _ _ s c _ _ _ h2 h6 hb hT hPr he1 z5 he3 (fun M' c' i' x' => ?_)) | ((with_reducible change _ = true); simp only [h1, h2, h3, hb, h6, h7, Bool.true_and]; rfl))
        all_goals try first | (with_reducible change am_tI _ _) | (change Ret _ _) | (change Ret _ _ _) | (change Exists _)
        all_goals try dsimp only at *
        all_goals try (with_reducible exact absurd ‹(1000 : Int64) = 0› am_z1000)
        all_goals
          rw [e0, ec]
          exact ⟨_, rfl, rfl, rfl, z5, c', i', x'⟩
      · have z5 := z4
        simp only [i_le, Int32.reduceToInt] at z5
        have w : ¬ M.1 t 6 = -1 := fun w => by
          have p := hPr.w w
          have a := hT.p
          omega
        have e6 : am_blame M t (M.1 t 3) 1 = M := t_bln w
        have hh : Ret none (am_blame M t (M.1 t 3) 1) := by rw [e6]; exact h _ am_ch.rf hT (x_io.no w rfl)
        repeat' (first | (with_reducible exact hT) | (with_reducible exact h1) | (with_reducible exact h2) | (with_reducible exact h3) | (with_reducible exact hb) | (with_reducible exact h6) | (with_reducible exact h7) | (refine Exists.intro _ (Exists.intro _ (And.intro h2 (And.intro h6 ?_)))) | (refine Exists.intro _ (And.intro h2 ?_)) | (refine Exists.intro _ (And.intro h6 ?_)) | apply And.intro | exact rfl | (intro hx; with_reducible exact absurd hx z4) | intro hx | (refine Exists.intro _ (And.intro rfl ?_)) | ((with_reducible change _ = true); simp only [h1, h2, h3, hb, h6, h7, Bool.true_and]; rfl))
        all_goals try first | (with_reducible change am_tI _ _) | (change Ret _ _) | (change Ret _ _ _) | (change Exists _)
        all_goals try dsimp only at *
        all_goals try (with_reducible exact absurd ‹(1000 : Int64) = 0› am_z1000)
        all_goals exact hh
    · exact h.elim
  · intro live as M0 Ret h k pc I hI L st M hi
    unfold TE5_readValue at h
    split at h
    · next t e =>
      have hh := am_tP_mp h
      clear h
      obtain ⟨s, c, h2, h6, hb, h1, h3, h7, h4, h8, h9, h5, h10, hT, hPr, he1, he2, he3, h⟩ := hh
      have e0 : (live.2 t 0).getD 0 = s := by rw [h2]; rfl
      have ec : (live.2 t 1).getD 0 = c := by rw [h6]; rfl
      have a := hT.p
      change (match pc with | 22 => _ | 34 => _ | 56 => _ | 62 => _ | _ => none) = _ at hI
      split at hI
      · cases hI
        obtain ⟨rfl, rfl, rfl, z5, d1, d2, x⟩ := hi
        rw [e0] at x
        rw [ec] at d1 x
        by_cases w1 : M.1 t 6 = -1
        · skip
          repeat' (first | (with_reducible exact d2) | (with_reducible exact h1) | (with_reducible exact h2) | (with_reducible exact h3) | (with_reducible exact hb) | (with_reducible exact h6) | (with_reducible exact h7) | (refine Exists.intro _ (Exists.intro _ (And.intro h2 (And.intro h6 ?_)))) | (refine Exists.intro _ (And.intro h2 ?_)) | (refine Exists.intro _ (And.intro h6 ?_)) | apply And.intro | exact rfl | (intro hx; with_reducible exact absurd w1 hx) | intro hx | (refine Exists.intro _ (And.intro rfl ?_)) | ((with_reducible change _ = true); simp only [h1, h2, h3, hb, h6, h7, Bool.true_and]; rfl))
          all_goals try first | (with_reducible change am_tI _ _) | (change Ret _ _) | (change Ret _ _ _) | (change Exists _)
          all_goals try dsimp only at *
          all_goals try (with_reducible exact absurd ‹(1000 : Int64) = 0› am_z1000)
          all_goals
            rename_i q
            rw [e0, ec]
            exact ⟨_, am_lt_l (by decide), q, M, rfl, rfl, rfl, z5, ⟨d1, d2, x, w1⟩, hx, rfl⟩
        · skip
          repeat' (first | (with_reducible exact h1) | (with_reducible exact h2) | (with_reducible exact h3) | (with_reducible exact hb) | (with_reducible exact h6) | (with_reducible exact h7) | (refine Exists.intro _ (Exists.intro _ (And.intro h2 (And.intro h6 ?_)))) | (refine Exists.intro _ (And.intro h2 ?_)) | (refine Exists.intro _ (And.intro h6 ?_)) | apply And.intro | exact rfl | (intro hx; with_reducible exact absurd hx w1) | intro hx | (refine Exists.intro _ (And.intro rfl ?_)) | ((with_reducible change _ = true); simp only [h1, h2, h3, hb, h6, h7, Bool.true_and]; rfl))
          all_goals try first | (with_reducible change am_tI _ _) | (change Ret _ _) | (change Ret _ _ _) | (change Exists _)
          all_goals try dsimp only at *
          all_goals try (with_reducible exact absurd ‹(1000 : Int64) = 0› am_z1000)
          all_goals exact h _ d1 d2 (x_va.b x w1)
      · cases hI
        obtain ⟨q, Mb, rfl, rfl, rfl, z5, ⟨d1, d2, x, w1⟩, hp, rfl⟩ := hi
        rw [e0] at x hp ⊢
        rw [ec] at d1 x
        have p1 := hp.1
        have p2 := hp.2.1
        obtain ⟨f3, fk, fs, fc⟩ := w3_f Mb t s c q h5 h10
        by_cases zg : am_sign Mb t s q = 63
        · have hlt : q.toInt < (Mb.1 t 5).toInt := am_sign_lt (s := s) (fun z => by rw [zg] at z; exact absurd z (by decide))
          have b50 := d2.p.2.2.1
          have hi := i_inc (x := q) (by have := d2.p.1; omega) (by omega)
          have hie := i_inc (x := e) (by omega) (by omega)
          have e1 : am_wI (am_wI Mb t 3 q) t 3 ((am_wI Mb t 3 q).1 t 3 + 1) = am_wI Mb t 3 (q + 1) := by rw [f3, am_wI_wI]
          have hT2' := d2.m (q := q + 1) (by omega) (by omega)
          have w : M0.1 t 6 = -1 := by
            by_cases z : M0.1 t 6 = -1
            · exact z
            · exact absurd (x.n z) (fun y => z (y ▸ w1))
          have hP2 : x_pre t s (am_wI Mb t 3 (q + 1)) (e + 1).toInt := by
            have pm := (hPr.io h9 h5 h10 hT d2 d1 x).m (c := c) (q := q + 1) h5 h10 (by omega)
            obtain ⟨g3, gk, gs, gc⟩ := w3_f Mb t s c (q + 1) h5 h10
            refine ⟨(), pm.s, fun wz => ?_⟩
            have pw := pm.w wz
            have p0 := hPr.w w
            obtain ⟨y4, b1, b2, b3, -⟩ := x.y w w1
            have am := d2.p
            rw [gk 4 (by decide), gk 2 (by decide), g3] at pw ⊢
            rw [y4] at pw ⊢
            exact ⟨pw.1, by omega, pw.2.2⟩
          rw [← e1] at hT2' hP2
          repeat' (first | (with_reducible exact h1) | (with_reducible exact h2) | (with_reducible exact h3) | (with_reducible exact hb) | (with_reducible exact h6) | (with_reducible exact h7) | (refine Exists.intro _ (Exists.intro _ (And.intro h2 (And.intro h6 ?_)))) | (refine Exists.intro _ (And.intro h2 ?_)) | (refine Exists.intro _ (And.intro h6 ?_)) | apply And.intro | exact rfl | (intro hx; with_reducible exact absurd zg hx) | intro hx | (refine Exists.intro _ (And.intro rfl ?_)) | (refine hT2 _ _ s c _ _ _ h2 h6 hb hT2' hP2 he1 z5 he3 (fun M' c' j' x' => ?_)) | ((with_reducible change _ = true); simp only [h1, h2, h3, hb, h6, h7, Bool.true_and]; rfl))
          all_goals try first | (with_reducible change am_tI _ _) | (change Ret _ _) | (change Ret _ _ _) | (change Exists _)
          all_goals try dsimp only at *
          all_goals try (with_reducible exact absurd ‹(1000 : Int64) = 0› am_z1000)
          all_goals
            rw [e0, ec]
            rw [e1] at c' x'
            exact ⟨_, am_lt_l (by decide), q, Mb, rfl, rfl, rfl, z5, ⟨d1, d2, x, w1⟩, ⟨hp, zg⟩, c', j', x'⟩
        · have res := x_va.of h9 h5 h10 hT d2 hPr.s d1 x hp w1 zg
          repeat' (first | (with_reducible exact h1) | (with_reducible exact h2) | (with_reducible exact h3) | (with_reducible exact hb) | (with_reducible exact h6) | (with_reducible exact h7) | (refine Exists.intro _ (Exists.intro _ (And.intro h2 (And.intro h6 ?_)))) | (refine Exists.intro _ (And.intro h2 ?_)) | (refine Exists.intro _ (And.intro h6 ?_)) | apply And.intro | exact rfl | (intro hx; with_reducible exact absurd hx zg) | intro hx | (refine Exists.intro _ (And.intro rfl ?_)) | ((with_reducible change _ = true); simp only [h1, h2, h3, hb, h6, h7, Bool.true_and]; rfl))
          all_goals try first | (with_reducible change am_tI _ _) | (change Ret _ _) | (change Ret _ _ _) | (change Exists _)
          all_goals try dsimp only at *
          all_goals try (with_reducible exact absurd ‹(1000 : Int64) = 0› am_z1000)
          all_goals exact h _ (d1.wI am_tS_3) (d2.m p1 p2) res
      · cases hI
        obtain ⟨q, Mb, rfl, rfl, rfl, z5, ⟨d1, d2, x, w1⟩, ⟨hp, zg⟩, d3, d4, x2⟩ := hi
        rw [e0] at x hp zg x2
        rw [ec] at d1 x d3 x2
        have w : M0.1 t 6 = -1 := by
          by_cases z : M0.1 t 6 = -1
          · exact z
          · exact absurd (x.n z) (fun y => z (y ▸ w1))
        obtain ⟨r1, r2⟩ := x_col h9 h5 h10 hT d2 d4 hPr.s w d1 x hp w1 zg d3 x2
        have cm : am_ch (am_tS t c) M0 M := d1.tr ((am_ch.rf.wI am_tS_3).tr d3)
        have n58 : ¬ (58 : Int32) = -1 := by decide
        by_cases w2 : M.1 t 6 = -1
        · have r2 := r2 w2
          repeat' (first | (with_reducible exact d4) | (with_reducible exact n58) | (with_reducible exact h1) | (with_reducible exact h2) | (with_reducible exact h3) | (with_reducible exact hb) | (with_reducible exact h6) | (with_reducible exact h7) | (refine Exists.intro _ (Exists.intro _ (And.intro h2 (And.intro h6 ?_)))) | (refine Exists.intro _ (And.intro h2 ?_)) | (refine Exists.intro _ (And.intro h6 ?_)) | apply And.intro | exact rfl | (intro hx; with_reducible exact absurd w2 hx) | intro hx | (refine Exists.intro _ (And.intro rfl ?_)) | ((with_reducible change _ = true); simp only [h1, h2, h3, hb, h6, h7, Bool.true_and]; rfl))
          all_goals try first | (with_reducible change am_tI _ _) | (change Ret _ _) | (change Ret _ _ _) | (change Exists _)
          all_goals try dsimp only at *
          all_goals try (with_reducible exact absurd ‹(1000 : Int64) = 0› am_z1000)
          all_goals
            rename_i p' hp'
            rw [e0, ec]
          · exact ⟨_, am_lt_l (by decide), rfl, rfl, rfl, z5, cm.wI am_tS_3, ((r2 p' hp').1 hx).2, ((r2 p' hp').1 hx).1⟩
          · exact ⟨_, am_lt_l (by decide), rfl, rfl, rfl, z5, am_ch_blame (cm.wI am_tS_3), am_tI_blame (am_tI_w3 d4 hp'), (r2 p' hp').2 hx⟩
        · have r1 := r1 w2
          repeat' (first | (with_reducible exact d4) | (with_reducible exact n58) | (with_reducible exact h1) | (with_reducible exact h2) | (with_reducible exact h3) | (with_reducible exact hb) | (with_reducible exact h6) | (with_reducible exact h7) | (refine Exists.intro _ (Exists.intro _ (And.intro h2 (And.intro h6 ?_)))) | (refine Exists.intro _ (And.intro h2 ?_)) | (refine Exists.intro _ (And.intro h6 ?_)) | apply And.intro | exact rfl | (intro hx; with_reducible exact absurd hx w2) | intro hx | (refine Exists.intro _ (And.intro rfl ?_)) | ((with_reducible change _ = true); simp only [h1, h2, h3, hb, h6, h7, Bool.true_and]; rfl))
          all_goals try first | (with_reducible change am_tI _ _) | (change Ret _ _) | (change Ret _ _ _) | (change Exists _)
          all_goals try dsimp only at *
          all_goals try (with_reducible exact absurd ‹(1000 : Int64) = 0› am_z1000)
          all_goals
            rw [e0, ec]
            exact ⟨_, am_lt_l (by decide), rfl, rfl, rfl, z5, cm, d4, r1⟩
      · cases hI
        obtain ⟨rfl, rfl, rfl, z5, d1, d2, x⟩ := hi
        rw [e0] at x
        rw [ec] at d1 x
        have hie := i_inc (x := e) (by omega) (by omega)
        have hP2 := x_62.pre h9 h5 h10 hT d2 d1 hPr x hie
        have w : M0.1 t 6 = -1 := by obtain ⟨-, w, -⟩ := x; exact w
        have hcap := (hPr.w w).2.2
        repeat' (first | (with_reducible exact h1) | (with_reducible exact h2) | (with_reducible exact h3) | (with_reducible exact hb) | (with_reducible exact h6) | (with_reducible exact h7) | (refine Exists.intro _ (Exists.intro _ (And.intro h2 (And.intro h6 ?_)))) | (refine Exists.intro _ (And.intro h2 ?_)) | (refine Exists.intro _ (And.intro h6 ?_)) | apply And.intro | exact rfl | (intro hx; exact absurd hx (by decide)) | (intro hx; exact absurd (by decide) hx) | decide | intro hx | (refine Exists.intro _ (And.intro rfl ?_)) | (refine hT2 _ _ s c _ _ _ h2 h6 hb d2 hP2 he1 z5 he3 (fun M' c' j' x' => ?_)) | ((with_reducible change _ = true); simp only [h1, h2, h3, hb, h6, h7, Bool.true_and]; rfl))
        all_goals try first | (with_reducible change am_tI _ _) | (change Ret _ _) | (change Ret _ _ _) | (change Exists _)
        all_goals try dsimp only at *
        all_goals try (with_reducible exact absurd ‹(1000 : Int64) = 0› am_z1000)
        all_goals first
          | exact am_tI_cd (by with_reducible assumption)
          | exact h _ (am_ch_emit (d1.tr (by with_reducible assumption))) (am_tI_emit (by with_reducible assumption) h10) (x_thi h9 h5 h10 hT (by with_reducible assumption) hcap d1 x (by with_reducible assumption) (by with_reducible assumption))
          | skip
      · cases hI
    · exact h.elim
theorem metX5_readValueE (n : Nat) : am_Met yX5_readValue cX5_readValue 2 none (4 + 8 * n) (200 + 200 * n) (TE5_readValue n) := by
  induction n with
  | zero =>
    refine metX5_readValueGE 0 0 0 0 0 (fun _ _ _ _ => False) (fun _ _ _ _ => False) (am_MetF _ _ _ _ _ _) (am_MetF _ _ _ _ _ _) (by omega) ?_ ?_
    · intro live t s c e M R a1 a2 a3 a4 a4b a5 a6 a7 hh
      omega
    · intro live t s c e M R a1 a2 a3 a4 a4b a5 a6 a7 hh
      omega
  | succ n ih =>
    have hP := metX5_readPlainE n ih
    have hC := metX5_readChainE n hP 5
    refine metX5_readValueGE (n + 1) (4 + 8 * n + 2 + 5) (200 + 200 * n + 50 + 25 * 5) (4 + 8 * n) (200 + 200 * n) (TE5_readChain n 5) (TE5_readValue n) hC ih (by omega) ?_ ?_
    · intro live t s c e M R a1 a2 a3 a4 a4b a5 a6 a7 hh
      exact am_tP_in a1 a2 a3 ⟨a4, a4b, ⟨by decide, by decide, by decide⟩, a5, a6, by omega, hh⟩
    · intro live t s c e M R a1 a2 a3 a4 a4b a5 a6 a7 hh
      have hi := i_add (x := e) (y := 1) (by simp only [Int32.reduceToInt]; omega) (by simp only [Int32.reduceToInt]; omega)
      simp only [Int32.reduceToInt] at hi
      exact am_tP_in a1 a2 a3 ⟨a4, a4b, by omega, by omega, by omega, hh⟩
end
-- part 79i.text7.lean.txt
section
/-! texts: a character behind: what the text is then -/
def kX5_addE (live : am_E) (Ret : am_R) : am_code := [(0, am_aload 0 1), (1, am_getI live 5 5 4), (4, am_const (.int 50) 6), (6, am_if2 (fun x y => x < y) 10 9), (9, am_retV Ret), (10, am_aload 0 11), (11, am_getR live 5 0 14), (14, am_aload 0 15), (15, am_getI live 5 5 18), (18, am_iload 1 19), (19, am_ast live 0 20), (20, am_aload 0 21), (21, am_dup 22), (22, am_getI live 5 5 25), (25, am_const (.int 1) 26), (26, am_i2 (fun x y => x + y) 27), (27, am_putI live 5 5 30), (30, am_aload 0 31), (31, am_const (.int 0) 32), (32, am_putI live 5 2 35), (35, am_aload 0 36), (36, am_const (.int 0) 37), (37, am_putI live 5 3 40), (40, am_aload 0 41), (41, am_const (.int 0) 42), (42, am_putI live 5 4 45), (45, am_aload 0 46), (46, am_const (.int (-1)) 47), (47, am_putI live 5 6 50), (50, am_aload 0 51), (51, am_const (.int 0) 52), (52, am_callV live 5 1 (TE5_readValue 41) 55), (55, am_aload 0 56), (56, am_callV live 5 0 TX5_next 59), (59, am_const (.int (-1)) 60), (60, am_if2 (fun x y => x = y) 72 63), (63, am_aload 0 64), (64, am_aload 0 65), (65, am_getI live 5 3 68), (68, am_const (.int 1) 69), (69, am_callV live 5 2 TX5_blame 72), (72, am_retV Ret)]
theorem koX5_addE (live : am_E) (Ret : am_R) : ∀ q ∈ kX5_addE live Ret, am_ok RX5 cX5_add 2 none 333 8421 live Ret q.1 q.2 :=
  am_kz dzX5_add <|
  am_kd (fun d => ak_aload_n d rfl rfl) <|
  am_kd (fun d => ak_getI (C := RX5) (T := TX5) (N := 7) rfl inX5w (by decide) rfl rfl rfl wd_173 d rfl) <|
  am_kd (fun d => ak_bipush d (by decide +kernel) rfl) <|
  am_kd (fun d => ak_icmp_lt d (by decide +kernel) rfl) <|
  am_kd (fun d => ak_retV d) <|
  am_kd (fun d => ak_aload_n d rfl rfl) <|
  am_kd (fun d => ak_getR (C := RX5) (T := TX5) (N := 7) rfl inX5w (by decide) rfl rfl rfl wd_168 d rfl) <|
  am_kd (fun d => ak_aload_n d rfl rfl) <|
  am_kd (fun d => ak_getI (C := RX5) (T := TX5) (N := 7) rfl inX5w (by decide) rfl rfl rfl wd_173 d rfl) <|
  am_kd (fun d => ak_iload_n d rfl rfl) <|
  am_kd (fun d => ak_iast (t := 0) (fun _ => rfl) rfl d rfl) <|
  am_kd (fun d => ak_aload_n d rfl rfl) <|
  am_kd (fun d => ak_dup d rfl) <|
  am_kd (fun d => ak_getI (C := RX5) (T := TX5) (N := 7) rfl inX5w (by decide) rfl rfl rfl wd_173 d rfl) <|
  am_kd (fun d => ak_iconst d (by decide +kernel) rfl) <|
  am_kd (fun d => ak_iadd d rfl) <|
  am_kd (fun d => ak_putI (C := RX5) (T := TX5) (N := 7) rfl inX5w tyX5_ok nmX5 (by decide) rfl rfl rfl rfl (by decide +kernel) wd_173 d rfl) <|
  am_kd (fun d => ak_aload_n d rfl rfl) <|
  am_kd (fun d => ak_iconst d (by decide +kernel) rfl) <|
  am_kd (fun d => ak_putI (C := RX5) (T := TX5) (N := 7) rfl inX5w tyX5_ok nmX5 (by decide) rfl rfl rfl rfl (by decide +kernel) wd_170 d rfl) <|
  am_kd (fun d => ak_aload_n d rfl rfl) <|
  am_kd (fun d => ak_iconst d (by decide +kernel) rfl) <|
  am_kd (fun d => ak_putI (C := RX5) (T := TX5) (N := 7) rfl inX5w tyX5_ok nmX5 (by decide) rfl rfl rfl rfl (by decide +kernel) wd_171 d rfl) <|
  am_kd (fun d => ak_aload_n d rfl rfl) <|
  am_kd (fun d => ak_iconst d (by decide +kernel) rfl) <|
  am_kd (fun d => ak_putI (C := RX5) (T := TX5) (N := 7) rfl inX5w tyX5_ok nmX5 (by decide) rfl rfl rfl rfl (by decide +kernel) wd_172 d rfl) <|
  am_kd (fun d => ak_aload_n d rfl rfl) <|
  am_kd (fun d => ak_iconst d (by decide +kernel) rfl) <|
  am_kd (fun d => ak_putI (C := RX5) (T := TX5) (N := 7) rfl inX5w tyX5_ok nmX5 (by decide) rfl rfl rfl rfl (by decide +kernel) wd_175 d rfl) <|
  am_kd (fun d => ak_aload_n d rfl rfl) <|
  am_kd (fun d => ak_iconst d (by decide +kernel) rfl) <|
  am_kd (fun d => ak_callV (C := RX5) (F := TX5) (N := 7) (metX5_readValueE 41) rfl ⟨rfl, hy_X5_readValue⟩ (am_w5 wd_672 wd_674 wd_13 wd_65 wd_675) (by omega) d rfl) <|
  am_kd (fun d => ak_aload_n d rfl rfl) <|
  am_kd (fun d => ak_callV (C := RX5) (F := TX5) (N := 7) metX5_next rfl ⟨rfl, hy_X5_next⟩ (am_w5 wd_688 wd_690 wd_17 wd_65 wd_691) (by decide) d rfl) <|
  am_kd (fun d => ak_iconst d (by decide +kernel) rfl) <|
  am_kd (fun d => ak_icmp_eq d (by decide +kernel) rfl) <|
  am_kd (fun d => ak_aload_n d rfl rfl) <|
  am_kd (fun d => ak_aload_n d rfl rfl) <|
  am_kd (fun d => ak_getI (C := RX5) (T := TX5) (N := 7) rfl inX5w (by decide) rfl rfl rfl wd_171 d rfl) <|
  am_kd (fun d => ak_iconst d (by decide +kernel) rfl) <|
  am_kd (fun d => ak_callV (C := RX5) (F := TX5) (N := 7) metX5_blame rfl ⟨rfl, hy_X5_blame⟩ (am_w5 wd_676 wd_678 wd_14 wd_65 wd_679) (by decide) d rfl) <|
  am_kd (fun d => ak_retV d) <| am_kdn
/-- a text's code is what its signs mean -/
def tx_ok (t s c : Nat) (M : am_M) : Prop := ∃ _ : Unit, (M.1 t 6 = -1 → ∀ fa, ∃ v, w_res fa (M.1 s) (t_n M t) 0 true [] [] = .inl v ∧ ∀ st, w_ev fa (M.1 c) 0 (t_c M t) st = v :: st) ∧ (¬ M.1 t 6 = -1 → ∀ fa, w_res fa (M.1 s) (t_n M t) 0 true [] [] = .inr (M.1 t 6).toInt)
theorem w_res_cg {fa : Int32 → Int64} {σ σ' : Nat → Int32} {n : Nat} (h : ∀ j, j < n → σ' j = σ j) : w_res fa σ' n 0 true [] [] = w_res fa σ n 0 true [] [] := by
  have hd : ∀ (u i k : Nat) (v : Int), w_dig σ' n u i k v = w_dig σ n u i k v := by
    intro u
    induction u with
    | zero => intro i k v; rfl
    | succ u ih =>
      intro i k v
      unfold w_dig
      by_cases z : i < n
      · rw [h i z, ih]
      · rw [if_neg (fun q => z q.1), if_neg (fun q => z q.1)]
  have hs : ∀ (i : Nat) (due : Bool) (W : List Int32) (V : List Int64), i < n → w_stp fa σ' n i due W V = w_stp fa σ n i due W V := by
    intro i due W V z
    unfold w_stp
    rw [h i z, hd]
  have hr : ∀ (u i : Nat) (due : Bool) (W : List Int32) (V : List Int64), w_run fa σ' n u i due W V = w_run fa σ n u i due W V := by
    intro u
    induction u with
    | zero => intro i due W V; rfl
    | succ u ih =>
      intro i due W V
      unfold w_run
      by_cases z : i < n
      · rw [if_pos z, if_pos z, hs i due W V z]
        cases w_stp fa σ n i due W V with
        | inl S => exact ih _ _ _ _
        | inr f => rfl
      · rw [if_neg z, if_neg z]
  exact hr _ _ _ _ _
theorem tx_ok.cg {t s c t' s' c' : Nat} {M N : am_M} (h : tx_ok t s c M) (e5 : N.1 t' 5 = M.1 t 5) (e6 : N.1 t' 6 = M.1 t 6) (e2 : N.1 t' 2 = M.1 t 2) (es : ∀ j : Nat, j < t_n M t → N.1 s' j = M.1 s j) (ec : ∀ j : Nat, j < t_c M t → N.1 c' j = M.1 c j) : tx_ok t' s' c' N := by
  obtain ⟨-, h1, h2⟩ := h
  have en : t_n N t' = t_n M t := by unfold t_n; rw [e5]
  have ek : t_c N t' = t_c M t := by unfold t_c; rw [e2]
  refine ⟨(), fun w fa => ?_, fun w fa => ?_⟩
  · rw [e6] at w
    obtain ⟨v, a, b⟩ := h1 w fa
    rw [en, ek, w_res_cg es]
    exact ⟨v, a, fun st => by
      rw [w_ev_cg (cd := M.1 c) (fun j _ z => ec j (by omega))]
      exact b st⟩
  · rw [e6] at w ⊢
    rw [en, w_res_cg es]
    exact h2 w fa
theorem tx_ok.no {t s c : Nat} {M : am_M} (h5 : M.1 t 5 = 0) (h6 : M.1 t 6 = 1) : tx_ok t s c M := by
  refine ⟨(), fun w => ?_, fun _ fa => ?_⟩
  · rw [h6] at w
    exact absurd w (by decide)
  · rw [h6, show t_n M t = 0 by unfold t_n; rw [h5]; rfl, w_res_e (Nat.le_refl _)]
    rfl
def t_Mz (M : am_M) (t s : Nat) (g : Int32) : am_M := am_wI (am_wI (am_wI (am_wI (am_wI (am_wI M s (M.1 t 5).toNatClampNeg g) t 5 (M.1 t 5 + 1)) t 2 0) t 3 0) t 4 0) t 6 (-1)
def TE5_add : am_T := fun live as M R => match as with
  | [.ref t, .int g] => am_tP live t (fun s c => am_t0 M t ∧ (0 ≤ g.toInt ∧ x_sg t s M) ∧ ((M.1 t 5).toInt < 50 → ∀ M', am_ch (am_tS t c) (am_wI (am_wI M s (M.1 t 5).toNatClampNeg g) t 5 (M.1 t 5 + 1)) M' → am_t0 M' t → tx_ok t s c M' → R none M') ∧ (50 ≤ (M.1 t 5).toInt → R none M))
  | _ => False
def JE5_add : am_E → List Value → am_M → am_R → am_inv := fun live as M0 _ pc => match as with
  | [.ref t, .int g] => (match pc with
    | 55 => some ([0], fun k L st M => L = [(0, .ref t)] ∧ st = [] ∧ k = (9, 0) ∧ (M0.1 t 5).toInt < 50 ∧ am_ch (am_tS t ((live.2 t 1).getD 0)) (t_Mz M0 t ((live.2 t 0).getD 0) g) M ∧ am_tI M t ∧ x_va t ((live.2 t 0).getD 0) ((live.2 t 1).getD 0) (t_Mz M0 t ((live.2 t 0).getD 0) g) M)
    | 59 => some ([0], fun k L st M => ∃ (q : Int32) (Mb : am_M), L = [(0, .ref t)] ∧ st = [.int (am_sign Mb t ((live.2 t 0).getD 0) q)] ∧ k = (8, 0) ∧ (M0.1 t 5).toInt < 50 ∧ am_ch (am_tS t ((live.2 t 1).getD 0)) (t_Mz M0 t ((live.2 t 0).getD 0) g) Mb ∧ am_tI Mb t ∧ x_va t ((live.2 t 0).getD 0) ((live.2 t 1).getD 0) (t_Mz M0 t ((live.2 t 0).getD 0) g) Mb ∧ am_skip Mb t ((live.2 t 0).getD 0) q ∧ M = am_wI Mb t 3 q)
    | _ => none)
  | _ => none
theorem t_Mz_f {M : am_M} {t s c : Nat} {g : Int32} (h9 : s ≠ c) (h5 : t ≠ s) (h10 : t ≠ c) (hT : am_t0 M t) (hl : (M.1 t 5).toInt < 50) (hg : 0 ≤ g.toInt) (hs : x_sg t s M) : ((t_Mz M t s g).1 t 2 = 0 ∧ (t_Mz M t s g).1 t 3 = 0 ∧ (t_Mz M t s g).1 t 4 = 0 ∧ (t_Mz M t s g).1 t 6 = -1) ∧ am_tI (t_Mz M t s g) t ∧ x_sg t s (t_Mz M t s g) := by
  obtain ⟨-, q1, q2⟩ := hT
  have hi := i_inc (x := M.1 t 5) (by omega) (by omega)
  have c5 := i_clamp q2.1
  have f5 : (t_Mz M t s g).1 t 5 = M.1 t 5 + 1 := by simp [t_Mz, am_wI_1]
  have f2 : (t_Mz M t s g).1 t 2 = 0 := by simp [t_Mz, am_wI_1]
  have f3 : (t_Mz M t s g).1 t 3 = 0 := by simp [t_Mz, am_wI_1]
  have f4 : (t_Mz M t s g).1 t 4 = 0 := by simp [t_Mz, am_wI_1]
  have f6 : (t_Mz M t s g).1 t 6 = -1 := by simp [t_Mz, am_wI_1]
  have fs : ∀ j, (t_Mz M t s g).1 s j = if j = (M.1 t 5).toNatClampNeg then g else M.1 s j := fun j => by
    unfold t_Mz
    rw [am_wI_1, if_neg (fun z => h5 z.1.symm), am_wI_1, if_neg (fun z => h5 z.1.symm), am_wI_1, if_neg (fun z => h5 z.1.symm), am_wI_1, if_neg (fun z => h5 z.1.symm), am_wI_1, if_neg (fun z => h5 z.1.symm), am_wI_1]
    by_cases z : j = (M.1 t 5).toNatClampNeg
    · rw [if_pos ⟨rfl, z⟩, if_pos z]
    · rw [if_neg (fun q => z q.2), if_neg z]
  refine ⟨⟨f2, f3, f4, f6⟩, am_tI_of (by rw [f2]; decide) (by rw [f2]; decide) (by rw [f3]; decide) (by rw [f3, f5]; simp only [Int32.reduceToInt]; omega) (by rw [f5]; omega), ⟨(), fun j hj => ?_⟩⟩
  rw [f5] at hj
  rw [fs]
  split
  · exact hg
  · next z => exact hs.v (by omega)
theorem tx_fin {M M2 : am_M} {t s c : Nat} {q : Int32} (h9 : s ≠ c) (h5 : t ≠ s) (h10 : t ≠ c) (hz : M.1 t 2 = 0 ∧ M.1 t 3 = 0 ∧ M.1 t 4 = 0 ∧ M.1 t 6 = -1) (hs : x_sg t s M) (c2 : am_ch (am_tS t c) M M2) (hT2 : am_tI M2 t) (x : x_va t s c M M2) (hp : am_skip M2 t s q) :
    (am_sign M2 t s q = -1 → tx_ok t s c (am_wI M2 t 3 q)) ∧ (¬ am_sign M2 t s q = -1 → tx_ok t s c (am_blame (am_wI M2 t 3 q) t q 1)) := by
  obtain ⟨z2, z3, z4, z6⟩ := hz
  obtain ⟨f3, fk, fs, fc⟩ := w3_f M2 t s c q h5 h10
  have s2 : M2.1 s = M.1 s := funext fun j => am_ch_s c2 h9 h5 j
  have n2 : M2.1 t 5 = M.1 t 5 := am_ch_t5 c2 h10
  have en : t_n M2 t = t_n M t := by unfold t_n; rw [n2]
  have ep : t_p M t = 0 := by unfold t_p; rw [z3]; rfl
  have eo : t_o M t = 0 := by unfold t_o; rw [z4]; rfl
  have ec : t_c M t = 0 := by unfold t_c; rw [z2]; rfl
  obtain ⟨nx, cq⟩ := x_nx hT2 (s := s) ⟨(), fun j hj => by rw [s2]; rw [n2] at hj; exact hs.v hj⟩ hp
  rw [s2, en] at nx
  have a2 := hT2.p
  have p1 := hp.1
  have p2 := hp.2.1
  by_cases w2 : M2.1 t 6 = -1
  · obtain ⟨-, -, -, -, -, y⟩ := x.y z6 w2
    rw [ec, ep, eo] at y
    have key : ∀ fa, ∃ v, (∀ st, w_ev fa (M2.1 c) 0 (t_c M2 t) st = v :: st) ∧ w_res fa (M.1 s) (t_n M t) 0 true [] [] = (if am_sign M2 t s q = -1 then .inl v else .inr (10 * (q.toNatClampNeg : Int) + 1)) := fun fa => by
      obtain ⟨v, u, k⟩ := y fa
      have u0 : ∀ st, w_ev fa (M2.1 c) 0 (t_c M2 t) st = v :: st := fun st => by
        have u1 := u st
        rwa [Nat.sub_zero] at u1
      exact ⟨v, u0, s_all k nx⟩
    refine ⟨fun hg => ⟨(), fun _ fa => ?_, fun w => absurd ((fk 6 (by decide)).trans w2) w⟩, fun hg => ?_⟩
    · obtain ⟨v, k1, k2⟩ := key fa
      rw [if_pos hg] at k2
      rw [fs, fc, s2, show t_n (am_wI M2 t 3 q) t = t_n M t by unfold t_n; rw [fk 5 (by decide), n2], show t_c (am_wI M2 t 3 q) t = t_c M2 t by unfold t_c; rw [fk 2 (by decide)]]
      exact ⟨v, k2, k1⟩
    · have w3' : (am_wI M2 t 3 q).1 t 6 = -1 := (fk 6 (by decide)).trans w2
      have bl := t_bl (M := am_wI M2 t 3 q) (t := t) (a := q) (k := 1) w3' ⟨by omega, by omega⟩ ⟨by decide, by decide⟩
      have bk : ∀ a k, ¬ (a = t ∧ k = 6) → (am_blame (am_wI M2 t 3 q) t q 1).1 a k = (am_wI M2 t 3 q).1 a k := fun a k z => by
        unfold am_blame
        rw [am_wIc_1, if_neg (fun y => z ⟨y.2.1, y.2.2⟩)]
      refine ⟨(), fun w => absurd w bl.1, fun _ fa => ?_⟩
      obtain ⟨v, k1, k2⟩ := key fa
      rw [if_neg hg] at k2
      rw [bl.2, show (am_blame (am_wI M2 t 3 q) t q 1).1 s = M.1 s from (funext fun j => bk s j (fun z => h5 z.1.symm)).trans (fs.trans s2), show t_n (am_blame (am_wI M2 t 3 q) t q 1) t = t_n M t by unfold t_n; rw [bk t 5 (fun z => absurd z.2 (by decide)), fk 5 (by decide), n2]]
      exact k2
  · have key : ∀ fa, w_res fa (M.1 s) (t_n M t) 0 true [] [] = .inr (M2.1 t 6).toInt := fun fa => by
      have k := x.f z6 w2 fa
      rw [ep, eo] at k
      exact s_allb k
    have w3 : ¬ (am_wI M2 t 3 q).1 t 6 = -1 := fun z => w2 ((fk 6 (by decide)).symm.trans z)
    have ok : tx_ok t s c (am_wI M2 t 3 q) := ⟨(), fun w => absurd w w3, fun _ fa => by
      rw [fs, s2, fk 6 (by decide), show t_n (am_wI M2 t 3 q) t = t_n M t by unfold t_n; rw [fk 5 (by decide), n2]]
      exact key fa⟩
    exact ⟨fun _ => ok, fun _ => by rw [t_bln w3]; exact ok⟩
set_option maxRecDepth 100000 in
set_option maxHeartbeats 4000000 in
theorem metX5_addE : am_Met yX5_add cX5_add 2 none (333) (8421) TE5_add := by
  refine am_met (own := RX5) (by decide +kernel) rfl kX5_addE koX5_addE 120 JE5_add ?_ ?_
  · intro live as M Ret h
    unfold TE5_add at h
    split at h
    · next t g =>
      refine ⟨Nat.le_of_ble_eq_true rfl, ?_⟩
      change am_wp _ _ _ _ [(0, Value.ref t), (1, Value.int g)] _ _
      have hh := am_tP_mp h
      clear h
      obtain ⟨s, c, h2, h6, hb, h1, h3, h7, h4, h8, h9, h5, h10, hT, ⟨hg, hs⟩, h, hn⟩ := hh
      have e0 : (live.2 t 0).getD 0 = s := by rw [h2]; rfl
      have ec : (live.2 t 1).getD 0 = c := by rw [h6]; rfl
      have q5 : 0 ≤ (M.1 t 5).toInt ∧ (M.1 t 5).toInt ≤ 50 := by obtain ⟨-, q1, q2⟩ := hT; exact q2
      by_cases z : M.1 t 5 < 50
      · have z2 := z
        simp only [i_lt, Int32.reduceToInt] at z2
        obtain ⟨hz, hTz, hsz⟩ := t_Mz_f (M := M) (t := t) (s := s) (c := c) (g := g) h9 h5 h10 hT z2 hg hs
        have e5 : ∀ k v, (am_wI M s k v).1 t 5 = M.1 t 5 := fun k v => by rw [am_wI_1, if_neg (fun y => h5 y.1)]
        have ez : am_wI (am_wI (am_wI (am_wI (am_wI (am_wI M s (M.1 t 5).toNatClampNeg g) t 5 ((am_wI M s (M.1 t 5).toNatClampNeg g).1 t 5 + 1)) t 2 0) t 3 0) t 4 0) t 6 (-1) = t_Mz M t s g := by rw [e5]; rfl
        have hPz : x_pre t s (t_Mz M t s g) (0 : Int32).toInt := ⟨(), hsz, fun _ => by rw [hz.1, hz.2.1, hz.2.2.1]; exact ⟨⟨by decide, by decide⟩, by decide, by decide⟩⟩
        have x1 : 0 ≤ (M.1 t 5).toInt := q5.1
        have x2 : (M.1 t 5).toInt < (am_len s : Int) := by rw [h4]; omega
        rw [← ez] at hTz hPz
        repeat' (first | (with_reducible exact x1) | (with_reducible exact x2) | (with_reducible exact hTz) | (with_reducible exact hPz) | (with_reducible exact h1) | (with_reducible exact h2) | (with_reducible exact h3) | (with_reducible exact hb) | (with_reducible exact h6) | (with_reducible exact h7) | (refine Exists.intro _ (Exists.intro _ (And.intro h2 (And.intro h6 ?_)))) | (refine Exists.intro _ (And.intro h2 ?_)) | (refine Exists.intro _ (And.intro h6 ?_)) | apply And.intro | exact rfl | (intro hx; with_reducible exact absurd z hx) | (intro hx; exact absurd hx (by decide)) | (intro hx; exact absurd (by decide) hx) | decide | intro hx | (refine Exists.intro _ (And.intro rfl ?_)) | ((with_reducible change _ = true); simp only [h1, h2, h3, hb, h6, h7, Bool.true_and]; rfl))
        all_goals try first | (with_reducible change am_tI _ _) | (change Ret _ _) | (change Ret _ _ _) | (change Exists _)
        all_goals try dsimp only at *
        all_goals try (with_reducible exact absurd ‹(1000 : Int64) = 0› am_z1000)
        all_goals first
          | decide
          | skip
        all_goals
          rename_i M2 d1 d2
          rw [ez] at d1 hx
          rw [e0, ec]
          exact ⟨_, rfl, rfl, rfl, z2, d1, d2, hx⟩
      · have z2 := z
        simp only [i_lt, Int32.reduceToInt] at z2
        have hh := hn (by omega)
        repeat' (first | (with_reducible exact h1) | (with_reducible exact h2) | (with_reducible exact h3) | (with_reducible exact hb) | (with_reducible exact h6) | (with_reducible exact h7) | (refine Exists.intro _ (Exists.intro _ (And.intro h2 (And.intro h6 ?_)))) | (refine Exists.intro _ (And.intro h2 ?_)) | (refine Exists.intro _ (And.intro h6 ?_)) | apply And.intro | exact rfl | (intro hx; with_reducible exact absurd hx z) | intro hx | (refine Exists.intro _ (And.intro rfl ?_)) | ((with_reducible change _ = true); simp only [h1, h2, h3, hb, h6, h7, Bool.true_and]; rfl))
        all_goals try first | (with_reducible change am_tI _ _) | (change Ret _ _) | (change Ret _ _ _) | (change Exists _)
        all_goals try dsimp only at *
        all_goals try (with_reducible exact absurd ‹(1000 : Int64) = 0› am_z1000)
        all_goals exact hh
    · exact h.elim
  · intro live as M0 Ret h k pc I hI L st M hi
    unfold TE5_add at h
    split at h
    · next t g =>
      have hh := am_tP_mp h
      clear h
      obtain ⟨s, c, h2, h6, hb, h1, h3, h7, h4, h8, h9, h5, h10, hT, ⟨hg, hs⟩, h, hn⟩ := hh
      have e0 : (live.2 t 0).getD 0 = s := by rw [h2]; rfl
      have ec : (live.2 t 1).getD 0 = c := by rw [h6]; rfl
      change (match pc with | 55 => _ | 59 => _ | _ => none) = _ at hI
      split at hI
      · cases hI
        obtain ⟨rfl, rfl, rfl, z2, d1, d2, x⟩ := hi
        rw [e0] at d1 x
        rw [ec] at d1 x
        repeat' (first | (with_reducible exact d2) | (with_reducible exact h1) | (with_reducible exact h2) | (with_reducible exact h3) | (with_reducible exact hb) | (with_reducible exact h6) | (with_reducible exact h7) | (refine Exists.intro _ (Exists.intro _ (And.intro h2 (And.intro h6 ?_)))) | (refine Exists.intro _ (And.intro h2 ?_)) | (refine Exists.intro _ (And.intro h6 ?_)) | apply And.intro | exact rfl | intro hx | (refine Exists.intro _ (And.intro rfl ?_)) | ((with_reducible change _ = true); simp only [h1, h2, h3, hb, h6, h7, Bool.true_and]; rfl))
        all_goals try first | (with_reducible change am_tI _ _) | (change Ret _ _) | (change Ret _ _ _) | (change Exists _)
        all_goals try dsimp only at *
        all_goals try (with_reducible exact absurd ‹(1000 : Int64) = 0› am_z1000)
        all_goals
          rename_i q
          rw [e0, ec]
          exact ⟨_, am_lt_l (by decide), q, M, rfl, rfl, rfl, z2, d1, d2, x, hx, rfl⟩
      · cases hI
        obtain ⟨q, Mb, rfl, rfl, rfl, z2, d1, d2, x, hp, rfl⟩ := hi
        rw [e0] at d1 x hp ⊢
        rw [ec] at d1 x
        obtain ⟨hz, hTz, hsz⟩ := t_Mz_f (M := M0) (t := t) (s := s) (c := c) (g := g) h9 h5 h10 hT z2 hg hs
        obtain ⟨r1, r2⟩ := tx_fin h9 h5 h10 hz hsz d1 d2 x hp
        have cm : am_ch (am_tS t c) (am_wI (am_wI M0 s (M0.1 t 5).toNatClampNeg g) t 5 (M0.1 t 5 + 1)) Mb := ((((am_ch.rf.wI am_tS_2).wI am_tS_3).wI am_tS_4).wI am_tS_6).tr d1
        have h := h z2
        have hT3 := am_tI_w3 d2 hp
        have f3 : (am_wI Mb t 3 q).1 t 3 = q := by rw [am_wI_1, if_pos ⟨rfl, rfl⟩]
        by_cases zg : am_sign Mb t s q = -1
        · have hh := h _ (cm.wI am_tS_3) (am_t0_I hT3) (r1 zg)
          repeat' (first | (with_reducible exact h1) | (with_reducible exact h2) | (with_reducible exact h3) | (with_reducible exact hb) | (with_reducible exact h6) | (with_reducible exact h7) | (refine Exists.intro _ (Exists.intro _ (And.intro h2 (And.intro h6 ?_)))) | (refine Exists.intro _ (And.intro h2 ?_)) | (refine Exists.intro _ (And.intro h6 ?_)) | apply And.intro | exact rfl | (intro hx; with_reducible exact absurd zg hx) | intro hx | (refine Exists.intro _ (And.intro rfl ?_)) | ((with_reducible change _ = true); simp only [h1, h2, h3, hb, h6, h7, Bool.true_and]; rfl))
          all_goals try first | (with_reducible change am_tI _ _) | (change Ret _ _) | (change Ret _ _ _) | (change Exists _)
          all_goals try dsimp only at *
          all_goals try (with_reducible exact absurd ‹(1000 : Int64) = 0› am_z1000)
          all_goals exact hh
        · have hh := h _ (am_ch_blame (a := q) (k := 1) (cm.wI am_tS_3)) (am_t0_I (am_tI_blame hT3)) (r2 zg)
          have hh : Ret none (am_blame (am_wI Mb t 3 q) t ((am_wI Mb t 3 q).1 t 3) 1) := by rw [f3]; exact hh
          repeat' (first | (with_reducible exact h1) | (with_reducible exact h2) | (with_reducible exact h3) | (with_reducible exact hb) | (with_reducible exact h6) | (with_reducible exact h7) | (refine Exists.intro _ (Exists.intro _ (And.intro h2 (And.intro h6 ?_)))) | (refine Exists.intro _ (And.intro h2 ?_)) | (refine Exists.intro _ (And.intro h6 ?_)) | apply And.intro | exact rfl | (intro hx; with_reducible exact absurd hx zg) | intro hx | (refine Exists.intro _ (And.intro rfl ?_)) | ((with_reducible change _ = true); simp only [h1, h2, h3, hb, h6, h7, Bool.true_and]; rfl))
          all_goals try first | (with_reducible change am_tI _ _) | (change Ret _ _) | (change Ret _ _ _) | (change Exists _)
          all_goals try dsimp only at *
          all_goals try (with_reducible exact absurd ‹(1000 : Int64) = 0› am_z1000)
          all_goals exact hh
      · cases hI
    · exact h.elim
end
-- part 79j.rtext0.lean.txt
section
/-! texts: the reference's reader, exact: its stacks as lists -/
def r_at (f : Nat → Int32) : List Int32 → Prop
  | [] => True
  | c :: W => f W.length = c ∧ r_at f W
def r_atL (f : Nat → Int64) : List Int64 → Prop
  | [] => True
  | x :: V => f V.length = x ∧ r_atL f V
def w_ws : List Int32 → Nat
  | [] => 0
  | c :: W => r_wt c + w_ws W
theorem r_at.cg {f g : Nat → Int32} : ∀ {W : List Int32}, r_at f W → (∀ k, k < W.length → g k = f k) → r_at g W
  | [], _, _ => trivial
  | c :: W, h, e => ⟨(e _ (Nat.lt_succ_self _)).trans h.1, h.2.cg (fun k hk => e k (Nat.lt_succ_of_lt hk))⟩
theorem r_atL.cg {f g : Nat → Int64} : ∀ {V : List Int64}, r_atL f V → (∀ k, k < V.length → g k = f k) → r_atL g V
  | [], _, _ => trivial
  | c :: V, h, e => ⟨(e _ (Nat.lt_succ_self _)).trans h.1, h.2.cg (fun k hk => e k (Nat.lt_succ_of_lt hk))⟩
/-- the stacks -/
def r_ls (M : am_M) (W : List Int32) (V : List Int64) : Prop := ∃ _ : Unit, (M.1 200 11).toInt = (W.length : Int) ∧ r_at (M.1 204) W ∧ (M.1 200 12).toInt = (V.length : Int) ∧ r_atL (M.2 205) V
theorem r_ls.a {M : am_M} {W : List Int32} {V : List Int64} (h : r_ls M W V) : (M.1 200 11).toInt = (W.length : Int) := by obtain ⟨-, h, -⟩ := h; exact h
theorem r_ls.b {M : am_M} {W : List Int32} {V : List Int64} (h : r_ls M W V) : r_at (M.1 204) W := by obtain ⟨-, -, h, -⟩ := h; exact h
theorem r_ls.c {M : am_M} {W : List Int32} {V : List Int64} (h : r_ls M W V) : (M.1 200 12).toInt = (V.length : Int) := by obtain ⟨-, -, -, h, -⟩ := h; exact h
theorem r_ls.d {M : am_M} {W : List Int32} {V : List Int64} (h : r_ls M W V) : r_atL (M.2 205) V := by obtain ⟨-, -, -, -, h⟩ := h; exact h
theorem r_ls.top {M : am_M} {W : List Int32} {V : List Int64} (h : r_ls M W V) (hl : W.length ≤ 100) : r_top M = w_hdc W := by
  have a := h.a
  cases W with
  | nil =>
    have z : M.1 200 11 = 0 := by rw [i_eq, a]; rfl
    exact if_pos z
  | cons c W =>
    have hb := h.b
    simp only [List.length_cons] at a hl
    have z : ¬ M.1 200 11 = 0 := fun q => by rw [q] at a; simp only [Int32.reduceToInt] at a; omega
    have e := i_sub (x := M.1 200 11) (y := 1) (by simp only [Int32.reduceToInt]; omega) (by simp only [Int32.reduceToInt]; omega)
    simp only [Int32.reduceToInt] at e
    have c1 := i_clamp (x := M.1 200 11 - 1) (by omega)
    show (if M.1 200 11 = 0 then (0 : Int32) else M.1 204 (M.1 200 11 - 1).toNatClampNeg) = c
    rw [if_neg z, show (M.1 200 11 - 1).toNatClampNeg = W.length by omega]
    exact hb.1
/-- one sign more -/
theorem r_ls.push {M : am_M} {W : List Int32} {V : List Int64} {c : Int32} (h : r_ls M W V) (hl : W.length ≤ 100) : r_ls (am_wI (am_wI M 204 (M.1 200 11).toNatClampNeg c) 200 11 (M.1 200 11 + 1)) (c :: W) V := by
  have a := h.a
  have hi := i_inc (x := M.1 200 11) (by omega) (by omega)
  have ca := i_clamp (x := M.1 200 11) (by omega)
  refine ⟨(), ?_, ⟨?_, h.b.cg (fun k hk => ?_)⟩, ?_, h.d⟩
  · rw [am_wI_self, List.length_cons]
    omega
  · rw [am_wI_1, if_neg (fun z => absurd z.1 (by decide)), am_wI_1, if_pos ⟨rfl, by omega⟩]
  · rw [am_wI_1, if_neg (fun z => absurd z.1 (by decide)), am_wI_1, if_neg (fun z => by have := z.2; omega)]
  · rw [am_wI_1, if_neg (fun z => absurd z.2 (by decide)), am_wI_1, if_neg (fun z => absurd z.1 (by decide))]
    exact h.c
/-- the stacks are what another memory's are but for what is said -/
theorem r_ls.mk {M N : am_M} {W : List Int32} {V : List Int64} (e11 : (N.1 200 11).toInt = (W.length : Int)) (e12 : (N.1 200 12).toInt = (V.length : Int)) (h4 : r_at (M.1 204) W) (h5 : r_atL (M.2 205) V) (f4 : ∀ k, k < W.length → N.1 204 k = M.1 204 k) (f5 : ∀ k, k < V.length → N.2 205 k = M.2 205 k) : r_ls N W V := ⟨(), e11, h4.cg f4, e12, h5.cg f5⟩
theorem r_wt_clo {c : Int32} (h : 1 ≤ (r_clo c).toInt) : r_wt c = 1 := r_clo_wt (fun q => by rw [q] at h; exact absurd h (by decide))
theorem w_red_ws {t : Int32} (ht : 1 ≤ t.toInt) : ∀ {W : List Int32} {V : List Int64}, V.length = w_ws W + 1 → (w_red t W V).2.length = w_ws (w_red t W V).1 + 1 ∧ (w_red t W V).1.length ≤ W.length ∧ (w_red t W V).2.length ≤ V.length
  | [], V, h => by
    have e : w_red t [] V = ([], V) := by unfold w_red; rfl
    rw [e]
    exact ⟨h, Nat.le_refl _, Nat.le_refl _⟩
  | c :: W, [], h => by simp only [List.length_nil] at h; omega
  | c :: W, [b], h => by
    have e : w_red t (c :: W) [b] = (c :: W, [b]) := by unfold w_red; rfl
    rw [e]
    exact ⟨h, Nat.le_refl _, Nat.le_refl _⟩
  | c :: W, b :: a :: V, h => by
    by_cases z : t ≤ r_clo c
    · rw [w_red_y z]
      have z2 := z
      rw [i_le] at z2
      have hw := r_wt_clo (c := c) (by omega)
      have h2 : (b :: a :: V).length = r_wt c + w_ws W + 1 := h
      rw [hw] at h2
      simp only [List.length_cons] at h2 ⊢
      obtain ⟨i1, i2, i3⟩ := w_red_ws ht (W := W) (V := am_join c a b :: V) (by simp only [List.length_cons]; omega)
      simp only [List.length_cons] at i3
      exact ⟨i1, by omega, by omega⟩
    · have e : w_red t (c :: W) (b :: a :: V) = (c :: W, b :: a :: V) := by
        conv => lhs; unfold w_red
        rw [if_neg z]
      rw [e]
      exact ⟨h, Nat.le_refl _, Nat.le_refl _⟩
theorem w_cho_ws : ∀ {W : List Int32} {V : List Int64}, V.length = w_ws W + 1 → (w_cho W V).2.length = w_ws (w_cho W V).1 + 1 ∧ (w_cho W V).1.length ≤ W.length ∧ (w_cho W V).2.length ≤ V.length
  | [], V, h => by
    have e : w_cho [] V = ([], V) := by unfold w_cho; rfl
    rw [e]
    exact ⟨h, Nat.le_refl _, Nat.le_refl _⟩
  | c :: W, [], h => by simp only [List.length_nil] at h; omega
  | c :: W, [b], h => by
    have e : w_cho (c :: W) [b] = (c :: W, [b]) := by unfold w_cho; rfl
    rw [e]
    exact ⟨h, Nat.le_refl _, Nat.le_refl _⟩
  | c :: W, [b, a], h => by
    have e : w_cho (c :: W) [b, a] = (c :: W, [b, a]) := by unfold w_cho; rfl
    rw [e]
    exact ⟨h, Nat.le_refl _, Nat.le_refl _⟩
  | c :: W, z :: y :: x :: V, h => by
    by_cases q : c = 58
    · subst q
      rw [w_cho_y]
      have h2 : (z :: y :: x :: V).length = r_wt 58 + w_ws W + 1 := h
      rw [show r_wt 58 = 2 by decide] at h2
      simp only [List.length_cons] at h2 ⊢
      obtain ⟨i1, i2, i3⟩ := w_cho_ws (W := W) (V := (if x ≠ 0 then y else z) :: V) (by simp only [List.length_cons]; omega)
      simp only [List.length_cons] at i3
      exact ⟨i1, by omega, by omega⟩
    · rw [w_cho_hd (W := c :: W) q]
      exact ⟨h, Nat.le_refl _, Nat.le_refl _⟩
theorem w_chs_ws {W : List Int32} {V : List Int64} (h : V.length = w_ws W + 1) : (w_chs W V).2.length = w_ws (w_chs W V).1 + 1 ∧ (w_chs W V).1.length ≤ W.length ∧ (w_chs W V).2.length ≤ V.length := by
  obtain ⟨a, b, c⟩ := w_red_ws (t := 2) (by decide) h
  obtain ⟨d, e, f⟩ := w_cho_ws a
  exact ⟨d, by unfold w_chs; omega, by unfold w_chs; omega⟩
theorem w_lay_ws : ∀ {W : List Int32} {x : Int64} {V : List Int64}, V.length = w_ws W → (w_lay W x V).2.length = w_ws (w_lay W x V).1 + 1 ∧ (w_lay W x V).1.length ≤ W.length ∧ (w_lay W x V).2.length = V.length + 1
  | [], x, V, h => ⟨by simp only [w_lay, List.length_cons]; rw [h], Nat.le_refl _, rfl⟩
  | c :: W, x, V, h => by
    unfold w_lay
    by_cases z1 : c = 1
    · subst z1
      rw [if_pos rfl]
      obtain ⟨a, b, d⟩ := w_lay_ws (W := W) (x := if x = 0 then 1 else 0) (V := V) (by rw [h]; show r_wt 1 + w_ws W = _; rw [show r_wt 1 = 0 by decide]; omega)
      exact ⟨a, by simp only [List.length_cons]; omega, d⟩
    · rw [if_neg z1]
      by_cases z2 : c = 2
      · subst z2
        rw [if_pos rfl]
        obtain ⟨a, b, d⟩ := w_lay_ws (W := W) (x := -x) (V := V) (by rw [h]; show r_wt 2 + w_ws W = _; rw [show r_wt 2 = 0 by decide]; omega)
        exact ⟨a, by simp only [List.length_cons]; omega, d⟩
      · rw [if_neg z2]
        exact ⟨by simp only [List.length_cons]; rw [h], Nat.le_refl _, rfl⟩
def r_cl (M : am_M) (d : Nat) (K : List Int32 → List Int64 → Prop) : Prop := ∃ W V, r_ls M W V ∧ (V.length = w_ws W + d ∧ W.length ≤ 60 ∧ V.length ≤ 60) ∧ K W V
theorem r_cl_in {M : am_M} {d : Nat} {K : List Int32 → List Int64 → Prop} {W : List Int32} {V : List Int64} (h : r_ls M W V) (hd : V.length = w_ws W + d ∧ W.length ≤ 60 ∧ V.length ≤ 60) (k : K W V) : r_cl M d K := ⟨W, V, h, hd, k⟩
theorem r_ls.bd {M : am_M} {W : List Int32} {V : List Int64} (h : r_ls M W V) (hl : W.length ≤ 60) : 0 ≤ (M.1 200 11).toInt ∧ (M.1 200 11).toInt ≤ 120 := by
  have a := h.a
  exact ⟨by omega, by omega⟩
def TE8_between : am_T := fun live as M R => match as with
  | [.int c, .long a, .long b] => 1 ≤ (r_clo c).toInt ∧ R (some (.long (am_join c a b))) M
  | _ => False
theorem r_ops9 {c : Int32} (h : 1 ≤ (r_clo c).toInt) : c = 42 ∨ c = 47 ∨ c = 43 ∨ c = 45 ∨ c = 60 ∨ c = 62 ∨ c = 61 ∨ c = 38 ∨ c = 124 := by
  unfold r_clo at h
  by_cases a : c = 42 ∨ c = 47
  · rcases a with a | a <;> simp [a]
  rw [if_neg a] at h
  by_cases a : c = 43 ∨ c = 45
  · rcases a with a | a <;> simp [a]
  rw [if_neg a] at h
  by_cases a : c = 60 ∨ c = 61 ∨ c = 62
  · rcases a with a | a | a <;> simp [a]
  rw [if_neg a] at h
  by_cases a : c = 38
  · simp [a]
  rw [if_neg a] at h
  by_cases a : c = 124
  · simp [a]
  rw [if_neg a] at h
  exact absurd h (by decide)
set_option maxRecDepth 100000 in
set_option maxHeartbeats 4000000 in
theorem metX8_betweenE : am_Met yX8_between cX8_between 5 (some .long) (1) (20) TE8_between := by
  refine am_met (own := RX8) (by decide +kernel) rfl kX8_between koX8_between 100 (fun _ _ _ _ _ => none) (fun live as M Ret h => ?_) (fun _ _ _ _ _ _ _ _ hI => by cases hI)
  unfold TE8_between at h
  split at h
  · next c a b =>
    refine ⟨Nat.le_of_ble_eq_true rfl, ?_⟩
    change am_wp _ _ _ _ [(0, Value.int c), (1, Value.long a), (3, Value.long b)] _ _
    obtain ⟨hc, h⟩ := h
    rcases r_ops9 hc with rfl | rfl | rfl | rfl | rfl | rfl | rfl | rfl | rfl
    all_goals skip
    · skip
      repeat' (first | apply And.intro | exact rfl | (intro hx; exact absurd hx (by decide)) | (intro hx; exact absurd (by decide) hx) | decide | intro hx | (refine Exists.intro _ (And.intro rfl ?_)))
      all_goals try first | (with_reducible change am_tI _ _) | (change Ret _ _) | (change Ret _ _ _) | (change Exists _)
      all_goals try dsimp only at *
      all_goals try (with_reducible exact absurd ‹(1000 : Int64) = 0› am_z1000)
      all_goals first
        | (left; rfl)
        | (right; rfl)
        | exact r_lcz (by with_reducible assumption)
        | exact absurd (by with_reducible assumption) (r_lcz (by with_reducible assumption))
        | (refine Eq.mp (congrArg (fun z => Ret (some (Value.long z)) M) ?_) h
           simp only [lc_eq, lc_lt, lc_ge, lc_gt, lc_le] at *
           grind [am_join])
        | skip
    · skip
      repeat' (first | apply And.intro | exact rfl | (intro hx; exact absurd hx (by decide)) | (intro hx; exact absurd (by decide) hx) | decide | intro hx | (refine Exists.intro _ (And.intro rfl ?_)))
      all_goals try first | (with_reducible change am_tI _ _) | (change Ret _ _) | (change Ret _ _ _) | (change Exists _)
      all_goals try dsimp only at *
      all_goals try (with_reducible exact absurd ‹(1000 : Int64) = 0› am_z1000)
      all_goals first
        | (left; rfl)
        | (right; rfl)
        | exact r_lcz (by with_reducible assumption)
        | exact absurd (by with_reducible assumption) (r_lcz (by with_reducible assumption))
        | (refine Eq.mp (congrArg (fun z => Ret (some (Value.long z)) M) ?_) h
           simp only [lc_eq, lc_lt, lc_ge, lc_gt, lc_le] at *
           grind [am_join])
        | skip
    · skip
      repeat' (first | apply And.intro | exact rfl | (intro hx; exact absurd hx (by decide)) | (intro hx; exact absurd (by decide) hx) | decide | intro hx | (refine Exists.intro _ (And.intro rfl ?_)))
      all_goals try first | (with_reducible change am_tI _ _) | (change Ret _ _) | (change Ret _ _ _) | (change Exists _)
      all_goals try dsimp only at *
      all_goals try (with_reducible exact absurd ‹(1000 : Int64) = 0› am_z1000)
      all_goals first
        | (left; rfl)
        | (right; rfl)
        | exact r_lcz (by with_reducible assumption)
        | exact absurd (by with_reducible assumption) (r_lcz (by with_reducible assumption))
        | (refine Eq.mp (congrArg (fun z => Ret (some (Value.long z)) M) ?_) h
           simp only [lc_eq, lc_lt, lc_ge, lc_gt, lc_le] at *
           grind [am_join])
        | skip
    · skip
      repeat' (first | apply And.intro | exact rfl | (intro hx; exact absurd hx (by decide)) | (intro hx; exact absurd (by decide) hx) | decide | intro hx | (refine Exists.intro _ (And.intro rfl ?_)))
      all_goals try first | (with_reducible change am_tI _ _) | (change Ret _ _) | (change Ret _ _ _) | (change Exists _)
      all_goals try dsimp only at *
      all_goals try (with_reducible exact absurd ‹(1000 : Int64) = 0› am_z1000)
      all_goals first
        | (left; rfl)
        | (right; rfl)
        | exact r_lcz (by with_reducible assumption)
        | exact absurd (by with_reducible assumption) (r_lcz (by with_reducible assumption))
        | (refine Eq.mp (congrArg (fun z => Ret (some (Value.long z)) M) ?_) h
           simp only [lc_eq, lc_lt, lc_ge, lc_gt, lc_le] at *
           grind [am_join])
        | skip
    · skip
      repeat' (first | apply And.intro | exact rfl | (intro hx; exact absurd hx (by decide)) | (intro hx; exact absurd (by decide) hx) | decide | intro hx | (refine Exists.intro _ (And.intro rfl ?_)))
      all_goals try first | (with_reducible change am_tI _ _) | (change Ret _ _) | (change Ret _ _ _) | (change Exists _)
      all_goals try dsimp only at *
      all_goals try (with_reducible exact absurd ‹(1000 : Int64) = 0› am_z1000)
      all_goals first
        | (left; rfl)
        | (right; rfl)
        | exact r_lcz (by with_reducible assumption)
        | exact absurd (by with_reducible assumption) (r_lcz (by with_reducible assumption))
        | (refine Eq.mp (congrArg (fun z => Ret (some (Value.long z)) M) ?_) h
           simp only [lc_eq, lc_lt, lc_ge, lc_gt, lc_le] at *
           grind [am_join])
        | skip
    · skip
      repeat' (first | apply And.intro | exact rfl | (intro hx; exact absurd hx (by decide)) | (intro hx; exact absurd (by decide) hx) | decide | intro hx | (refine Exists.intro _ (And.intro rfl ?_)))
      all_goals try first | (with_reducible change am_tI _ _) | (change Ret _ _) | (change Ret _ _ _) | (change Exists _)
      all_goals try dsimp only at *
      all_goals try (with_reducible exact absurd ‹(1000 : Int64) = 0› am_z1000)
      all_goals first
        | (left; rfl)
        | (right; rfl)
        | exact r_lcz (by with_reducible assumption)
        | exact absurd (by with_reducible assumption) (r_lcz (by with_reducible assumption))
        | (refine Eq.mp (congrArg (fun z => Ret (some (Value.long z)) M) ?_) h
           simp only [lc_eq, lc_lt, lc_ge, lc_gt, lc_le] at *
           grind [am_join])
        | skip
    · skip
      repeat' (first | apply And.intro | exact rfl | (intro hx; exact absurd hx (by decide)) | (intro hx; exact absurd (by decide) hx) | decide | intro hx | (refine Exists.intro _ (And.intro rfl ?_)))
      all_goals try first | (with_reducible change am_tI _ _) | (change Ret _ _) | (change Ret _ _ _) | (change Exists _)
      all_goals try dsimp only at *
      all_goals try (with_reducible exact absurd ‹(1000 : Int64) = 0› am_z1000)
      all_goals first
        | (left; rfl)
        | (right; rfl)
        | exact r_lcz (by with_reducible assumption)
        | exact absurd (by with_reducible assumption) (r_lcz (by with_reducible assumption))
        | (refine Eq.mp (congrArg (fun z => Ret (some (Value.long z)) M) ?_) h
           simp only [lc_eq, lc_lt, lc_ge, lc_gt, lc_le] at *
           grind [am_join])
        | skip
    · skip
      repeat' (first | apply And.intro | exact rfl | (intro hx; exact absurd hx (by decide)) | (intro hx; exact absurd (by decide) hx) | decide | intro hx | (refine Exists.intro _ (And.intro rfl ?_)))
      all_goals try first | (with_reducible change am_tI _ _) | (change Ret _ _) | (change Ret _ _ _) | (change Exists _)
      all_goals try dsimp only at *
      all_goals try (with_reducible exact absurd ‹(1000 : Int64) = 0› am_z1000)
      all_goals first
        | (left; rfl)
        | (right; rfl)
        | exact r_lcz (by with_reducible assumption)
        | exact absurd (by with_reducible assumption) (r_lcz (by with_reducible assumption))
        | (refine Eq.mp (congrArg (fun z => Ret (some (Value.long z)) M) ?_) h
           simp only [lc_eq, lc_lt, lc_ge, lc_gt, lc_le] at *
           grind [am_join])
        | skip
    · skip
      repeat' (first | apply And.intro | exact rfl | (intro hx; exact absurd hx (by decide)) | (intro hx; exact absurd (by decide) hx) | decide | intro hx | (refine Exists.intro _ (And.intro rfl ?_)))
      all_goals try first | (with_reducible change am_tI _ _) | (change Ret _ _) | (change Ret _ _ _) | (change Exists _)
      all_goals try dsimp only at *
      all_goals try (with_reducible exact absurd ‹(1000 : Int64) = 0› am_z1000)
      all_goals first
        | (left; rfl)
        | (right; rfl)
        | exact r_lcz (by with_reducible assumption)
        | exact absurd (by with_reducible assumption) (r_lcz (by with_reducible assumption))
        | (refine Eq.mp (congrArg (fun z => Ret (some (Value.long z)) M) ?_) h
           simp only [lc_eq, lc_lt, lc_ge, lc_gt, lc_le] at *
           grind [am_join])
        | skip
  · exact h.elim
def kX8_reduceE (live : am_E) (Ret : am_R) : am_code := [(0, am_aload 0 1), (1, am_callV live 8 0 TX8_top 4), (4, am_callS live 1 TX8_closeness 7), (7, am_iload 1 8), (8, am_if2 (fun x y => x < y) 72 11), (11, am_aload 0 12), (12, am_dup 13), (13, am_getI live 8 12 16), (16, am_const (.int 1) 17), (17, am_i2 (fun x y => x - y) 18), (18, am_putI live 8 12 21), (21, am_aload 0 22), (22, am_getR live 8 10 25), (25, am_aload 0 26), (26, am_getI live 8 12 29), (29, am_const (.int 1) 30), (30, am_i2 (fun x y => x - y) 31), (31, am_aload 0 32), (32, am_callV live 8 0 TX8_top 35), (35, am_aload 0 36), (36, am_getR live 8 10 39), (39, am_aload 0 40), (40, am_getI live 8 12 43), (43, am_const (.int 1) 44), (44, am_i2 (fun x y => x - y) 45), (45, am_lald live 1 46), (46, am_aload 0 47), (47, am_getR live 8 10 50), (50, am_aload 0 51), (51, am_getI live 8 12 54), (54, am_lald live 1 55), (55, am_callS live 3 TE8_between 58), (58, am_last live 1 59), (59, am_aload 0 60), (60, am_dup 61), (61, am_getI live 8 11 64), (64, am_const (.int 1) 65), (65, am_i2 (fun x y => x - y) 66), (66, am_putI live 8 11 69), (69, am_goto 0), (72, am_retV Ret)]
theorem koX8_reduceE (live : am_E) (Ret : am_R) : ∀ q ∈ kX8_reduceE live Ret, am_ok RX8 cX8_reduce 2 none 2 44 live Ret q.1 q.2 :=
  am_kz dzX8_reduce <|
  am_kd (fun d => ak_aload_n d rfl rfl) <|
  am_kd (fun d => ak_callV (C := RX8) (F := TX8) (N := 27) metX8_top rfl ⟨rfl, hy_X8_top⟩ (am_w5 wd_1113 wd_1115 wd_35 wd_67 wd_1116) (by decide) d rfl) <|
  am_kd (fun d => ak_callS metX8_closeness ⟨rfl, hy_X8_closeness⟩ (am_w4 wd_1135 wd_1136 wd_67 wd_1137) (by decide) d rfl) <|
  am_kd (fun d => ak_iload_n d rfl rfl) <|
  am_kd (fun d => ak_icmp_lt d (by decide +kernel) rfl) <|
  am_kd (fun d => ak_aload_n d rfl rfl) <|
  am_kd (fun d => ak_dup d rfl) <|
  am_kd (fun d => ak_getI (C := RX8) (T := TX8) (N := 27) rfl inX8w (by decide) rfl rfl rfl wd_907 d rfl) <|
  am_kd (fun d => ak_iconst d (by decide +kernel) rfl) <|
  am_kd (fun d => ak_isub d rfl) <|
  am_kd (fun d => ak_putI (C := RX8) (T := TX8) (N := 27) rfl inX8w tyX8_ok nmX8 (by decide) rfl rfl rfl rfl (by decide +kernel) wd_907 d rfl) <|
  am_kd (fun d => ak_aload_n d rfl rfl) <|
  am_kd (fun d => ak_getR (C := RX8) (T := TX8) (N := 27) rfl inX8w (by decide) rfl rfl rfl wd_905 d rfl) <|
  am_kd (fun d => ak_aload_n d rfl rfl) <|
  am_kd (fun d => ak_getI (C := RX8) (T := TX8) (N := 27) rfl inX8w (by decide) rfl rfl rfl wd_907 d rfl) <|
  am_kd (fun d => ak_iconst d (by decide +kernel) rfl) <|
  am_kd (fun d => ak_isub d rfl) <|
  am_kd (fun d => ak_aload_n d rfl rfl) <|
  am_kd (fun d => ak_callV (C := RX8) (F := TX8) (N := 27) metX8_top rfl ⟨rfl, hy_X8_top⟩ (am_w5 wd_1113 wd_1115 wd_35 wd_67 wd_1116) (by decide) d rfl) <|
  am_kd (fun d => ak_aload_n d rfl rfl) <|
  am_kd (fun d => ak_getR (C := RX8) (T := TX8) (N := 27) rfl inX8w (by decide) rfl rfl rfl wd_905 d rfl) <|
  am_kd (fun d => ak_aload_n d rfl rfl) <|
  am_kd (fun d => ak_getI (C := RX8) (T := TX8) (N := 27) rfl inX8w (by decide) rfl rfl rfl wd_907 d rfl) <|
  am_kd (fun d => ak_iconst d (by decide +kernel) rfl) <|
  am_kd (fun d => ak_isub d rfl) <|
  am_kd (fun d => ak_lald (t := 1) (fun _ => rfl) rfl d rfl) <|
  am_kd (fun d => ak_aload_n d rfl rfl) <|
  am_kd (fun d => ak_getR (C := RX8) (T := TX8) (N := 27) rfl inX8w (by decide) rfl rfl rfl wd_905 d rfl) <|
  am_kd (fun d => ak_aload_n d rfl rfl) <|
  am_kd (fun d => ak_getI (C := RX8) (T := TX8) (N := 27) rfl inX8w (by decide) rfl rfl rfl wd_907 d rfl) <|
  am_kd (fun d => ak_lald (t := 1) (fun _ => rfl) rfl d rfl) <|
  am_kd (fun d => ak_callS metX8_betweenE ⟨rfl, hy_X8_between⟩ (am_w4 wd_1142 wd_1143 wd_67 wd_1144) (by decide) d rfl) <|
  am_kd (fun d => ak_last (t := 1) (fun _ => rfl) rfl d rfl) <|
  am_kd (fun d => ak_aload_n d rfl rfl) <|
  am_kd (fun d => ak_dup d rfl) <|
  am_kd (fun d => ak_getI (C := RX8) (T := TX8) (N := 27) rfl inX8w (by decide) rfl rfl rfl wd_906 d rfl) <|
  am_kd (fun d => ak_iconst d (by decide +kernel) rfl) <|
  am_kd (fun d => ak_isub d rfl) <|
  am_kd (fun d => ak_putI (C := RX8) (T := TX8) (N := 27) rfl inX8w tyX8_ok nmX8 (by decide) rfl rfl rfl rfl (by decide +kernel) wd_906 d rfl) <|
  am_kd (fun d => ak_goto d (by decide +kernel)) <|
  am_kd (fun d => ak_retV d) <| am_kdn
def TE8_reduce : am_T := fun live as M R => match as with
  | [.ref n, .int t] => am_mn live ∧ n = 200 ∧ 1 ≤ t.toInt ∧ r_cl M 1 (fun W V => ∀ M', r_wg M M' → r_ls M' (w_red t W V).1 (w_red t W V).2 → R none M')
  | _ => False
def JE8_reduce : am_E → List Value → am_M → am_R → am_inv := fun live as M0 R pc => match as with
  | [.ref n, .int t] => (match pc with
    | 0 => some ([0, 1], fun k L st M => ∃ (W : List Int32) (V : List Int64), L = [(0, .ref 200), (1, .int t)] ∧ st = [] ∧ k = (W.length, 0) ∧ r_ls M W V ∧ (V.length = w_ws W + 1 ∧ W.length ≤ 60 ∧ V.length ≤ 60) ∧ r_wg M0 M ∧ ∀ M', r_wg M0 M' → r_ls M' (w_red t W V).1 (w_red t W V).2 → R none M')
    | _ => none)
  | _ => none
theorem r_ls.pop {M : am_M} {c : Int32} {W : List Int32} {a b x : Int64} {V : List Int64} (h : r_ls M (c :: W) (b :: a :: V)) (hV : (b :: a :: V).length ≤ 60) (hW : (c :: W).length ≤ 60) : (M.1 200 12 - 1).toInt = (V.length : Int) + 1 ∧ (M.1 200 12 - 1 - 1).toInt = (V.length : Int) ∧ (M.1 200 11 - 1).toInt = (W.length : Int) ∧ M.2 205 (M.1 200 12 - 1).toNatClampNeg = b ∧ M.2 205 (M.1 200 12 - 1 - 1).toNatClampNeg = a := by
  have a1 := h.a
  have c1 := h.c
  have d1 := h.d
  simp only [List.length_cons] at a1 c1 hV hW
  have e12 := i_sub (x := M.1 200 12) (y := 1) (by simp only [Int32.reduceToInt]; omega) (by simp only [Int32.reduceToInt]; omega)
  simp only [Int32.reduceToInt] at e12
  have e13 := i_sub (x := M.1 200 12 - 1) (y := 1) (by simp only [Int32.reduceToInt]; omega) (by simp only [Int32.reduceToInt]; omega)
  simp only [Int32.reduceToInt] at e13
  have e11 := i_sub (x := M.1 200 11) (y := 1) (by simp only [Int32.reduceToInt]; omega) (by simp only [Int32.reduceToInt]; omega)
  simp only [Int32.reduceToInt] at e11
  have k1 := i_clamp (x := M.1 200 12 - 1) (by omega)
  have k2 := i_clamp (x := M.1 200 12 - 1 - 1) (by omega)
  refine ⟨by omega, by omega, by omega, ?_, ?_⟩
  · rw [show (M.1 200 12 - 1).toNatClampNeg = (a :: V).length by simp only [List.length_cons]; omega]
    exact d1.1
  · rw [show (M.1 200 12 - 1 - 1).toNatClampNeg = V.length by omega]
    exact d1.2.1
set_option maxRecDepth 100000 in
set_option maxHeartbeats 4000000 in
theorem metX8_reduceE : am_Met yX8_reduce cX8_reduce 2 none (2) (44) TE8_reduce := by
  refine am_met0 (own := RX8) (by decide +kernel) rfl kX8_reduceE koX8_reduceE 100 JE8_reduce ?_ ?_
  · intro live as M Ret h
    unfold TE8_reduce at h
    split at h
    · next n t =>
      refine ⟨Nat.le_of_ble_eq_true rfl, ?_⟩
      obtain ⟨hmn, rfl, ht, W, V, hl, hd, h⟩ := h
      exact ⟨_, _, rfl, W, V, rfl, rfl, rfl, hl, hd, r_wg.rf, h⟩
    · exact h.elim
  · intro live as M0 Ret h k pc I hI L st M hi
    unfold TE8_reduce at h
    split at h
    · next n t =>
      obtain ⟨hmn, rfl, ht, W9, V9, hl9, hd9, h9⟩ := h
      have hmn2 := hmn
      obtain ⟨i1, i2, rfl⟩ := hmn2
      have l204 : am_len 204 = 120 := rfl
      have l205 : am_len 205 = 120 := rfl
      change (match pc with | 0 => _ | _ => none) = _ at hI
      split at hI
      · cases hI
        obtain ⟨W, V, rfl, rfl, rfl, hl, ⟨d1, d2, d3⟩, hk, h⟩ := hi
        have u120 := hl.bd d2
        have ht0 := hl.top (by omega)
        by_cases hz : r_clo (r_top M) < t
        · have e : w_red t W V = (W, V) := by
            unfold w_red
            split
            · next c W b a V =>
              rw [if_neg (fun q => by rw [ht0, i_lt] at hz; rw [i_le] at q; have z : r_clo (w_hdc (c :: W)) = r_clo c := rfl; rw [z] at hz; omega)]
            · rfl
            · rfl
          have h := h M hk (by rw [e]; exact hl)
          repeat' (first | (with_reducible exact hmn) | (with_reducible exact u120) | apply And.intro | exact rfl | (intro hx; with_reducible exact absurd hz hx) | intro hx | (refine Exists.intro _ (And.intro rfl ?_)))
          all_goals try first | (with_reducible change am_tI _ _) | (change Ret _ _) | (change Ret _ _ _) | (change Exists _)
          all_goals try dsimp only at *
          all_goals try (with_reducible exact absurd ‹(1000 : Int64) = 0› am_z1000)
          all_goals exact h
        · have hz2 := hz
          rw [ht0] at hz2
          simp only [i_lt] at hz2
          cases W with
          | nil => exact absurd (show t.toInt ≤ (r_clo 0).toInt from Int.not_lt.mp hz2) (by rw [show r_clo 0 = 0 by decide]; simp only [Int32.reduceToInt]; omega)
          | cons c W =>
            have hc : t.toInt ≤ (r_clo c).toInt := Int.not_lt.mp hz2
            have hw := r_wt_clo (c := c) (by omega)
            have d1b : V.length = r_wt c + w_ws W + 1 := d1
            rw [hw] at d1b
            match V, hl, d1, d1b, d3, h with
            | [], _, _, d1b, _, _ => simp only [List.length_nil] at d1b; omega
            | [_], _, _, d1b, _, _ => simp only [List.length_cons, List.length_nil] at d1b; omega
            | b :: a :: V, hl, d1, d1b, d3, h =>
              obtain ⟨p1, p2, p3, p4, p5⟩ := hl.pop (x := 0) d3 d2
              have htc : r_top M = c := ht0
              have f11 : ∀ v, (am_wI M 200 12 v).1 200 11 = M.1 200 11 := fun v => by rw [am_wI_1, if_neg (fun q => absurd q.2 (by decide))]
              have f12 : ∀ v, (am_wI M 200 12 v).1 200 12 = v := fun v => am_wI_self
              have ftop : ∀ v, r_top (am_wI M 200 12 v) = c := fun v => by rw [← htc]; unfold r_top; rw [f11, show (am_wI M 200 12 v).1 204 = M.1 204 from funext fun k => by rw [am_wI_1, if_neg (fun q => absurd q.1 (by decide))]]
              have v120 : 0 ≤ ((am_wI M 200 12 (M.1 200 12 - 1)).1 200 11).toInt ∧ ((am_wI M 200 12 (M.1 200 12 - 1)).1 200 11).toInt ≤ 120 := by rw [f11]; exact u120
              have hcl : 1 ≤ (r_clo (r_top (am_wI M 200 12 (M.1 200 12 - 1)))).toInt := by rw [ftop]; omega
              simp only [List.length_cons] at d2 d3 d1b
              repeat' (first | (with_reducible exact hmn) | (with_reducible exact u120) | (with_reducible exact v120) | (with_reducible exact hcl) | apply And.intro | exact rfl | (intro hx; with_reducible exact absurd hx hz) | intro hx | (refine Exists.intro _ (And.intro rfl ?_)))
              all_goals try first | (with_reducible change am_tI _ _) | (change Ret _ _) | (change Ret _ _ _) | (change Exists _)
              all_goals try dsimp only at *
              all_goals try (with_reducible exact absurd ‹(1000 : Int64) = 0› am_z1000)
              all_goals try simp only [f12, p1, p2, l205]
              all_goals first
                | omega
                | skip
              have h' := h
              rw [w_red_y (by rw [i_le]; exact hc)] at h'
              refine ⟨_, am_lt_l (Nat.lt_succ_self _), W, am_join c a b :: V, rfl, rfl, rfl, ?_, ⟨by simp only [List.length_cons]; omega, by omega, by simp only [List.length_cons]; omega⟩, ?_, h'⟩
              · have hb := hl.b
                have hd := hl.d
                refine ⟨(), ?_, hb.2.cg (fun k _ => ?_), ?_, ⟨?_, hd.2.2.cg (fun k hk => ?_)⟩⟩
                · rw [am_wI_self]
                  show ((am_wI M 200 12 (M.1 200 12 - 1)).1 200 11 - 1).toInt = _
                  rw [f11]
                  exact p3
                · rw [am_wI_1, if_neg (fun q => absurd q.1 (by decide))]
                  show (am_wI M 200 12 (M.1 200 12 - 1)).1 204 k = _
                  rw [am_wI_1, if_neg (fun q => absurd q.1 (by decide))]
                · rw [am_wI_1, if_neg (fun q => absurd q.2 (by decide))]
                  show ((am_wI M 200 12 (M.1 200 12 - 1)).1 200 12).toInt = _
                  rw [f12, p1, List.length_cons]
                  rfl
                · show (am_wJ (am_wI M 200 12 (M.1 200 12 - 1)) 205 ((am_wI M 200 12 (M.1 200 12 - 1)).1 200 12 - 1).toNatClampNeg (am_join (r_top (am_wI M 200 12 (M.1 200 12 - 1))) (M.2 205 ((am_wI M 200 12 (M.1 200 12 - 1)).1 200 12 - 1).toNatClampNeg) (M.2 205 ((am_wI M 200 12 (M.1 200 12 - 1)).1 200 12).toNatClampNeg))).2 205 V.length = _
                  have k2 := i_clamp (x := M.1 200 12 - 1 - 1) (by omega)
                  rw [f12, am_wJ_1, if_pos ⟨rfl, by omega⟩, ftop, p4, p5]
                · show (am_wJ (am_wI M 200 12 (M.1 200 12 - 1)) 205 ((am_wI M 200 12 (M.1 200 12 - 1)).1 200 12 - 1).toNatClampNeg _).2 205 k = _
                  have k2 := i_clamp (x := M.1 200 12 - 1 - 1) (by omega)
                  rw [f12, am_wJ_1, if_neg (fun q => by have := q.2; omega)]
                  rfl
              · refine hk.tr ⟨(), fun a b z y => ?_, fun a b z => ?_⟩
                · rw [am_wI_1, if_neg (fun q => by omega)]
                  show (am_wI M 200 12 (M.1 200 12 - 1)).1 a b = _
                  rw [am_wI_1, if_neg (fun q => by omega)]
                · show (am_wJ _ 205 _ _).2 a b = _
                  rw [am_wJ_1, if_neg (fun q => z q.1)]
                  rfl
      · cases hI
    · exact h.elim
end
-- part 79k.rtext1.lean.txt
section
/-! texts: the reference's reader, exact, II -/
def kX8_chooseE (live : am_E) (Ret : am_R) : am_code := [(0, am_aload 0 1), (1, am_const (.int 2) 2), (2, am_callV live 8 1 TE8_reduce 5), (5, am_aload 0 6), (6, am_callV live 8 0 TX8_top 9), (9, am_const (.int 58) 11), (11, am_if2 (fun x y => x = y) 14 87), (14, am_aload 0 15), (15, am_dup 16), (16, am_getI live 8 12 19), (19, am_const (.int 2) 20), (20, am_i2 (fun x y => x - y) 21), (21, am_putI live 8 12 24), (24, am_aload 0 25), (25, am_getR live 8 10 28), (28, am_aload 0 29), (29, am_getI live 8 12 32), (32, am_const (.int 1) 33), (33, am_i2 (fun x y => x - y) 34), (34, am_aload 0 35), (35, am_getR live 8 10 38), (38, am_aload 0 39), (39, am_getI live 8 12 42), (42, am_const (.int 1) 43), (43, am_i2 (fun x y => x - y) 44), (44, am_lald live 1 45), (45, am_const (.long 0) 46), (46, am_lcmp 47), (47, am_if1 (fun x => x = 0) 62 50), (50, am_aload 0 51), (51, am_getR live 8 10 54), (54, am_aload 0 55), (55, am_getI live 8 12 58), (58, am_lald live 1 59), (59, am_goto 73), (62, am_aload 0 63), (63, am_getR live 8 10 66), (66, am_aload 0 67), (67, am_getI live 8 12 70), (70, am_const (.int 1) 71), (71, am_i2 (fun x y => x + y) 72), (72, am_lald live 1 73), (73, am_last live 1 74), (74, am_aload 0 75), (75, am_dup 76), (76, am_getI live 8 11 79), (79, am_const (.int 1) 80), (80, am_i2 (fun x y => x - y) 81), (81, am_putI live 8 11 84), (84, am_goto 5), (87, am_retV Ret)]
theorem koX8_chooseE (live : am_E) (Ret : am_R) : ∀ q ∈ kX8_chooseE live Ret, am_ok RX8 cX8_choose 1 none 3 65 live Ret q.1 q.2 :=
  am_kz dzX8_choose <|
  am_kd (fun d => ak_aload_n d rfl rfl) <|
  am_kd (fun d => ak_iconst d (by decide +kernel) rfl) <|
  am_kd (fun d => ak_callV (C := RX8) (F := TX8) (N := 27) metX8_reduceE rfl ⟨rfl, hy_X8_reduce⟩ (am_w5 wd_1138 wd_1140 wd_39 wd_67 wd_1141) (by decide) d rfl) <|
  am_kd (fun d => ak_aload_n d rfl rfl) <|
  am_kd (fun d => ak_callV (C := RX8) (F := TX8) (N := 27) metX8_top rfl ⟨rfl, hy_X8_top⟩ (am_w5 wd_1113 wd_1115 wd_35 wd_67 wd_1116) (by decide) d rfl) <|
  am_kd (fun d => ak_bipush d (by decide +kernel) rfl) <|
  am_kd (fun d => ak_icmp_ne d (by decide +kernel) rfl) <|
  am_kd (fun d => ak_aload_n d rfl rfl) <|
  am_kd (fun d => ak_dup d rfl) <|
  am_kd (fun d => ak_getI (C := RX8) (T := TX8) (N := 27) rfl inX8w (by decide) rfl rfl rfl wd_907 d rfl) <|
  am_kd (fun d => ak_iconst d (by decide +kernel) rfl) <|
  am_kd (fun d => ak_isub d rfl) <|
  am_kd (fun d => ak_putI (C := RX8) (T := TX8) (N := 27) rfl inX8w tyX8_ok nmX8 (by decide) rfl rfl rfl rfl (by decide +kernel) wd_907 d rfl) <|
  am_kd (fun d => ak_aload_n d rfl rfl) <|
  am_kd (fun d => ak_getR (C := RX8) (T := TX8) (N := 27) rfl inX8w (by decide) rfl rfl rfl wd_905 d rfl) <|
  am_kd (fun d => ak_aload_n d rfl rfl) <|
  am_kd (fun d => ak_getI (C := RX8) (T := TX8) (N := 27) rfl inX8w (by decide) rfl rfl rfl wd_907 d rfl) <|
  am_kd (fun d => ak_iconst d (by decide +kernel) rfl) <|
  am_kd (fun d => ak_isub d rfl) <|
  am_kd (fun d => ak_aload_n d rfl rfl) <|
  am_kd (fun d => ak_getR (C := RX8) (T := TX8) (N := 27) rfl inX8w (by decide) rfl rfl rfl wd_905 d rfl) <|
  am_kd (fun d => ak_aload_n d rfl rfl) <|
  am_kd (fun d => ak_getI (C := RX8) (T := TX8) (N := 27) rfl inX8w (by decide) rfl rfl rfl wd_907 d rfl) <|
  am_kd (fun d => ak_iconst d (by decide +kernel) rfl) <|
  am_kd (fun d => ak_isub d rfl) <|
  am_kd (fun d => ak_lald (t := 1) (fun _ => rfl) rfl d rfl) <|
  am_kd (fun d => ak_lconst d (by decide +kernel) rfl) <|
  am_kd (fun d => ak_lcmp d rfl) <|
  am_kd (fun d => ak_if_eq d (by decide +kernel) rfl) <|
  am_kd (fun d => ak_aload_n d rfl rfl) <|
  am_kd (fun d => ak_getR (C := RX8) (T := TX8) (N := 27) rfl inX8w (by decide) rfl rfl rfl wd_905 d rfl) <|
  am_kd (fun d => ak_aload_n d rfl rfl) <|
  am_kd (fun d => ak_getI (C := RX8) (T := TX8) (N := 27) rfl inX8w (by decide) rfl rfl rfl wd_907 d rfl) <|
  am_kd (fun d => ak_lald (t := 1) (fun _ => rfl) rfl d rfl) <|
  am_kd (fun d => ak_goto d (by decide +kernel)) <|
  am_kd (fun d => ak_aload_n d rfl rfl) <|
  am_kd (fun d => ak_getR (C := RX8) (T := TX8) (N := 27) rfl inX8w (by decide) rfl rfl rfl wd_905 d rfl) <|
  am_kd (fun d => ak_aload_n d rfl rfl) <|
  am_kd (fun d => ak_getI (C := RX8) (T := TX8) (N := 27) rfl inX8w (by decide) rfl rfl rfl wd_907 d rfl) <|
  am_kd (fun d => ak_iconst d (by decide +kernel) rfl) <|
  am_kd (fun d => ak_iadd d rfl) <|
  am_kd (fun d => ak_lald (t := 1) (fun _ => rfl) rfl d rfl) <|
  am_kd (fun d => ak_last (t := 1) (fun _ => rfl) rfl d rfl) <|
  am_kd (fun d => ak_aload_n d rfl rfl) <|
  am_kd (fun d => ak_dup d rfl) <|
  am_kd (fun d => ak_getI (C := RX8) (T := TX8) (N := 27) rfl inX8w (by decide) rfl rfl rfl wd_906 d rfl) <|
  am_kd (fun d => ak_iconst d (by decide +kernel) rfl) <|
  am_kd (fun d => ak_isub d rfl) <|
  am_kd (fun d => ak_putI (C := RX8) (T := TX8) (N := 27) rfl inX8w tyX8_ok nmX8 (by decide) rfl rfl rfl rfl (by decide +kernel) wd_906 d rfl) <|
  am_kd (fun d => ak_goto d (by decide +kernel)) <|
  am_kd (fun d => ak_retV d) <| am_kdn
def TE8_choose : am_T := fun live as M R => match as with
  | [.ref n] => am_mn live ∧ n = 200 ∧ r_cl M 1 (fun W V => ∀ M', r_wg M M' → r_ls M' (w_chs W V).1 (w_chs W V).2 → R none M')
  | _ => False
def JE8_choose : am_E → List Value → am_M → am_R → am_inv := fun live as M0 R pc => match as with
  | [.ref n] => (match pc with
    | 5 => some ([0], fun k L st M => ∃ (W : List Int32) (V : List Int64), L = [(0, .ref 200)] ∧ st = [] ∧ k = (W.length, 0) ∧ r_ls M W V ∧ (V.length = w_ws W + 1 ∧ W.length ≤ 60 ∧ V.length ≤ 60) ∧ r_wg M0 M ∧ ∀ M', r_wg M0 M' → r_ls M' (w_cho W V).1 (w_cho W V).2 → R none M')
    | _ => none)
  | _ => none
theorem r_ls.pop3 {M : am_M} {c : Int32} {W : List Int32} {x y z : Int64} {V : List Int64} (h : r_ls M (c :: W) (z :: y :: x :: V)) (hV : (z :: y :: x :: V).length ≤ 60) (hW : (c :: W).length ≤ 60) : (M.1 200 12 - 2).toInt = (V.length : Int) + 1 ∧ (M.1 200 12 - 2 - 1).toInt = (V.length : Int) ∧ (M.1 200 12 - 2 + 1).toInt = (V.length : Int) + 2 ∧ (M.1 200 11 - 1).toInt = (W.length : Int) ∧ M.2 205 (M.1 200 12 - 2 - 1).toNatClampNeg = x ∧ M.2 205 (M.1 200 12 - 2).toNatClampNeg = y ∧ M.2 205 (M.1 200 12 - 2 + 1).toNatClampNeg = z := by
  have a1 := h.a
  have c1 := h.c
  have d1 := h.d
  simp only [List.length_cons] at a1 c1 hV hW
  have e12 := i_sub (x := M.1 200 12) (y := 2) (by simp only [Int32.reduceToInt]; omega) (by simp only [Int32.reduceToInt]; omega)
  simp only [Int32.reduceToInt] at e12
  have e13 := i_sub (x := M.1 200 12 - 2) (y := 1) (by simp only [Int32.reduceToInt]; omega) (by simp only [Int32.reduceToInt]; omega)
  simp only [Int32.reduceToInt] at e13
  have e14 := i_add (x := M.1 200 12 - 2) (y := 1) (by simp only [Int32.reduceToInt]; omega) (by simp only [Int32.reduceToInt]; omega)
  simp only [Int32.reduceToInt] at e14
  have e11 := i_sub (x := M.1 200 11) (y := 1) (by simp only [Int32.reduceToInt]; omega) (by simp only [Int32.reduceToInt]; omega)
  simp only [Int32.reduceToInt] at e11
  have k1 := i_clamp (x := M.1 200 12 - 2) (by omega)
  have k2 := i_clamp (x := M.1 200 12 - 2 - 1) (by omega)
  have k3 := i_clamp (x := M.1 200 12 - 2 + 1) (by omega)
  refine ⟨by omega, by omega, by omega, by omega, ?_, ?_, ?_⟩
  · rw [show (M.1 200 12 - 2 - 1).toNatClampNeg = V.length by omega]
    exact d1.2.2.1
  · rw [show (M.1 200 12 - 2).toNatClampNeg = (x :: V).length by simp only [List.length_cons]; omega]
    exact d1.2.1
  · rw [show (M.1 200 12 - 2 + 1).toNatClampNeg = (y :: x :: V).length by simp only [List.length_cons]; omega]
    exact d1.1
set_option maxRecDepth 100000 in
set_option maxHeartbeats 4000000 in
theorem metX8_chooseE : am_Met yX8_choose cX8_choose 1 none (3) (65) TE8_choose := by
  refine am_met (own := RX8) (by decide +kernel) rfl kX8_chooseE koX8_chooseE 100 JE8_choose ?_ ?_
  · intro live as M Ret h
    unfold TE8_choose at h
    split at h
    · next n =>
      refine ⟨Nat.le_of_ble_eq_true rfl, ?_⟩
      change am_wp _ _ _ _ [(0, Value.ref n)] _ _
      obtain ⟨hmn, rfl, W, V, hl, hd, h⟩ := h
      have hmn2 := hmn
      obtain ⟨i1, i2, rfl⟩ := hmn2
      repeat' (first | (with_reducible exact hmn) | apply And.intro | exact rfl | intro hx | (refine Exists.intro _ (And.intro rfl ?_)) | (refine r_cl_in hl hd (fun M1 c1 d1 => ?_)))
      all_goals try first | (with_reducible change am_tI _ _) | (change Ret _ _) | (change Ret _ _ _) | (change Exists _)
      all_goals try dsimp only at *
      all_goals try (with_reducible exact absurd ‹(1000 : Int64) = 0› am_z1000)
      all_goals first
        | decide
        | skip
      obtain ⟨w1, w2, w3⟩ := w_red_ws (t := 2) (by decide) hd.1
      exact ⟨_, _, _, rfl, rfl, rfl, d1, ⟨w1, by omega, by omega⟩, c1, h⟩
    · exact h.elim
  · intro live as M0 Ret h k pc I hI L st M hi
    unfold TE8_choose at h
    split at h
    · next n =>
      obtain ⟨hmn, rfl, W9, V9, hl9, hd9, h9⟩ := h
      have hmn2 := hmn
      obtain ⟨i1, i2, rfl⟩ := hmn2
      have l205 : am_len 205 = 120 := rfl
      change (match pc with | 5 => _ | _ => none) = _ at hI
      split at hI
      · cases hI
        obtain ⟨W, V, rfl, rfl, rfl, hl, ⟨d1, d2, d3⟩, hk, h⟩ := hi
        have u120 := hl.bd d2
        have ht0 := hl.top (by omega)
        by_cases hz : r_top M = 58
        rotate_left
        · have h := h M hk (by rw [w_cho_hd (by rw [← ht0]; exact hz)]; exact hl)
          repeat' (first | (with_reducible exact hmn) | (with_reducible exact u120) | apply And.intro | exact rfl | (intro hx; with_reducible exact absurd hx hz) | intro hx | (refine Exists.intro _ (And.intro rfl ?_)))
          all_goals try first | (with_reducible change am_tI _ _) | (change Ret _ _) | (change Ret _ _ _) | (change Exists _)
          all_goals try dsimp only at *
          all_goals try (with_reducible exact absurd ‹(1000 : Int64) = 0› am_z1000)
          all_goals exact h
        · have hz2 := hz
          rw [ht0] at hz2
          cases W with
          | nil => exact absurd (show (0 : Int32) = 58 from hz2) (by decide)
          | cons c W =>
            have hc : c = 58 := hz2
            subst hc
            have d1b : V.length = r_wt 58 + w_ws W + 1 := d1
            rw [show r_wt 58 = 2 by decide] at d1b
            match V, hl, d1, d1b, d3, h with
            | [], _, _, d1b, _, _ => simp only [List.length_nil] at d1b; omega
            | [_], _, _, d1b, _, _ => simp only [List.length_cons, List.length_nil] at d1b; omega
            | [_, _], _, _, d1b, _, _ => simp only [List.length_cons, List.length_nil] at d1b; omega
            | z :: y :: x :: V, hl, d1, d1b, d3, h =>
              obtain ⟨p1, p2, p3, p4, p5, p6, p7⟩ := hl.pop3 d3 d2
              have f11 : ∀ v, (am_wI M 200 12 v).1 200 11 = M.1 200 11 := fun v => by rw [am_wI_1, if_neg (fun q => absurd q.2 (by decide))]
              have f12 : ∀ v, (am_wI M 200 12 v).1 200 12 = v := fun v => am_wI_self
              simp only [List.length_cons] at d2 d3 d1b
              have h' := h
              rw [w_cho_y] at h'
              have fin : ∀ r : Int64, r = (if x ≠ 0 then y else z) → r_ls (am_wI (am_wJ (am_wI M 200 12 (M.1 200 12 - 2)) 205 ((am_wI M 200 12 (M.1 200 12 - 2)).1 200 12 - 1).toNatClampNeg r) 200 11 ((am_wI M 200 12 (M.1 200 12 - 2)).1 200 11 - 1)) W ((if x ≠ 0 then y else z) :: V) ∧ r_wg M0 (am_wI (am_wJ (am_wI M 200 12 (M.1 200 12 - 2)) 205 ((am_wI M 200 12 (M.1 200 12 - 2)).1 200 12 - 1).toNatClampNeg r) 200 11 ((am_wI M 200 12 (M.1 200 12 - 2)).1 200 11 - 1)) := fun r hr => by
                have k2 := i_clamp (x := M.1 200 12 - 2 - 1) (by omega)
                have hb := hl.b
                have hd := hl.d
                refine ⟨⟨(), ?_, hb.2.cg (fun k _ => ?_), ?_, ⟨?_, hd.2.2.2.cg (fun k hk => ?_)⟩⟩, (hk.w12.w205).w11⟩
                · rw [am_wI_self, f11]
                  exact p4
                · rw [am_wI_1, if_neg (fun q => absurd q.1 (by decide))]
                  show (am_wI M 200 12 (M.1 200 12 - 2)).1 204 k = _
                  rw [am_wI_1, if_neg (fun q => absurd q.1 (by decide))]
                · rw [am_wI_1, if_neg (fun q => absurd q.2 (by decide))]
                  show ((am_wI M 200 12 (M.1 200 12 - 2)).1 200 12).toInt = _
                  rw [f12, p1, List.length_cons]
                  rfl
                · show (am_wJ (am_wI M 200 12 (M.1 200 12 - 2)) 205 ((am_wI M 200 12 (M.1 200 12 - 2)).1 200 12 - 1).toNatClampNeg r).2 205 V.length = _
                  rw [f12, am_wJ_1, if_pos ⟨rfl, by omega⟩, hr]
                · show (am_wJ (am_wI M 200 12 (M.1 200 12 - 2)) 205 ((am_wI M 200 12 (M.1 200 12 - 2)).1 200 12 - 1).toNatClampNeg r).2 205 k = _
                  rw [f12, am_wJ_1, if_neg (fun q => by have := q.2; omega)]
                  rfl
              have gx : (am_wI M 200 12 (M.1 200 12 - 2)).2 205 ((am_wI M 200 12 (M.1 200 12 - 2)).1 200 12 - 1).toNatClampNeg = x := by rw [f12]; exact p5
              have gy : (am_wI M 200 12 (M.1 200 12 - 2)).2 205 ((am_wI M 200 12 (M.1 200 12 - 2)).1 200 12).toNatClampNeg = y := by rw [f12]; exact p6
              have gz : (am_wI M 200 12 (M.1 200 12 - 2)).2 205 ((am_wI M 200 12 (M.1 200 12 - 2)).1 200 12 + 1).toNatClampNeg = z := by rw [f12]; exact p7
              by_cases zx : lg_cmp ((am_wI M 200 12 (M.1 200 12 - 2)).2 205 ((am_wI M 200 12 (M.1 200 12 - 2)).1 200 12 - 1).toNatClampNeg) 0 = 0
              · have x0 : x = 0 := by rw [lc_eq, gx] at zx; exact zx
                obtain ⟨q1, q2⟩ := fin _ (show (am_wI M 200 12 (M.1 200 12 - 2)).2 205 ((am_wI M 200 12 (M.1 200 12 - 2)).1 200 12 + 1).toNatClampNeg = _ by rw [gz, if_neg (not_not_intro x0)])
                repeat' (first | (with_reducible exact hmn) | (with_reducible exact u120) | apply And.intro | exact rfl | (intro hx; with_reducible exact absurd hz hx) | (intro hx; with_reducible exact absurd zx hx) | intro hx | (refine Exists.intro _ (And.intro rfl ?_)))
                all_goals try first | (with_reducible change am_tI _ _) | (change Ret _ _) | (change Ret _ _ _) | (change Exists _)
                all_goals try dsimp only at *
                all_goals try (with_reducible exact absurd ‹(1000 : Int64) = 0› am_z1000)
                all_goals try simp only [f12, p1, p2, p3, l205]
                all_goals first
                  | omega
                  | skip
                all_goals exact ⟨_, am_lt_l (Nat.lt_succ_self _), W, _, rfl, rfl, rfl, q1, ⟨by simp only [List.length_cons]; omega, by omega, by simp only [List.length_cons]; omega⟩, q2, h'⟩
              · have x0 : x ≠ 0 := fun q => zx (by rw [lc_eq, gx]; exact q)
                obtain ⟨q1, q2⟩ := fin _ (show (am_wI M 200 12 (M.1 200 12 - 2)).2 205 ((am_wI M 200 12 (M.1 200 12 - 2)).1 200 12).toNatClampNeg = _ by rw [gy, if_pos x0])
                repeat' (first | (with_reducible exact hmn) | (with_reducible exact u120) | apply And.intro | exact rfl | (intro hx; with_reducible exact absurd hx zx) | (intro hx; with_reducible exact absurd hz hx) | intro hx | (refine Exists.intro _ (And.intro rfl ?_)))
                all_goals try first | (with_reducible change am_tI _ _) | (change Ret _ _) | (change Ret _ _ _) | (change Exists _)
                all_goals try dsimp only at *
                all_goals try (with_reducible exact absurd ‹(1000 : Int64) = 0› am_z1000)
                all_goals try simp only [f12, p1, p2, p3, l205]
                all_goals first
                  | omega
                  | skip
                all_goals exact ⟨_, am_lt_l (Nat.lt_succ_self _), W, _, rfl, rfl, rfl, q1, ⟨by simp only [List.length_cons]; omega, by omega, by simp only [List.length_cons]; omega⟩, q2, h'⟩
      · cases hI
    · exact h.elim
def TE8_lay : am_T := fun live as M R => match as with
  | [.ref n, .long v] => am_mn live ∧ n = 200 ∧ r_cl M 0 (fun W V => V.length ≤ 58 ∧ ∀ M', r_wg M M' → r_ls M' (w_lay W v V).1 (w_lay W v V).2 → R none M')
  | _ => False
def JE8_lay : am_E → List Value → am_M → am_R → am_inv := fun live as M0 R pc => match as with
  | [.ref n, .long v] => (match pc with
    | 20 => some ([0], fun k L st M => ∃ (W : List Int32) (x : Int64) (V : List Int64), L = [(0, .ref 200)] ∧ st = [] ∧ k = (W.length, 0) ∧ r_ls M W (x :: V) ∧ (W.length ≤ 60 ∧ V.length ≤ 58) ∧ r_wg M0 M ∧ ∀ M', r_wg M0 M' → r_ls M' (w_lay W x V).1 (w_lay W x V).2 → R none M')
    | _ => none)
  | _ => none
set_option maxRecDepth 100000 in
set_option maxHeartbeats 4000000 in
theorem metX8_layE : am_Met yX8_lay cX8_lay 5 none (1) (20) TE8_lay := by
  refine am_met (own := RX8) (by decide +kernel) rfl kX8_lay koX8_lay 100 JE8_lay ?_ ?_
  · intro live as M Ret h
    unfold TE8_lay at h
    split at h
    · next n v =>
      refine ⟨Nat.le_of_ble_eq_true rfl, ?_⟩
      change am_wp _ _ _ _ [(0, Value.ref n), (1, Value.long v)] _ _
      obtain ⟨hmn, rfl, W, V, hl, hd, h8, h⟩ := h
      have hmn2 := hmn
      obtain ⟨i1, i2, rfl⟩ := hmn2
      have l205 : am_len 205 = 120 := rfl
      have c1 := hl.c
      have e12 := i_inc (x := M.1 200 12) (by omega) (by omega)
      have k12 := i_clamp (x := M.1 200 12) (by omega)
      repeat' (first | (with_reducible exact hmn) | apply And.intro | exact rfl | intro hx | (refine Exists.intro _ (And.intro rfl ?_)))
      all_goals try first | (with_reducible change am_tI _ _) | (change Ret _ _) | (change Ret _ _ _) | (change Exists _)
      all_goals try dsimp only at *
      all_goals try (with_reducible exact absurd ‹(1000 : Int64) = 0› am_z1000)
      all_goals first
        | omega
        | (rw [l205]; omega)
        | skip
      refine ⟨_, W, v, V, rfl, rfl, rfl, ?_, ⟨hd.2.1, h8⟩, r_wg.rf.w205.w12, h⟩
      refine ⟨(), ?_, hl.b.cg (fun k _ => ?_), ?_, ⟨?_, hl.d.cg (fun k hk => ?_)⟩⟩
      · rw [am_wI_1, if_neg (fun q => absurd q.2 (by decide))]
        exact hl.a
      · rw [am_wI_1, if_neg (fun q => absurd q.1 (by decide))]
        rfl
      · rw [am_wI_self, List.length_cons]
        show (M.1 200 12 + 1).toInt = _
        omega
      · show (am_wJ M 205 (M.1 200 12).toNatClampNeg v).2 205 V.length = v
        rw [am_wJ_1, if_pos ⟨rfl, by omega⟩]
      · show (am_wJ M 205 (M.1 200 12).toNatClampNeg v).2 205 k = _
        rw [am_wJ_1, if_neg (fun q => by have := q.2; omega)]
    · exact h.elim
  · intro live as M0 Ret h k pc I hI L st M hi
    unfold TE8_lay at h
    split at h
    · next n v =>
      obtain ⟨hmn, rfl, W9, V9, hl9, hd9, h89, h9⟩ := h
      have hmn2 := hmn
      obtain ⟨i1, i2, rfl⟩ := hmn2
      have l205 : am_len 205 = 120 := rfl
      change (match pc with | 20 => _ | _ => none) = _ at hI
      split at hI
      · cases hI
        obtain ⟨W, x, V, rfl, rfl, rfl, hl, ⟨d2, d3⟩, hk, h⟩ := hi
        have u120 := hl.bd d2
        have ht0 := hl.top (by omega)
        have c1 := hl.c
        simp only [List.length_cons] at c1
        have e13 := i_sub (x := M.1 200 12) (y := 1) (by simp only [Int32.reduceToInt]; omega) (by simp only [Int32.reduceToInt]; omega)
        simp only [Int32.reduceToInt] at e13
        have k13 := i_clamp (x := M.1 200 12 - 1) (by omega)
        by_cases hz : r_top M = 1 ∨ r_top M = 2
        rotate_left
        · have hz1 : ¬ r_top M = 1 := fun q => hz (Or.inl q)
          have hz2 : ¬ r_top M = 2 := fun q => hz (Or.inr q)
          have e : w_lay W x V = (W, x :: V) := by
            unfold w_lay
            split
            · rfl
            · next c W' =>
              have z : w_hdc (c :: W') = c := rfl
              rw [ht0, z] at hz1 hz2
              rw [if_neg hz1, if_neg hz2]
          have h := h M hk (by rw [e]; exact hl)
          repeat' (first | (with_reducible exact hmn) | (with_reducible exact u120) | apply And.intro | exact rfl | (intro hx; with_reducible exact absurd hx hz1) | (intro hx; with_reducible exact absurd hx hz2) | intro hx | (refine Exists.intro _ (And.intro rfl ?_)))
          all_goals try first | (with_reducible change am_tI _ _) | (change Ret _ _) | (change Ret _ _ _) | (change Exists _)
          all_goals try dsimp only at *
          all_goals try (with_reducible exact absurd ‹(1000 : Int64) = 0› am_z1000)
          all_goals exact h
        · have hz2 := hz
          rw [ht0] at hz2
          cases W with
          | nil => exact absurd (show (0 : Int32) = 1 ∨ (0 : Int32) = 2 from hz2) (by decide)
          | cons c W =>
            have hc : c = 1 ∨ c = 2 := hz2
            have htc : r_top M = c := ht0
            have a1 := hl.a
            simp only [List.length_cons] at a1 d2
            have e11 := i_sub (x := M.1 200 11) (y := 1) (by simp only [Int32.reduceToInt]; omega) (by simp only [Int32.reduceToInt]; omega)
            simp only [Int32.reduceToInt] at e11
            have gx : M.2 205 (M.1 200 12 - 1).toNatClampNeg = x := by
              rw [show (M.1 200 12 - 1).toNatClampNeg = V.length by omega]
              exact hl.d.1
            have fin : ∀ r r' : Int64, r = r' → r_ls (am_wI (am_wJ M 205 (M.1 200 12 - 1).toNatClampNeg r) 200 11 ((am_wJ M 205 (M.1 200 12 - 1).toNatClampNeg r).1 200 11 - 1)) W (r' :: V) ∧ r_wg M0 (am_wI (am_wJ M 205 (M.1 200 12 - 1).toNatClampNeg r) 200 11 ((am_wJ M 205 (M.1 200 12 - 1).toNatClampNeg r).1 200 11 - 1)) := fun r r' hr => by
              subst hr
              refine ⟨⟨(), ?_, hl.b.2.cg (fun k _ => ?_), ?_, ⟨?_, hl.d.2.cg (fun k hk => ?_)⟩⟩, (hk.w205).w11⟩
              · rw [am_wI_self]
                show (M.1 200 11 - 1).toInt = _
                omega
              · rw [am_wI_1, if_neg (fun q => absurd q.1 (by decide))]
                rfl
              · rw [am_wI_1, if_neg (fun q => absurd q.2 (by decide)), List.length_cons]
                exact c1
              · show (am_wJ M 205 (M.1 200 12 - 1).toNatClampNeg r).2 205 V.length = r
                rw [am_wJ_1, if_pos ⟨rfl, by omega⟩]
              · show (am_wJ M 205 (M.1 200 12 - 1).toNatClampNeg r).2 205 k = _
                rw [am_wJ_1, if_neg (fun q => by have := q.2; omega)]
            have y1 : 0 ≤ (M.1 200 12 - 1).toInt := by omega
            have y2 : (M.1 200 12 - 1).toInt < (am_len 205 : Int) := by rw [l205]; omega
            rcases hc with rfl | rfl
            · have hq := htc
              have h' := h
              unfold w_lay at h'
              rw [if_pos rfl] at h'
              by_cases zx : lg_cmp (M.2 205 (M.1 200 12 - 1).toNatClampNeg) 0 = 0
              · have x0 : x = 0 := by rw [lc_eq, gx] at zx; exact zx
                have fq := fin (if (1 : Int32) = 0 then 0 else 1) (if x = 0 then 1 else 0) (by rw [if_pos x0]; rfl)
                repeat' (first | (with_reducible exact y1) | (with_reducible exact y2) | (with_reducible exact hq) | (with_reducible exact hmn) | (with_reducible exact u120) | apply And.intro | exact rfl | (intro hx; with_reducible exact absurd hq hx) | (intro hx; with_reducible exact absurd zx hx) | intro hx | (refine Exists.intro _ (And.intro rfl ?_)))
                all_goals try first | (with_reducible change am_tI _ _) | (change Ret _ _) | (change Ret _ _ _) | (change Exists _)
                all_goals try dsimp only at *
                all_goals try (with_reducible exact absurd ‹(1000 : Int64) = 0› am_z1000)
                all_goals first
                  | (left; rfl)
                  | (right; rfl)
                  | exact absurd hq (by with_reducible assumption)
                  | exact ⟨_, am_lt_l (Nat.lt_succ_self _), W, _, V, rfl, rfl, rfl, fq.1, ⟨by omega, d3⟩, fq.2, h'⟩
                  | skip
              · have x0 : ¬ x = 0 := fun q => zx (by rw [lc_eq, gx]; exact q)
                have fq := fin (if (0 : Int32) = 0 then 0 else 1) (if x = 0 then 1 else 0) (by rw [if_neg x0]; rfl)
                repeat' (first | (with_reducible exact y1) | (with_reducible exact y2) | (with_reducible exact hq) | (with_reducible exact hmn) | (with_reducible exact u120) | apply And.intro | exact rfl | (intro hx; with_reducible exact absurd hx zx) | (intro hx; with_reducible exact absurd hq hx) | intro hx | (refine Exists.intro _ (And.intro rfl ?_)))
                all_goals try first | (with_reducible change am_tI _ _) | (change Ret _ _) | (change Ret _ _ _) | (change Exists _)
                all_goals try dsimp only at *
                all_goals try (with_reducible exact absurd ‹(1000 : Int64) = 0› am_z1000)
                all_goals first
                  | (left; rfl)
                  | (right; rfl)
                  | exact absurd hq (by with_reducible assumption)
                  | exact ⟨_, am_lt_l (Nat.lt_succ_self _), W, _, V, rfl, rfl, rfl, fq.1, ⟨by omega, d3⟩, fq.2, h'⟩
                  | skip
            · have hq := htc
              have hz1 : ¬ r_top M = 1 := fun q => by rw [hq] at q; exact absurd q (by decide)
              have h' := h
              unfold w_lay at h'
              rw [if_neg (by decide), if_pos rfl] at h'
              have fq := fin (-(M.2 205 (M.1 200 12 - 1).toNatClampNeg)) (-x) (by rw [gx])
              repeat' (first | (with_reducible exact y1) | (with_reducible exact y2) | (with_reducible exact hq) | (with_reducible exact hmn) | (with_reducible exact u120) | apply And.intro | exact rfl | (intro hx; with_reducible exact absurd hx hz1) | (intro hx; with_reducible exact absurd hq hx) | intro hx | (refine Exists.intro _ (And.intro rfl ?_)))
              all_goals try first | (with_reducible change am_tI _ _) | (change Ret _ _) | (change Ret _ _ _) | (change Exists _)
              all_goals try dsimp only at *
              all_goals try (with_reducible exact absurd ‹(1000 : Int64) = 0› am_z1000)
              all_goals first
                | exact ⟨_, am_lt_l (Nat.lt_succ_self _), W, _, V, rfl, rfl, rfl, fq.1, ⟨by omega, d3⟩, fq.2, h'⟩
                | skip
      · cases hI
    · exact h.elim
theorem r_at_get {f : Nat → Int32} : ∀ {W : List Int32} {i : Nat}, r_at f W → i < W.length → W.drop (W.length - (i + 1)) = f i :: W.drop (W.length - i)
  | [], i, _, h => by simp only [List.length_nil] at h; omega
  | c :: W, i, h, hi => by
    simp only [List.length_cons] at hi ⊢
    by_cases z : i = W.length
    · subst z
      rw [show W.length + 1 - (W.length + 1) = 0 by omega, show W.length + 1 - W.length = 0 + 1 by omega, h.1]
      rfl
    · have ih := r_at_get (i := i) h.2 (by omega)
      rw [show W.length + 1 - (i + 1) = (W.length - (i + 1)) + 1 by omega, show W.length + 1 - i = (W.length - i) + 1 by omega]
      exact ih
def TE8_opened : am_T := fun live as M R => match as with
  | [.ref n] => am_mn live ∧ n = 200 ∧ ∃ W V, r_ls M W V ∧ W.length ≤ 60 ∧ R (some (.int (Int32.ofNat (w_opn W)))) M
  | _ => False
def JE8_opened : am_E → List Value → am_M → am_R → am_inv := fun live as M0 R pc => match as with
  | [.ref n] => (match pc with
    | 4 => some ([0, 1, 2], fun k L st M => ∃ (W : List Int32) (V : List Int64) (v i : Int32), L = [(0, .ref 200), (1, .int v), (2, .int i)] ∧ st = [] ∧ k = ((121 - i.toInt).toNat, 0) ∧ r_ls M W V ∧ (W.length ≤ 60 ∧ 0 ≤ i.toInt ∧ i.toInt ≤ (W.length : Int)) ∧ v = Int32.ofNat (w_opn (W.drop (W.length - i.toNatClampNeg))) ∧ R (some (.int (Int32.ofNat (w_opn W)))) M)
    | _ => none)
  | _ => none
theorem w_opn_le : ∀ (W : List Int32), w_opn W ≤ W.length := fun W => List.countP_le_length
theorem o_inc {n : Nat} (h : n < 1000) : Int32.ofNat n + 1 = Int32.ofNat (n + 1) := by
  have a := i_nat (n := n) (by omega)
  have b := i_nat (n := n + 1) (by omega)
  have c := i_inc (x := Int32.ofNat n) (by omega) (by omega)
  rw [i_eq]
  omega
set_option maxRecDepth 100000 in
set_option maxHeartbeats 4000000 in
theorem metX8_openedE : am_Met yX8_opened cX8_opened 3 (some .int) (0) (0) TE8_opened := by
  refine am_met (own := RX8) (by decide +kernel) rfl kX8_opened koX8_opened 100 JE8_opened ?_ ?_
  · intro live as M Ret h
    unfold TE8_opened at h
    split at h
    · next n =>
      refine ⟨Nat.le_of_ble_eq_true rfl, ?_⟩
      change am_wp _ _ _ _ [(0, Value.ref n)] _ _
      obtain ⟨hmn, rfl, W, V, hl, hw, h⟩ := h
      repeat' (first | apply And.intro | exact rfl | intro hx | (refine Exists.intro _ (And.intro rfl ?_)))
      all_goals try first | (with_reducible change am_tI _ _) | (change Ret _ _) | (change Ret _ _ _) | (change Exists _)
      all_goals try dsimp only at *
      all_goals try (with_reducible exact absurd ‹(1000 : Int64) = 0› am_z1000)
      refine ⟨_, W, V, 0, 0, rfl, rfl, rfl, hl, ⟨hw, by decide, by simp only [Int32.reduceToInt]; omega⟩, ?_, h⟩
      rw [show (0 : Int32).toNatClampNeg = 0 from rfl, Nat.sub_zero, List.drop_length]
      rfl
    · exact h.elim
  · intro live as M0 Ret h k pc I hI L st M hi
    unfold TE8_opened at h
    split at h
    · next n =>
      obtain ⟨⟨i1, i2, rfl⟩, rfl, W9, V9, hl9, hw9, h9⟩ := h
      have l204 : am_len 204 = 120 := rfl
      change (match pc with | 4 => _ | _ => none) = _ at hI
      split at hI
      · cases hI
        obtain ⟨W, V, v, i, rfl, rfl, rfl, hl, ⟨hw, g1, g2⟩, hv, h⟩ := hi
        have a := hl.a
        have ci := i_clamp g1
        by_cases hz : M.1 200 11 ≤ i
        · have hz2 := hz
          simp only [i_le] at hz2
          rw [show W.length - i.toNatClampNeg = 0 by omega, List.drop_zero] at hv
          rw [← hv] at h
          repeat' (first | apply And.intro | exact rfl | (intro hx; with_reducible exact absurd hz hx) | intro hx | (refine Exists.intro _ (And.intro rfl ?_)))
          all_goals try first | (with_reducible change am_tI _ _) | (change Ret _ _) | (change Ret _ _ _) | (change Exists _)
          all_goals try dsimp only at *
          all_goals try (with_reducible exact absurd ‹(1000 : Int64) = 0› am_z1000)
          all_goals exact h
        · have hz2 := hz
          simp only [i_le] at hz2
          have hi := i_inc (x := i) (by omega) (by omega)
          have ci1 := i_clamp (x := i + 1) (by omega)
          have gd := r_at_get (i := i.toNatClampNeg) hl.b (by omega)
          have wl := w_opn_le (W.drop (W.length - i.toNatClampNeg))
          rw [List.length_drop] at wl
          by_cases z40 : M.1 204 i.toNatClampNeg = 40
          · have e : v + 1 = Int32.ofNat (w_opn (W.drop (W.length - (i + 1).toNatClampNeg))) := by
              rw [show (i + 1).toNatClampNeg = i.toNatClampNeg + 1 by omega, gd, z40, w_opn_p, hv]
              exact o_inc (by omega)
            repeat' (first | apply And.intro | exact rfl | (intro hx; with_reducible exact absurd hx hz) | (intro hx; with_reducible exact absurd z40 hx) | (intro hx; exact absurd hx (by decide)) | (intro hx; exact absurd (by decide) hx) | decide | intro hx | (refine Exists.intro _ (And.intro rfl ?_)))
            all_goals try first | (with_reducible change am_tI _ _) | (change Ret _ _) | (change Ret _ _ _) | (change Exists _)
            all_goals try dsimp only at *
            all_goals try (with_reducible exact absurd ‹(1000 : Int64) = 0› am_z1000)
            all_goals first
              | omega
              | (rw [l204]; omega)
              | exact ⟨_, am_lt_l (by omega), W, V, _, _, rfl, rfl, rfl, hl, ⟨hw, by omega, by omega⟩, e, h⟩
          · have e : v + 0 = Int32.ofNat (w_opn (W.drop (W.length - (i + 1).toNatClampNeg))) := by
              rw [show (i + 1).toNatClampNeg = i.toNatClampNeg + 1 by omega, gd, w_opn_c z40, Int32.add_zero]
              exact hv
            repeat' (first | apply And.intro | exact rfl | (intro hx; with_reducible exact absurd hx hz) | (intro hx; with_reducible exact absurd hx z40) | (intro hx; exact absurd hx (by decide)) | (intro hx; exact absurd (by decide) hx) | decide | intro hx | (refine Exists.intro _ (And.intro rfl ?_)))
            all_goals try first | (with_reducible change am_tI _ _) | (change Ret _ _) | (change Ret _ _ _) | (change Exists _)
            all_goals try dsimp only at *
            all_goals try (with_reducible exact absurd ‹(1000 : Int64) = 0› am_z1000)
            all_goals first
              | omega
              | (rw [l204]; omega)
              | exact ⟨_, am_lt_l (by omega), W, V, _, _, rfl, rfl, rfl, hl, ⟨hw, by omega, by omega⟩, e, h⟩
      · cases hI
    · exact h.elim
end
