/-! texts: the class's reader, exact, IV: chains, values, all of it -/
theorem x_pre.m {t s c : Nat} {M : am_M} {e : Int} {q : Int32} (h9 : t ≠ s) (h10 : t ≠ c) (h : x_pre t s M e) (hq : (M.1 t 3).toInt ≤ q.toInt) : x_pre t s (am_wI M t 3 q) e := by
  obtain ⟨f3, fk, fs, fc⟩ := w3_f M t s c q h9 h10
  refine ⟨(), ⟨(), fun j hj => ?_⟩, fun w => ?_⟩
  · rw [fs]
    rw [fk 5 (by decide)] at hj
    exact h.s.v hj
  · rw [fk 6 (by decide)] at w
    have p := h.w w
    rw [fk 4 (by decide), fk 2 (by decide), f3]
    exact ⟨p.1, by omega, by omega⟩
theorem x_pre.io {t s c : Nat} {M M1 : am_M} {e : Int} {G : (Int32 → Int64) → Nat → Int64 → Prop} {F : (Int32 → Int64) → Int → Prop} (h9 : s ≠ c) (h5 : t ≠ s) (h10 : t ≠ c) (h : x_pre t s M e) (hT : am_tI M t) (hT1 : am_tI M1 t) (c1 : am_ch (am_tS t c) M M1) (x : x_io t c M M1 G F) : x_pre t s M1 e := by
  have s1 : M1.1 s = M.1 s := funext fun j => am_ch_s c1 h9 h5 j
  have n1 : M1.1 t 5 = M.1 t 5 := am_ch_t5 c1 h10
  refine ⟨(), ⟨(), fun j hj => ?_⟩, fun w1 => ?_⟩
  · rw [s1]
    rw [n1] at hj
    exact h.s.v hj
  · by_cases w : M.1 t 6 = -1
    · obtain ⟨y4, b1, b2, b3, -⟩ := x.y w w1
      have p := h.w w
      have a := hT.p
      have a1 := hT1.p
      rw [y4]
      exact ⟨p.1, by omega, by omega⟩
    · exact absurd (x.n w) (fun y => w (y ▸ w1))
theorem am_tI.m {t : Nat} {M : am_M} {q : Int32} (h : am_tI M t) (h1 : (M.1 t 3).toInt ≤ q.toInt) (h2 : q.toInt ≤ (M.1 t 5).toInt) : am_tI (am_wI M t 3 q) t := by
  have a := h.p
  refine am_tI_of ?_ ?_ ?_ ?_ ?_
  all_goals simp [am_wI_1]
  all_goals omega
theorem x_io.g {t c : Nat} {M M1 : am_M} {G : (Int32 → Int64) → Nat → Int64 → Prop} {F : (Int32 → Int64) → Int → Prop} (x : x_io t c M M1 G F) (hT : am_tI M t) (hT1 : am_tI M1 t) (w : M.1 t 6 = -1) (w1 : M1.1 t 6 = -1) : (M.1 t 3).toInt ≤ (M1.1 t 3).toInt := by
  obtain ⟨-, b1, -⟩ := x.y w w1
  have a := hT.p
  have a1 := hT1.p
  omega
theorem x_mo2 {l i : Int32} (hl : l = 2) (h : ¬ x_mo l ≤ i) (hi : 0 ≤ i.toInt) : i = 0 := by
  unfold x_mo at h
  rw [if_pos hl, i_le] at h
  simp only [Int32.reduceToInt] at h
  rw [i_eq]
  simp only [Int32.reduceToInt]
  omega
set_option maxRecDepth 100000 in
set_option maxHeartbeats 4000000 in
theorem metX5_readChainGE (d n rc lc : Nat) (Tc : am_T) (hP : am_Met yX5_readPlain cX5_readPlain 3 none (4 + 8 * d + 1) (200 + 200 * d + 25) (TE5_readPlain d)) (hC : am_Met yX5_readChain cX5_readChain 6 none rc lc Tc) (hrc : rc + 1 ≤ 4 + 8 * d + 2 + n ∧ lc + 25 ≤ 200 + 200 * d + 50 + 25 * n)
    (hT0 : ∀ (live : am_E) (t s c : Nat) (l e : Int32) (M : am_M) (R : am_R), live.2 t 0 = some s → live.2 t 1 = some c → am_tc live t s c = true → am_tI M t → x_pre t s M e.toInt → 0 ≤ l.toInt → l.toInt < 5 → 5 ≤ l.toInt + (n : Int) → 0 ≤ e.toInt → e.toInt ≤ 40 → 40 ≤ e.toInt + (d : Int) → (∀ M', am_ch (am_tS t c) M M' → am_tI M' t → x_ch (l + 1 + 2) t s c M M' → R none M') → Tc live [.ref t, .int (l + 1), .int e] M R) :
    am_Met yX5_readChain cX5_readChain 6 none (4 + 8 * d + 2 + n) (200 + 200 * d + 50 + 25 * n) (TE5_readChain d n) := by
  refine am_met (own := RX5) (by decide +kernel) rfl (kX5_readChainE d n rc lc Tc) (koX5_readChainE d n rc lc Tc hP hC hrc) 120 JE5_readChain ?_ ?_
  · intro live as M Ret h
    unfold TE5_readChain at h
    split at h
    · next t l e =>
      refine ⟨Nat.le_of_ble_eq_true rfl, ?_⟩
      change am_wp _ _ _ _ [(0, Value.ref t), (1, Value.int l), (2, Value.int e)] _ _
      have hh := am_tP_mp h
      clear h
      obtain ⟨s, c, h2, h6, hb, h1, h3, h7, h4, h8, h9, h5, h10, hT, hPr, ⟨hl1, hl2, hl3⟩, he1, he2, he3, h⟩ := hh
      have e0 : (live.2 t 0).getD 0 = s := by rw [h2]; rfl
      have ec : (live.2 t 1).getD 0 = c := by rw [h6]; rfl
      by_cases z5 : l < 5
      · have z6 := z5
        simp only [i_lt, Int32.reduceToInt] at z6
        repeat' (first | (with_reducible exact hT) | (with_reducible exact h1) | (with_reducible exact h2) | (with_reducible exact h3) | (with_reducible exact hb) | (with_reducible exact h6) | (with_reducible exact h7) | (refine Exists.intro _ (Exists.intro _ (And.intro h2 (And.intro h6 ?_)))) | (refine Exists.intro _ (And.intro h2 ?_)) | (refine Exists.intro _ (And.intro h6 ?_)) | apply And.intro | exact rfl | (intro hx; with_reducible exact absurd z5 hx) | intro hx | (refine Exists.intro _ (And.intro rfl ?_)) | (refine hT0 _ _ s c _ _ _ _ h2 h6 hb hT hPr hl1 z6 hl3 he1 he2 he3 (fun M' c' i' x' => ?_)) | ((with_reducible change _ = true); simp only [h1, h2, h3, hb, h6, h7, Bool.true_and]; rfl))
        all_goals try first | (with_reducible change am_tI _ _) | (change Ret _ _) | (change Ret _ _ _) | (change Exists _)
        all_goals try dsimp only at *
        all_goals try exact absurd ‹(1000 : Int64) = 0› (by decide)
        all_goals
          rw [e0, ec]
          exact ⟨_, rfl, rfl, rfl, ⟨hl1, z6⟩, c', i', x'⟩
      · have z6 := z5
        simp only [i_lt, Int32.reduceToInt] at z6
        have hsg := hPr.s
        repeat' (first | (with_reducible exact hT) | (with_reducible exact hsg) | (with_reducible exact h1) | (with_reducible exact h2) | (with_reducible exact h3) | (with_reducible exact hb) | (with_reducible exact h6) | (with_reducible exact h7) | (refine Exists.intro _ (Exists.intro _ (And.intro h2 (And.intro h6 ?_)))) | (refine Exists.intro _ (And.intro h2 ?_)) | (refine Exists.intro _ (And.intro h6 ?_)) | apply And.intro | exact rfl | (intro hx; with_reducible exact absurd hx z5) | intro hx | (refine Exists.intro _ (And.intro rfl ?_)) | ((with_reducible change _ = true); simp only [h1, h2, h3, hb, h6, h7, Bool.true_and]; rfl))
        all_goals try first | (with_reducible change am_tI _ _) | (change Ret _ _) | (change Ret _ _ _) | (change Exists _)
        all_goals try dsimp only at *
        all_goals try exact absurd ‹(1000 : Int64) = 0› (by decide)
        all_goals
          rename_i q q1 q2 q3
          rw [e0]
          exact ⟨_, _, rfl, rfl, rfl, rfl, ⟨q1, q2, by omega⟩, q3, hx⟩
    · exact h.elim
  · intro live as M0 Ret h k pc I hI L st M hi
    unfold TE5_readChain at h
    split at h
    · next t l e =>
      have hh := am_tP_mp h
      clear h
      obtain ⟨s, c, h2, h6, hb, h1, h3, h7, h4, h8, h9, h5, h10, hT, hPr, ⟨hl1, hl2, hl3⟩, he1, he2, he3, h⟩ := hh
      have e0 : (live.2 t 0).getD 0 = s := by rw [h2]; rfl
      have ec : (live.2 t 1).getD 0 = c := by rw [h6]; rfl
      have a := hT.p
      change (match pc with | 14 => _ | 21 => _ | 37 => _ | 52 => _ | 70 => _ | 106 => _ | _ => none) = _ at hI
      split at hI
      · cases hI
        obtain ⟨q, rfl, rfl, rfl, rfl, ⟨b1, b2, b3⟩, xu, hun⟩ := hi
        rw [e0] at xu hun
        obtain ⟨f3, fk, fs, fc⟩ := w3_f M0 t s c q h5 h10
        have hT1 := hT.m b1 b2
        have hP1 := hPr.m (c := c) h5 h10 b1
        have hun1 : ∀ (q' : Nat) (g : Int32), w_nx ((am_wI M0 t 3 q).1 s) (t_n (am_wI M0 t 3 q) t) (t_p (am_wI M0 t 3 q) t) q' g → g ≠ 33 ∧ g ≠ 45 := fun q' g hg => by
          rw [fs, show t_n (am_wI M0 t 3 q) t = t_n M0 t by unfold t_n; rw [fk 5 (by decide)], show t_p (am_wI M0 t 3 q) t = q.toNatClampNeg by unfold t_p; rw [f3]] at hg
          exact hun q' g hg
        repeat' (first | (with_reducible exact hT1) | (with_reducible exact hP1) | (with_reducible exact he1) | (with_reducible exact he2) | (with_reducible exact he3) | (with_reducible exact hun1) | (with_reducible exact h1) | (with_reducible exact h2) | (with_reducible exact h3) | (with_reducible exact hb) | (with_reducible exact h6) | (with_reducible exact h7) | (refine Exists.intro _ (Exists.intro _ (And.intro h2 (And.intro h6 ?_)))) | (refine Exists.intro _ (And.intro h2 ?_)) | (refine Exists.intro _ (And.intro h6 ?_)) | apply And.intro | exact rfl | intro hx | (refine Exists.intro _ (And.intro rfl ?_)) | ((with_reducible change _ = true); simp only [h1, h2, h3, hb, h6, h7, Bool.true_and]; rfl))
        all_goals try first | (with_reducible change am_tI _ _) | (change Ret _ _) | (change Ret _ _ _) | (change Exists _)
        all_goals try dsimp only at *
        all_goals try exact absurd ‹(1000 : Int64) = 0› (by decide)
        all_goals
          rename_i M3 d1 d2
          rw [e0, ec]
          exact ⟨_, am_lt_r (by decide), q, rfl, rfl, rfl, ⟨b1, b2, b3⟩, xu, d1, d2, hx⟩
      · cases hI
        obtain ⟨q, rfl, rfl, rfl, ⟨b1, b2, b3⟩, xu, d1, d2, x⟩ := hi
        rw [e0] at xu x
        rw [ec] at d1 x
        have l5 : l = 5 := by
          rw [i_eq]
          simp only [Int32.reduceToInt]
          omega
        subst l5
        obtain ⟨cap, u⟩ := x_unitm h5 h10 h9 xu d1 x (fun w => (hPr.w w).2.2) hT d2
        have g1 : 0 ≤ (M0.1 t 3).toInt := by omega
        have g2 : q.toInt ≤ 50 := by omega
        have e7 : (5 : Int32) + 2 = 7 := by decide
        rw [e7] at h
        repeat' (first | (with_reducible exact d2) | (with_reducible exact g1) | (with_reducible exact b1) | (with_reducible exact g2) | (with_reducible exact cap) | (with_reducible exact h1) | (with_reducible exact h2) | (with_reducible exact h3) | (with_reducible exact hb) | (with_reducible exact h6) | (with_reducible exact h7) | (refine Exists.intro _ (Exists.intro _ (And.intro h2 (And.intro h6 ?_)))) | (refine Exists.intro _ (And.intro h2 ?_)) | (refine Exists.intro _ (And.intro h6 ?_)) | apply And.intro | exact rfl | intro hx | (refine Exists.intro _ (And.intro rfl ?_)) | ((with_reducible change _ = true); simp only [h1, h2, h3, hb, h6, h7, Bool.true_and]; rfl))
        all_goals try first | (with_reducible change am_tI _ _) | (change Ret _ _) | (change Ret _ _ _) | (change Exists _)
        all_goals try dsimp only at *
        all_goals try exact absurd ‹(1000 : Int64) = 0› (by decide)
        all_goals
          rename_i M3 w1 w2 w3
          exact h _ ((am_ch.rf.wI am_tS_3).tr (d1.tr w1)) w2 (u M3 w3 hx)
      · cases hI
        obtain ⟨rfl, rfl, rfl, ⟨l1, l5⟩, d1, d2, x⟩ := hi
        rw [e0] at x
        rw [ec] at d1 x
        have tu : x_tu t s c l 0 M0 M := ⟨(), d1, d2, ⟨by decide, by decide, l1, l5⟩, fun _ => x_first ⟨l1, l5⟩ x, fun z => absurd (Or.inl rfl) z, fun w w1 => by
          have g := x.g hT d2 w w1
          simp only [Int32.reduceToInt]
          omega⟩
        by_cases z2 : l = 2
        · have em : x_mo l = 1 := if_pos z2
          repeat' (first | (with_reducible exact h1) | (with_reducible exact h2) | (with_reducible exact h3) | (with_reducible exact hb) | (with_reducible exact h6) | (with_reducible exact h7) | (refine Exists.intro _ (Exists.intro _ (And.intro h2 (And.intro h6 ?_)))) | (refine Exists.intro _ (And.intro h2 ?_)) | (refine Exists.intro _ (And.intro h6 ?_)) | apply And.intro | exact rfl | (intro hx; with_reducible exact absurd z2 hx) | intro hx | (refine Exists.intro _ (And.intro rfl ?_)) | ((with_reducible change _ = true); simp only [h1, h2, h3, hb, h6, h7, Bool.true_and]; rfl))
          all_goals try first | (with_reducible change am_tI _ _) | (change Ret _ _) | (change Ret _ _ _) | (change Exists _)
          all_goals try dsimp only at *
          all_goals try exact absurd ‹(1000 : Int64) = 0› (by decide)
          all_goals
            rw [e0, ec, em]
            exact ⟨_, am_lt_l (by decide), _, rfl, rfl, rfl, tu⟩
        · have em : x_mo l = 50 := if_neg z2
          repeat' (first | (with_reducible exact h1) | (with_reducible exact h2) | (with_reducible exact h3) | (with_reducible exact hb) | (with_reducible exact h6) | (with_reducible exact h7) | (refine Exists.intro _ (Exists.intro _ (And.intro h2 (And.intro h6 ?_)))) | (refine Exists.intro _ (And.intro h2 ?_)) | (refine Exists.intro _ (And.intro h6 ?_)) | apply And.intro | exact rfl | (intro hx; with_reducible exact absurd hx z2) | intro hx | (refine Exists.intro _ (And.intro rfl ?_)) | ((with_reducible change _ = true); simp only [h1, h2, h3, hb, h6, h7, Bool.true_and]; rfl))
          all_goals try first | (with_reducible change am_tI _ _) | (change Ret _ _) | (change Ret _ _ _) | (change Exists _)
          all_goals try dsimp only at *
          all_goals try exact absurd ‹(1000 : Int64) = 0› (by decide)
          all_goals
            rw [e0, ec, em]
            exact ⟨_, am_lt_l (by decide), _, rfl, rfl, rfl, tu⟩
      · cases hI
        obtain ⟨i, rfl, rfl, rfl, tu⟩ := hi
        rw [e0, ec] at tu
        have tu2 := tu
        obtain ⟨-, d1, d2, ⟨i0, i5, l1, l5⟩, t1, t2, t3⟩ := tu2
        by_cases zi : x_mo l ≤ i
        · have res : x_ch (l + 2) t s c M0 M := by
            by_cases zz : i = 0 ∨ ¬ l = 2
            · refine (t1 zz).fin h5 h10 hT d2 d1 ⟨l1, l5⟩ (fun w w1 => ?_)
              have g := t3 w w1
              have i50 : 50 ≤ i.toInt := by
                rcases zz with rfl | z2
                · unfold x_mo at zi
                  split at zi <;> exact absurd zi (by decide)
                · rw [show x_mo l = 50 from if_neg z2, i_le] at zi
                  simp only [Int32.reduceToInt] at zi
                  exact zi
              have n1 : (M.1 t 5).toInt ≤ 50 := d2.p.2.2.1
              omega
            · exact t2 zz
          repeat' (first | (with_reducible exact h1) | (with_reducible exact h2) | (with_reducible exact h3) | (with_reducible exact hb) | (with_reducible exact h6) | (with_reducible exact h7) | (refine Exists.intro _ (Exists.intro _ (And.intro h2 (And.intro h6 ?_)))) | (refine Exists.intro _ (And.intro h2 ?_)) | (refine Exists.intro _ (And.intro h6 ?_)) | apply And.intro | exact rfl | (intro hx; with_reducible exact absurd zi hx) | intro hx | (refine Exists.intro _ (And.intro rfl ?_)) | ((with_reducible change _ = true); simp only [h1, h2, h3, hb, h6, h7, Bool.true_and]; rfl))
          all_goals try first | (with_reducible change am_tI _ _) | (change Ret _ _) | (change Ret _ _ _) | (change Exists _)
          all_goals try dsimp only at *
          all_goals try exact absurd ‹(1000 : Int64) = 0› (by decide)
          all_goals exact h _ d1 d2 res
        · by_cases w1 : M.1 t 6 = -1
          · skip
            repeat' (first | (with_reducible exact d2) | (with_reducible exact h1) | (with_reducible exact h2) | (with_reducible exact h3) | (with_reducible exact hb) | (with_reducible exact h6) | (with_reducible exact h7) | (refine Exists.intro _ (Exists.intro _ (And.intro h2 (And.intro h6 ?_)))) | (refine Exists.intro _ (And.intro h2 ?_)) | (refine Exists.intro _ (And.intro h6 ?_)) | apply And.intro | exact rfl | (intro hx; with_reducible exact absurd hx zi) | (intro hx; with_reducible exact absurd w1 hx) | intro hx | (refine Exists.intro _ (And.intro rfl ?_)) | ((with_reducible change _ = true); simp only [h1, h2, h3, hb, h6, h7, Bool.true_and]; rfl))
            all_goals try first | (with_reducible change am_tI _ _) | (change Ret _ _) | (change Ret _ _ _) | (change Exists _)
            all_goals try dsimp only at *
            all_goals try exact absurd ‹(1000 : Int64) = 0› (by decide)
            all_goals
              rename_i q
              rw [e0, ec]
              exact ⟨_, am_lt_r (by decide), i, q, M, rfl, rfl, rfl, tu, ⟨zi, w1⟩, hx, rfl⟩
          · have res : x_ch (l + 2) t s c M0 M := by
              by_cases zz : i = 0 ∨ ¬ l = 2
              · exact (t1 zz).fin h5 h10 hT d2 d1 ⟨l1, l5⟩ (fun _ w => absurd w w1)
              · exact t2 zz
            repeat' (first | (with_reducible exact h1) | (with_reducible exact h2) | (with_reducible exact h3) | (with_reducible exact hb) | (with_reducible exact h6) | (with_reducible exact h7) | (refine Exists.intro _ (Exists.intro _ (And.intro h2 (And.intro h6 ?_)))) | (refine Exists.intro _ (And.intro h2 ?_)) | (refine Exists.intro _ (And.intro h6 ?_)) | apply And.intro | exact rfl | (intro hx; with_reducible exact absurd hx zi) | (intro hx; with_reducible exact absurd hx w1) | intro hx | (refine Exists.intro _ (And.intro rfl ?_)) | ((with_reducible change _ = true); simp only [h1, h2, h3, hb, h6, h7, Bool.true_and]; rfl))
            all_goals try first | (with_reducible change am_tI _ _) | (change Ret _ _) | (change Ret _ _ _) | (change Exists _)
            all_goals try dsimp only at *
            all_goals try exact absurd ‹(1000 : Int64) = 0› (by decide)
            all_goals exact h _ d1 d2 res
      · cases hI
        obtain ⟨i, q, Mb, rfl, rfl, rfl, tu, ⟨zi, w1⟩, hp, rfl⟩ := hi
        rw [e0] at hp
        rw [e0, ec] at tu
        rw [e0]
        have tu2 := tu
        obtain ⟨-, d1, d2, ⟨i0, i5, l1, l5⟩, t1, t2, t3⟩ := tu2
        obtain ⟨f3, fk, fs, fc⟩ := w3_f Mb t s c q h5 h10
        have p1 := hp.1
        have p2 := hp.2.1
        have hT1 := d2.m p1 p2
        have zz : i = 0 ∨ ¬ l = 2 := by
          by_cases z2 : l = 2
          · exact Or.inl (x_mo2 z2 zi i0)
          · exact Or.inr z2
        by_cases zl : am_level (am_sign Mb t s q) = l
        rotate_left
        · have res := (t1 zz).end h5 h10 h9 hT d2 hPr.s d1 hp w1 ((w_lev ⟨l1, l5⟩).2 zl)
          repeat' (first | (with_reducible exact h1) | (with_reducible exact h2) | (with_reducible exact h3) | (with_reducible exact hb) | (with_reducible exact h6) | (with_reducible exact h7) | (refine Exists.intro _ (Exists.intro _ (And.intro h2 (And.intro h6 ?_)))) | (refine Exists.intro _ (And.intro h2 ?_)) | (refine Exists.intro _ (And.intro h6 ?_)) | apply And.intro | exact rfl | (intro hx; with_reducible exact absurd hx zl) | intro hx | (refine Exists.intro _ (And.intro rfl ?_)) | ((with_reducible change _ = true); simp only [h1, h2, h3, hb, h6, h7, Bool.true_and]; rfl))
          all_goals try first | (with_reducible change am_tI _ _) | (change Ret _ _) | (change Ret _ _ _) | (change Exists _)
          all_goals try dsimp only at *
          all_goals try exact absurd ‹(1000 : Int64) = 0› (by decide)
          all_goals exact h _ (d1.wI am_tS_3) hT1 res
        · have lv := (w_lev ⟨l1, l5⟩).1 zl
          have hlt : q.toInt < (Mb.1 t 5).toInt := am_sign_lt (s := s) (fun z => by have k3 := lv.2.2; rw [z] at k3; exact absurd k3 (by decide))
          have es : am_sign Mb t s q = Mb.1 s q.toNatClampNeg := if_pos hlt
          have b50 := d2.p.2.2.1
          have hi := i_inc (x := q) (by have := d2.p.1; omega) (by omega)
          have cl : (am_wI Mb t 3 q).1 s ((am_wI Mb t 3 q).1 t 3).toNatClampNeg = am_sign Mb t s q := by rw [f3, fs, es]
          have x1 : 0 ≤ ((am_wI Mb t 3 q).1 t 3).toInt := by rw [f3]; have := d2.p.1; omega
          have x2 : ((am_wI Mb t 3 q).1 t 3).toInt < (am_len s : Int) := by rw [f3, h4]; omega
          have e1 : am_wI (am_wI Mb t 3 q) t 3 ((am_wI Mb t 3 q).1 t 3 + 1) = am_wI Mb t 3 (q + 1) := by rw [f3, am_wI_wI]
          have hT2 := d2.m (q := q + 1) (by omega) (by omega)
          have w : M0.1 t 6 = -1 := by
            by_cases z : M0.1 t 6 = -1
            · exact z
            · exact absurd ((t1 zz).n z) (fun y => z (y ▸ w1))
          have hP2 := (hPr.io h9 h5 h10 hT d2 d1 (t1 zz)).m (c := c) (q := q + 1) h5 h10 (by omega)
          rw [← e1] at hT2 hP2
          repeat' (first | (with_reducible exact x1) | (with_reducible exact x2) | (with_reducible exact h1) | (with_reducible exact h2) | (with_reducible exact h3) | (with_reducible exact hb) | (with_reducible exact h6) | (with_reducible exact h7) | (refine Exists.intro _ (Exists.intro _ (And.intro h2 (And.intro h6 ?_)))) | (refine Exists.intro _ (And.intro h2 ?_)) | (refine Exists.intro _ (And.intro h6 ?_)) | apply And.intro | exact rfl | (intro hx; with_reducible exact absurd zl hx) | intro hx | (refine Exists.intro _ (And.intro rfl ?_)) | (refine hT0 _ _ s c _ _ _ _ h2 h6 hb hT2 hP2 l1 l5 hl3 he1 he2 he3 (fun M' c' j' x' => ?_)) | ((with_reducible change _ = true); simp only [h1, h2, h3, hb, h6, h7, Bool.true_and]; rfl))
          all_goals try first | (with_reducible change am_tI _ _) | (change Ret _ _) | (change Ret _ _ _) | (change Exists _)
          all_goals try dsimp only at *
          all_goals try exact absurd ‹(1000 : Int64) = 0› (by decide)
          all_goals
            rw [e0, ec]
            rw [e1] at c' x'
            exact ⟨_, am_lt_r (by decide), i, q, Mb, by rw [cl]; rfl, rfl, rfl, tu, ⟨zi, w1⟩, ⟨hp, zl⟩, c', j', x'⟩
      · cases hI
        obtain ⟨i, q, Mb, rfl, rfl, rfl, tu, ⟨zi, w1⟩, ⟨hp, zl⟩, d3, d4, x⟩ := hi
        rw [e0] at hp zl x
        rw [ec] at d3 x
        rw [e0, ec] at tu
        rw [e0]
        have tu2 := tu
        obtain ⟨-, d1, d2, ⟨i0, i5, l1, l5⟩, t1, t2, t3⟩ := tu2
        have zz : i = 0 ∨ ¬ l = 2 := by
          by_cases z2 : l = 2
          · exact Or.inl (x_mo2 z2 zi i0)
          · exact Or.inr z2
        obtain ⟨r1, r2, r3⟩ := x_cl.step h5 h10 h9 hT d2 d4 hPr.s (fun w => (hPr.w w).2.2) ⟨l1, l5⟩ d1 (t1 zz) hp w1 zl d3 x
        have hcd : 0 ≤ (M.1 t 2).toInt := d4.p.2.2.2.1
        have cm : am_ch (am_tS t c) M0 M := d1.tr ((am_ch.rf.wI am_tS_3).tr d3)
        have i49 : i.toInt < 50 := by
          have z := zi
          unfold x_mo at z
          split at z
          · rw [i_le] at z
            simp only [Int32.reduceToInt] at z
            omega
          · rw [i_le] at z
            simp only [Int32.reduceToInt] at z
            omega
        have hi := i_inc (x := i) (by omega) (by omega)
        have tu3 : x_tu t s c l (i + 1) M0 (am_emit M t c (-(am_sign Mb t s q))) := by
          refine ⟨(), am_ch_emit cm, am_tI_emit d4 h10, ⟨by omega, by omega, l1, l5⟩, fun z => ?_, fun z => ?_, fun w w2 => ?_⟩
          · rcases z with z | z
            · rw [z] at hi
              simp only [Int32.reduceToInt] at hi
              omega
            · exact r1 z
          · have z2 : l = 2 := by
              by_cases y : l = 2
              · exact y
              · exact absurd (Or.inr y) z
            exact r2 z2
          · rw [am_emit_f h10 (by decide)] at w2
            have g := r3 w2
            have g2 := t3 w w1
            rw [am_emit_f h10 (by decide)]
            omega
        repeat' (first | (with_reducible exact hcd) | (with_reducible exact h1) | (with_reducible exact h2) | (with_reducible exact h3) | (with_reducible exact hb) | (with_reducible exact h6) | (with_reducible exact h7) | (refine Exists.intro _ (Exists.intro _ (And.intro h2 (And.intro h6 ?_)))) | (refine Exists.intro _ (And.intro h2 ?_)) | (refine Exists.intro _ (And.intro h6 ?_)) | apply And.intro | exact rfl | intro hx | (refine Exists.intro _ (And.intro rfl ?_)) | ((with_reducible change _ = true); simp only [h1, h2, h3, hb, h6, h7, Bool.true_and]; rfl))
        all_goals try first | (with_reducible change am_tI _ _) | (change Ret _ _) | (change Ret _ _ _) | (change Exists _)
        all_goals try dsimp only at *
        all_goals try exact absurd ‹(1000 : Int64) = 0› (by decide)
        all_goals
          rw [e0, ec]
          exact ⟨_, am_lt_l (by omega), i + 1, rfl, rfl, rfl, tu3⟩
      · cases hI
    · exact h.elim
theorem metX5_readChainE (d : Nat) (hP : am_Met yX5_readPlain cX5_readPlain 3 none (4 + 8 * d + 1) (200 + 200 * d + 25) (TE5_readPlain d)) : ∀ n : Nat, am_Met yX5_readChain cX5_readChain 6 none (4 + 8 * d + 2 + n) (200 + 200 * d + 50 + 25 * n) (TE5_readChain d n)
  | 0 => metX5_readChainGE d 0 0 0 _ hP (am_MetF _ _ _ _ _ _) (by omega) (fun live t s c l e M R _ _ _ _ _ _ h1 h2 _ _ _ _ => by exfalso; omega)
  | n + 1 => metX5_readChainGE d (n + 1) (4 + 8 * d + 2 + n) (200 + 200 * d + 50 + 25 * n) _ hP (metX5_readChainE d hP n) (by omega) (fun live t s c l e M R a1 a2 a3 a4 a4b a5 a6 a7 a8 a9 a10 hh => by
      have hi := i_add (x := l) (y := 1) (by simp only [Int32.reduceToInt]; omega) (by simp only [Int32.reduceToInt]; omega)
      simp only [Int32.reduceToInt] at hi
      exact am_tP_in a1 a2 a3 ⟨a4, a4b, ⟨by omega, by omega, by omega⟩, a8, a9, a10, hh⟩)
