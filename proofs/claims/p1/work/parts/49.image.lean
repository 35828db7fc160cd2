/-! p1: image of a new object -/
theorem wd_835 : Cond.methodLink "LearnLoans" 256 yX0_init ∈ am_ws := am_wsi (List.mem_of_getElem? (i := 835) (by decide +kernel)) (by decide +kernel)
theorem dX7_image_0 : decode cX7_image 0 = .ok (.iload_n 1, 1) := by decide +kernel
theorem dX7_image_1 : decode cX7_image 1 = .ok (.iconst 0, 1) := by decide +kernel
theorem dX7_image_2 : decode cX7_image 2 = .ok (.iconst 1, 1) := by decide +kernel
theorem dX7_image_3 : decode cX7_image 3 = .ok (.invokestatic 55, 3) := by decide +kernel
theorem dX7_image_6 : decode cX7_image 6 = .ok (.ifCond .ne 6, 3) := by decide +kernel
theorem dX7_image_9 : decode cX7_image 9 = .ok (.bipush (-2), 2) := by decide +kernel
theorem dX7_image_11 : decode cX7_image 11 = .ok (.ireturn, 1) := by decide +kernel
theorem dX7_image_12 : decode cX7_image 12 = .ok (.aload_n 0, 1) := by decide +kernel
theorem dX7_image_13 : decode cX7_image 13 = .ok (.getfield 30, 3) := by decide +kernel
theorem dX7_image_16 : decode cX7_image 16 = .ok (.iload_n 1, 1) := by decide +kernel
theorem dX7_image_17 : decode cX7_image 17 = .ok (.aaload, 1) := by decide +kernel
theorem dX7_image_18 : decode cX7_image 18 = .ok (.ifnonnull 16, 3) := by decide +kernel
theorem dX7_image_21 : decode cX7_image 21 = .ok (.aload_n 0, 1) := by decide +kernel
theorem dX7_image_22 : decode cX7_image 22 = .ok (.getfield 30, 3) := by decide +kernel
theorem dX7_image_25 : decode cX7_image 25 = .ok (.iload_n 1, 1) := by decide +kernel
theorem dX7_image_26 : decode cX7_image 26 = .ok (.new 28, 3) := by decide +kernel
theorem dX7_image_29 : decode cX7_image 29 = .ok (.dup, 1) := by decide +kernel
theorem dX7_image_30 : decode cX7_image 30 = .ok (.invokespecial 256, 3) := by decide +kernel
theorem dX7_image_33 : decode cX7_image 33 = .ok (.aastore, 1) := by decide +kernel
theorem dX7_image_34 : decode cX7_image 34 = .ok (.aload_n 0, 1) := by decide +kernel
theorem dX7_image_35 : decode cX7_image 35 = .ok (.getfield 30, 3) := by decide +kernel
theorem dX7_image_38 : decode cX7_image 38 = .ok (.iload_n 1, 1) := by decide +kernel
theorem dX7_image_39 : decode cX7_image 39 = .ok (.aaload, 1) := by decide +kernel
theorem dX7_image_40 : decode cX7_image 40 = .ok (.aload_n 0, 1) := by decide +kernel
theorem dX7_image_41 : decode cX7_image 41 = .ok (.getfield 27, 3) := by decide +kernel
theorem dX7_image_44 : decode cX7_image 44 = .ok (.invokevirtual 257, 3) := by decide +kernel
theorem dX7_image_47 : decode cX7_image 47 = .ok (.iconst 1, 1) := by decide +kernel
theorem dX7_image_48 : decode cX7_image 48 = .ok (.ireturn, 1) := by decide +kernel
def kX7_image (n : Nat) (Ret : an_R) : an_code := [(0, an_lf (fun live => am_iload 1 1)), (1, an_lf (fun live => am_const (.int 0) 2)), (2, an_lf (fun live => am_const (.int 1) 3)), (3, an_lf (fun live => am_callS live 3 TX7_within 6)), (6, an_lf (fun live => am_if1 (fun x => x = 0) 9 12)), (9, an_lf (fun live => am_const (.int (-2)) 11)), (11, an_retI Ret), (12, an_lf (fun live => am_aload 0 13)), (13, an_lf (fun live => am_getR live 7 1 16)), (16, an_lf (fun live => am_iload 1 17)), (17, an_aldN 4 18), (18, an_ifnn 34 21), (21, an_lf (fun live => am_aload 0 22)), (22, an_lf (fun live => am_getR live 7 1 25)), (25, an_lf (fun live => am_iload 1 26)), (26, an_new 0 13 (fun L => n) 39 5272 29), (29, an_lf (fun live => am_dup 30)), (30, an_callI 0 0 TX0_init 39 5272 38 5259 33), (33, an_astR 4 0 34), (34, an_lf (fun live => am_aload 0 35)), (35, an_lf (fun live => am_getR live 7 1 38)), (38, an_lf (fun live => am_iload 1 39)), (39, an_lf (fun live => am_aald live 4 40)), (40, an_lf (fun live => am_aload 0 41)), (41, an_lf (fun live => am_getR live 7 0 44)), (44, an_lf (fun live => am_callV live 0 1 TX0_takeOver 47)), (47, an_lf (fun live => am_const (.int 1) 48)), (48, an_retI Ret)]
theorem koX7_image (n : Nat) (Ret : an_R) : ∀ q ∈ kX7_image n Ret, an_ok RX7 cX7_image 2 (some .int) 3 74 39 5272 false (fun _ _ _ => True) Ret q.1 q.2 :=
  an_kc (an_lift (fun live => ak_iload_n dX7_image_0 rfl rfl)) <|
  an_kc (an_lift (fun live => ak_iconst dX7_image_1 (by decide +kernel) rfl)) <|
  an_kc (an_lift (fun live => ak_iconst dX7_image_2 (by decide +kernel) rfl)) <|
  an_kc (an_lift (fun live => ak_callS metX7_within ⟨rfl, by decide +kernel, by decide +kernel, by decide +kernel⟩ (am_w4 wd_418 wd_419 wd_58 wd_420) (by decide) dX7_image_3 rfl)) <|
  an_kc (an_lift (fun live => ak_if_ne dX7_image_6 (by decide +kernel) rfl)) <|
  an_kc (an_lift (fun live => ak_bipush dX7_image_9 (by decide +kernel) rfl)) <|
  an_kc (nk_retI dX7_image_11) <|
  an_kc (an_lift (fun live => ak_aload_n dX7_image_12 rfl rfl)) <|
  an_kc (an_lift (fun live => ak_getR (C := RX7) (T := TX7) (N := 4) rfl inX7w (by decide) rfl rfl rfl wd_391 dX7_image_13 rfl)) <|
  an_kc (an_lift (fun live => ak_iload_n dX7_image_16 rfl rfl)) <|
  an_kc (nk_aldN (t := 4) (fun _ => rfl) rfl dX7_image_17 rfl) <|
  an_kc (nk_ifnn dX7_image_18 (by decide +kernel) rfl) <|
  an_kc (an_lift (fun live => ak_aload_n dX7_image_21 rfl rfl)) <|
  an_kc (an_lift (fun live => ak_getR (C := RX7) (T := TX7) (N := 4) rfl inX7w (by decide) rfl rfl rfl wd_391 dX7_image_22 rfl)) <|
  an_kc (an_lift (fun live => ak_iload_n dX7_image_25 rfl rfl)) <|
  an_kc (nk_new (C := RX0) (T := TX0) (N := 13) (ty := tyX0) rfl inX0w tyX0_ok rfl zX0 (am_w3 wd_388 wd_91 wd_61) dX7_image_26 rfl) <|
  an_kc (an_lift (fun live => ak_dup dX7_image_29 rfl)) <|
  an_kc (nk_callI metX0_init rfl ⟨by decide +kernel, by decide +kernel, by decide +kernel⟩ (am_w4 wd_61 wd_835 wd_93 wd_94) (by decide) dX7_image_30 rfl) <|
  an_kc (nk_astR (t := 4) (ci := 0) (r0 := (RX0, TX0, 13)) (fun _ => rfl) rfl rfl dX7_image_33 rfl) <|
  an_kc (an_lift (fun live => ak_aload_n dX7_image_34 rfl rfl)) <|
  an_kc (an_lift (fun live => ak_getR (C := RX7) (T := TX7) (N := 4) rfl inX7w (by decide) rfl rfl rfl wd_391 dX7_image_35 rfl)) <|
  an_kc (an_lift (fun live => ak_iload_n dX7_image_38 rfl rfl)) <|
  an_kc (an_lift (fun live => ak_aald (t := 4) (fun _ => rfl) rfl dX7_image_39 rfl)) <|
  an_kc (an_lift (fun live => ak_aload_n dX7_image_40 rfl rfl)) <|
  an_kc (an_lift (fun live => ak_getR (C := RX7) (T := TX7) (N := 4) rfl inX7w (by decide) rfl rfl rfl wd_390 dX7_image_41 rfl)) <|
  an_kc (an_lift (fun live => ak_callV (C := RX0) (F := TX0) (N := 13) metX0_takeOver rfl ⟨rfl, by decide +kernel, by decide +kernel, by decide +kernel⟩ (am_w5 wd_836 wd_837 wd_838 wd_61 wd_839) (by decide) dX7_image_44 rfl)) <|
  an_kc (an_lift (fun live => ak_iconst dX7_image_47 (by decide +kernel) rfl)) <|
  an_kc (nk_retI dX7_image_48) <| an_kn
def TX7_image : an_T := fun E as M R => match as with
  | [.ref n, .int i] => E = (am_lv false false, am_q false false) ∧ n = 0 ∧ (i = 0 → ∀ M', (∀ a k, 200 ≤ a → M'.1 a k = M.1 a k) → R (some (.int (a_image i))) (am_lv true false, am_q true false) M') ∧ (i = 1 → ∀ M', (∀ a k, 200 ≤ a → M'.1 a k = M.1 a k) → R (some (.int (a_image i))) (am_lv false true, am_q false true) M') ∧ (¬ (0 ≤ i ∧ i ≤ 1) → R (some (.int (a_image i))) E M)
  | _ => False
def TX7_imagen (m : Nat) : an_T := fun E as M R => match as with
  | [.ref n, .int i] => E = (am_lv false false, am_q false false) ∧ n = 0 ∧ ((i = 0 → m = 60) ∧ (i = 1 → m = 100)) ∧ (i = 0 → ∀ M', (∀ a k, 200 ≤ a → M'.1 a k = M.1 a k) → R (some (.int (a_image i))) (am_lv true false, am_q true false) M') ∧ (i = 1 → ∀ M', (∀ a k, 200 ≤ a → M'.1 a k = M.1 a k) → R (some (.int (a_image i))) (am_lv false true, am_q false true) M') ∧ (¬ (0 ≤ i ∧ i ≤ 1) → R (some (.int (a_image i))) E M)
  | _ => False
theorem an_bM_hi {M : am_M} {n a : Nat} (k : Nat) (hn : n < 200) (h : 200 ≤ a) : (an_bM M n).1 a k = M.1 a k := an_bM_1 M k (by omega)
theorem an_wI_hi {M : am_M} {n j a : Nat} {v : Int32} (k : Nat) (hn : n < 200) (h : 200 ≤ a) : (am_wI M n j v).1 a k = M.1 a k := by rw [am_wI_1, if_neg (fun q => by omega)]
theorem an_lay_hi {M : am_M} {n a : Nat} {lo hi : Int} {v : Int32} (k : Nat) (hn : n < 200) (h : 200 ≤ a) : (am_lay M n lo hi v).1 a k = M.1 a k := by rw [am_lay_1, if_neg (fun q => by omega)]
theorem an_m0_hi (b : Nat) (M : am_M) (a k : Nat) (h : 200 ≤ a) (hb : b ≤ 100 := by decide) : (mX0 b (an_bM M b)).1 a k = M.1 a k := by
  unfold mX0 mX2 mX5
  repeat (first | rw [an_bM_hi k (by omega) h] | rw [an_wI_hi k (by omega) h] | rw [an_lay_hi k (by omega) h])
set_option maxRecDepth 100000 in
set_option maxHeartbeats 4000000 in
theorem metX7_imagen (n : Nat) : an_Met yX7_image cX7_image 2 (some .int) (3) (74) 39 5272 (TX7_imagen n) := by
  refine an_met (own := RX7) (ini := false) (by decide +kernel) rfl (fun h => by cases h) (kX7_image n ) (koX7_image n  ) 200 (fun _ _ _ _ _ => none) (fun live as M Ret h => ?_) (fun _ _ _ _ _ _ _ _ hI => by cases hI)
  unfold TX7_imagen at h
  split at h
  · next r i =>
    refine ⟨Nat.le_of_ble_eq_true rfl, ?_⟩
    change an_wp _ _ _ _ [(0, Value.ref r), (1, Value.int i)] _ _
    obtain ⟨rfl, rfl, ⟨g0, g1⟩, h0, h1, h2⟩ := h
    by_cases hc : 0 ≤ i ∧ i ≤ 1
    ·
      have hs : i = 0 ∨ i = 1 := by
        simp only [i_le, i_eq, Int32.reduceToInt] at hc ⊢
        omega
      rcases hs with rfl | rfl
      ·
        have h := h0 rfl
        have g := g0 rfl
        subst g
        rw [show a_image 0 = 1 from rfl] at h
        rw [← an_Ei0] at h
        repeat' (first | apply And.intro | exact rfl | (intro hx; exact absurd hx (by decide)) | (intro hx; exact absurd (by decide) hx) | decide | intro hx | (refine Exists.intro _ (And.intro rfl ?_)))
        all_goals try first | (with_reducible change am_tI _ _) | (change Ret _ _) | (change Ret _ _ _) | (change Exists _)
        all_goals try dsimp only at *
        all_goals try exact absurd ‹(1000 : Int64) = 0› (by decide)
        all_goals first
          | exact ⟨_, _, an_Ei0⟩
          | exact Or.inl rfl
          | exact Or.inr rfl
          | exact h _ (fun a k z => ((‹am_ch am_lo _ _›).1 a k (fun q => by have q : a < 200 := q; omega)).trans (an_m0_hi _ _ a k z))
      ·
        have h := h1 rfl
        have g := g1 rfl
        subst g
        rw [show a_image 1 = 1 from rfl] at h
        rw [← an_Ei1] at h
        repeat' (first | apply And.intro | exact rfl | (intro hx; exact absurd hx (by decide)) | (intro hx; exact absurd (by decide) hx) | decide | intro hx | (refine Exists.intro _ (And.intro rfl ?_)))
        all_goals try first | (with_reducible change am_tI _ _) | (change Ret _ _) | (change Ret _ _ _) | (change Exists _)
        all_goals try dsimp only at *
        all_goals try exact absurd ‹(1000 : Int64) = 0› (by decide)
        all_goals first
          | exact ⟨_, _, an_Ei1⟩
          | exact Or.inl rfl
          | exact Or.inr rfl
          | exact h _ (fun a k z => ((‹am_ch am_lo _ _›).1 a k (fun q => by have q : a < 200 := q; omega)).trans (an_m0_hi _ _ a k z))
    ·
      have e9 : a_image i = -2 := if_neg hc
      have h := h2 hc
      rw [e9] at h
      have hp : (if 0 ≤ i ∧ i ≤ 1 then (1 : Int32) else 0) = 0 := if_neg hc
      repeat' (first | apply And.intro | exact rfl | (intro hx; with_reducible exact absurd hp hx) | intro hx | (refine Exists.intro _ (And.intro rfl ?_)))
      all_goals try first | (with_reducible change am_tI _ _) | (change Ret _ _) | (change Ret _ _ _) | (change Exists _)
      all_goals try dsimp only at *
      all_goals try exact absurd ‹(1000 : Int64) = 0› (by decide)
      all_goals exact h
  · exact h.elim
theorem metX7_image : an_Met yX7_image cX7_image 2 (some .int) (3) (74) 39 5272 TX7_image := by
  intro l D cA al B live as M Ret hcl hT
  unfold TX7_image at hT
  split at hT
  · next n i =>
    obtain ⟨rfl, rfl, h0, h1, h2⟩ := hT
    by_cases hi : i = 1
    · exact metX7_imagen 100 l D cA al B _ _ M Ret hcl ⟨rfl, rfl, ⟨fun z => absurd (z.symm.trans hi) (by decide), fun _ => rfl⟩, h0, h1, h2⟩
    · exact metX7_imagen 60 l D cA al B _ _ M Ret hcl ⟨rfl, rfl, ⟨fun _ => rfl, fun z => absurd z hi⟩, h0, h1, h2⟩
  · exact hT.elim
