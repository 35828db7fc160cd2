/-! general: images of the class -/
set_option maxRecDepth 100000 in
set_option maxHeartbeats 4000000 in
theorem an_EiG0 (i2 : Bool) : an_rE (eX0 60 (an_bE (am_lv false i2, am_q false i2) 60)) 1 0 60 = (am_lv true i2, am_q true i2) := by
  cases i2 with
  | false => exact an_Ei0
  | true =>
    refine an_eq ?_ (am_fin_lv _ _) (by decide +kernel) (by decide +kernel)
    unfold eX0 eX5 eX2
    repeat (first | exact am_fin_lv _ _ | refine an_fin.b ?_ (by decide) | refine an_fin.r ?_ (by decide) (by decide +kernel))
set_option maxRecDepth 100000 in
set_option maxHeartbeats 4000000 in
theorem an_EiG1 (i1 : Bool) : an_rE (eX0 100 (an_bE (am_lv i1 false, am_q i1 false) 100)) 1 1 100 = (am_lv i1 true, am_q i1 true) := by
  cases i1 with
  | false => exact an_Ei1
  | true =>
    refine an_eq ?_ (am_fin_lv _ _) (by decide +kernel) (by decide +kernel)
    unfold eX0 eX5 eX2
    repeat (first | exact am_fin_lv _ _ | refine an_fin.b ?_ (by decide) | refine an_fin.r ?_ (by decide) (by decide +kernel))
def g_im (b : Nat) (M M' : am_M) : Prop := ∃ _ : Unit, (∀ a k, (a < b ∨ b + 39 ≤ a) → M'.1 a k = M.1 a k ∧ M'.2 a k = M.2 a k) ∧ ∀ o k, g_hit g_sh0 o k = true → M'.1 (b + o) k = M.1 (20 + o) k
theorem g_sh0_lt {o k : Nat} (h : g_hit g_sh0 o k = true) : o < 39 := by
  unfold g_hit at h
  obtain ⟨q, hq, h2⟩ := List.any_eq_true.mp h
  rw [Bool.and_eq_true, Bool.and_eq_true] at h2
  have e := Nat.eq_of_beq_eq_true h2.1.1
  have hl : ∀ q ∈ g_sh0, q.1 < 39 := by decide
  have := hl q hq
  omega
theorem g_cs_im {b : Nat} {M M' : am_M} (h : g_cs b 20 g_sh0 M M') : g_im b M M' := by
  obtain ⟨-, hj, h⟩ := h
  refine ⟨(), fun a k z => ⟨?_, by rw [hj]⟩, fun o k z => ?_⟩
  · rw [h a k, if_neg (fun q => ?_)]
    have := g_sh0_lt q.2
    omega
  · rw [h (b + o) k, Nat.add_sub_cancel_left, if_pos ⟨Nat.le_add_right _ _, z⟩]
theorem an_m0_o (b : Nat) (M : am_M) (a k : Nat) (h : a < b ∨ b + 39 ≤ a) : (mX0 b (an_bM M b)).1 a k = M.1 a k := by
  have hb : ∀ (N : am_M) n, b ≤ n → n < b + 39 → (an_bM N n).1 a k = N.1 a k := fun N n h1 h2 => an_bM_1 N k (by omega)
  have hw : ∀ (N : am_M) n j v, b ≤ n → n < b + 39 → (am_wI N n j v).1 a k = N.1 a k := fun N n j v h1 h2 => by rw [am_wI_1, if_neg (fun q => by omega)]
  have hl : ∀ (N : am_M) n lo hi v, b ≤ n → n < b + 39 → (am_lay N n lo hi v).1 a k = N.1 a k := fun N n lo hi v h1 h2 => by rw [am_lay_1, if_neg (fun q => by omega)]
  unfold mX0 mX2 mX5
  repeat (first | rw [hb _ _ (by omega) (by omega)] | rw [hw _ _ _ _ (by omega) (by omega)] | rw [hl _ _ _ _ _ (by omega) (by omega)])
theorem an_m0_J (b : Nat) (M : am_M) (a k : Nat) (h : a < b ∨ b + 39 ≤ a) : (mX0 b (an_bM M b)).2 a k = M.2 a k := by
  have hb : ∀ (N : am_M) n, b ≤ n → n < b + 39 → (an_bM N n).2 a k = N.2 a k := fun N n h1 h2 => by
    show (match Nat.beq a n with | true => 0 | false => N.2 a k) = _
    rw [an_bne (by omega)]
  have hw : ∀ (N : am_M) n j v, (am_wI N n j v).2 a k = N.2 a k := fun N n j v => rfl
  have hl : ∀ (N : am_M) n lo hi v, (am_lay N n lo hi v).2 a k = N.2 a k := fun N n lo hi v => rfl
  unfold mX0 mX2 mX5
  repeat (first | rw [hb _ _ (by omega) (by omega)] | rw [hw _ _ _ _] | rw [hl _ _ _ _ _])
theorem g_im_of {b : Nat} {M M' : am_M} (hb : 60 ≤ b) (h : g_cs b 20 g_sh0 (mX0 b (an_bM M b)) M') : g_im b M M' := by
  obtain ⟨-, h1, h2⟩ := g_cs_im h
  refine ⟨(), fun a k z => ⟨?_, ?_⟩, fun o k z => ?_⟩
  · rw [(h1 a k z).1, an_m0_o b M a k z]
  · rw [(h1 a k z).2, an_m0_J b M a k z]
  · have := g_sh0_lt z
    rw [h2 o k z, an_m0_o b M _ k (by omega)]
theorem hy_X0_takeOver : yX0_takeOver.cls ≠ "java/lang/invoke/MethodHandle" ∧ yX0_takeOver.cls ≠ "java/lang/invoke/VarHandle" ∧ (parseMethodDescriptor yX0_takeOver.desc).map (fun d => d.parameters.length) = some 1 := ⟨by decide +kernel, by decide +kernel, by decide +kernel⟩
set_option maxRecDepth 100000 in
theorem wd_836 : Cond.methodLink "LearnLoans" 257 yX0_takeOver ∈ am_ws := am_wt4 (List.mem_of_getElem? (i := 59) (by rfl)) (by decide +kernel)
set_option maxRecDepth 100000 in
theorem wd_837 : Cond.instanceMethod yX0_takeOver ∈ am_ws := am_wt4 (List.mem_of_getElem? (i := 60) (by rfl)) (by decide +kernel)
set_option maxRecDepth 100000 in
theorem wd_838 : Cond.selects "LearnLoans$House" yX0_takeOver yX0_takeOver ∈ am_ws := am_wt4 (List.mem_of_getElem? (i := 61) (by rfl)) (by decide +kernel)
set_option maxRecDepth 100000 in
theorem wd_839 : Cond.code yX0_takeOver cX0_takeOver 3 none ∈ am_ws := am_wt4 (List.mem_of_getElem? (i := 62) (by rfl)) (by decide +kernel)
def rwX7_from : List dz_r := [(0, .iload_n 1, 1), (1, .iconst 0, 1), (2, .iconst 1, 1), (3, .invokestatic 55, 3), (6, .ifCond .ne 6, 3), (9, .bipush (-2), 2), (11, .ireturn, 1), (12, .aload_n 0, 1), (13, .getfield 30, 3), (16, .iload_n 1, 1), (17, .aaload, 1), (18, .ifnonnull 6, 3), (21, .bipush (-3), 2), (23, .ireturn, 1), (24, .aload_n 0, 1), (25, .getfield 27, 3), (28, .aload_n 0, 1), (29, .getfield 30, 3), (32, .iload_n 1, 1), (33, .aaload, 1), (34, .invokevirtual 257, 3), (37, .iconst 1, 1), (38, .ireturn, 1)]
theorem dzX7_from : dz cX7_from rwX7_from := dz_all 0 (by decide +kernel)
def kX7_from (Ret : an_R) : an_code := [(0, an_lf (fun live => am_iload 1 1)), (1, an_lf (fun live => am_const (.int 0) 2)), (2, an_lf (fun live => am_const (.int 1) 3)), (3, an_lf (fun live => am_callS live 3 TX7_within 6)), (6, an_lf (fun live => am_if1 (fun x => x = 0) 9 12)), (9, an_lf (fun live => am_const (.int (-2)) 11)), (11, an_retI Ret), (12, an_lf (fun live => am_aload 0 13)), (13, an_lf (fun live => am_getR live 7 1 16)), (16, an_lf (fun live => am_iload 1 17)), (17, an_aldN 4 18), (18, an_ifnn 24 21), (21, an_lf (fun live => am_const (.int (-3)) 23)), (23, an_retI Ret), (24, an_lf (fun live => am_aload 0 25)), (25, an_lf (fun live => am_getR live 7 0 28)), (28, an_lf (fun live => am_aload 0 29)), (29, an_lf (fun live => am_getR live 7 1 32)), (32, an_lf (fun live => am_iload 1 33)), (33, an_lf (fun live => am_aald live 4 34)), (34, an_lf (fun live => am_callV live 0 1 TX0_takeOver 37)), (37, an_lf (fun live => am_const (.int 1) 38)), (38, an_retI Ret)]
theorem koX7_from (Ret : an_R) : ∀ q ∈ kX7_from Ret, an_ok RX7 cX7_from 2 (some .int) 3 74 0 0 false (fun _ _ _ => True) Ret q.1 q.2 :=
  am_kz dzX7_from <|
  an_kd (fun d => an_lift (fun live => ak_iload_n d rfl rfl)) <|
  an_kd (fun d => an_lift (fun live => ak_iconst d (by decide +kernel) rfl)) <|
  an_kd (fun d => an_lift (fun live => ak_iconst d (by decide +kernel) rfl)) <|
  an_kd (fun d => an_lift (fun live => ak_callS metX7_within ⟨rfl, hy_X7_within⟩ (am_w4 wd_418 wd_419 wd_58 wd_420) (by decide) d rfl)) <|
  an_kd (fun d => an_lift (fun live => ak_if_ne d (by decide +kernel) rfl)) <|
  an_kd (fun d => an_lift (fun live => ak_bipush d (by decide +kernel) rfl)) <|
  an_kd (fun d => nk_retI d) <|
  an_kd (fun d => an_lift (fun live => ak_aload_n d rfl rfl)) <|
  an_kd (fun d => an_lift (fun live => ak_getR (C := RX7) (T := TX7) (N := 4) rfl inX7w (by decide) rfl rfl rfl wd_391 d rfl)) <|
  an_kd (fun d => an_lift (fun live => ak_iload_n d rfl rfl)) <|
  an_kd (fun d => nk_aldN (t := 4) (fun _ => rfl) rfl d rfl) <|
  an_kd (fun d => nk_ifnn d (by decide +kernel) rfl) <|
  an_kd (fun d => an_lift (fun live => ak_bipush d (by decide +kernel) rfl)) <|
  an_kd (fun d => nk_retI d) <|
  an_kd (fun d => an_lift (fun live => ak_aload_n d rfl rfl)) <|
  an_kd (fun d => an_lift (fun live => ak_getR (C := RX7) (T := TX7) (N := 4) rfl inX7w (by decide) rfl rfl rfl wd_390 d rfl)) <|
  an_kd (fun d => an_lift (fun live => ak_aload_n d rfl rfl)) <|
  an_kd (fun d => an_lift (fun live => ak_getR (C := RX7) (T := TX7) (N := 4) rfl inX7w (by decide) rfl rfl rfl wd_391 d rfl)) <|
  an_kd (fun d => an_lift (fun live => ak_iload_n d rfl rfl)) <|
  an_kd (fun d => an_lift (fun live => ak_aald (t := 4) (fun _ => rfl) rfl d rfl)) <|
  an_kd (fun d => an_lift (fun live => ak_callV (C := RX0) (F := TX0) (N := 13) metX0_takeOver rfl ⟨rfl, hy_X0_takeOver⟩ (am_w5 wd_836 wd_837 wd_838 wd_61 wd_839) (by decide) d rfl)) <|
  an_kd (fun d => an_lift (fun live => ak_iconst d (by decide +kernel) rfl)) <|
  an_kd (fun d => nk_retI d) <| an_kdn
def TX7_from : an_T := fun E as M R => match as with
  | [.ref n, .int i] => ∃ i1 i2, E = (am_lv i1 i2, am_q i1 i2) ∧ n = 0 ∧ (¬ (0 ≤ i ∧ i ≤ 1) → R (some (.int (-2))) E M) ∧ (i = 0 → i1 = false → R (some (.int (-3))) E M) ∧ (i = 1 → i2 = false → R (some (.int (-3))) E M) ∧ (i = 0 → i1 = true → ∀ M', g_cs 20 60 g_sh0 M M' → R (some (.int 1)) E M') ∧ (i = 1 → i2 = true → ∀ M', g_cs 20 100 g_sh0 M M' → R (some (.int 1)) E M')
  | _ => False
set_option maxRecDepth 100000 in
set_option maxHeartbeats 4000000 in
theorem metX7_from : an_Met yX7_from cX7_from 2 (some .int) (3) (74) 0 0 TX7_from := by
  refine an_met (own := RX7) (ini := false) (by decide +kernel) rfl (fun h => by cases h) kX7_from koX7_from 100 (fun _ _ _ _ _ => none) (fun live as M Ret h => ?_) (fun _ _ _ _ _ _ _ _ hI => by cases hI)
  unfold TX7_from at h
  split at h
  · next n i =>
    refine ⟨Nat.le_of_ble_eq_true rfl, ?_⟩
    change an_wp _ _ _ _ [(0, Value.ref n), (1, Value.int i)] _ _
    obtain ⟨i1, i2, rfl, rfl, hb, h0, h1, g0, g1⟩ := h
    by_cases hc : 0 ≤ i ∧ i ≤ 1
    · have hs : i = 0 ∨ i = 1 := by
        simp only [i_le, i_eq, Int32.reduceToInt] at hc ⊢
        omega
      rcases hs with rfl | rfl
      · cases i1 with
        | false =>
          have h := h0 rfl rfl
          repeat' (first | (with_reducible exact h) | apply And.intro | exact rfl | (intro hx; exact absurd hx (by decide)) | (intro hx; exact absurd (by decide) hx) | decide | intro hx | (refine Exists.intro _ (And.intro rfl ?_)))
          all_goals try first | (with_reducible change am_tI _ _) | (change Ret _ _) | (change Ret _ _ _) | (change Exists _)
          all_goals try dsimp only at *
          all_goals try (with_reducible exact absurd ‹(1000 : Int64) = 0› am_z1000)
          all_goals first
            | (with_reducible exact h)
            | exact h
            | exact ⟨_, _, rfl⟩
        | true =>
          have h := g0 rfl rfl
          have hmn : am_mn (am_lv true i2, am_q true i2) := ⟨_, _, rfl⟩
          have hpr : g_pair 20 60 := by unfold g_pair; decide
          repeat' (first | (with_reducible exact hmn) | (with_reducible exact hpr) | apply And.intro | exact rfl | (intro hx; exact absurd hx (by decide)) | (intro hx; exact absurd (by decide) hx) | decide | intro hx | (refine Exists.intro _ (And.intro rfl ?_)))
          all_goals try first | (with_reducible change am_tI _ _) | (change Ret _ _) | (change Ret _ _ _) | (change Exists _)
          all_goals try dsimp only at *
          all_goals try (with_reducible exact absurd ‹(1000 : Int64) = 0› am_z1000)
          all_goals first
            | exact h _ (by with_reducible assumption)
            | exact ⟨_, _, rfl⟩
      · cases i2 with
        | false =>
          have h := h1 rfl rfl
          repeat' (first | (with_reducible exact h) | apply And.intro | exact rfl | (intro hx; exact absurd hx (by decide)) | (intro hx; exact absurd (by decide) hx) | decide | intro hx | (refine Exists.intro _ (And.intro rfl ?_)))
          all_goals try first | (with_reducible change am_tI _ _) | (change Ret _ _) | (change Ret _ _ _) | (change Exists _)
          all_goals try dsimp only at *
          all_goals try (with_reducible exact absurd ‹(1000 : Int64) = 0› am_z1000)
          all_goals first
            | (with_reducible exact h)
            | exact h
            | exact ⟨_, _, rfl⟩
        | true =>
          have h := g1 rfl rfl
          have hmn : am_mn (am_lv i1 true, am_q i1 true) := ⟨_, _, rfl⟩
          have hpr : g_pair 20 100 := by unfold g_pair; decide
          repeat' (first | (with_reducible exact hmn) | (with_reducible exact hpr) | apply And.intro | exact rfl | (intro hx; exact absurd hx (by decide)) | (intro hx; exact absurd (by decide) hx) | decide | intro hx | (refine Exists.intro _ (And.intro rfl ?_)))
          all_goals try first | (with_reducible change am_tI _ _) | (change Ret _ _) | (change Ret _ _ _) | (change Exists _)
          all_goals try dsimp only at *
          all_goals try (with_reducible exact absurd ‹(1000 : Int64) = 0› am_z1000)
          all_goals first
            | exact h _ (by with_reducible assumption)
            | exact ⟨_, _, rfl⟩
    · have h := hb hc
      have hp : (if 0 ≤ i ∧ i ≤ 1 then (1 : Int32) else 0) = 0 := if_neg hc
      repeat' (first | (with_reducible exact h) | apply And.intro | exact rfl | (intro hx; with_reducible exact absurd hp hx) | intro hx | (refine Exists.intro _ (And.intro rfl ?_)))
      all_goals try first | (with_reducible change am_tI _ _) | (change Ret _ _) | (change Ret _ _ _) | (change Exists _)
      all_goals try dsimp only at *
      all_goals try (with_reducible exact absurd ‹(1000 : Int64) = 0› am_z1000)
      all_goals exact h
  · exact h.elim
set_option maxRecDepth 100000 in
theorem wd_835 : Cond.methodLink "LearnLoans" 256 yX0_init ∈ am_ws := am_wt4 (List.mem_of_getElem? (i := 58) (by rfl)) (by decide +kernel)
def rwX7_image : List dz_r := [(0, .iload_n 1, 1), (1, .iconst 0, 1), (2, .iconst 1, 1), (3, .invokestatic 55, 3), (6, .ifCond .ne 6, 3), (9, .bipush (-2), 2), (11, .ireturn, 1), (12, .aload_n 0, 1), (13, .getfield 30, 3), (16, .iload_n 1, 1), (17, .aaload, 1), (18, .ifnonnull 16, 3), (21, .aload_n 0, 1), (22, .getfield 30, 3), (25, .iload_n 1, 1), (26, .new 28, 3), (29, .dup, 1), (30, .invokespecial 256, 3), (33, .aastore, 1), (34, .aload_n 0, 1), (35, .getfield 30, 3), (38, .iload_n 1, 1), (39, .aaload, 1), (40, .aload_n 0, 1), (41, .getfield 27, 3), (44, .invokevirtual 257, 3), (47, .iconst 1, 1), (48, .ireturn, 1)]
theorem dzX7_image : dz cX7_image rwX7_image := dz_all 0 (by decide +kernel)
def kX7_image (n : Nat) (Ret : an_R) : an_code := [(0, an_lf (fun live => am_iload 1 1)), (1, an_lf (fun live => am_const (.int 0) 2)), (2, an_lf (fun live => am_const (.int 1) 3)), (3, an_lf (fun live => am_callS live 3 TX7_within 6)), (6, an_lf (fun live => am_if1 (fun x => x = 0) 9 12)), (9, an_lf (fun live => am_const (.int (-2)) 11)), (11, an_retI Ret), (12, an_lf (fun live => am_aload 0 13)), (13, an_lf (fun live => am_getR live 7 1 16)), (16, an_lf (fun live => am_iload 1 17)), (17, an_aldN 4 18), (18, an_ifnn 34 21), (21, an_lf (fun live => am_aload 0 22)), (22, an_lf (fun live => am_getR live 7 1 25)), (25, an_lf (fun live => am_iload 1 26)), (26, an_new 0 13 (fun L => n) 39 5272 29), (29, an_lf (fun live => am_dup 30)), (30, an_callI 0 0 TX0_init 39 5272 38 5259 33), (33, an_astR 4 0 34), (34, an_lf (fun live => am_aload 0 35)), (35, an_lf (fun live => am_getR live 7 1 38)), (38, an_lf (fun live => am_iload 1 39)), (39, an_lf (fun live => am_aald live 4 40)), (40, an_lf (fun live => am_aload 0 41)), (41, an_lf (fun live => am_getR live 7 0 44)), (44, an_lf (fun live => am_callV live 0 1 TX0_takeOver 47)), (47, an_lf (fun live => am_const (.int 1) 48)), (48, an_retI Ret)]
theorem koX7_image (n : Nat) (Ret : an_R) : ∀ q ∈ kX7_image n Ret, an_ok RX7 cX7_image 2 (some .int) 3 74 39 5272 false (fun _ _ _ => True) Ret q.1 q.2 :=
  am_kz dzX7_image <|
  an_kd (fun d => an_lift (fun live => ak_iload_n d rfl rfl)) <|
  an_kd (fun d => an_lift (fun live => ak_iconst d (by decide +kernel) rfl)) <|
  an_kd (fun d => an_lift (fun live => ak_iconst d (by decide +kernel) rfl)) <|
  an_kd (fun d => an_lift (fun live => ak_callS metX7_within ⟨rfl, hy_X7_within⟩ (am_w4 wd_418 wd_419 wd_58 wd_420) (by decide) d rfl)) <|
  an_kd (fun d => an_lift (fun live => ak_if_ne d (by decide +kernel) rfl)) <|
  an_kd (fun d => an_lift (fun live => ak_bipush d (by decide +kernel) rfl)) <|
  an_kd (fun d => nk_retI d) <|
  an_kd (fun d => an_lift (fun live => ak_aload_n d rfl rfl)) <|
  an_kd (fun d => an_lift (fun live => ak_getR (C := RX7) (T := TX7) (N := 4) rfl inX7w (by decide) rfl rfl rfl wd_391 d rfl)) <|
  an_kd (fun d => an_lift (fun live => ak_iload_n d rfl rfl)) <|
  an_kd (fun d => nk_aldN (t := 4) (fun _ => rfl) rfl d rfl) <|
  an_kd (fun d => nk_ifnn d (by decide +kernel) rfl) <|
  an_kd (fun d => an_lift (fun live => ak_aload_n d rfl rfl)) <|
  an_kd (fun d => an_lift (fun live => ak_getR (C := RX7) (T := TX7) (N := 4) rfl inX7w (by decide) rfl rfl rfl wd_391 d rfl)) <|
  an_kd (fun d => an_lift (fun live => ak_iload_n d rfl rfl)) <|
  an_kd (fun d => nk_new (C := RX0) (T := TX0) (N := 13) (ty := tyX0) rfl inX0w tyX0_ok rfl zX0 (am_w3 wd_388 wd_91 wd_61) d rfl) <|
  an_kd (fun d => an_lift (fun live => ak_dup d rfl)) <|
  an_kd (fun d => nk_callI metX0_init rfl hy_X0_init (am_w4 wd_61 wd_835 wd_93 wd_94) (by decide) d rfl) <|
  an_kd (fun d => nk_astR (t := 4) (ci := 0) (r0 := (RX0, TX0, 13)) (fun _ => rfl) rfl rfl d rfl) <|
  an_kd (fun d => an_lift (fun live => ak_aload_n d rfl rfl)) <|
  an_kd (fun d => an_lift (fun live => ak_getR (C := RX7) (T := TX7) (N := 4) rfl inX7w (by decide) rfl rfl rfl wd_391 d rfl)) <|
  an_kd (fun d => an_lift (fun live => ak_iload_n d rfl rfl)) <|
  an_kd (fun d => an_lift (fun live => ak_aald (t := 4) (fun _ => rfl) rfl d rfl)) <|
  an_kd (fun d => an_lift (fun live => ak_aload_n d rfl rfl)) <|
  an_kd (fun d => an_lift (fun live => ak_getR (C := RX7) (T := TX7) (N := 4) rfl inX7w (by decide) rfl rfl rfl wd_390 d rfl)) <|
  an_kd (fun d => an_lift (fun live => ak_callV (C := RX0) (F := TX0) (N := 13) metX0_takeOver rfl ⟨rfl, hy_X0_takeOver⟩ (am_w5 wd_836 wd_837 wd_838 wd_61 wd_839) (by decide) d rfl)) <|
  an_kd (fun d => an_lift (fun live => ak_iconst d (by decide +kernel) rfl)) <|
  an_kd (fun d => nk_retI d) <| an_kdn
def TX7_image : an_T := fun E as M R => match as with
  | [.ref n, .int i] => ∃ i1 i2, E = (am_lv i1 i2, am_q i1 i2) ∧ n = 0 ∧ (i = 0 → ∀ M', g_im 60 M M' → R (some (.int 1)) (am_lv true i2, am_q true i2) M') ∧ (i = 1 → ∀ M', g_im 100 M M' → R (some (.int 1)) (am_lv i1 true, am_q i1 true) M') ∧ (¬ (0 ≤ i ∧ i ≤ 1) → R (some (.int (-2))) E M)
  | _ => False
def TX7_imagen (m : Nat) : an_T := fun E as M R => match as with
  | [.ref n, .int i] => ∃ i1 i2, E = (am_lv i1 i2, am_q i1 i2) ∧ n = 0 ∧ ((i = 0 → m = 60) ∧ (i = 1 → m = 100)) ∧ (i = 0 → ∀ M', g_im 60 M M' → R (some (.int 1)) (am_lv true i2, am_q true i2) M') ∧ (i = 1 → ∀ M', g_im 100 M M' → R (some (.int 1)) (am_lv i1 true, am_q i1 true) M') ∧ (¬ (0 ≤ i ∧ i ≤ 1) → R (some (.int (-2))) E M)
  | _ => False
set_option maxRecDepth 100000 in
set_option maxHeartbeats 4000000 in
theorem metX7_imagen (n : Nat) : an_Met yX7_image cX7_image 2 (some .int) (3) (74) 39 5272 (TX7_imagen n) := by
  refine an_met (own := RX7) (ini := false) (by decide +kernel) rfl (fun h => by cases h) (kX7_image n ) (koX7_image n  ) 200 (fun _ _ _ _ _ => none) (fun live as M Ret h => ?_) (fun _ _ _ _ _ _ _ _ hI => by cases hI)
  unfold TX7_imagen at h
  split at h
  · next r i =>
    refine ⟨Nat.le_of_ble_eq_true rfl, ?_⟩
    change an_wp _ _ _ _ [(0, Value.ref r), (1, Value.int i)] _ _
    obtain ⟨i1, i2, rfl, rfl, ⟨g0, g1⟩, h0, h1, h2⟩ := h
    by_cases hc : 0 ≤ i ∧ i ≤ 1
    · have hs : i = 0 ∨ i = 1 := by
        simp only [i_le, i_eq, Int32.reduceToInt] at hc ⊢
        omega
      have hpr0 : g_pair 60 20 := by unfold g_pair; decide
      have hpr1 : g_pair 100 20 := by unfold g_pair; decide
      rcases hs with rfl | rfl
      · have h := h0 rfl
        have g := g0 rfl
        subst g
        cases i1 with
        | false =>
          rw [← an_EiG0] at h
          repeat' (first | (with_reducible exact hpr0) | apply And.intro | exact rfl | (intro hx; exact absurd hx (by decide)) | (intro hx; exact absurd (by decide) hx) | decide | intro hx | (refine Exists.intro _ (And.intro rfl ?_)))
          all_goals try first | (with_reducible change am_tI _ _) | (change Ret _ _) | (change Ret _ _ _) | (change Exists _)
          all_goals try dsimp only at *
          all_goals try (with_reducible exact absurd ‹(1000 : Int64) = 0› am_z1000)
          all_goals first
            | exact ⟨_, _, an_EiG0 _⟩
            | exact h _ (g_im_of (by decide) (by with_reducible assumption))
        | true =>
          have hmn : am_mn (am_lv true i2, am_q true i2) := ⟨_, _, rfl⟩
          repeat' (first | (with_reducible exact hmn) | (with_reducible exact hpr0) | apply And.intro | exact rfl | (intro hx; exact absurd hx (by decide)) | (intro hx; exact absurd (by decide) hx) | decide | intro hx | (refine Exists.intro _ (And.intro rfl ?_)))
          all_goals try first | (with_reducible change am_tI _ _) | (change Ret _ _) | (change Ret _ _ _) | (change Exists _)
          all_goals try dsimp only at *
          all_goals try (with_reducible exact absurd ‹(1000 : Int64) = 0› am_z1000)
          all_goals first
            | exact h _ (g_cs_im (by with_reducible assumption))
            | exact ⟨_, _, rfl⟩
      · have h := h1 rfl
        have g := g1 rfl
        subst g
        cases i2 with
        | false =>
          rw [← an_EiG1] at h
          repeat' (first | (with_reducible exact hpr1) | apply And.intro | exact rfl | (intro hx; exact absurd hx (by decide)) | (intro hx; exact absurd (by decide) hx) | decide | intro hx | (refine Exists.intro _ (And.intro rfl ?_)))
          all_goals try first | (with_reducible change am_tI _ _) | (change Ret _ _) | (change Ret _ _ _) | (change Exists _)
          all_goals try dsimp only at *
          all_goals try (with_reducible exact absurd ‹(1000 : Int64) = 0› am_z1000)
          all_goals first
            | exact ⟨_, _, an_EiG1 _⟩
            | exact h _ (g_im_of (by decide) (by with_reducible assumption))
        | true =>
          have hmn : am_mn (am_lv i1 true, am_q i1 true) := ⟨_, _, rfl⟩
          repeat' (first | (with_reducible exact hmn) | (with_reducible exact hpr1) | apply And.intro | exact rfl | (intro hx; exact absurd hx (by decide)) | (intro hx; exact absurd (by decide) hx) | decide | intro hx | (refine Exists.intro _ (And.intro rfl ?_)))
          all_goals try first | (with_reducible change am_tI _ _) | (change Ret _ _) | (change Ret _ _ _) | (change Exists _)
          all_goals try dsimp only at *
          all_goals try (with_reducible exact absurd ‹(1000 : Int64) = 0› am_z1000)
          all_goals first
            | exact h _ (g_cs_im (by with_reducible assumption))
            | exact ⟨_, _, rfl⟩
    · have h := h2 hc
      have hp : (if 0 ≤ i ∧ i ≤ 1 then (1 : Int32) else 0) = 0 := if_neg hc
      repeat' (first | (with_reducible exact h) | apply And.intro | exact rfl | (intro hx; with_reducible exact absurd hp hx) | intro hx | (refine Exists.intro _ (And.intro rfl ?_)))
      all_goals try first | (with_reducible change am_tI _ _) | (change Ret _ _) | (change Ret _ _ _) | (change Exists _)
      all_goals try dsimp only at *
      all_goals try (with_reducible exact absurd ‹(1000 : Int64) = 0› am_z1000)
      all_goals exact h
  · exact h.elim
theorem metX7_image : an_Met yX7_image cX7_image 2 (some .int) (3) (74) 39 5272 TX7_image := by
  intro l D cA al B live as M Ret hcl hT
  unfold TX7_image at hT
  split at hT
  · next n i =>
    obtain ⟨i1, i2, rfl, rfl, h0, h1, h2⟩ := hT
    by_cases hi : i = 1
    · exact metX7_imagen 100 l D cA al B _ _ M Ret hcl ⟨i1, i2, rfl, rfl, ⟨fun z => absurd (z.symm.trans hi) (by decide), fun _ => rfl⟩, h0, h1, h2⟩
    · exact metX7_imagen 60 l D cA al B _ _ M Ret hcl ⟨i1, i2, rfl, rfl, ⟨fun _ => rfl, fun z => absurd z hi⟩, h0, h1, h2⟩
  · exact hT.elim
