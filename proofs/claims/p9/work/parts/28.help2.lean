/-! general: what is told, for calls; helpers -/
def g_nm (a : Nat) : Bool := [4, 7, 8, 24, 37, 39, 42, 45, 48, 51].contains a
theorem g_rI.on {M M' : am_M} (h : g_rI M) (e : ∀ a b, g_nm a = true → M'.1 a b = M.1 a b) : g_rI M' := by
  obtain ⟨-, h1, h2⟩ := h
  obtain ⟨-, a1, a2, a3, a4, a5, a6, a7⟩ := h1
  obtain ⟨-, b1, b2, b3, b4, b5, b6, b7, b8, b9⟩ := h2
  have ht : ∀ t, g_nm t = true → am_t0 M t → am_t0 M' t := fun t ht z => by
    obtain ⟨-, z1, z2⟩ := z
    refine ⟨(), ?_, ?_⟩
    · rw [e t 2 ht]; exact z1
    · rw [e t 5 ht]; exact z2
  refine ⟨(), ⟨(), fun k hk => ?_, fun k hk => ?_, ht _ rfl a3, ht _ rfl a4, ht _ rfl a5, ht _ rfl a6, ht _ rfl a7⟩, ⟨(), ?_, fun k hk => ?_, fun k hk => ?_, ?_, ?_, ?_, ?_, ?_, ?_⟩⟩
  all_goals rw [e _ _ rfl]
  · exact a1 k hk
  · exact a2 k hk
  · exact b1
  · exact b2 k hk
  · exact b3 k hk
  · exact b4
  · exact b5
  · exact b6
  · exact b7
  · exact b8
  · exact b9
/-- told, for calls: how many, how wide, whose loans -/
def g_hI (M : am_M) : Prop := ∃ _ : Unit, am_rg (M.1 21 7) 12 ∧ (M.1 31 1 = 6 ∧ am_rg (M.1 31 2) 60) ∧ (M.1 33 1 = 8 ∧ am_rg (M.1 33 2) 30) ∧ (M.1 35 1 = 3 ∧ am_rg (M.1 35 2) 60) ∧ (M.1 54 1 = 3 ∧ am_rg (M.1 54 2) 20) ∧ am_rg (M.1 20 12) 9 ∧ ∀ l, l < 30 → am_in (M.1 34 (8 * l)) 12
theorem g_hI.pe {M : am_M} (h : g_hI M) : 0 ≤ (M.1 21 7).toInt ∧ (M.1 21 7).toInt ≤ 12 := by obtain ⟨-, h, -⟩ := h; exact h.i
theorem g_hI.ac {M : am_M} (h : g_hI M) : M.1 31 1 = 6 ∧ 0 ≤ (M.1 31 2).toInt ∧ (M.1 31 2).toInt ≤ 60 := by obtain ⟨-, -, h, -⟩ := h; exact ⟨h.1, h.2.i⟩
theorem g_hI.lo {M : am_M} (h : g_hI M) : M.1 33 1 = 8 ∧ 0 ≤ (M.1 33 2).toInt ∧ (M.1 33 2).toInt ≤ 30 := by obtain ⟨-, -, -, h, -⟩ := h; exact ⟨h.1, h.2.i⟩
theorem g_hI.mo {M : am_M} (h : g_hI M) : M.1 35 1 = 3 ∧ 0 ≤ (M.1 35 2).toInt ∧ (M.1 35 2).toInt ≤ 60 := by obtain ⟨-, -, -, -, h, -⟩ := h; exact ⟨h.1, h.2.i⟩
theorem g_hI.pr {M : am_M} (h : g_hI M) : M.1 54 1 = 3 ∧ 0 ≤ (M.1 54 2).toInt ∧ (M.1 54 2).toInt ≤ 20 := by obtain ⟨-, -, -, -, -, h, -⟩ := h; exact ⟨h.1, h.2.i⟩
theorem g_hI.to {M : am_M} (h : g_hI M) : 0 ≤ (M.1 20 12).toInt ∧ (M.1 20 12).toInt ≤ 9 := by obtain ⟨-, -, -, -, -, -, h, -⟩ := h; exact h.i
theorem g_hI.lp {M : am_M} (h : g_hI M) {l : Nat} (hl : l < 30) : am_in (M.1 34 (8 * l)) 12 := by obtain ⟨-, -, -, -, -, -, -, h⟩ := h; exact h l hl
/-- a store of Rows.put, at rows of six, eight, three -/
theorem g_rput6 {M : am_M} {r c : Nat} {a k v : Int32} (hw : M.1 r 1 = 6) (ha : 0 ≤ a.toInt) (hk : 0 ≤ k.toInt ∧ k.toInt < 6) (hl : a.toInt * 6 + k.toInt < (am_len c : Int)) (hc : am_len c < 100000) : am_rput M r c a k v = am_wI M c (6 * a.toNatClampNeg + k.toNatClampNeg) v := by
  have e := i_mul (x := a) (y := 6) (by simp only [Int32.reduceToInt]; omega) (by simp only [Int32.reduceToInt]; omega)
  simp only [Int32.reduceToInt] at e
  have e2 := i_add (x := a * 6) (y := k) (by rw [e]; omega) (by rw [e]; omega)
  have e3 := i_clamp (x := a * 6 + k) (by rw [e2, e]; omega)
  have e4 := i_clamp (x := a) ha
  have e5 := i_clamp (x := k) hk.1
  rw [am_rput_t (by rw [hw, i_lt]; simp only [Int32.reduceToInt]; exact hk.2) (by rw [hw]; exact ⟨by rw [e2, e]; omega, by rw [e2, e]; omega⟩), hw]
  exact congrArg (fun z => am_wI M c z v) (by omega)
theorem g_rput8 {M : am_M} {r c : Nat} {a k v : Int32} (hw : M.1 r 1 = 8) (ha : 0 ≤ a.toInt) (hk : 0 ≤ k.toInt ∧ k.toInt < 8) (hl : a.toInt * 8 + k.toInt < (am_len c : Int)) (hc : am_len c < 100000) : am_rput M r c a k v = am_wI M c (8 * a.toNatClampNeg + k.toNatClampNeg) v := by
  have e := i_mul (x := a) (y := 8) (by simp only [Int32.reduceToInt]; omega) (by simp only [Int32.reduceToInt]; omega)
  simp only [Int32.reduceToInt] at e
  have e2 := i_add (x := a * 8) (y := k) (by rw [e]; omega) (by rw [e]; omega)
  have e3 := i_clamp (x := a * 8 + k) (by rw [e2, e]; omega)
  have e4 := i_clamp (x := a) ha
  have e5 := i_clamp (x := k) hk.1
  rw [am_rput_t (by rw [hw, i_lt]; simp only [Int32.reduceToInt]; exact hk.2) (by rw [hw]; exact ⟨by rw [e2, e]; omega, by rw [e2, e]; omega⟩), hw]
  exact congrArg (fun z => am_wI M c z v) (by omega)
theorem g_rput3 {M : am_M} {r c : Nat} {a k v : Int32} (hw : M.1 r 1 = 3) (ha : 0 ≤ a.toInt) (hk : 0 ≤ k.toInt ∧ k.toInt < 3) (hl : a.toInt * 3 + k.toInt < (am_len c : Int)) (hc : am_len c < 100000) : am_rput M r c a k v = am_wI M c (3 * a.toNatClampNeg + k.toNatClampNeg) v := by
  have e := i_mul (x := a) (y := 3) (by simp only [Int32.reduceToInt]; omega) (by simp only [Int32.reduceToInt]; omega)
  simp only [Int32.reduceToInt] at e
  have e2 := i_add (x := a * 3) (y := k) (by rw [e]; omega) (by rw [e]; omega)
  have e3 := i_clamp (x := a * 3 + k) (by rw [e2, e]; omega)
  have e4 := i_clamp (x := a) ha
  have e5 := i_clamp (x := k) hk.1
  rw [am_rput_t (by rw [hw, i_lt]; simp only [Int32.reduceToInt]; exact hk.2) (by rw [hw]; exact ⟨by rw [e2, e]; omega, by rw [e2, e]; omega⟩), hw]
  exact congrArg (fun z => am_wI M c z v) (by omega)
/-- an act more, written out -/
theorem g_addAct {M : am_M} {p w v f b e : Int32} (hw : M.1 31 1 = 6) (h1 : 0 ≤ (M.1 31 2).toInt) (h2 : (M.1 31 2).toInt ≤ 60) : am_addAct M p w v f b e = am_wI (am_wI (am_wI (am_wI (am_wI (am_wI (am_wI M 32 (6 * (M.1 31 2).toNatClampNeg + 0) p) 32 (6 * (M.1 31 2).toNatClampNeg + 1) w) 32 (6 * (M.1 31 2).toNatClampNeg + 2) v) 31 2 (M.1 31 2 + 1)) 32 (6 * (M.1 31 2).toNatClampNeg + 3) f) 32 (6 * (M.1 31 2).toNatClampNeg + 4) b) 32 (6 * (M.1 31 2).toNatClampNeg + 5) e := by
  have l32 : am_len 32 = 366 := rfl
  have wd : ∀ (N : am_M) k z, (am_wI N 32 k z).1 31 1 = N.1 31 1 := fun N k z => by rw [am_wI_1, if_neg (fun q => absurd q.1 (by decide))]
  have wd2 : ∀ (N : am_M) z, (am_wI N 31 2 z).1 31 1 = N.1 31 1 := fun N z => by rw [am_wI_1, if_neg (fun q => absurd q.2 (by decide))]
  unfold am_addAct am_radd
  rw [g_rput6 (k := 0) (v := p) hw h1 ⟨by decide, by decide⟩ (by rw [l32]; simp only [Int32.reduceToInt]; omega) (by decide)]
  rw [g_rput6 (k := 1) (v := w) ((wd _ _ _).trans hw) h1 ⟨by decide, by decide⟩ (by rw [l32]; simp only [Int32.reduceToInt]; omega) (by decide)]
  rw [g_rput6 (k := 2) (v := v) ((wd _ _ _).trans ((wd _ _ _).trans hw)) h1 ⟨by decide, by decide⟩ (by rw [l32]; simp only [Int32.reduceToInt]; omega) (by decide)]
  have w3 := (wd2 (am_wI (am_wI (am_wI M 32 (6 * (M.1 31 2).toNatClampNeg + Int32.toNatClampNeg 0) p) 32 (6 * (M.1 31 2).toNatClampNeg + Int32.toNatClampNeg 1) w) 32 (6 * (M.1 31 2).toNatClampNeg + Int32.toNatClampNeg 2) v) (M.1 31 2 + 1)).trans ((wd _ _ _).trans ((wd _ _ _).trans ((wd _ _ _).trans hw)))
  rw [g_rput6 (k := 3) (v := f) w3 h1 ⟨by decide, by decide⟩ (by rw [l32]; simp only [Int32.reduceToInt]; omega) (by decide)]
  rw [g_rput6 (k := 4) (v := b) ((wd _ _ _).trans w3) h1 ⟨by decide, by decide⟩ (by rw [l32]; simp only [Int32.reduceToInt]; omega) (by decide)]
  rw [g_rput6 (k := 5) (v := e) ((wd _ _ _).trans ((wd _ _ _).trans w3)) h1 ⟨by decide, by decide⟩ (by rw [l32]; simp only [Int32.reduceToInt]; omega) (by decide)]
  rfl
/-- what trying another number leaves: the row behind the last act may hold anything -/
def g_sa (M M' : am_M) : Prop := ∃ _ : Unit, ∀ a b, 11 ≤ a → (a = 32 → b < 6 * (M.1 31 2).toNatClampNeg) → M'.1 a b = M.1 a b ∧ M'.2 a b = M.2 a b
theorem g_sv.a {M M' : am_M} (h : g_sv M M') : g_sa M M' := by
  obtain ⟨-, h⟩ := h
  exact ⟨(), fun a b z _ => h a b z⟩
theorem g_sa.tr {M M' M'' : am_M} (h : g_sa M M') (h2 : g_sa M' M'') : g_sa M M'' := by
  obtain ⟨-, h⟩ := h
  obtain ⟨-, h2⟩ := h2
  have e := (h 31 2 (by decide) (fun q => absurd q (by decide))).1
  refine ⟨(), fun a b z y => ?_⟩
  have y2 := h2 a b z (fun q => by rw [e]; exact y q)
  have y1 := h a b z y
  exact ⟨y2.1.trans y1.1, y2.2.trans y1.2⟩
set_option maxRecDepth 100000 in
theorem wd_392 : Cond.fieldLink "LearnLoans" 20 "LearnLoans" "run" "LLearnLoans$Run;" ∈ am_ws := am_wt2 (List.mem_of_getElem? (i := 95) (by rfl)) (by decide +kernel)
set_option maxRecDepth 100000 in
theorem wd_546 : Cond.methodLink "LearnLoans" 151 yX4_begin ∈ am_ws := am_wt3 (List.mem_of_getElem? (i := 9) (by rfl)) (by decide +kernel)
set_option maxRecDepth 100000 in
theorem wd_559 : Cond.methodLink "LearnLoans" 155 yX4_go ∈ am_ws := am_wt3 (List.mem_of_getElem? (i := 22) (by rfl)) (by decide +kernel)
set_option maxRecDepth 100000 in
theorem wd_649 : Cond.methodLink "LearnLoans" 284 yX4_together ∈ am_ws := am_wt3 (List.mem_of_getElem? (i := 112) (by rfl)) (by decide +kernel)
def rwX7_together : List dz_r := [(0, .aload_n 0, 1), (1, .getfield 20, 3), (4, .iload_n 1, 1), (5, .iload_n 3, 1), (6, .invokevirtual 151, 3), (9, .aload_n 0, 1), (10, .getfield 20, 3), (13, .iload_n 2, 1), (14, .invokevirtual 155, 3), (17, .aload_n 0, 1), (18, .getfield 20, 3), (21, .iload 4, 2), (23, .invokevirtual 284, 3), (26, .lreturn, 1)]
theorem dzX7_together : dz cX7_together rwX7_together := dz_all 0 (by decide +kernel)
def kX7_together (live : am_E) (Ret : am_R) : am_code := [(0, am_aload 0 1), (1, am_getR live 7 2 4), (4, am_iload 1 5), (5, am_iload 3 6), (6, am_callV live 4 2 TX4_begin 9), (9, am_aload 0 10), (10, am_getR live 7 2 13), (13, am_iload 2 14), (14, am_callV live 4 1 TX4_go 17), (17, am_aload 0 18), (18, am_getR live 7 2 21), (21, am_iload 4 23), (23, am_callV live 4 1 TX4_together 26), (26, am_retL Ret)]
theorem koX7_together (live : am_E) (Ret : am_R) : ∀ q ∈ kX7_together live Ret, am_ok RX7 cX7_together 5 (some .long) 5 124 live Ret q.1 q.2 :=
  am_kz dzX7_together <|
  am_kd (fun d => ak_aload_n d rfl rfl) <|
  am_kd (fun d => ak_getR (C := RX7) (T := TX7) (N := 4) rfl inX7w (by decide) rfl rfl rfl wd_392 d rfl) <|
  am_kd (fun d => ak_iload_n d rfl rfl) <|
  am_kd (fun d => ak_iload_n d rfl rfl) <|
  am_kd (fun d => ak_callV (C := RX4) (F := TX4) (N := 19) metX4_begin rfl ⟨rfl, hy_X4_begin⟩ (am_w5 wd_546 wd_547 wd_548 wd_60 wd_549) (by decide) d rfl) <|
  am_kd (fun d => ak_aload_n d rfl rfl) <|
  am_kd (fun d => ak_getR (C := RX7) (T := TX7) (N := 4) rfl inX7w (by decide) rfl rfl rfl wd_392 d rfl) <|
  am_kd (fun d => ak_iload_n d rfl rfl) <|
  am_kd (fun d => ak_callV (C := RX4) (F := TX4) (N := 19) metX4_go rfl ⟨rfl, hy_X4_go⟩ (am_w5 wd_559 wd_560 wd_561 wd_60 wd_562) (by decide) d rfl) <|
  am_kd (fun d => ak_aload_n d rfl rfl) <|
  am_kd (fun d => ak_getR (C := RX7) (T := TX7) (N := 4) rfl inX7w (by decide) rfl rfl rfl wd_392 d rfl) <|
  am_kd (fun d => ak_iload d rfl) <|
  am_kd (fun d => ak_callV (C := RX4) (F := TX4) (N := 19) metX4_together rfl ⟨rfl, hy_X4_together⟩ (am_w5 wd_649 wd_650 wd_651 wd_60 wd_652) (by decide) d rfl) <|
  am_kd (fun d => ak_retL d) <| am_kdn
def TX7_together : am_T := fun live as M R => match as with
  | [.ref n, .int p, .int y, .int k, .int w] => am_mn live ∧ n = 0 ∧ am_in p 12 ∧ am_in w 6 ∧ g_rI M ∧ ∀ v M', g_sc M M' → g_rI M' → R (some (.long v)) M'
  | _ => False
set_option maxRecDepth 100000 in
set_option maxHeartbeats 4000000 in
theorem metX7_together : am_Met yX7_together cX7_together 5 (some .long) (5) (124) TX7_together := by
  refine am_met (own := RX7) (by decide +kernel) rfl kX7_together koX7_together 100 (fun _ _ _ _ _ => none) (fun live as M Ret h => ?_) (fun _ _ _ _ _ _ _ _ hI => by cases hI)
  unfold TX7_together at h
  split at h
  · next n p y k w =>
    refine ⟨Nat.le_of_ble_eq_true rfl, ?_⟩
    change am_wp _ _ _ _ [(0, Value.ref n), (1, Value.int p), (2, Value.int y), (3, Value.int k), (4, Value.int w)] _ _
    obtain ⟨hmn, rfl, hp, hw, hr, h⟩ := h
    have hmn2 := hmn
    obtain ⟨i1, i2, rfl⟩ := hmn2
    repeat' (first | (with_reducible exact hmn) | (with_reducible exact hp) | (with_reducible exact hw) | (with_reducible exact hr) | apply And.intro | exact rfl | ((with_reducible change g_rI _); (with_reducible assumption)) | intro hx | (refine Exists.intro _ (And.intro rfl ?_)))
    all_goals try first | (with_reducible change am_tI _ _) | (change Ret _ _) | (change Ret _ _ _) | (change Exists _)
    all_goals try dsimp only at *
    all_goals try (with_reducible exact absurd ‹(1000 : Int64) = 0› am_z1000)
    exact h _ _ (by (repeat' (first | (with_reducible exact g_sc.rf) | (with_reducible assumption) | ((with_reducible change g_sc _ (am_wI _ _ _ _)); refine g_sc.wI ?_ rfl) | ((with_reducible change g_sc _ (am_wJ _ _ _ _)); refine g_sc.wJ ?_ rfl) | ((with_reducible change g_sc _ (am_cI _ _ _)); refine g_sc.cI ?_ rfl) | ((with_reducible change g_sc _ (am_cJ _ _ _)); refine g_sc.cJ ?_ rfl) | (refine g_sc.tr ?_ (by with_reducible assumption)) | (refine g_sc.st ?_ (by with_reducible assumption))))) (by (repeat' (first | (with_reducible assumption) | ((with_reducible change g_rI (am_wJ _ _ _ _)); refine g_rI.wJ ?_) | ((with_reducible change g_rI (am_cJ _ _ _)); refine g_rI.cJ ?_) | ((with_reducible change g_rI (am_wI _ 5 _ _)); refine g_rI.w5 ?_) | ((with_reducible change g_rI (am_wI _ _ _ _)); refine g_rI.wF ?_ rfl) | (refine g_rI.st ?_ (by with_reducible assumption)) | (refine g_rI.we ?_ (by with_reducible assumption)))))
  · exact h.elim
set_option maxRecDepth 100000 in
theorem wd_764 : Cond.methodLink "LearnLoans" 286 yX4_turnTo ∈ am_ws := am_wt3 (List.mem_of_getElem? (i := 227) (by rfl)) (by decide +kernel)
def rwX7_takenByLife : List dz_r := [(0, .aload_n 0, 1), (1, .getfield 20, 3), (4, .iload_n 1, 1), (5, .iload 5, 2), (7, .invokevirtual 151, 3), (10, .aload_n 0, 1), (11, .getfield 20, 3), (14, .iload 4, 2), (16, .iconst 1, 1), (17, .isub, 1), (18, .invokevirtual 155, 3), (21, .aload_n 0, 1), (22, .getfield 20, 3), (25, .iconst 3, 1), (26, .invokevirtual 284, 3), (29, .lstore 7, 2), (31, .aload_n 0, 1), (32, .getfield 20, 3), (35, .iload_n 3, 1), (36, .iload_n 2, 1), (37, .iload 6, 2), (39, .i2l, 1), (40, .invokevirtual 286, 3), (43, .aload_n 0, 1), (44, .getfield 20, 3), (47, .bipush 39, 2), (49, .invokevirtual 155, 3), (52, .aload_n 0, 1), (53, .getfield 20, 3), (56, .iconst 3, 1), (57, .invokevirtual 284, 3), (60, .lload 7, 2), (62, .lsub, 1), (63, .lreturn, 1)]
theorem dzX7_takenByLife : dz cX7_takenByLife rwX7_takenByLife := dz_all 0 (by decide +kernel)
def kX7_takenByLife (live : am_E) (Ret : am_R) : am_code := [(0, am_aload 0 1), (1, am_getR live 7 2 4), (4, am_iload 1 5), (5, am_iload 5 7), (7, am_callV live 4 2 TX4_begin 10), (10, am_aload 0 11), (11, am_getR live 7 2 14), (14, am_iload 4 16), (16, am_const (.int 1) 17), (17, am_i2 (fun x y => x - y) 18), (18, am_callV live 4 1 TX4_go 21), (21, am_aload 0 22), (22, am_getR live 7 2 25), (25, am_const (.int 3) 26), (26, am_callV live 4 1 TX4_together 29), (29, am_lstore 7 9 31), (31, am_aload 0 32), (32, am_getR live 7 2 35), (35, am_iload 3 36), (36, am_iload 2 37), (37, am_iload 6 39), (39, am_i2l 40), (40, am_callV live 4 3 TX4_turnTo 43), (43, am_aload 0 44), (44, am_getR live 7 2 47), (47, am_const (.int 39) 49), (49, am_callV live 4 1 TX4_go 52), (52, am_aload 0 53), (53, am_getR live 7 2 56), (56, am_const (.int 3) 57), (57, am_callV live 4 1 TX4_together 60), (60, am_lload 7 62), (62, am_l2 (fun x y => x - y) 63), (63, am_retL Ret)]
theorem koX7_takenByLife (live : am_E) (Ret : am_R) : ∀ q ∈ kX7_takenByLife live Ret, am_ok RX7 cX7_takenByLife 9 (some .long) 5 124 live Ret q.1 q.2 :=
  am_kz dzX7_takenByLife <|
  am_kd (fun d => ak_aload_n d rfl rfl) <|
  am_kd (fun d => ak_getR (C := RX7) (T := TX7) (N := 4) rfl inX7w (by decide) rfl rfl rfl wd_392 d rfl) <|
  am_kd (fun d => ak_iload_n d rfl rfl) <|
  am_kd (fun d => ak_iload d rfl) <|
  am_kd (fun d => ak_callV (C := RX4) (F := TX4) (N := 19) metX4_begin rfl ⟨rfl, hy_X4_begin⟩ (am_w5 wd_546 wd_547 wd_548 wd_60 wd_549) (by decide) d rfl) <|
  am_kd (fun d => ak_aload_n d rfl rfl) <|
  am_kd (fun d => ak_getR (C := RX7) (T := TX7) (N := 4) rfl inX7w (by decide) rfl rfl rfl wd_392 d rfl) <|
  am_kd (fun d => ak_iload d rfl) <|
  am_kd (fun d => ak_iconst d (by decide +kernel) rfl) <|
  am_kd (fun d => ak_isub d rfl) <|
  am_kd (fun d => ak_callV (C := RX4) (F := TX4) (N := 19) metX4_go rfl ⟨rfl, hy_X4_go⟩ (am_w5 wd_559 wd_560 wd_561 wd_60 wd_562) (by decide) d rfl) <|
  am_kd (fun d => ak_aload_n d rfl rfl) <|
  am_kd (fun d => ak_getR (C := RX7) (T := TX7) (N := 4) rfl inX7w (by decide) rfl rfl rfl wd_392 d rfl) <|
  am_kd (fun d => ak_iconst d (by decide +kernel) rfl) <|
  am_kd (fun d => ak_callV (C := RX4) (F := TX4) (N := 19) metX4_together rfl ⟨rfl, hy_X4_together⟩ (am_w5 wd_649 wd_650 wd_651 wd_60 wd_652) (by decide) d rfl) <|
  am_kd (fun d => ak_lstore d rfl) <|
  am_kd (fun d => ak_aload_n d rfl rfl) <|
  am_kd (fun d => ak_getR (C := RX7) (T := TX7) (N := 4) rfl inX7w (by decide) rfl rfl rfl wd_392 d rfl) <|
  am_kd (fun d => ak_iload_n d rfl rfl) <|
  am_kd (fun d => ak_iload_n d rfl rfl) <|
  am_kd (fun d => ak_iload d rfl) <|
  am_kd (fun d => ak_i2l d rfl) <|
  am_kd (fun d => ak_callV (C := RX4) (F := TX4) (N := 19) metX4_turnTo rfl ⟨rfl, hy_X4_turnTo⟩ (am_w5 wd_764 wd_551 wd_552 wd_60 wd_553) (by decide) d rfl) <|
  am_kd (fun d => ak_aload_n d rfl rfl) <|
  am_kd (fun d => ak_getR (C := RX7) (T := TX7) (N := 4) rfl inX7w (by decide) rfl rfl rfl wd_392 d rfl) <|
  am_kd (fun d => ak_bipush d (by decide +kernel) rfl) <|
  am_kd (fun d => ak_callV (C := RX4) (F := TX4) (N := 19) metX4_go rfl ⟨rfl, hy_X4_go⟩ (am_w5 wd_559 wd_560 wd_561 wd_60 wd_562) (by decide) d rfl) <|
  am_kd (fun d => ak_aload_n d rfl rfl) <|
  am_kd (fun d => ak_getR (C := RX7) (T := TX7) (N := 4) rfl inX7w (by decide) rfl rfl rfl wd_392 d rfl) <|
  am_kd (fun d => ak_iconst d (by decide +kernel) rfl) <|
  am_kd (fun d => ak_callV (C := RX4) (F := TX4) (N := 19) metX4_together rfl ⟨rfl, hy_X4_together⟩ (am_w5 wd_649 wd_650 wd_651 wd_60 wd_652) (by decide) d rfl) <|
  am_kd (fun d => ak_lload d rfl) <|
  am_kd (fun d => ak_lsub d rfl) <|
  am_kd (fun d => ak_retL d) <| am_kdn
def TX7_takenByLife : am_T := fun live as M R => match as with
  | [.ref n, .int p, .int q, .int l, .int y, .int k, .int s] => am_mn live ∧ n = 0 ∧ am_in p 12 ∧ (q = -1 ∨ am_in q 5) ∧ am_in l 4 ∧ g_rI M ∧ ∀ v M', g_sc M M' → g_rI M' → R (some (.long v)) M'
  | _ => False
set_option maxRecDepth 100000 in
set_option maxHeartbeats 4000000 in
theorem metX7_takenByLife : am_Met yX7_takenByLife cX7_takenByLife 9 (some .long) (5) (124) TX7_takenByLife := by
  refine am_met (own := RX7) (by decide +kernel) rfl kX7_takenByLife koX7_takenByLife 100 (fun _ _ _ _ _ => none) (fun live as M Ret h => ?_) (fun _ _ _ _ _ _ _ _ hI => by cases hI)
  unfold TX7_takenByLife at h
  split at h
  · next n p q l y k s =>
    refine ⟨Nat.le_of_ble_eq_true rfl, ?_⟩
    change am_wp _ _ _ _ [(0, Value.ref n), (1, Value.int p), (2, Value.int q), (3, Value.int l), (4, Value.int y), (5, Value.int k), (6, Value.int s)] _ _
    obtain ⟨hmn, rfl, hp, hq, hl, hr, h⟩ := h
    have hmn2 := hmn
    obtain ⟨i1, i2, rfl⟩ := hmn2
    have w3 : am_in (3 : Int32) 6 := ⟨by decide, by decide⟩
    repeat' (first | (with_reducible exact hmn) | (with_reducible exact hp) | (with_reducible exact w3) | (with_reducible exact hr) | apply And.intro | exact rfl | ((with_reducible change g_rI _); (with_reducible assumption)) | intro hx | (refine Exists.intro _ (And.intro rfl ?_)))
    all_goals try first | (with_reducible change am_tI _ _) | (change Ret _ _) | (change Ret _ _ _) | (change Exists _)
    all_goals try dsimp only at *
    all_goals try (with_reducible exact absurd ‹(1000 : Int64) = 0› am_z1000)
    all_goals first
      | (change 0 ≤ Int32.toInt _; exact (g_sI.pe (g_rI.s (by with_reducible assumption))).1)
      | (change Int32.toInt _ < _; exact (g_sI.pe (g_rI.s (by with_reducible assumption))).2)
      | (change g_rI _; exact g_rI.wJ (g_rI.wJ (g_rI.w413 (g_rI.w412 (g_rI.w411 (by with_reducible assumption) (Or.inr hl)) hq) (g_i2 _))))
      | skip
    exact h _ _ (by (repeat' (first | (with_reducible exact g_sc.rf) | (with_reducible assumption) | ((with_reducible change g_sc _ (am_wI _ _ _ _)); refine g_sc.wI ?_ rfl) | ((with_reducible change g_sc _ (am_wJ _ _ _ _)); refine g_sc.wJ ?_ rfl) | ((with_reducible change g_sc _ (am_cI _ _ _)); refine g_sc.cI ?_ rfl) | ((with_reducible change g_sc _ (am_cJ _ _ _)); refine g_sc.cJ ?_ rfl) | (refine g_sc.tr ?_ (by with_reducible assumption)) | (refine g_sc.st ?_ (by with_reducible assumption))))) (by (repeat' (first | (with_reducible assumption) | ((with_reducible change g_rI (am_wJ _ _ _ _)); refine g_rI.wJ ?_) | ((with_reducible change g_rI (am_cJ _ _ _)); refine g_rI.cJ ?_) | ((with_reducible change g_rI (am_wI _ 5 _ _)); refine g_rI.w5 ?_) | ((with_reducible change g_rI (am_wI _ _ _ _)); refine g_rI.wF ?_ rfl) | (refine g_rI.st ?_ (by with_reducible assumption)) | (refine g_rI.we ?_ (by with_reducible assumption)))))
  · exact h.elim
def rwX7_runEverybody : List dz_r := [(0, .iconst 0, 1), (1, .istore_n 3, 1), (2, .iload_n 3, 1), (3, .aload_n 0, 1), (4, .getfield 27, 3), (7, .getfield 38, 3), (10, .getfield 42, 3), (13, .if_icmp .ge 26, 3), (16, .aload_n 0, 1), (17, .getfield 20, 3), (20, .iload_n 3, 1), (21, .iload_n 2, 1), (22, .invokevirtual 151, 3), (25, .aload_n 0, 1), (26, .getfield 20, 3), (29, .iload_n 1, 1), (30, .invokevirtual 155, 3), (33, .iinc 3 1, 3), (36, .goto (-34), 3), (39, .return_, 1)]
theorem dzX7_runEverybody : dz cX7_runEverybody rwX7_runEverybody := dz_all 0 (by decide +kernel)
def kX7_runEverybody (live : am_E) (Ret : am_R) : am_code := [(0, am_const (.int 0) 1), (1, am_istore 3 4 2), (2, am_iload 3 3), (3, am_aload 0 4), (4, am_getR live 7 0 7), (7, am_getR live 0 0 10), (10, am_getI live 2 7 13), (13, am_if2 (fun x y => y ≤ x) 39 16), (16, am_aload 0 17), (17, am_getR live 7 2 20), (20, am_iload 3 21), (21, am_iload 2 22), (22, am_callV live 4 2 TX4_begin 25), (25, am_aload 0 26), (26, am_getR live 7 2 29), (29, am_iload 1 30), (30, am_callV live 4 1 TX4_go 33), (33, am_iinc 3 4 1 36), (36, am_goto 2), (39, am_retV Ret)]
theorem koX7_runEverybody (live : am_E) (Ret : am_R) : ∀ q ∈ kX7_runEverybody live Ret, am_ok RX7 cX7_runEverybody 4 none 5 124 live Ret q.1 q.2 :=
  am_kz dzX7_runEverybody <|
  am_kd (fun d => ak_iconst d (by decide +kernel) rfl) <|
  am_kd (fun d => ak_istore_n d rfl rfl) <|
  am_kd (fun d => ak_iload_n d rfl rfl) <|
  am_kd (fun d => ak_aload_n d rfl rfl) <|
  am_kd (fun d => ak_getR (C := RX7) (T := TX7) (N := 4) rfl inX7w (by decide) rfl rfl rfl wd_390 d rfl) <|
  am_kd (fun d => ak_getR (C := RX0) (T := TX0) (N := 13) rfl inX0w (by decide) rfl rfl rfl wd_194 d rfl) <|
  am_kd (fun d => ak_getI (C := RX2) (T := TX2) (N := 8) rfl inX2w (by decide) rfl rfl rfl wd_121 d rfl) <|
  am_kd (fun d => ak_icmp_ge d (by decide +kernel) rfl) <|
  am_kd (fun d => ak_aload_n d rfl rfl) <|
  am_kd (fun d => ak_getR (C := RX7) (T := TX7) (N := 4) rfl inX7w (by decide) rfl rfl rfl wd_392 d rfl) <|
  am_kd (fun d => ak_iload_n d rfl rfl) <|
  am_kd (fun d => ak_iload_n d rfl rfl) <|
  am_kd (fun d => ak_callV (C := RX4) (F := TX4) (N := 19) metX4_begin rfl ⟨rfl, hy_X4_begin⟩ (am_w5 wd_546 wd_547 wd_548 wd_60 wd_549) (by decide) d rfl) <|
  am_kd (fun d => ak_aload_n d rfl rfl) <|
  am_kd (fun d => ak_getR (C := RX7) (T := TX7) (N := 4) rfl inX7w (by decide) rfl rfl rfl wd_392 d rfl) <|
  am_kd (fun d => ak_iload_n d rfl rfl) <|
  am_kd (fun d => ak_callV (C := RX4) (F := TX4) (N := 19) metX4_go rfl ⟨rfl, hy_X4_go⟩ (am_w5 wd_559 wd_560 wd_561 wd_60 wd_562) (by decide) d rfl) <|
  am_kd (fun d => ak_iinc d (by decide +kernel) rfl) <|
  am_kd (fun d => ak_goto d (by decide +kernel)) <|
  am_kd (fun d => ak_retV d) <| am_kdn
def TX7_runEverybody : am_T := fun live as M R => match as with
  | [.ref n, .int y, .int k] => am_mn live ∧ n = 0 ∧ g_hI M ∧ g_rI M ∧ ∀ M', g_sc M M' → g_rI M' → R none M'
  | _ => False
def JX7_runEverybody : am_E → List Value → am_M → am_R → am_inv := fun live as M0 _ pc => match as with
  | [.ref n, .int y, .int w] => (match pc with
    | 2 => some ([0, 1, 2, 3], fun k L st M => ∃ i : Int32, L = [(0, .ref 0), (1, .int y), (2, .int w), (3, .int i)] ∧ st = [] ∧ k = ((13 - i.toInt).toNat, 0) ∧ 0 ≤ i.toInt ∧ g_sc M0 M ∧ g_rI M)
    | _ => none)
  | _ => none
set_option maxRecDepth 100000 in
set_option maxHeartbeats 4000000 in
theorem metX7_runEverybody : am_Met yX7_runEverybody cX7_runEverybody 4 none (5) (124) TX7_runEverybody := by
  refine am_met (own := RX7) (by decide +kernel) rfl kX7_runEverybody koX7_runEverybody 100 JX7_runEverybody ?_ ?_
  · intro live as M Ret h
    unfold TX7_runEverybody at h
    split at h
    · next n y w =>
      refine ⟨Nat.le_of_ble_eq_true rfl, ?_⟩
      change am_wp _ _ _ _ [(0, Value.ref n), (1, Value.int y), (2, Value.int w)] _ _
      obtain ⟨hmn, rfl, hh, hr, h⟩ := h
      repeat' (first | apply And.intro | exact rfl | intro hx | (refine Exists.intro _ (And.intro rfl ?_)))
      all_goals try first | (with_reducible change am_tI _ _) | (change Ret _ _) | (change Ret _ _ _) | (change Exists _)
      all_goals try dsimp only at *
      all_goals try (with_reducible exact absurd ‹(1000 : Int64) = 0› am_z1000)
      exact ⟨_, _, rfl, rfl, rfl, by decide, g_sc.rf, hr⟩
    · exact h.elim
  · intro live as M0 Ret h k pc I hI L st M hi
    unfold TX7_runEverybody at h
    split at h
    · next n y w =>
      obtain ⟨hmn, rfl, hh, hr, h⟩ := h
      have hmn2 := hmn
      obtain ⟨i1, i2, rfl⟩ := hmn2
      change (match pc with | 2 => _ | _ => none) = _ at hI
      split at hI
      · cases hI
        obtain ⟨i, rfl, rfl, rfl, e1, e2, e3⟩ := hi
        by_cases hz : M.1 21 7 ≤ i
        · skip
          repeat' (first | apply And.intro | exact rfl | (intro hx; with_reducible exact absurd hz hx) | intro hx | (refine Exists.intro _ (And.intro rfl ?_)))
          all_goals try first | (with_reducible change am_tI _ _) | (change Ret _ _) | (change Ret _ _ _) | (change Exists _)
          all_goals try dsimp only at *
          all_goals try (with_reducible exact absurd ‹(1000 : Int64) = 0› am_z1000)
          exact h _ e2 e3
        · have hz2 := hz
          have hs := hh.pe
          rw [e2.i 7 (by decide)] at hz2
          simp only [i_le] at hz2
          have hp : am_in i 12 := ⟨e1, by omega⟩
          have hi := i_inc (x := i) (by omega) (by omega)
          repeat' (first | (with_reducible exact hmn) | (with_reducible exact hp) | (with_reducible exact e3) | apply And.intro | exact rfl | (intro hx; with_reducible exact absurd hx hz) | ((with_reducible change g_rI _); (with_reducible assumption)) | intro hx | (refine Exists.intro _ (And.intro rfl ?_)))
          all_goals try first | (with_reducible change am_tI _ _) | (change Ret _ _) | (change Ret _ _ _) | (change Exists _)
          all_goals try dsimp only at *
          all_goals try (with_reducible exact absurd ‹(1000 : Int64) = 0› am_z1000)
          exact ⟨_, am_lt_l (by omega), _, rfl, rfl, rfl, by omega, by (repeat' (first | (with_reducible exact g_sc.rf) | (with_reducible assumption) | ((with_reducible change g_sc _ (am_wI _ _ _ _)); refine g_sc.wI ?_ rfl) | ((with_reducible change g_sc _ (am_wJ _ _ _ _)); refine g_sc.wJ ?_ rfl) | ((with_reducible change g_sc _ (am_cI _ _ _)); refine g_sc.cI ?_ rfl) | ((with_reducible change g_sc _ (am_cJ _ _ _)); refine g_sc.cJ ?_ rfl) | (refine g_sc.tr ?_ (by with_reducible assumption)) | (refine g_sc.st ?_ (by with_reducible assumption)))), by (repeat' (first | (with_reducible assumption) | ((with_reducible change g_rI (am_wJ _ _ _ _)); refine g_rI.wJ ?_) | ((with_reducible change g_rI (am_cJ _ _ _)); refine g_rI.cJ ?_) | ((with_reducible change g_rI (am_wI _ 5 _ _)); refine g_rI.w5 ?_) | ((with_reducible change g_rI (am_wI _ _ _ _)); refine g_rI.wF ?_ rfl) | (refine g_rI.st ?_ (by with_reducible assumption)) | (refine g_rI.we ?_ (by with_reducible assumption))))⟩
      · cases hI
    · exact h.elim
set_option maxRecDepth 100000 in
theorem wd_828 : Cond.methodLink "LearnLoans" 293 Lib.Math.abs.name ∈ am_ws := am_wt4 (List.mem_of_getElem? (i := 51) (by rfl)) (by decide +kernel)
set_option maxRecDepth 100000 in
theorem wd_829 : Cond.static Lib.Math.abs.name ∈ am_ws := am_wt4 (List.mem_of_getElem? (i := 52) (by rfl)) (by decide +kernel)
set_option maxRecDepth 100000 in
theorem wd_830 : Cond.code Lib.Math.abs.name Lib.Math.abs.code 1 (some .int) ∈ am_ws := am_wt4 (List.mem_of_getElem? (i := 53) (by rfl)) (by decide +kernel)
def rwX7_isNearer : List dz_r := [(0, .iload_n 1, 1), (1, .iconst (-1), 1), (2, .if_icmp .ne 5, 3), (5, .iconst 1, 1), (6, .ireturn, 1), (7, .iload_n 0, 1), (8, .iload_n 2, 1), (9, .isub, 1), (10, .invokestatic 293, 3), (13, .istore_n 3, 1), (14, .iload_n 1, 1), (15, .iload_n 2, 1), (16, .isub, 1), (17, .invokestatic 293, 3), (20, .istore 4, 2), (22, .iload_n 3, 1), (23, .iload 4, 2), (25, .if_icmp .lt 14, 3), (28, .iload_n 3, 1), (29, .iload 4, 2), (31, .if_icmp .ne 12, 3), (34, .iload_n 0, 1), (35, .iload_n 1, 1), (36, .if_icmp .ge 7, 3), (39, .iconst 1, 1), (40, .goto 4, 3), (43, .iconst 0, 1), (44, .ireturn, 1)]
theorem dzX7_isNearer : dz cX7_isNearer rwX7_isNearer := dz_all 0 (by decide +kernel)
def kX7_isNearer (live : am_E) (Ret : am_R) : am_code := [(0, am_iload 1 1), (1, am_const (.int (-1)) 2), (2, am_if2 (fun x y => x = y) 5 7), (5, am_const (.int 1) 6), (6, am_retZ Ret), (7, am_iload 0 8), (8, am_iload 2 9), (9, am_i2 (fun x y => x - y) 10), (10, am_math1 (fun x => if 0 ≤ x then x else 0 - x) 23 13), (13, am_istore 3 5 14), (14, am_iload 1 15), (15, am_iload 2 16), (16, am_i2 (fun x y => x - y) 17), (17, am_math1 (fun x => if 0 ≤ x then x else 0 - x) 23 20), (20, am_istore 4 5 22), (22, am_iload 3 23), (23, am_iload 4 25), (25, am_if2 (fun x y => x < y) 39 28), (28, am_iload 3 29), (29, am_iload 4 31), (31, am_if2 (fun x y => x = y) 34 43), (34, am_iload 0 35), (35, am_iload 1 36), (36, am_if2 (fun x y => y ≤ x) 43 39), (39, am_const (.int 1) 40), (40, am_goto 44), (43, am_const (.int 0) 44), (44, am_retZ Ret)]
theorem koX7_isNearer (live : am_E) (Ret : am_R) : ∀ q ∈ kX7_isNearer live Ret, am_ok RX7 cX7_isNearer 5 (some .boolean) 1 23 live Ret q.1 q.2 :=
  am_kz dzX7_isNearer <|
  am_kd (fun d => ak_iload_n d rfl rfl) <|
  am_kd (fun d => ak_iconst d (by decide +kernel) rfl) <|
  am_kd (fun d => ak_icmp_ne d (by decide +kernel) rfl) <|
  am_kd (fun d => ak_iconst d (by decide +kernel) rfl) <|
  am_kd (fun d => ak_retZ d) <|
  am_kd (fun d => ak_iload_n d rfl rfl) <|
  am_kd (fun d => ak_iload_n d rfl rfl) <|
  am_kd (fun d => ak_isub d rfl) <|
  am_kd (fun d => ak_iabs (am_w4 wd_828 wd_829 wd_68 wd_830) (by decide) d rfl) <|
  am_kd (fun d => ak_istore_n d rfl rfl) <|
  am_kd (fun d => ak_iload_n d rfl rfl) <|
  am_kd (fun d => ak_iload_n d rfl rfl) <|
  am_kd (fun d => ak_isub d rfl) <|
  am_kd (fun d => ak_iabs (am_w4 wd_828 wd_829 wd_68 wd_830) (by decide) d rfl) <|
  am_kd (fun d => ak_istore d rfl) <|
  am_kd (fun d => ak_iload_n d rfl rfl) <|
  am_kd (fun d => ak_iload d rfl) <|
  am_kd (fun d => ak_icmp_lt d (by decide +kernel) rfl) <|
  am_kd (fun d => ak_iload_n d rfl rfl) <|
  am_kd (fun d => ak_iload d rfl) <|
  am_kd (fun d => ak_icmp_ne d (by decide +kernel) rfl) <|
  am_kd (fun d => ak_iload_n d rfl rfl) <|
  am_kd (fun d => ak_iload_n d rfl rfl) <|
  am_kd (fun d => ak_icmp_ge d (by decide +kernel) rfl) <|
  am_kd (fun d => ak_iconst d (by decide +kernel) rfl) <|
  am_kd (fun d => ak_goto d (by decide +kernel)) <|
  am_kd (fun d => ak_iconst d (by decide +kernel) rfl) <|
  am_kd (fun d => ak_retZ d) <| am_kdn
def TX7_isNearer : am_T := fun live as M R => match as with
  | [.int a, .int b, .int c] => R (some (.int 0)) M ∧ R (some (.int 1)) M
  | _ => False
set_option maxRecDepth 100000 in
set_option maxHeartbeats 4000000 in
theorem metX7_isNearer : am_Met yX7_isNearer cX7_isNearer 5 (some .boolean) (1) (23) TX7_isNearer := by
  refine am_met (own := RX7) (by decide +kernel) rfl kX7_isNearer koX7_isNearer 100 (fun _ _ _ _ _ => none) (fun live as M Ret h => ?_) (fun _ _ _ _ _ _ _ _ hI => by cases hI)
  unfold TX7_isNearer at h
  split at h
  · next a b c =>
    refine ⟨Nat.le_of_ble_eq_true rfl, ?_⟩
    change am_wp _ _ _ _ [(0, Value.int a), (1, Value.int b), (2, Value.int c)] _ _
    obtain ⟨h0, h1⟩ := h
    repeat' (first | (with_reducible exact h0) | (with_reducible exact h1) | apply And.intro | exact rfl | intro hx | (refine Exists.intro _ (And.intro rfl ?_)) | ((with_reducible change _ = true); simp only [h0, h1, Bool.true_and]; rfl))
    all_goals try first | (with_reducible change am_tI _ _) | (change Ret _ _) | (change Ret _ _ _) | (change Exists _)
    all_goals try dsimp only at *
    all_goals try (with_reducible exact absurd ‹(1000 : Int64) = 0› am_z1000)
    all_goals first | (left; rfl) | (right; rfl) | (with_reducible exact h0) | (with_reducible exact h1) | exact h0 | exact h1
  · exact h.elim
theorem hy_X0_addAct : yX0_addAct.cls ≠ "java/lang/invoke/MethodHandle" ∧ yX0_addAct.cls ≠ "java/lang/invoke/VarHandle" ∧ (parseMethodDescriptor yX0_addAct.desc).map (fun d => d.parameters.length) = some 6 := ⟨by decide +kernel, by decide +kernel, by decide +kernel⟩
set_option maxRecDepth 100000 in
theorem wd_476 : Cond.methodLink "LearnLoans" 111 yX0_addAct ∈ am_ws := am_wt2 (List.mem_of_getElem? (i := 179) (by rfl)) (by decide +kernel)
set_option maxRecDepth 100000 in
theorem wd_477 : Cond.instanceMethod yX0_addAct ∈ am_ws := am_wt2 (List.mem_of_getElem? (i := 180) (by rfl)) (by decide +kernel)
set_option maxRecDepth 100000 in
theorem wd_478 : Cond.selects "LearnLoans$House" yX0_addAct yX0_addAct ∈ am_ws := am_wt2 (List.mem_of_getElem? (i := 181) (by rfl)) (by decide +kernel)
set_option maxRecDepth 100000 in
theorem wd_479 : Cond.code yX0_addAct cX0_addAct 8 (some .int) ∈ am_ws := am_wt2 (List.mem_of_getElem? (i := 182) (by rfl)) (by decide +kernel)
set_option maxRecDepth 100000 in
theorem wd_204 : Cond.fieldLink "LearnLoans" 104 "LearnLoans$House" "acts" "LLearnLoans$Rows;" ∈ am_ws := am_wt1 (List.mem_of_getElem? (i := 147) (by rfl)) (by decide +kernel)
theorem hy_X3_dropLast : yX3_dropLast.cls ≠ "java/lang/invoke/MethodHandle" ∧ yX3_dropLast.cls ≠ "java/lang/invoke/VarHandle" ∧ (parseMethodDescriptor yX3_dropLast.desc).map (fun d => d.parameters.length) = some 0 := ⟨by decide +kernel, by decide +kernel, by decide +kernel⟩
set_option maxRecDepth 100000 in
theorem wd_808 : Cond.methodLink "LearnLoans" 290 yX3_dropLast ∈ am_ws := am_wt4 (List.mem_of_getElem? (i := 31) (by rfl)) (by decide +kernel)
set_option maxRecDepth 100000 in
theorem wd_809 : Cond.instanceMethod yX3_dropLast ∈ am_ws := am_wt4 (List.mem_of_getElem? (i := 32) (by rfl)) (by decide +kernel)
set_option maxRecDepth 100000 in
theorem wd_810 : Cond.selects "LearnLoans$Rows" yX3_dropLast yX3_dropLast ∈ am_ws := am_wt4 (List.mem_of_getElem? (i := 33) (by rfl)) (by decide +kernel)
set_option maxRecDepth 100000 in
theorem wd_811 : Cond.code yX3_dropLast cX3_dropLast 1 none ∈ am_ws := am_wt4 (List.mem_of_getElem? (i := 34) (by rfl)) (by decide +kernel)
def rwX7_takenIf : List dz_r := [(0, .aload_n 0, 1), (1, .getfield 27, 3), (4, .iload_n 1, 1), (5, .iload_n 2, 1), (6, .iload_n 3, 1), (7, .iload 4, 2), (9, .iconst 0, 1), (10, .bipush 39, 2), (12, .invokevirtual 111, 3), (15, .pop, 1), (16, .lconst 0, 1), (17, .lstore 6, 2), (19, .iconst 0, 1), (20, .istore 8, 2), (22, .iload 8, 2), (24, .aload_n 0, 1), (25, .getfield 27, 3), (28, .getfield 38, 3), (31, .getfield 42, 3), (34, .if_icmp .ge 42, 3), (37, .aload_n 0, 1), (38, .getfield 20, 3), (41, .iload 8, 2), (43, .bipush 39, 2), (45, .invokevirtual 151, 3), (48, .aload_n 0, 1), (49, .getfield 20, 3), (52, .iload 5, 2), (54, .invokevirtual 155, 3), (57, .lload 6, 2), (59, .aload_n 0, 1), (60, .getfield 20, 3), (63, .iconst 1, 1), (64, .invokevirtual 284, 3), (67, .ladd, 1), (68, .lstore 6, 2), (70, .iinc 8 1, 3), (73, .goto (-51), 3), (76, .aload_n 0, 1), (77, .getfield 27, 3), (80, .getfield 104, 3), (83, .invokevirtual 290, 3), (86, .lload 6, 2), (88, .lreturn, 1)]
theorem dzX7_takenIf : dz cX7_takenIf rwX7_takenIf := dz_all 0 (by decide +kernel)
def kX7_takenIf (live : am_E) (Ret : am_R) : am_code := [(0, am_aload 0 1), (1, am_getR live 7 0 4), (4, am_iload 1 5), (5, am_iload 2 6), (6, am_iload 3 7), (7, am_iload 4 9), (9, am_const (.int 0) 10), (10, am_const (.int 39) 12), (12, am_callV live 0 6 TX0_addAct 15), (15, am_pop 16), (16, am_const (.long 0) 17), (17, am_lstore 6 9 19), (19, am_const (.int 0) 20), (20, am_istore 8 9 22), (22, am_iload 8 24), (24, am_aload 0 25), (25, am_getR live 7 0 28), (28, am_getR live 0 0 31), (31, am_getI live 2 7 34), (34, am_if2 (fun x y => y ≤ x) 76 37), (37, am_aload 0 38), (38, am_getR live 7 2 41), (41, am_iload 8 43), (43, am_const (.int 39) 45), (45, am_callV live 4 2 TX4_begin 48), (48, am_aload 0 49), (49, am_getR live 7 2 52), (52, am_iload 5 54), (54, am_callV live 4 1 TX4_go 57), (57, am_lload 6 59), (59, am_aload 0 60), (60, am_getR live 7 2 63), (63, am_const (.int 1) 64), (64, am_callV live 4 1 TX4_together 67), (67, am_l2 (fun x y => x + y) 68), (68, am_lstore 6 9 70), (70, am_iinc 8 9 1 73), (73, am_goto 22), (76, am_aload 0 77), (77, am_getR live 7 0 80), (80, am_getR live 0 3 83), (83, am_callV live 3 0 TX3_dropLast 86), (86, am_lload 6 88), (88, am_retL Ret)]
theorem koX7_takenIf (live : am_E) (Ret : am_R) : ∀ q ∈ kX7_takenIf live Ret, am_ok RX7 cX7_takenIf 9 (some .long) 5 124 live Ret q.1 q.2 :=
  am_kz dzX7_takenIf <|
  am_kd (fun d => ak_aload_n d rfl rfl) <|
  am_kd (fun d => ak_getR (C := RX7) (T := TX7) (N := 4) rfl inX7w (by decide) rfl rfl rfl wd_390 d rfl) <|
  am_kd (fun d => ak_iload_n d rfl rfl) <|
  am_kd (fun d => ak_iload_n d rfl rfl) <|
  am_kd (fun d => ak_iload_n d rfl rfl) <|
  am_kd (fun d => ak_iload d rfl) <|
  am_kd (fun d => ak_iconst d (by decide +kernel) rfl) <|
  am_kd (fun d => ak_bipush d (by decide +kernel) rfl) <|
  am_kd (fun d => ak_callV (C := RX0) (F := TX0) (N := 13) metX0_addAct rfl ⟨rfl, hy_X0_addAct⟩ (am_w5 wd_476 wd_477 wd_478 wd_61 wd_479) (by decide) d rfl) <|
  am_kd (fun d => ak_pop d rfl) <|
  am_kd (fun d => ak_lconst d (by decide +kernel) rfl) <|
  am_kd (fun d => ak_lstore d rfl) <|
  am_kd (fun d => ak_iconst d (by decide +kernel) rfl) <|
  am_kd (fun d => ak_istore d rfl) <|
  am_kd (fun d => ak_iload d rfl) <|
  am_kd (fun d => ak_aload_n d rfl rfl) <|
  am_kd (fun d => ak_getR (C := RX7) (T := TX7) (N := 4) rfl inX7w (by decide) rfl rfl rfl wd_390 d rfl) <|
  am_kd (fun d => ak_getR (C := RX0) (T := TX0) (N := 13) rfl inX0w (by decide) rfl rfl rfl wd_194 d rfl) <|
  am_kd (fun d => ak_getI (C := RX2) (T := TX2) (N := 8) rfl inX2w (by decide) rfl rfl rfl wd_121 d rfl) <|
  am_kd (fun d => ak_icmp_ge d (by decide +kernel) rfl) <|
  am_kd (fun d => ak_aload_n d rfl rfl) <|
  am_kd (fun d => ak_getR (C := RX7) (T := TX7) (N := 4) rfl inX7w (by decide) rfl rfl rfl wd_392 d rfl) <|
  am_kd (fun d => ak_iload d rfl) <|
  am_kd (fun d => ak_bipush d (by decide +kernel) rfl) <|
  am_kd (fun d => ak_callV (C := RX4) (F := TX4) (N := 19) metX4_begin rfl ⟨rfl, hy_X4_begin⟩ (am_w5 wd_546 wd_547 wd_548 wd_60 wd_549) (by decide) d rfl) <|
  am_kd (fun d => ak_aload_n d rfl rfl) <|
  am_kd (fun d => ak_getR (C := RX7) (T := TX7) (N := 4) rfl inX7w (by decide) rfl rfl rfl wd_392 d rfl) <|
  am_kd (fun d => ak_iload d rfl) <|
  am_kd (fun d => ak_callV (C := RX4) (F := TX4) (N := 19) metX4_go rfl ⟨rfl, hy_X4_go⟩ (am_w5 wd_559 wd_560 wd_561 wd_60 wd_562) (by decide) d rfl) <|
  am_kd (fun d => ak_lload d rfl) <|
  am_kd (fun d => ak_aload_n d rfl rfl) <|
  am_kd (fun d => ak_getR (C := RX7) (T := TX7) (N := 4) rfl inX7w (by decide) rfl rfl rfl wd_392 d rfl) <|
  am_kd (fun d => ak_iconst d (by decide +kernel) rfl) <|
  am_kd (fun d => ak_callV (C := RX4) (F := TX4) (N := 19) metX4_together rfl ⟨rfl, hy_X4_together⟩ (am_w5 wd_649 wd_650 wd_651 wd_60 wd_652) (by decide) d rfl) <|
  am_kd (fun d => ak_ladd d rfl) <|
  am_kd (fun d => ak_lstore d rfl) <|
  am_kd (fun d => ak_iinc d (by decide +kernel) rfl) <|
  am_kd (fun d => ak_goto d (by decide +kernel)) <|
  am_kd (fun d => ak_aload_n d rfl rfl) <|
  am_kd (fun d => ak_getR (C := RX7) (T := TX7) (N := 4) rfl inX7w (by decide) rfl rfl rfl wd_390 d rfl) <|
  am_kd (fun d => ak_getR (C := RX0) (T := TX0) (N := 13) rfl inX0w (by decide) rfl rfl rfl wd_204 d rfl) <|
  am_kd (fun d => ak_callV (C := RX3) (F := TX3) (N := 3) metX3_dropLast rfl ⟨rfl, hy_X3_dropLast⟩ (am_w5 wd_808 wd_809 wd_810 wd_64 wd_811) (by decide) d rfl) <|
  am_kd (fun d => ak_lload d rfl) <|
  am_kd (fun d => ak_retL d) <| am_kdn
def TX7_takenIf : am_T := fun live as M R => match as with
  | [.ref n, .int p, .int w, .int v, .int f, .int y] => am_mn live ∧ n = 0 ∧ g_hI M ∧ g_rI M ∧ ∀ v M', g_sa M M' → g_rI M' → R (some (.long v)) M'
  | _ => False
def JX7_takenIf : am_E → List Value → am_M → am_R → am_inv := fun live as M0 _ pc => match as with
  | [.ref n, .int p, .int w, .int v, .int f, .int y] => (match pc with
    | 22 => some ([0, 5, 6, 8], fun k L st M => ∃ (t : Int64) (i : Int32), L = [(0, .ref 0), (5, .int y), (6, .long t), (8, .int i)] ∧ st = [] ∧ k = ((13 - i.toInt).toNat, 0) ∧ 0 ≤ i.toInt ∧ g_sc (am_addAct M0 p w v f 0 39) M ∧ g_rI M)
    | _ => none)
  | _ => none
theorem g_addAct_o {M : am_M} {p w v f b e : Int32} (h : g_hI M) {n k : Nat} (hn : n ≠ 31 ∨ k ≠ 2) (hk : n = 32 → k < 6 * (M.1 31 2).toNatClampNeg) : (am_addAct M p w v f b e).1 n k = M.1 n k := by
  rw [g_addAct h.ac.1 h.ac.2.1 h.ac.2.2]
  simp only [am_wI_1]
  repeat rw [if_neg (by intro q; have q1 := q.1; have q2 := q.2; first | (have := hk q1; omega) | omega)]
theorem g_addAct_J {M : am_M} {p w v f b e : Int32} (h : g_hI M) : (am_addAct M p w v f b e).2 = M.2 := by
  rw [g_addAct h.ac.1 h.ac.2.1 h.ac.2.2]
  rfl
theorem g_addAct_s {M : am_M} {p w v f b e : Int32} (h : g_hI M) : (am_addAct M p w v f b e).1 31 2 = M.1 31 2 + 1 := by
  rw [g_addAct h.ac.1 h.ac.2.1 h.ac.2.2]
  simp [am_wI_1]
set_option maxRecDepth 100000 in
set_option maxHeartbeats 4000000 in
theorem metX7_takenIf : am_Met yX7_takenIf cX7_takenIf 9 (some .long) (5) (124) TX7_takenIf := by
  refine am_met (own := RX7) (by decide +kernel) rfl kX7_takenIf koX7_takenIf 100 JX7_takenIf ?_ ?_
  · intro live as M Ret h
    unfold TX7_takenIf at h
    split at h
    · next n p w v f y =>
      refine ⟨Nat.le_of_ble_eq_true rfl, ?_⟩
      change am_wp _ _ _ _ [(0, Value.ref n), (1, Value.int p), (2, Value.int w), (3, Value.int v), (4, Value.int f), (5, Value.int y)] _ _
      obtain ⟨hmn, rfl, hh, hr, h⟩ := h
      have hmn2 := hmn
      obtain ⟨i1, i2, rfl⟩ := hmn2
      repeat' (first | (with_reducible exact hmn) | apply And.intro | exact rfl | intro hx | (refine Exists.intro _ (And.intro rfl ?_)))
      all_goals try first | (with_reducible change am_tI _ _) | (change Ret _ _) | (change Ret _ _ _) | (change Exists _)
      all_goals try dsimp only at *
      all_goals try (with_reducible exact absurd ‹(1000 : Int64) = 0› am_z1000)
      exact ⟨_, _, _, rfl, rfl, rfl, by decide, g_sc.rf, hr.on (fun a b z => g_addAct_o hh (Or.inl (fun q => by rw [q] at z; exact absurd z (by decide))) (fun q => by rw [q] at z; exact absurd z (by decide)))⟩
    · exact h.elim
  · intro live as M0 Ret h k pc I hI L st M hi
    unfold TX7_takenIf at h
    split at h
    · next n p w v f y =>
      obtain ⟨hmn, rfl, hh, hr, h⟩ := h
      have hmn2 := hmn
      obtain ⟨i1, i2, rfl⟩ := hmn2
      change (match pc with | 22 => _ | _ => none) = _ at hI
      split at hI
      · cases hI
        obtain ⟨t, i, rfl, rfl, rfl, e1, e2, e3⟩ := hi
        have w1 : am_in (1 : Int32) 6 := ⟨by decide, by decide⟩
        have hs := hh.pe
        have ha := hh.ac
        have e21 : M.1 21 7 = M0.1 21 7 := (e2.i 7 (by decide)).trans (g_addAct_o hh (Or.inl (by decide)) (fun q => absurd q (by decide)))
        have e31 : M.1 31 2 = M0.1 31 2 + 1 := (e2.i 2 (by decide)).trans (g_addAct_s hh)
        have h31 := i_inc (x := M0.1 31 2) (by omega) (by omega)
        by_cases hz : M.1 21 7 ≤ i
        · skip
          repeat' (first | (with_reducible exact hmn) | apply And.intro | exact rfl | (intro hx; with_reducible exact absurd hz hx) | intro hx | (refine Exists.intro _ (And.intro rfl ?_)))
          all_goals try first | (with_reducible change am_tI _ _) | (change Ret _ _) | (change Ret _ _ _) | (change Exists _)
          all_goals try dsimp only at *
          all_goals try (with_reducible exact absurd ‹(1000 : Int64) = 0› am_z1000)
          refine h _ _ ?_ ?_
          · rw [am_wIc_t (by rw [e31, i_lt, h31]; simp only [Int32.reduceToInt]; omega), e31, Int32.add_sub_cancel]
            have e2b := e2.v
            obtain ⟨-, e2b⟩ := e2b
            refine ⟨(), fun a b z y => ⟨?_, ?_⟩⟩
            · rw [am_wI_1]
              by_cases q : a = 31 ∧ b = 2
              · rw [if_pos q, q.1, q.2]
              · rw [if_neg q, (e2b a b z).1]
                exact g_addAct_o hh (by omega) y
            · show M.2 a b = _
              rw [(e2b a b z).2, g_addAct_J hh]
          · refine e3.on (fun a b z => ?_)
            unfold am_wIc
            show (if _ then _ else _) = _
            rw [if_neg (fun q => by rw [q.2.1] at z; exact absurd z (by decide))]
        · have hz2 := hz
          rw [e21] at hz2
          simp only [i_le] at hz2
          have hp : am_in i 12 := ⟨e1, by omega⟩
          have hi := i_inc (x := i) (by omega) (by omega)
          repeat' (first | (with_reducible exact hmn) | (with_reducible exact hp) | (with_reducible exact w1) | (with_reducible exact e3) | apply And.intro | exact rfl | (intro hx; with_reducible exact absurd hx hz) | ((with_reducible change g_rI _); (with_reducible assumption)) | intro hx | (refine Exists.intro _ (And.intro rfl ?_)))
          all_goals try first | (with_reducible change am_tI _ _) | (change Ret _ _) | (change Ret _ _ _) | (change Exists _)
          all_goals try dsimp only at *
          all_goals try (with_reducible exact absurd ‹(1000 : Int64) = 0› am_z1000)
          exact ⟨_, am_lt_l (by omega), _, _, rfl, rfl, rfl, by omega, by (repeat' (first | (with_reducible exact g_sc.rf) | (with_reducible assumption) | ((with_reducible change g_sc _ (am_wI _ _ _ _)); refine g_sc.wI ?_ rfl) | ((with_reducible change g_sc _ (am_wJ _ _ _ _)); refine g_sc.wJ ?_ rfl) | ((with_reducible change g_sc _ (am_cI _ _ _)); refine g_sc.cI ?_ rfl) | ((with_reducible change g_sc _ (am_cJ _ _ _)); refine g_sc.cJ ?_ rfl) | (refine g_sc.tr ?_ (by with_reducible assumption)) | (refine g_sc.st ?_ (by with_reducible assumption)))), by (repeat' (first | (with_reducible assumption) | ((with_reducible change g_rI (am_wJ _ _ _ _)); refine g_rI.wJ ?_) | ((with_reducible change g_rI (am_cJ _ _ _)); refine g_rI.cJ ?_) | ((with_reducible change g_rI (am_wI _ 5 _ _)); refine g_rI.w5 ?_) | ((with_reducible change g_rI (am_wI _ _ _ _)); refine g_rI.wF ?_ rfl) | (refine g_rI.st ?_ (by with_reducible assumption)) | (refine g_rI.we ?_ (by with_reducible assumption))))⟩
      · cases hI
    · exact h.elim
