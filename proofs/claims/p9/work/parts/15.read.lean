/-! Text: reading, what is safe of it -/
theorem hy_X5_next : yX5_next.cls ≠ "java/lang/invoke/MethodHandle" ∧ yX5_next.cls ≠ "java/lang/invoke/VarHandle" ∧ (parseMethodDescriptor yX5_next.desc).map (fun d => d.parameters.length) = some 0 := ⟨by decide +kernel, by decide +kernel, by decide +kernel⟩
set_option maxRecDepth 100000 in
theorem wd_688 : Cond.methodLink "LearnLoans$Text" 38 yX5_next ∈ am_ws := am_wt3 (List.mem_of_getElem? (i := 151) (by rfl)) (by decide +kernel)
set_option maxRecDepth 100000 in
theorem wd_690 : Cond.instanceMethod yX5_next ∈ am_ws := am_wt3 (List.mem_of_getElem? (i := 153) (by rfl)) (by decide +kernel)
set_option maxRecDepth 100000 in
theorem wd_17 : Cond.selects "LearnLoans$Text" yX5_next yX5_next ∈ am_ws := am_wsi (List.mem_of_getElem? (i := 17) (by rfl)) (by decide +kernel)
set_option maxRecDepth 100000 in
theorem wd_65 : Cond.initialized "LearnLoans$Text" ∈ am_ws := am_wt1 (List.mem_of_getElem? (i := 8) (by rfl)) (by decide +kernel)
set_option maxRecDepth 100000 in
theorem wd_691 : Cond.code yX5_next cX5_next 1 (some .int) ∈ am_ws := am_wt3 (List.mem_of_getElem? (i := 154) (by rfl)) (by decide +kernel)
theorem hy_X5_blame : yX5_blame.cls ≠ "java/lang/invoke/MethodHandle" ∧ yX5_blame.cls ≠ "java/lang/invoke/VarHandle" ∧ (parseMethodDescriptor yX5_blame.desc).map (fun d => d.parameters.length) = some 2 := ⟨by decide +kernel, by decide +kernel, by decide +kernel⟩
set_option maxRecDepth 100000 in
theorem wd_676 : Cond.methodLink "LearnLoans$Text" 42 yX5_blame ∈ am_ws := am_wt3 (List.mem_of_getElem? (i := 139) (by rfl)) (by decide +kernel)
set_option maxRecDepth 100000 in
theorem wd_678 : Cond.instanceMethod yX5_blame ∈ am_ws := am_wt3 (List.mem_of_getElem? (i := 141) (by rfl)) (by decide +kernel)
set_option maxRecDepth 100000 in
theorem wd_14 : Cond.selects "LearnLoans$Text" yX5_blame yX5_blame ∈ am_ws := am_wsi (List.mem_of_getElem? (i := 14) (by rfl)) (by decide +kernel)
set_option maxRecDepth 100000 in
theorem wd_679 : Cond.code yX5_blame cX5_blame 3 none ∈ am_ws := am_wt3 (List.mem_of_getElem? (i := 142) (by rfl)) (by decide +kernel)
def rwX5_pass : List dz_r := [(0, .aload_n 0, 1), (1, .getfield 18, 3), (4, .iconst (-1), 1), (5, .if_icmp .ne 24, 3), (8, .aload_n 0, 1), (9, .invokevirtual 38, 3), (12, .iload_n 1, 1), (13, .if_icmp .ne 16, 3), (16, .aload_n 0, 1), (17, .dup, 1), (18, .getfield 28, 3), (21, .iconst 1, 1), (22, .iadd, 1), (23, .putfield 28, 3), (26, .goto 12, 3), (29, .aload_n 0, 1), (30, .aload_n 0, 1), (31, .getfield 28, 3), (34, .iconst 1, 1), (35, .invokevirtual 42, 3), (38, .return_, 1)]
theorem dzX5_pass : dz cX5_pass rwX5_pass := dz_all 0 (by decide +kernel)
def kX5_pass (live : am_E) (Ret : am_R) : am_code := [(0, am_aload 0 1), (1, am_getI live 5 6 4), (4, am_const (.int (-1)) 5), (5, am_if2 (fun x y => x = y) 8 29), (8, am_aload 0 9), (9, am_callV live 5 0 TX5_next 12), (12, am_iload 1 13), (13, am_if2 (fun x y => x = y) 16 29), (16, am_aload 0 17), (17, am_dup 18), (18, am_getI live 5 3 21), (21, am_const (.int 1) 22), (22, am_i2 (fun x y => x + y) 23), (23, am_putI live 5 3 26), (26, am_goto 38), (29, am_aload 0 30), (30, am_aload 0 31), (31, am_getI live 5 3 34), (34, am_const (.int 1) 35), (35, am_callV live 5 2 TX5_blame 38), (38, am_retV Ret)]
theorem koX5_pass (live : am_E) (Ret : am_R) : ∀ q ∈ kX5_pass live Ret, am_ok RX5 cX5_pass 2 none 1 22 live Ret q.1 q.2 :=
  am_kz dzX5_pass <|
  am_kd (fun d => ak_aload_n d rfl rfl) <|
  am_kd (fun d => ak_getI (C := RX5) (T := TX5) (N := 7) rfl inX5w (by decide) rfl rfl rfl wd_175 d rfl) <|
  am_kd (fun d => ak_iconst d (by decide +kernel) rfl) <|
  am_kd (fun d => ak_icmp_ne d (by decide +kernel) rfl) <|
  am_kd (fun d => ak_aload_n d rfl rfl) <|
  am_kd (fun d => ak_callV (C := RX5) (F := TX5) (N := 7) metX5_next rfl ⟨rfl, hy_X5_next⟩ (am_w5 wd_688 wd_690 wd_17 wd_65 wd_691) (by decide) d rfl) <|
  am_kd (fun d => ak_iload_n d rfl rfl) <|
  am_kd (fun d => ak_icmp_ne d (by decide +kernel) rfl) <|
  am_kd (fun d => ak_aload_n d rfl rfl) <|
  am_kd (fun d => ak_dup d rfl) <|
  am_kd (fun d => ak_getI (C := RX5) (T := TX5) (N := 7) rfl inX5w (by decide) rfl rfl rfl wd_171 d rfl) <|
  am_kd (fun d => ak_iconst d (by decide +kernel) rfl) <|
  am_kd (fun d => ak_iadd d rfl) <|
  am_kd (fun d => ak_putI (C := RX5) (T := TX5) (N := 7) rfl inX5w tyX5_ok nmX5 (by decide) rfl rfl rfl rfl (by decide +kernel) wd_171 d rfl) <|
  am_kd (fun d => ak_goto d (by decide +kernel)) <|
  am_kd (fun d => ak_aload_n d rfl rfl) <|
  am_kd (fun d => ak_aload_n d rfl rfl) <|
  am_kd (fun d => ak_getI (C := RX5) (T := TX5) (N := 7) rfl inX5w (by decide) rfl rfl rfl wd_171 d rfl) <|
  am_kd (fun d => ak_iconst d (by decide +kernel) rfl) <|
  am_kd (fun d => ak_callV (C := RX5) (F := TX5) (N := 7) metX5_blame rfl ⟨rfl, hy_X5_blame⟩ (am_w5 wd_676 wd_678 wd_14 wd_65 wd_679) (by decide) d rfl) <|
  am_kd (fun d => ak_retV d) <| am_kdn
def TX5_pass : am_T := fun live as M R => match as with
  | [.ref t, .int g] => am_tP live t (fun s c => am_tI M t ∧ ¬ g = -1 ∧ ∀ M', am_ch (am_tS t c) M M' → am_tI M' t → R none M')
  | _ => False
set_option maxRecDepth 100000 in
set_option maxHeartbeats 4000000 in
theorem metX5_pass : am_Met yX5_pass cX5_pass 2 none (1) (22) TX5_pass := by
  refine am_met (own := RX5) (by decide +kernel) rfl kX5_pass koX5_pass 60 (fun _ _ _ _ _ => none) (fun live as M Ret h => ?_) (fun _ _ _ _ _ _ _ _ hI => by cases hI)
  unfold TX5_pass at h
  split at h
  · next t g =>
    refine ⟨Nat.le_of_ble_eq_true rfl, ?_⟩
    change am_wp _ _ _ _ [(0, Value.ref t), (1, Value.int g)] _ _
    have hh := am_tP_mp h
    clear h
    obtain ⟨s, c, h2, h6, hb, h1, h3, h7, h4, h8, h9, h5, h10, hT, hg, h⟩ := hh
    repeat' (first | (with_reducible exact hT) | (with_reducible exact hg) | (with_reducible exact h1) | (with_reducible exact h2) | (with_reducible exact h3) | (with_reducible exact hb) | (with_reducible exact h6) | (with_reducible exact h7) | (refine Exists.intro _ (Exists.intro _ (And.intro h2 (And.intro h6 ?_)))) | (refine Exists.intro _ (And.intro h2 ?_)) | (refine Exists.intro _ (And.intro h6 ?_)) | apply And.intro | exact rfl | intro hx | (refine Exists.intro _ (And.intro rfl ?_)) | ((with_reducible change _ = true); simp only [h1, h2, h3, hb, h6, h7, Bool.true_and]; rfl))
    all_goals try first | (with_reducible change am_tI _ _) | (change Ret _ _) | (change Ret _ _ _) | (change Exists _)
    all_goals try dsimp only at *
    all_goals try (with_reducible exact absurd ‹(1000 : Int64) = 0› am_z1000)
    all_goals obtain ⟨-, q1, q2, q3⟩ := hT
    · rename_i w p hp
      obtain ⟨p1, p2, p3, p4⟩ := hp
      have hlt : p.toInt < (M.1 t 5).toInt := by
        rcases Int.lt_or_le p.toInt (M.1 t 5).toInt with z | z
        · exact z
        · rw [am_sign, if_neg (by omega)] at hx
          exact absurd hx.symm hg
      have hi := i_add (x := p) (y := 1) (by simp only [Int32.reduceToInt]; omega) (by simp only [Int32.reduceToInt]; omega)
      simp only [Int32.reduceToInt] at hi
      simp only [am_wI_1, and_self, if_true, am_wI_wI]
      refine h _ (am_ch.rf.wI am_tS_3) (am_tI_of ?_ ?_ ?_ ?_ ?_)
      all_goals simp [am_wI_1, -Int32.toInt_add]
      all_goals omega
    · rename_i w p hp
      obtain ⟨p1, p2, p3, p4⟩ := hp
      refine h _ ((am_ch.rf.wI am_tS_3).wIc am_tS_6) (am_tI_of ?_ ?_ ?_ ?_ ?_)
      all_goals simp [am_blame, am_wIc_1, am_wI_1]
      all_goals omega
    · refine h _ (am_ch.rf.wIc am_tS_6) (am_tI_of ?_ ?_ ?_ ?_ ?_)
      all_goals simp [am_blame, am_wIc_1, am_wI_1]
      all_goals omega
  · exact h.elim
def rwX5_passSigns : List dz_r := [(0, .aload_n 0, 1), (1, .invokevirtual 38, 3), (4, .istore_n 1, 1), (5, .aload_n 0, 1), (6, .getfield 28, 3), (9, .aload_n 0, 1), (10, .getfield 22, 3), (13, .if_icmp .ge 33, 3), (16, .iload_n 1, 1), (17, .bipush 33, 2), (19, .if_icmp .eq 9, 3), (22, .iload_n 1, 1), (23, .bipush 45, 2), (25, .if_icmp .ne 21, 3), (28, .aload_n 0, 1), (29, .dup, 1), (30, .getfield 28, 3), (33, .iconst 1, 1), (34, .iadd, 1), (35, .putfield 28, 3), (38, .aload_n 0, 1), (39, .invokevirtual 38, 3), (42, .istore_n 1, 1), (43, .goto (-38), 3), (46, .aload_n 0, 1), (47, .getfield 28, 3), (50, .ireturn, 1)]
theorem dzX5_passSigns : dz cX5_passSigns rwX5_passSigns := dz_all 0 (by decide +kernel)
def kX5_passSigns (live : am_E) (Ret : am_R) : am_code := [(0, am_aload 0 1), (1, am_callV live 5 0 TX5_next 4), (4, am_istore 1 2 5), (5, am_aload 0 6), (6, am_getI live 5 3 9), (9, am_aload 0 10), (10, am_getI live 5 5 13), (13, am_if2 (fun x y => y ≤ x) 46 16), (16, am_iload 1 17), (17, am_const (.int 33) 19), (19, am_if2 (fun x y => x = y) 28 22), (22, am_iload 1 23), (23, am_const (.int 45) 25), (25, am_if2 (fun x y => x = y) 28 46), (28, am_aload 0 29), (29, am_dup 30), (30, am_getI live 5 3 33), (33, am_const (.int 1) 34), (34, am_i2 (fun x y => x + y) 35), (35, am_putI live 5 3 38), (38, am_aload 0 39), (39, am_callV live 5 0 TX5_next 42), (42, am_istore 1 2 43), (43, am_goto 5), (46, am_aload 0 47), (47, am_getI live 5 3 50), (50, am_retI Ret)]
theorem koX5_passSigns (live : am_E) (Ret : am_R) : ∀ q ∈ kX5_passSigns live Ret, am_ok RX5 cX5_passSigns 2 (some .int) 1 20 live Ret q.1 q.2 :=
  am_kz dzX5_passSigns <|
  am_kd (fun d => ak_aload_n d rfl rfl) <|
  am_kd (fun d => ak_callV (C := RX5) (F := TX5) (N := 7) metX5_next rfl ⟨rfl, hy_X5_next⟩ (am_w5 wd_688 wd_690 wd_17 wd_65 wd_691) (by decide) d rfl) <|
  am_kd (fun d => ak_istore_n d rfl rfl) <|
  am_kd (fun d => ak_aload_n d rfl rfl) <|
  am_kd (fun d => ak_getI (C := RX5) (T := TX5) (N := 7) rfl inX5w (by decide) rfl rfl rfl wd_171 d rfl) <|
  am_kd (fun d => ak_aload_n d rfl rfl) <|
  am_kd (fun d => ak_getI (C := RX5) (T := TX5) (N := 7) rfl inX5w (by decide) rfl rfl rfl wd_173 d rfl) <|
  am_kd (fun d => ak_icmp_ge d (by decide +kernel) rfl) <|
  am_kd (fun d => ak_iload_n d rfl rfl) <|
  am_kd (fun d => ak_bipush d (by decide +kernel) rfl) <|
  am_kd (fun d => ak_icmp_eq d (by decide +kernel) rfl) <|
  am_kd (fun d => ak_iload_n d rfl rfl) <|
  am_kd (fun d => ak_bipush d (by decide +kernel) rfl) <|
  am_kd (fun d => ak_icmp_ne d (by decide +kernel) rfl) <|
  am_kd (fun d => ak_aload_n d rfl rfl) <|
  am_kd (fun d => ak_dup d rfl) <|
  am_kd (fun d => ak_getI (C := RX5) (T := TX5) (N := 7) rfl inX5w (by decide) rfl rfl rfl wd_171 d rfl) <|
  am_kd (fun d => ak_iconst d (by decide +kernel) rfl) <|
  am_kd (fun d => ak_iadd d rfl) <|
  am_kd (fun d => ak_putI (C := RX5) (T := TX5) (N := 7) rfl inX5w tyX5_ok nmX5 (by decide) rfl rfl rfl rfl (by decide +kernel) wd_171 d rfl) <|
  am_kd (fun d => ak_aload_n d rfl rfl) <|
  am_kd (fun d => ak_callV (C := RX5) (F := TX5) (N := 7) metX5_next rfl ⟨rfl, hy_X5_next⟩ (am_w5 wd_688 wd_690 wd_17 wd_65 wd_691) (by decide) d rfl) <|
  am_kd (fun d => ak_istore_n d rfl rfl) <|
  am_kd (fun d => ak_goto d (by decide +kernel)) <|
  am_kd (fun d => ak_aload_n d rfl rfl) <|
  am_kd (fun d => ak_getI (C := RX5) (T := TX5) (N := 7) rfl inX5w (by decide) rfl rfl rfl wd_171 d rfl) <|
  am_kd (fun d => ak_retI d) <| am_kdn
def TX5_passSigns : am_T := fun live as M R => match as with
  | [.ref t] => am_tP live t (fun s c => am_tI M t ∧ ∀ M', am_ch (am_tS t c) M M' → am_tI M' t → R (some (.int (M'.1 t 3))) M')
  | _ => False
def JX5_passSigns : am_E → List Value → am_M → am_R → am_inv := fun live as M0 _ pc => match as with
  | [.ref t] => (match pc with
    | 5 => some ([0, 1], fun k L st M => ∃ x : Int32, L = [(0, .ref t), (1, .int x)] ∧ st = [] ∧ k = ((51 - (M.1 t 3).toInt).toNat, 0) ∧ am_ch (am_tS t ((live.2 t 1).getD 0)) M0 M ∧ am_tI M t)
    | _ => none)
  | _ => none
theorem am_tI_w3 {M : am_M} {t s : Nat} {p : Int32} (h : am_tI M t) (hp : am_skip M t s p) : am_tI (am_wI M t 3 p) t := by
  obtain ⟨-, q1, q2, q3⟩ := h
  obtain ⟨p1, p2, -, -⟩ := hp
  refine am_tI_of ?_ ?_ ?_ ?_ ?_
  all_goals simp [am_wI_1]
  all_goals omega
theorem am_tI_inc {M : am_M} {t : Nat} (h : am_tI M t) (hp : (M.1 t 3).toInt < (M.1 t 5).toInt) : am_tI (am_wI M t 3 (M.1 t 3 + 1)) t ∧ (M.1 t 3 + 1).toInt = (M.1 t 3).toInt + 1 := by
  obtain ⟨-, q1, q2, q3⟩ := h
  have hi := i_add (x := M.1 t 3) (y := 1) (by simp only [Int32.reduceToInt]; omega) (by simp only [Int32.reduceToInt]; omega)
  simp only [Int32.reduceToInt] at hi
  refine ⟨am_tI_of ?_ ?_ ?_ ?_ ?_, hi⟩
  all_goals simp [am_wI_1, -Int32.toInt_add]
  all_goals omega
theorem am_tI_blame {M : am_M} {t : Nat} {a k : Int32} (h : am_tI M t) : am_tI (am_blame M t a k) t := by
  obtain ⟨-, q1, q2, q3⟩ := h
  refine am_tI_of ?_ ?_ ?_ ?_ ?_
  all_goals simp [am_blame, am_wIc_1]
  all_goals omega
theorem am_ch_blame {M M' : am_M} {t c : Nat} {a k : Int32} (h : am_ch (am_tS t c) M M') : am_ch (am_tS t c) M (am_blame M' t a k) := h.wIc am_tS_6
theorem am_tI_emit {M : am_M} {t c : Nat} {v : Int32} (h : am_tI M t) (hn : t ≠ c) : am_tI (am_emit M t c v) t := by
  obtain ⟨-, q1, q2, q3⟩ := h
  unfold am_emit
  split
  · have hi := i_add (x := M.1 t 2) (y := 1) (by simp only [Int32.reduceToInt]; omega) (by simp only [Int32.reduceToInt]; omega)
    simp only [Int32.reduceToInt] at hi
    refine am_tI_of ?_ ?_ ?_ ?_ ?_
    all_goals simp [am_wI_1, hn, -Int32.toInt_add]
    all_goals omega
  · exact ⟨(), q1, q2, q3⟩
theorem am_ch_emit {M M' : am_M} {t c : Nat} {v : Int32} (h : am_ch (am_tS t c) M M') : am_ch (am_tS t c) M (am_emit M' t c v) := by
  unfold am_emit
  split
  · exact (h.wI am_tS_c).wI am_tS_2
  · exact h
set_option maxRecDepth 100000 in
set_option maxHeartbeats 4000000 in
theorem metX5_passSigns : am_Met yX5_passSigns cX5_passSigns 2 (some .int) (1) (20) TX5_passSigns := by
  refine am_met (own := RX5) (by decide +kernel) rfl kX5_passSigns koX5_passSigns 60 JX5_passSigns ?_ ?_
  · intro live as M Ret h
    unfold TX5_passSigns at h
    split at h
    · next t =>
      refine ⟨Nat.le_of_ble_eq_true rfl, ?_⟩
      change am_wp _ _ _ _ [(0, Value.ref t)] _ _
      have hh := am_tP_mp h
      clear h
      obtain ⟨s, c, h2, h6, hb, h1, h3, h7, h4, h8, h9, h5, h10, hT, h⟩ := hh
      repeat' (first | (with_reducible exact hT) | (with_reducible exact h1) | (with_reducible exact h2) | (with_reducible exact h3) | (with_reducible exact hb) | (with_reducible exact h6) | (with_reducible exact h7) | (refine Exists.intro _ (Exists.intro _ (And.intro h2 (And.intro h6 ?_)))) | (refine Exists.intro _ (And.intro h2 ?_)) | (refine Exists.intro _ (And.intro h6 ?_)) | apply And.intro | exact rfl | intro hx | (refine Exists.intro _ (And.intro rfl ?_)) | ((with_reducible change _ = true); simp only [h1, h2, h3, hb, h6, h7, Bool.true_and]; rfl))
      all_goals try first | (with_reducible change am_tI _ _) | (change Ret _ _) | (change Ret _ _ _) | (change Exists _)
      all_goals try dsimp only at *
      all_goals try (with_reducible exact absurd ‹(1000 : Int64) = 0› am_z1000)
      rename_i p hp
      exact ⟨_, _, rfl, rfl, rfl, am_ch.rf.wI am_tS_3, am_tI_w3 hT hx⟩
    · exact h.elim
  · intro live as M0 Ret h k pc I hI L st M hi
    unfold TX5_passSigns at h
    split at h
    · next t =>
      have hh := am_tP_mp h
      clear h
      obtain ⟨s, c, h2, h6, hb, h1, h3, h7, h4, h8, h9, h5, h10, hT, h⟩ := hh
      change (match pc with | 5 => _ | _ => none) = _ at hI
      split at hI
      · cases hI
        obtain ⟨x, rfl, rfl, rfl, e1, e2⟩ := hi
        have f1 := e1
        rw [h6] at f1
        repeat' (first | (with_reducible exact e2) | (with_reducible exact h1) | (with_reducible exact h2) | (with_reducible exact h3) | (with_reducible exact hb) | (with_reducible exact h6) | (with_reducible exact h7) | (refine Exists.intro _ (Exists.intro _ (And.intro h2 (And.intro h6 ?_)))) | (refine Exists.intro _ (And.intro h2 ?_)) | (refine Exists.intro _ (And.intro h6 ?_)) | apply And.intro | exact rfl | intro hx | (refine Exists.intro _ (And.intro rfl ?_)) | ((with_reducible change _ = true); simp only [h1, h2, h3, hb, h6, h7, Bool.true_and]; rfl))
        all_goals try first | (with_reducible change am_tI _ _) | (change Ret _ _) | (change Ret _ _ _) | (change Exists _)
        all_goals try dsimp only at *
        all_goals try (with_reducible exact absurd ‹(1000 : Int64) = 0› am_z1000)
        all_goals first
          | (with_reducible exact h _ f1 e2)
          | exact (am_tI_inc e2 (by simp only [i_le] at *; omega)).1
          | exact h _ f1 e2
          | skip
        all_goals
          have hlt : (M.1 t 3).toInt < (M.1 t 5).toInt := by simp only [i_le] at *; omega
          have hi := am_tI_inc e2 hlt
          have hs := hx.1
          have hs2 := hx.2.1
          have q3 : (M.1 t 5).toInt ≤ 50 := by obtain ⟨-, q1, q2, q3⟩ := e2; exact q3
          refine ⟨_, Or.inl ?_, _, rfl, rfl, rfl, (e1.wI am_tS_3).wI am_tS_3, am_tI_w3 hi.1 hx⟩
          simp [am_wI_1, -Int32.toInt_add] at hs hs2 ⊢
          omega
      · cases hI
    · exact h.elim
theorem hy_X5_emit : yX5_emit.cls ≠ "java/lang/invoke/MethodHandle" ∧ yX5_emit.cls ≠ "java/lang/invoke/VarHandle" ∧ (parseMethodDescriptor yX5_emit.desc).map (fun d => d.parameters.length) = some 1 := ⟨by decide +kernel, by decide +kernel, by decide +kernel⟩
set_option maxRecDepth 100000 in
theorem wd_703 : Cond.methodLink "LearnLoans$Text" 60 yX5_emit ∈ am_ws := am_wt3 (List.mem_of_getElem? (i := 166) (by rfl)) (by decide +kernel)
set_option maxRecDepth 100000 in
theorem wd_705 : Cond.instanceMethod yX5_emit ∈ am_ws := am_wt3 (List.mem_of_getElem? (i := 168) (by rfl)) (by decide +kernel)
set_option maxRecDepth 100000 in
theorem wd_20 : Cond.selects "LearnLoans$Text" yX5_emit yX5_emit ∈ am_ws := am_wsi (List.mem_of_getElem? (i := 20) (by rfl)) (by decide +kernel)
set_option maxRecDepth 100000 in
theorem wd_706 : Cond.code yX5_emit cX5_emit 2 none ∈ am_ws := am_wt3 (List.mem_of_getElem? (i := 169) (by rfl)) (by decide +kernel)
def rwX5_emitSigns : List dz_r := [(0, .iload_n 2, 1), (1, .iconst 1, 1), (2, .isub, 1), (3, .istore_n 3, 1), (4, .iload_n 3, 1), (5, .iload_n 1, 1), (6, .if_icmp .lt 52, 3), (9, .iload_n 3, 1), (10, .bipush 50, 2), (12, .if_icmp .ge 46, 3), (15, .aload_n 0, 1), (16, .getfield 9, 3), (19, .iload_n 3, 1), (20, .iaload, 1), (21, .bipush 33, 2), (23, .if_icmp .ne 12, 3), (26, .aload_n 0, 1), (27, .bipush (-33), 2), (29, .invokevirtual 60, 3), (32, .goto 20, 3), (35, .aload_n 0, 1), (36, .getfield 9, 3), (39, .iload_n 3, 1), (40, .iaload, 1), (41, .bipush 45, 2), (43, .if_icmp .ne 9, 3), (46, .aload_n 0, 1), (47, .bipush (-126), 2), (49, .invokevirtual 60, 3), (52, .iinc 3 (-1), 3), (55, .goto (-51), 3), (58, .return_, 1)]
theorem dzX5_emitSigns : dz cX5_emitSigns rwX5_emitSigns := dz_all 0 (by decide +kernel)
def kX5_emitSigns (live : am_E) (Ret : am_R) : am_code := [(0, am_iload 2 1), (1, am_const (.int 1) 2), (2, am_i2 (fun x y => x - y) 3), (3, am_istore 3 4 4), (4, am_iload 3 5), (5, am_iload 1 6), (6, am_if2 (fun x y => x < y) 58 9), (9, am_iload 3 10), (10, am_const (.int 50) 12), (12, am_if2 (fun x y => y ≤ x) 58 15), (15, am_aload 0 16), (16, am_getR live 5 0 19), (19, am_iload 3 20), (20, am_ald live 0 21), (21, am_const (.int 33) 23), (23, am_if2 (fun x y => x = y) 26 35), (26, am_aload 0 27), (27, am_const (.int (-33)) 29), (29, am_callV live 5 1 TX5_emit 32), (32, am_goto 52), (35, am_aload 0 36), (36, am_getR live 5 0 39), (39, am_iload 3 40), (40, am_ald live 0 41), (41, am_const (.int 45) 43), (43, am_if2 (fun x y => x = y) 46 52), (46, am_aload 0 47), (47, am_const (.int (-126)) 49), (49, am_callV live 5 1 TX5_emit 52), (52, am_iinc 3 4 (-1) 55), (55, am_goto 4), (58, am_retV Ret)]
theorem koX5_emitSigns (live : am_E) (Ret : am_R) : ∀ q ∈ kX5_emitSigns live Ret, am_ok RX5 cX5_emitSigns 4 none 1 21 live Ret q.1 q.2 :=
  am_kz dzX5_emitSigns <|
  am_kd (fun d => ak_iload_n d rfl rfl) <|
  am_kd (fun d => ak_iconst d (by decide +kernel) rfl) <|
  am_kd (fun d => ak_isub d rfl) <|
  am_kd (fun d => ak_istore_n d rfl rfl) <|
  am_kd (fun d => ak_iload_n d rfl rfl) <|
  am_kd (fun d => ak_iload_n d rfl rfl) <|
  am_kd (fun d => ak_icmp_lt d (by decide +kernel) rfl) <|
  am_kd (fun d => ak_iload_n d rfl rfl) <|
  am_kd (fun d => ak_bipush d (by decide +kernel) rfl) <|
  am_kd (fun d => ak_icmp_ge d (by decide +kernel) rfl) <|
  am_kd (fun d => ak_aload_n d rfl rfl) <|
  am_kd (fun d => ak_getR (C := RX5) (T := TX5) (N := 7) rfl inX5w (by decide) rfl rfl rfl wd_168 d rfl) <|
  am_kd (fun d => ak_iload_n d rfl rfl) <|
  am_kd (fun d => ak_iald (t := 0) (fun _ => rfl) rfl d rfl) <|
  am_kd (fun d => ak_bipush d (by decide +kernel) rfl) <|
  am_kd (fun d => ak_icmp_ne d (by decide +kernel) rfl) <|
  am_kd (fun d => ak_aload_n d rfl rfl) <|
  am_kd (fun d => ak_bipush d (by decide +kernel) rfl) <|
  am_kd (fun d => ak_callV (C := RX5) (F := TX5) (N := 7) metX5_emit rfl ⟨rfl, hy_X5_emit⟩ (am_w5 wd_703 wd_705 wd_20 wd_65 wd_706) (by decide) d rfl) <|
  am_kd (fun d => ak_goto d (by decide +kernel)) <|
  am_kd (fun d => ak_aload_n d rfl rfl) <|
  am_kd (fun d => ak_getR (C := RX5) (T := TX5) (N := 7) rfl inX5w (by decide) rfl rfl rfl wd_168 d rfl) <|
  am_kd (fun d => ak_iload_n d rfl rfl) <|
  am_kd (fun d => ak_iald (t := 0) (fun _ => rfl) rfl d rfl) <|
  am_kd (fun d => ak_bipush d (by decide +kernel) rfl) <|
  am_kd (fun d => ak_icmp_ne d (by decide +kernel) rfl) <|
  am_kd (fun d => ak_aload_n d rfl rfl) <|
  am_kd (fun d => ak_bipush d (by decide +kernel) rfl) <|
  am_kd (fun d => ak_callV (C := RX5) (F := TX5) (N := 7) metX5_emit rfl ⟨rfl, hy_X5_emit⟩ (am_w5 wd_703 wd_705 wd_20 wd_65 wd_706) (by decide) d rfl) <|
  am_kd (fun d => ak_iinc d (by decide +kernel) rfl) <|
  am_kd (fun d => ak_goto d (by decide +kernel)) <|
  am_kd (fun d => ak_retV d) <| am_kdn
def TX5_emitSigns : am_T := fun live as M R => match as with
  | [.ref t, .int a, .int b] => am_tP live t (fun s c => am_tI M t ∧ 0 ≤ a.toInt ∧ 0 ≤ b.toInt ∧ ∀ M', am_ch (am_tS t c) M M' → am_tI M' t → M'.1 t 3 = M.1 t 3 → R none M')
  | _ => False
def JX5_emitSigns : am_E → List Value → am_M → am_R → am_inv := fun live as M0 _ pc => match as with
  | [.ref t, .int a, .int b] => (match pc with
    | 4 => some ([0, 1, 3], fun k L st M => ∃ i : Int32, L = [(0, .ref t), (1, .int a), (3, .int i)] ∧ st = [] ∧ k = ((i.toInt + 1).toNat, 0) ∧ -1 ≤ i.toInt ∧ am_ch (am_tS t ((live.2 t 1).getD 0)) M0 M ∧ am_tI M t ∧ M.1 t 3 = M0.1 t 3)
    | _ => none)
  | _ => none
theorem am_emit_3 {M : am_M} {t c : Nat} {v : Int32} (hn : t ≠ c) : (am_emit M t c v).1 t 3 = M.1 t 3 := by
  unfold am_emit
  split
  · simp [am_wI_1, hn]
  · rfl
set_option maxRecDepth 100000 in
set_option maxHeartbeats 4000000 in
theorem metX5_emitSigns : am_Met yX5_emitSigns cX5_emitSigns 4 none (1) (21) TX5_emitSigns := by
  refine am_met (own := RX5) (by decide +kernel) rfl kX5_emitSigns koX5_emitSigns 60 JX5_emitSigns ?_ ?_
  · intro live as M Ret h
    unfold TX5_emitSigns at h
    split at h
    · next t a b =>
      refine ⟨Nat.le_of_ble_eq_true rfl, ?_⟩
      change am_wp _ _ _ _ [(0, Value.ref t), (1, Value.int a), (2, Value.int b)] _ _
      have hh := am_tP_mp h
      clear h
      obtain ⟨s, c, h2, h6, hb, h1, h3, h7, h4, h8, h9, h5, h10, hT, ha, hbb, h⟩ := hh
      repeat' (first | (with_reducible exact hT) | (with_reducible exact h1) | (with_reducible exact h2) | (with_reducible exact h3) | (with_reducible exact hb) | (with_reducible exact h6) | (with_reducible exact h7) | (refine Exists.intro _ (Exists.intro _ (And.intro h2 (And.intro h6 ?_)))) | (refine Exists.intro _ (And.intro h2 ?_)) | (refine Exists.intro _ (And.intro h6 ?_)) | apply And.intro | exact rfl | intro hx | (refine Exists.intro _ (And.intro rfl ?_)) | ((with_reducible change _ = true); simp only [h1, h2, h3, hb, h6, h7, Bool.true_and]; rfl))
      all_goals try first | (with_reducible change am_tI _ _) | (change Ret _ _) | (change Ret _ _ _) | (change Exists _)
      all_goals try dsimp only at *
      all_goals try (with_reducible exact absurd ‹(1000 : Int64) = 0› am_z1000)
      have hi := i_sub (x := b) (y := 1) (by simp only [Int32.reduceToInt]; have := i_hi b; omega) (by simp only [Int32.reduceToInt]; have := i_hi b; omega)
      simp only [Int32.reduceToInt] at hi
      exact ⟨_, _, rfl, rfl, rfl, by omega, am_ch.rf, hT, rfl⟩
    · exact h.elim
  · intro live as M0 Ret h k pc I hI L st M hi
    unfold TX5_emitSigns at h
    split at h
    · next t a b =>
      have hh := am_tP_mp h
      clear h
      obtain ⟨s, c, h2, h6, hb, h1, h3, h7, h4, h8, h9, h5, h10, hT, ha, hbb, h⟩ := hh
      change (match pc with | 4 => _ | _ => none) = _ at hI
      split at hI
      · cases hI
        obtain ⟨i, rfl, rfl, rfl, e0, e1, e2, e3⟩ := hi
        have f1 := e1
        rw [h6] at f1
        have hcd : 0 ≤ (M.1 t 2).toInt := by obtain ⟨-, q1, q2, q3⟩ := e2; exact q1.1
        repeat' (first | (with_reducible exact e2) | (with_reducible exact hcd) | (with_reducible exact h1) | (with_reducible exact h2) | (with_reducible exact h3) | (with_reducible exact hb) | (with_reducible exact h6) | (with_reducible exact h7) | (refine Exists.intro _ (Exists.intro _ (And.intro h2 (And.intro h6 ?_)))) | (refine Exists.intro _ (And.intro h2 ?_)) | (refine Exists.intro _ (And.intro h6 ?_)) | apply And.intro | exact rfl | intro hx | (refine Exists.intro _ (And.intro rfl ?_)) | ((with_reducible change _ = true); simp only [h1, h2, h3, hb, h6, h7, Bool.true_and]; rfl))
        all_goals try first | (with_reducible change am_tI _ _) | (change Ret _ _) | (change Ret _ _ _) | (change Exists _)
        all_goals try dsimp only at *
        all_goals try (with_reducible exact absurd ‹(1000 : Int64) = 0› am_z1000)
        all_goals first
          | (with_reducible exact h _ f1 e2 e3)
          | (simp only [i_lt, i_le, h4, Int32.reduceToInt] at *; omega)
          | exact h _ f1 e2 e3
          | (rw [h6]; refine ⟨_, Or.inl ?_, i + -1, rfl, rfl, rfl, ?_, am_ch_emit f1, am_tI_emit e2 h10, (am_emit_3 h10).trans e3⟩)
          | (refine ⟨_, Or.inl ?_, i + -1, rfl, rfl, rfl, ?_, e1, e2, e3⟩)
        all_goals
          simp only [i_lt, i_le, h4, Int32.reduceToInt] at *
          have hi := i_add (x := i) (y := -1) (by simp only [Int32.reduceToInt]; omega) (by simp only [Int32.reduceToInt]; omega)
          simp only [Int32.reduceToInt] at hi
          omega
      · cases hI
    · exact h.elim
theorem hy_X5_isDigit : yX5_isDigit.cls ≠ "java/lang/invoke/MethodHandle" ∧ yX5_isDigit.cls ≠ "java/lang/invoke/VarHandle" ∧ (parseMethodDescriptor yX5_isDigit.desc).map (fun d => d.parameters.length) = some 1 := ⟨by decide +kernel, by decide +kernel, by decide +kernel⟩
set_option maxRecDepth 100000 in
theorem wd_696 : Cond.methodLink "LearnLoans$Text" 76 yX5_isDigit ∈ am_ws := am_wt3 (List.mem_of_getElem? (i := 159) (by rfl)) (by decide +kernel)
set_option maxRecDepth 100000 in
theorem wd_697 : Cond.static yX5_isDigit ∈ am_ws := am_wt3 (List.mem_of_getElem? (i := 160) (by rfl)) (by decide +kernel)
set_option maxRecDepth 100000 in
theorem wd_698 : Cond.code yX5_isDigit cX5_isDigit 1 (some .boolean) ∈ am_ws := am_wt3 (List.mem_of_getElem? (i := 161) (by rfl)) (by decide +kernel)
def rwX5_readDigits : List dz_r := [(0, .aload_n 0, 1), (1, .getfield 28, 3), (4, .istore_n 1, 1), (5, .iconst 0, 1), (6, .istore_n 2, 1), (7, .aload_n 0, 1), (8, .getfield 28, 3), (11, .aload_n 0, 1), (12, .getfield 22, 3), (15, .if_icmp .ge 67, 3), (18, .aload_n 0, 1), (19, .getfield 9, 3), (22, .aload_n 0, 1), (23, .getfield 28, 3), (26, .iaload, 1), (27, .invokestatic 76, 3), (30, .ifCond .eq 52, 3), (33, .aload_n 0, 1), (34, .getfield 28, 3), (37, .iload_n 1, 1), (38, .isub, 1), (39, .bipush 6, 2), (41, .if_icmp .lt 10, 3), (44, .aload_n 0, 1), (45, .iload_n 1, 1), (46, .iconst 2, 1), (47, .invokevirtual 42, 3), (50, .return_, 1), (51, .bipush 10, 2), (53, .iload_n 2, 1), (54, .imul, 1), (55, .aload_n 0, 1), (56, .getfield 9, 3), (59, .aload_n 0, 1), (60, .getfield 28, 3), (63, .iaload, 1), (64, .iadd, 1), (65, .bipush 48, 2), (67, .isub, 1), (68, .istore_n 2, 1), (69, .aload_n 0, 1), (70, .dup, 1), (71, .getfield 28, 3), (74, .iconst 1, 1), (75, .iadd, 1), (76, .putfield 28, 3), (79, .goto (-72), 3), (82, .aload_n 0, 1), (83, .iload_n 2, 1), (84, .invokevirtual 60, 3), (87, .return_, 1)]
theorem dzX5_readDigits : dz cX5_readDigits rwX5_readDigits := dz_all 0 (by decide +kernel)
def kX5_readDigits (live : am_E) (Ret : am_R) : am_code := [(0, am_aload 0 1), (1, am_getI live 5 3 4), (4, am_istore 1 3 5), (5, am_const (.int 0) 6), (6, am_istore 2 3 7), (7, am_aload 0 8), (8, am_getI live 5 3 11), (11, am_aload 0 12), (12, am_getI live 5 5 15), (15, am_if2 (fun x y => y ≤ x) 82 18), (18, am_aload 0 19), (19, am_getR live 5 0 22), (22, am_aload 0 23), (23, am_getI live 5 3 26), (26, am_ald live 0 27), (27, am_callS live 1 TX5_isDigit 30), (30, am_if1 (fun x => x = 0) 82 33), (33, am_aload 0 34), (34, am_getI live 5 3 37), (37, am_iload 1 38), (38, am_i2 (fun x y => x - y) 39), (39, am_const (.int 6) 41), (41, am_if2 (fun x y => x < y) 51 44), (44, am_aload 0 45), (45, am_iload 1 46), (46, am_const (.int 2) 47), (47, am_callV live 5 2 TX5_blame 50), (50, am_retV Ret), (51, am_const (.int 10) 53), (53, am_iload 2 54), (54, am_i2 (fun x y => x * y) 55), (55, am_aload 0 56), (56, am_getR live 5 0 59), (59, am_aload 0 60), (60, am_getI live 5 3 63), (63, am_ald live 0 64), (64, am_i2 (fun x y => x + y) 65), (65, am_const (.int 48) 67), (67, am_i2 (fun x y => x - y) 68), (68, am_istore 2 3 69), (69, am_aload 0 70), (70, am_dup 71), (71, am_getI live 5 3 74), (74, am_const (.int 1) 75), (75, am_i2 (fun x y => x + y) 76), (76, am_putI live 5 3 79), (79, am_goto 7), (82, am_aload 0 83), (83, am_iload 2 84), (84, am_callV live 5 1 TX5_emit 87), (87, am_retV Ret)]
theorem koX5_readDigits (live : am_E) (Ret : am_R) : ∀ q ∈ kX5_readDigits live Ret, am_ok RX5 cX5_readDigits 3 none 1 22 live Ret q.1 q.2 :=
  am_kz dzX5_readDigits <|
  am_kd (fun d => ak_aload_n d rfl rfl) <|
  am_kd (fun d => ak_getI (C := RX5) (T := TX5) (N := 7) rfl inX5w (by decide) rfl rfl rfl wd_171 d rfl) <|
  am_kd (fun d => ak_istore_n d rfl rfl) <|
  am_kd (fun d => ak_iconst d (by decide +kernel) rfl) <|
  am_kd (fun d => ak_istore_n d rfl rfl) <|
  am_kd (fun d => ak_aload_n d rfl rfl) <|
  am_kd (fun d => ak_getI (C := RX5) (T := TX5) (N := 7) rfl inX5w (by decide) rfl rfl rfl wd_171 d rfl) <|
  am_kd (fun d => ak_aload_n d rfl rfl) <|
  am_kd (fun d => ak_getI (C := RX5) (T := TX5) (N := 7) rfl inX5w (by decide) rfl rfl rfl wd_173 d rfl) <|
  am_kd (fun d => ak_icmp_ge d (by decide +kernel) rfl) <|
  am_kd (fun d => ak_aload_n d rfl rfl) <|
  am_kd (fun d => ak_getR (C := RX5) (T := TX5) (N := 7) rfl inX5w (by decide) rfl rfl rfl wd_168 d rfl) <|
  am_kd (fun d => ak_aload_n d rfl rfl) <|
  am_kd (fun d => ak_getI (C := RX5) (T := TX5) (N := 7) rfl inX5w (by decide) rfl rfl rfl wd_171 d rfl) <|
  am_kd (fun d => ak_iald (t := 0) (fun _ => rfl) rfl d rfl) <|
  am_kd (fun d => ak_callS metX5_isDigit ⟨rfl, hy_X5_isDigit⟩ (am_w4 wd_696 wd_697 wd_65 wd_698) (by decide) d rfl) <|
  am_kd (fun d => ak_if_eq d (by decide +kernel) rfl) <|
  am_kd (fun d => ak_aload_n d rfl rfl) <|
  am_kd (fun d => ak_getI (C := RX5) (T := TX5) (N := 7) rfl inX5w (by decide) rfl rfl rfl wd_171 d rfl) <|
  am_kd (fun d => ak_iload_n d rfl rfl) <|
  am_kd (fun d => ak_isub d rfl) <|
  am_kd (fun d => ak_bipush d (by decide +kernel) rfl) <|
  am_kd (fun d => ak_icmp_lt d (by decide +kernel) rfl) <|
  am_kd (fun d => ak_aload_n d rfl rfl) <|
  am_kd (fun d => ak_iload_n d rfl rfl) <|
  am_kd (fun d => ak_iconst d (by decide +kernel) rfl) <|
  am_kd (fun d => ak_callV (C := RX5) (F := TX5) (N := 7) metX5_blame rfl ⟨rfl, hy_X5_blame⟩ (am_w5 wd_676 wd_678 wd_14 wd_65 wd_679) (by decide) d rfl) <|
  am_kd (fun d => ak_retV d) <|
  am_kd (fun d => ak_bipush d (by decide +kernel) rfl) <|
  am_kd (fun d => ak_iload_n d rfl rfl) <|
  am_kd (fun d => ak_imul d rfl) <|
  am_kd (fun d => ak_aload_n d rfl rfl) <|
  am_kd (fun d => ak_getR (C := RX5) (T := TX5) (N := 7) rfl inX5w (by decide) rfl rfl rfl wd_168 d rfl) <|
  am_kd (fun d => ak_aload_n d rfl rfl) <|
  am_kd (fun d => ak_getI (C := RX5) (T := TX5) (N := 7) rfl inX5w (by decide) rfl rfl rfl wd_171 d rfl) <|
  am_kd (fun d => ak_iald (t := 0) (fun _ => rfl) rfl d rfl) <|
  am_kd (fun d => ak_iadd d rfl) <|
  am_kd (fun d => ak_bipush d (by decide +kernel) rfl) <|
  am_kd (fun d => ak_isub d rfl) <|
  am_kd (fun d => ak_istore_n d rfl rfl) <|
  am_kd (fun d => ak_aload_n d rfl rfl) <|
  am_kd (fun d => ak_dup d rfl) <|
  am_kd (fun d => ak_getI (C := RX5) (T := TX5) (N := 7) rfl inX5w (by decide) rfl rfl rfl wd_171 d rfl) <|
  am_kd (fun d => ak_iconst d (by decide +kernel) rfl) <|
  am_kd (fun d => ak_iadd d rfl) <|
  am_kd (fun d => ak_putI (C := RX5) (T := TX5) (N := 7) rfl inX5w tyX5_ok nmX5 (by decide) rfl rfl rfl rfl (by decide +kernel) wd_171 d rfl) <|
  am_kd (fun d => ak_goto d (by decide +kernel)) <|
  am_kd (fun d => ak_aload_n d rfl rfl) <|
  am_kd (fun d => ak_iload_n d rfl rfl) <|
  am_kd (fun d => ak_callV (C := RX5) (F := TX5) (N := 7) metX5_emit rfl ⟨rfl, hy_X5_emit⟩ (am_w5 wd_703 wd_705 wd_20 wd_65 wd_706) (by decide) d rfl) <|
  am_kd (fun d => ak_retV d) <| am_kdn
def TX5_readDigits : am_T := fun live as M R => match as with
  | [.ref t] => am_tP live t (fun s c => am_tI M t ∧ ∀ M', am_ch (am_tS t c) M M' → am_tI M' t → R none M')
  | _ => False
def JX5_readDigits : am_E → List Value → am_M → am_R → am_inv := fun live as M0 _ pc => match as with
  | [.ref t] => (match pc with
    | 7 => some ([0, 1, 2], fun k L st M => ∃ b v : Int32, L = [(0, .ref t), (1, .int b), (2, .int v)] ∧ st = [] ∧ k = ((51 - (M.1 t 3).toInt).toNat, 0) ∧ am_ch (am_tS t ((live.2 t 1).getD 0)) M0 M ∧ am_tI M t)
    | _ => none)
  | _ => none
set_option maxRecDepth 100000 in
set_option maxHeartbeats 4000000 in
theorem metX5_readDigits : am_Met yX5_readDigits cX5_readDigits 3 none (1) (22) TX5_readDigits := by
  refine am_met (own := RX5) (by decide +kernel) rfl kX5_readDigits koX5_readDigits 60 JX5_readDigits ?_ ?_
  · intro live as M Ret h
    unfold TX5_readDigits at h
    split at h
    · next t =>
      refine ⟨Nat.le_of_ble_eq_true rfl, ?_⟩
      change am_wp _ _ _ _ [(0, Value.ref t)] _ _
      have hh := am_tP_mp h
      clear h
      obtain ⟨s, c, h2, h6, hb, h1, h3, h7, h4, h8, h9, h5, h10, hT, h⟩ := hh
      repeat' (first | (with_reducible exact hT) | (with_reducible exact h1) | (with_reducible exact h2) | (with_reducible exact h3) | (with_reducible exact hb) | (with_reducible exact h6) | (with_reducible exact h7) | (refine Exists.intro _ (Exists.intro _ (And.intro h2 (And.intro h6 ?_)))) | (refine Exists.intro _ (And.intro h2 ?_)) | (refine Exists.intro _ (And.intro h6 ?_)) | apply And.intro | exact rfl | intro hx | (refine Exists.intro _ (And.intro rfl ?_)) | ((with_reducible change _ = true); simp only [h1, h2, h3, hb, h6, h7, Bool.true_and]; rfl))
      all_goals try first | (with_reducible change am_tI _ _) | (change Ret _ _) | (change Ret _ _ _) | (change Exists _)
      all_goals try dsimp only at *
      all_goals try (with_reducible exact absurd ‹(1000 : Int64) = 0› am_z1000)
      exact ⟨_, _, _, rfl, rfl, rfl, am_ch.rf, hT⟩
    · exact h.elim
  · intro live as M0 Ret h k pc I hI L st M hi
    unfold TX5_readDigits at h
    split at h
    · next t =>
      have hh := am_tP_mp h
      clear h
      obtain ⟨s, c, h2, h6, hb, h1, h3, h7, h4, h8, h9, h5, h10, hT, h⟩ := hh
      change (match pc with | 7 => _ | _ => none) = _ at hI
      split at hI
      · cases hI
        obtain ⟨b, v, rfl, rfl, rfl, e1, e2⟩ := hi
        have f1 := e1
        rw [h6] at f1
        have hcd : 0 ≤ (M.1 t 2).toInt := by obtain ⟨-, q1, q2, q3⟩ := e2; exact q1.1
        repeat' (first | (with_reducible exact e2) | (with_reducible exact hcd) | (with_reducible exact h1) | (with_reducible exact h2) | (with_reducible exact h3) | (with_reducible exact hb) | (with_reducible exact h6) | (with_reducible exact h7) | (refine Exists.intro _ (Exists.intro _ (And.intro h2 (And.intro h6 ?_)))) | (refine Exists.intro _ (And.intro h2 ?_)) | (refine Exists.intro _ (And.intro h6 ?_)) | apply And.intro | exact rfl | intro hx | (refine Exists.intro _ (And.intro rfl ?_)) | ((with_reducible change _ = true); simp only [h1, h2, h3, hb, h6, h7, Bool.true_and]; rfl))
        all_goals try first | (with_reducible change am_tI _ _) | (change Ret _ _) | (change Ret _ _ _) | (change Exists _)
        all_goals try dsimp only at *
        all_goals try (with_reducible exact absurd ‹(1000 : Int64) = 0› am_z1000)
        all_goals have hz : (M.1 t 3).toInt ≤ (M.1 t 5).toInt ∧ 0 ≤ (M.1 t 3).toInt ∧ (M.1 t 5).toInt ≤ 50 := by obtain ⟨-, q1, q2, q3⟩ := e2; exact ⟨q2.2, q2.1, q3⟩
        all_goals first
          | exact h _ (am_ch_emit f1) (am_tI_emit e2 h10)
          | exact h _ (am_ch_blame f1) (am_tI_blame e2)
          | (simp only [i_lt, i_le, h4, Int32.reduceToInt] at *; omega)
          | skip
        all_goals
          have hlt : (M.1 t 3).toInt < (M.1 t 5).toInt := by simp only [i_le] at *; omega
          have hi := am_tI_inc e2 hlt
          refine ⟨_, Or.inl ?_, _, _, rfl, rfl, rfl, e1.wI am_tS_3, hi.1⟩
          simp [am_wI_1, -Int32.toInt_add]
          omega
      · cases hI
    · exact h.elim
