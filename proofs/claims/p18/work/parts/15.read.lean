/-! Text: reading, what is safe of it -/
set_option maxRecDepth 100000 in
theorem wd_688 : Cond.methodLink "LearnLoans$Text" 38 yX5_next ∈ am_ws := am_wsi (List.mem_of_getElem? (i := 688) (by rfl)) (by decide +kernel)
set_option maxRecDepth 100000 in
theorem wd_690 : Cond.instanceMethod yX5_next ∈ am_ws := am_wsi (List.mem_of_getElem? (i := 690) (by rfl)) (by decide +kernel)
set_option maxRecDepth 100000 in
theorem wd_17 : Cond.selects "LearnLoans$Text" yX5_next yX5_next ∈ am_ws := am_wsi (List.mem_of_getElem? (i := 17) (by rfl)) (by decide +kernel)
set_option maxRecDepth 100000 in
theorem wd_65 : Cond.initialized "LearnLoans$Text" ∈ am_ws := am_wsi (List.mem_of_getElem? (i := 65) (by rfl)) (by decide +kernel)
set_option maxRecDepth 100000 in
theorem wd_691 : Cond.code yX5_next cX5_next 1 (some .int) ∈ am_ws := am_wsi (List.mem_of_getElem? (i := 691) (by rfl)) (by decide +kernel)
set_option maxRecDepth 100000 in
theorem wd_676 : Cond.methodLink "LearnLoans$Text" 42 yX5_blame ∈ am_ws := am_wsi (List.mem_of_getElem? (i := 676) (by rfl)) (by decide +kernel)
set_option maxRecDepth 100000 in
theorem wd_678 : Cond.instanceMethod yX5_blame ∈ am_ws := am_wsi (List.mem_of_getElem? (i := 678) (by rfl)) (by decide +kernel)
set_option maxRecDepth 100000 in
theorem wd_14 : Cond.selects "LearnLoans$Text" yX5_blame yX5_blame ∈ am_ws := am_wsi (List.mem_of_getElem? (i := 14) (by rfl)) (by decide +kernel)
set_option maxRecDepth 100000 in
theorem wd_679 : Cond.code yX5_blame cX5_blame 3 none ∈ am_ws := am_wsi (List.mem_of_getElem? (i := 679) (by rfl)) (by decide +kernel)
theorem dX5_pass_0 : decode cX5_pass 0 = .ok (.aload_n 0, 1) := by decide +kernel
theorem dX5_pass_1 : decode cX5_pass 1 = .ok (.getfield 18, 3) := by decide +kernel
theorem dX5_pass_4 : decode cX5_pass 4 = .ok (.iconst (-1), 1) := by decide +kernel
theorem dX5_pass_5 : decode cX5_pass 5 = .ok (.if_icmp .ne 24, 3) := by decide +kernel
theorem dX5_pass_8 : decode cX5_pass 8 = .ok (.aload_n 0, 1) := by decide +kernel
theorem dX5_pass_9 : decode cX5_pass 9 = .ok (.invokevirtual 38, 3) := by decide +kernel
theorem dX5_pass_12 : decode cX5_pass 12 = .ok (.iload_n 1, 1) := by decide +kernel
theorem dX5_pass_13 : decode cX5_pass 13 = .ok (.if_icmp .ne 16, 3) := by decide +kernel
theorem dX5_pass_16 : decode cX5_pass 16 = .ok (.aload_n 0, 1) := by decide +kernel
theorem dX5_pass_17 : decode cX5_pass 17 = .ok (.dup, 1) := by decide +kernel
theorem dX5_pass_18 : decode cX5_pass 18 = .ok (.getfield 28, 3) := by decide +kernel
theorem dX5_pass_21 : decode cX5_pass 21 = .ok (.iconst 1, 1) := by decide +kernel
theorem dX5_pass_22 : decode cX5_pass 22 = .ok (.iadd, 1) := by decide +kernel
theorem dX5_pass_23 : decode cX5_pass 23 = .ok (.putfield 28, 3) := by decide +kernel
theorem dX5_pass_26 : decode cX5_pass 26 = .ok (.goto 12, 3) := by decide +kernel
theorem dX5_pass_29 : decode cX5_pass 29 = .ok (.aload_n 0, 1) := by decide +kernel
theorem dX5_pass_30 : decode cX5_pass 30 = .ok (.aload_n 0, 1) := by decide +kernel
theorem dX5_pass_31 : decode cX5_pass 31 = .ok (.getfield 28, 3) := by decide +kernel
theorem dX5_pass_34 : decode cX5_pass 34 = .ok (.iconst 1, 1) := by decide +kernel
theorem dX5_pass_35 : decode cX5_pass 35 = .ok (.invokevirtual 42, 3) := by decide +kernel
theorem dX5_pass_38 : decode cX5_pass 38 = .ok (.return_, 1) := by decide +kernel
def kX5_pass (live : am_E) (Ret : am_R) : am_code := [(0, am_aload 0 1), (1, am_getI live 5 6 4), (4, am_const (.int (-1)) 5), (5, am_if2 (fun x y => x = y) 8 29), (8, am_aload 0 9), (9, am_callV live 5 0 TX5_next 12), (12, am_iload 1 13), (13, am_if2 (fun x y => x = y) 16 29), (16, am_aload 0 17), (17, am_dup 18), (18, am_getI live 5 3 21), (21, am_const (.int 1) 22), (22, am_i2 (fun x y => x + y) 23), (23, am_putI live 5 3 26), (26, am_goto 38), (29, am_aload 0 30), (30, am_aload 0 31), (31, am_getI live 5 3 34), (34, am_const (.int 1) 35), (35, am_callV live 5 2 TX5_blame 38), (38, am_retV Ret)]
theorem koX5_pass (live : am_E) (Ret : am_R) : ∀ q ∈ kX5_pass live Ret, am_ok RX5 cX5_pass 2 none 1 22 live Ret q.1 q.2 :=
  am_kc (ak_aload_n dX5_pass_0 rfl rfl) <|
  am_kc (ak_getI (C := RX5) (T := TX5) (N := 7) rfl inX5w (by decide) rfl rfl rfl wd_175 dX5_pass_1 rfl) <|
  am_kc (ak_iconst dX5_pass_4 (by decide +kernel) rfl) <|
  am_kc (ak_icmp_ne dX5_pass_5 (by decide +kernel) rfl) <|
  am_kc (ak_aload_n dX5_pass_8 rfl rfl) <|
  am_kc (ak_callV (C := RX5) (F := TX5) (N := 7) metX5_next rfl ⟨rfl, by decide +kernel, by decide +kernel, by decide +kernel⟩ (am_w5 wd_688 wd_690 wd_17 wd_65 wd_691) (by decide) dX5_pass_9 rfl) <|
  am_kc (ak_iload_n dX5_pass_12 rfl rfl) <|
  am_kc (ak_icmp_ne dX5_pass_13 (by decide +kernel) rfl) <|
  am_kc (ak_aload_n dX5_pass_16 rfl rfl) <|
  am_kc (ak_dup dX5_pass_17 rfl) <|
  am_kc (ak_getI (C := RX5) (T := TX5) (N := 7) rfl inX5w (by decide) rfl rfl rfl wd_171 dX5_pass_18 rfl) <|
  am_kc (ak_iconst dX5_pass_21 (by decide +kernel) rfl) <|
  am_kc (ak_iadd dX5_pass_22 rfl) <|
  am_kc (ak_putI (C := RX5) (T := TX5) (N := 7) rfl inX5w tyX5_ok nmX5 (by decide) rfl rfl rfl rfl (by decide +kernel) wd_171 dX5_pass_23 rfl) <|
  am_kc (ak_goto dX5_pass_26 (by decide +kernel)) <|
  am_kc (ak_aload_n dX5_pass_29 rfl rfl) <|
  am_kc (ak_aload_n dX5_pass_30 rfl rfl) <|
  am_kc (ak_getI (C := RX5) (T := TX5) (N := 7) rfl inX5w (by decide) rfl rfl rfl wd_171 dX5_pass_31 rfl) <|
  am_kc (ak_iconst dX5_pass_34 (by decide +kernel) rfl) <|
  am_kc (ak_callV (C := RX5) (F := TX5) (N := 7) metX5_blame rfl ⟨rfl, by decide +kernel, by decide +kernel, by decide +kernel⟩ (am_w5 wd_676 wd_678 wd_14 wd_65 wd_679) (by decide) dX5_pass_35 rfl) <|
  am_kc (ak_retV dX5_pass_38) <| am_kn
def TX5_pass : am_T := fun live as M R => match as with
  | [.ref t, .int g] => am_tP live t (fun s c => am_tI M t ∧ ¬ g = -1 ∧ ∀ M', am_ch (am_tS t c) M M' → am_tI M' t → R none M')
  | _ => False
set_option maxRecDepth 100000 in
set_option maxHeartbeats 4000000 in
theorem metX5_pass : am_Met yX5_pass cX5_pass 2 none (1) (22) TX5_pass := by
  refine am_met (own := RX5) (by decide +kernel) rfl kX5_pass koX5_pass 60 (fun _ _ _ _ _ => none) (fun live as M Ret h => ?_) (fun _ _ _ _ _ _ _ _ hI => by cases hI)
  unfold TX5_pass at h
  split at h
  · next t g =>
    refine ⟨Nat.le_of_ble_eq_true rfl, ?_⟩
    change am_wp _ _ _ _ [(0, Value.ref t), (1, Value.int g)] _ _
    have hh := am_tP_mp h
    clear h
    obtain ⟨s, c, h2, h6, hb, h1, h3, h7, h4, h8, h9, h5, h10, hT, hg, h⟩ := hh
    repeat' (first | (with_reducible exact hT) | (with_reducible exact hg) | (with_reducible exact h1) | (with_reducible exact h2) | (with_reducible exact h3) | (with_reducible exact hb) | (with_reducible exact h6) | (with_reducible exact h7) | (refine Exists.intro _ (Exists.intro _ (And.intro h2 (And.intro h6 ?_)))) | (refine Exists.intro _ (And.intro h2 ?_)) | (refine Exists.intro _ (And.intro h6 ?_)) | apply And.intro | exact rfl | intro hx | (refine Exists.intro _ (And.intro rfl ?_)) | ((with_reducible change _ = true); simp only [h1, h2, h3, hb, h6, h7, Bool.true_and]; rfl))
    all_goals try first | (with_reducible change am_tI _ _) | (change Ret _ _) | (change Ret _ _ _) | (change Exists _)
    all_goals try dsimp only at *
    all_goals try exact absurd ‹(1000 : Int64) = 0› (by decide)
    all_goals obtain ⟨-, q1, q2, q3⟩ := hT
    · rename_i w p hp
      obtain ⟨p1, p2, p3, p4⟩ := hp
      have hlt : p.toInt < (M.1 t 5).toInt := by
        rcases Int.lt_or_le p.toInt (M.1 t 5).toInt with z | z
        · exact z
        · rw [am_sign, if_neg (by omega)] at hx
          exact absurd hx.symm hg
      have hi := i_add (x := p) (y := 1) (by simp only [Int32.reduceToInt]; omega) (by simp only [Int32.reduceToInt]; omega)
      simp only [Int32.reduceToInt] at hi
      simp only [am_wI_1, and_self, if_true, am_wI_wI]
      refine h _ (am_ch.rf.wI am_tS_3) (am_tI_of ?_ ?_ ?_ ?_ ?_)
      all_goals simp [am_wI_1, -Int32.toInt_add]
      all_goals omega
    · rename_i w p hp
      obtain ⟨p1, p2, p3, p4⟩ := hp
      refine h _ ((am_ch.rf.wI am_tS_3).wIc am_tS_6) (am_tI_of ?_ ?_ ?_ ?_ ?_)
      all_goals simp [am_blame, am_wIc_1, am_wI_1]
      all_goals omega
    · refine h _ (am_ch.rf.wIc am_tS_6) (am_tI_of ?_ ?_ ?_ ?_ ?_)
      all_goals simp [am_blame, am_wIc_1, am_wI_1]
      all_goals omega
  · exact h.elim
theorem dX5_passSigns_0 : decode cX5_passSigns 0 = .ok (.aload_n 0, 1) := by decide +kernel
theorem dX5_passSigns_1 : decode cX5_passSigns 1 = .ok (.invokevirtual 38, 3) := by decide +kernel
theorem dX5_passSigns_4 : decode cX5_passSigns 4 = .ok (.istore_n 1, 1) := by decide +kernel
theorem dX5_passSigns_5 : decode cX5_passSigns 5 = .ok (.aload_n 0, 1) := by decide +kernel
theorem dX5_passSigns_6 : decode cX5_passSigns 6 = .ok (.getfield 28, 3) := by decide +kernel
theorem dX5_passSigns_9 : decode cX5_passSigns 9 = .ok (.aload_n 0, 1) := by decide +kernel
theorem dX5_passSigns_10 : decode cX5_passSigns 10 = .ok (.getfield 22, 3) := by decide +kernel
theorem dX5_passSigns_13 : decode cX5_passSigns 13 = .ok (.if_icmp .ge 33, 3) := by decide +kernel
theorem dX5_passSigns_16 : decode cX5_passSigns 16 = .ok (.iload_n 1, 1) := by decide +kernel
theorem dX5_passSigns_17 : decode cX5_passSigns 17 = .ok (.bipush 33, 2) := by decide +kernel
theorem dX5_passSigns_19 : decode cX5_passSigns 19 = .ok (.if_icmp .eq 9, 3) := by decide +kernel
theorem dX5_passSigns_22 : decode cX5_passSigns 22 = .ok (.iload_n 1, 1) := by decide +kernel
theorem dX5_passSigns_23 : decode cX5_passSigns 23 = .ok (.bipush 45, 2) := by decide +kernel
theorem dX5_passSigns_25 : decode cX5_passSigns 25 = .ok (.if_icmp .ne 21, 3) := by decide +kernel
theorem dX5_passSigns_28 : decode cX5_passSigns 28 = .ok (.aload_n 0, 1) := by decide +kernel
theorem dX5_passSigns_29 : decode cX5_passSigns 29 = .ok (.dup, 1) := by decide +kernel
theorem dX5_passSigns_30 : decode cX5_passSigns 30 = .ok (.getfield 28, 3) := by decide +kernel
theorem dX5_passSigns_33 : decode cX5_passSigns 33 = .ok (.iconst 1, 1) := by decide +kernel
theorem dX5_passSigns_34 : decode cX5_passSigns 34 = .ok (.iadd, 1) := by decide +kernel
theorem dX5_passSigns_35 : decode cX5_passSigns 35 = .ok (.putfield 28, 3) := by decide +kernel
theorem dX5_passSigns_38 : decode cX5_passSigns 38 = .ok (.aload_n 0, 1) := by decide +kernel
theorem dX5_passSigns_39 : decode cX5_passSigns 39 = .ok (.invokevirtual 38, 3) := by decide +kernel
theorem dX5_passSigns_42 : decode cX5_passSigns 42 = .ok (.istore_n 1, 1) := by decide +kernel
theorem dX5_passSigns_43 : decode cX5_passSigns 43 = .ok (.goto (-38), 3) := by decide +kernel
theorem dX5_passSigns_46 : decode cX5_passSigns 46 = .ok (.aload_n 0, 1) := by decide +kernel
theorem dX5_passSigns_47 : decode cX5_passSigns 47 = .ok (.getfield 28, 3) := by decide +kernel
theorem dX5_passSigns_50 : decode cX5_passSigns 50 = .ok (.ireturn, 1) := by decide +kernel
def kX5_passSigns (live : am_E) (Ret : am_R) : am_code := [(0, am_aload 0 1), (1, am_callV live 5 0 TX5_next 4), (4, am_istore 1 2 5), (5, am_aload 0 6), (6, am_getI live 5 3 9), (9, am_aload 0 10), (10, am_getI live 5 5 13), (13, am_if2 (fun x y => y ≤ x) 46 16), (16, am_iload 1 17), (17, am_const (.int 33) 19), (19, am_if2 (fun x y => x = y) 28 22), (22, am_iload 1 23), (23, am_const (.int 45) 25), (25, am_if2 (fun x y => x = y) 28 46), (28, am_aload 0 29), (29, am_dup 30), (30, am_getI live 5 3 33), (33, am_const (.int 1) 34), (34, am_i2 (fun x y => x + y) 35), (35, am_putI live 5 3 38), (38, am_aload 0 39), (39, am_callV live 5 0 TX5_next 42), (42, am_istore 1 2 43), (43, am_goto 5), (46, am_aload 0 47), (47, am_getI live 5 3 50), (50, am_retI Ret)]
theorem koX5_passSigns (live : am_E) (Ret : am_R) : ∀ q ∈ kX5_passSigns live Ret, am_ok RX5 cX5_passSigns 2 (some .int) 1 20 live Ret q.1 q.2 :=
  am_kc (ak_aload_n dX5_passSigns_0 rfl rfl) <|
  am_kc (ak_callV (C := RX5) (F := TX5) (N := 7) metX5_next rfl ⟨rfl, by decide +kernel, by decide +kernel, by decide +kernel⟩ (am_w5 wd_688 wd_690 wd_17 wd_65 wd_691) (by decide) dX5_passSigns_1 rfl) <|
  am_kc (ak_istore_n dX5_passSigns_4 rfl rfl) <|
  am_kc (ak_aload_n dX5_passSigns_5 rfl rfl) <|
  am_kc (ak_getI (C := RX5) (T := TX5) (N := 7) rfl inX5w (by decide) rfl rfl rfl wd_171 dX5_passSigns_6 rfl) <|
  am_kc (ak_aload_n dX5_passSigns_9 rfl rfl) <|
  am_kc (ak_getI (C := RX5) (T := TX5) (N := 7) rfl inX5w (by decide) rfl rfl rfl wd_173 dX5_passSigns_10 rfl) <|
  am_kc (ak_icmp_ge dX5_passSigns_13 (by decide +kernel) rfl) <|
  am_kc (ak_iload_n dX5_passSigns_16 rfl rfl) <|
  am_kc (ak_bipush dX5_passSigns_17 (by decide +kernel) rfl) <|
  am_kc (ak_icmp_eq dX5_passSigns_19 (by decide +kernel) rfl) <|
  am_kc (ak_iload_n dX5_passSigns_22 rfl rfl) <|
  am_kc (ak_bipush dX5_passSigns_23 (by decide +kernel) rfl) <|
  am_kc (ak_icmp_ne dX5_passSigns_25 (by decide +kernel) rfl) <|
  am_kc (ak_aload_n dX5_passSigns_28 rfl rfl) <|
  am_kc (ak_dup dX5_passSigns_29 rfl) <|
  am_kc (ak_getI (C := RX5) (T := TX5) (N := 7) rfl inX5w (by decide) rfl rfl rfl wd_171 dX5_passSigns_30 rfl) <|
  am_kc (ak_iconst dX5_passSigns_33 (by decide +kernel) rfl) <|
  am_kc (ak_iadd dX5_passSigns_34 rfl) <|
  am_kc (ak_putI (C := RX5) (T := TX5) (N := 7) rfl inX5w tyX5_ok nmX5 (by decide) rfl rfl rfl rfl (by decide +kernel) wd_171 dX5_passSigns_35 rfl) <|
  am_kc (ak_aload_n dX5_passSigns_38 rfl rfl) <|
  am_kc (ak_callV (C := RX5) (F := TX5) (N := 7) metX5_next rfl ⟨rfl, by decide +kernel, by decide +kernel, by decide +kernel⟩ (am_w5 wd_688 wd_690 wd_17 wd_65 wd_691) (by decide) dX5_passSigns_39 rfl) <|
  am_kc (ak_istore_n dX5_passSigns_42 rfl rfl) <|
  am_kc (ak_goto dX5_passSigns_43 (by decide +kernel)) <|
  am_kc (ak_aload_n dX5_passSigns_46 rfl rfl) <|
  am_kc (ak_getI (C := RX5) (T := TX5) (N := 7) rfl inX5w (by decide) rfl rfl rfl wd_171 dX5_passSigns_47 rfl) <|
  am_kc (ak_retI dX5_passSigns_50) <| am_kn
def TX5_passSigns : am_T := fun live as M R => match as with
  | [.ref t] => am_tP live t (fun s c => am_tI M t ∧ ∀ M', am_ch (am_tS t c) M M' → am_tI M' t → R (some (.int (M'.1 t 3))) M')
  | _ => False
def JX5_passSigns : am_E → List Value → am_M → am_R → am_inv := fun live as M0 _ pc => match as with
  | [.ref t] => (match pc with
    | 5 => some ([0, 1], fun k L st M => ∃ x : Int32, L = [(0, .ref t), (1, .int x)] ∧ st = [] ∧ k = ((51 - (M.1 t 3).toInt).toNat, 0) ∧ am_ch (am_tS t ((live.2 t 1).getD 0)) M0 M ∧ am_tI M t)
    | _ => none)
  | _ => none
theorem am_tI_w3 {M : am_M} {t s : Nat} {p : Int32} (h : am_tI M t) (hp : am_skip M t s p) : am_tI (am_wI M t 3 p) t := by
  obtain ⟨-, q1, q2, q3⟩ := h
  obtain ⟨p1, p2, -, -⟩ := hp
  refine am_tI_of ?_ ?_ ?_ ?_ ?_
  all_goals simp [am_wI_1]
  all_goals omega
theorem am_tI_inc {M : am_M} {t : Nat} (h : am_tI M t) (hp : (M.1 t 3).toInt < (M.1 t 5).toInt) : am_tI (am_wI M t 3 (M.1 t 3 + 1)) t ∧ (M.1 t 3 + 1).toInt = (M.1 t 3).toInt + 1 := by
  obtain ⟨-, q1, q2, q3⟩ := h
  have hi := i_add (x := M.1 t 3) (y := 1) (by simp only [Int32.reduceToInt]; omega) (by simp only [Int32.reduceToInt]; omega)
  simp only [Int32.reduceToInt] at hi
  refine ⟨am_tI_of ?_ ?_ ?_ ?_ ?_, hi⟩
  all_goals simp [am_wI_1, -Int32.toInt_add]
  all_goals omega
theorem am_tI_blame {M : am_M} {t : Nat} {a k : Int32} (h : am_tI M t) : am_tI (am_blame M t a k) t := by
  obtain ⟨-, q1, q2, q3⟩ := h
  refine am_tI_of ?_ ?_ ?_ ?_ ?_
  all_goals simp [am_blame, am_wIc_1]
  all_goals omega
theorem am_ch_blame {M M' : am_M} {t c : Nat} {a k : Int32} (h : am_ch (am_tS t c) M M') : am_ch (am_tS t c) M (am_blame M' t a k) := h.wIc am_tS_6
theorem am_tI_emit {M : am_M} {t c : Nat} {v : Int32} (h : am_tI M t) (hn : t ≠ c) : am_tI (am_emit M t c v) t := by
  obtain ⟨-, q1, q2, q3⟩ := h
  unfold am_emit
  split
  · have hi := i_add (x := M.1 t 2) (y := 1) (by simp only [Int32.reduceToInt]; omega) (by simp only [Int32.reduceToInt]; omega)
    simp only [Int32.reduceToInt] at hi
    refine am_tI_of ?_ ?_ ?_ ?_ ?_
    all_goals simp [am_wI_1, hn, -Int32.toInt_add]
    all_goals omega
  · exact ⟨(), q1, q2, q3⟩
theorem am_ch_emit {M M' : am_M} {t c : Nat} {v : Int32} (h : am_ch (am_tS t c) M M') : am_ch (am_tS t c) M (am_emit M' t c v) := by
  unfold am_emit
  split
  · exact (h.wI am_tS_c).wI am_tS_2
  · exact h
set_option maxRecDepth 100000 in
set_option maxHeartbeats 4000000 in
theorem metX5_passSigns : am_Met yX5_passSigns cX5_passSigns 2 (some .int) (1) (20) TX5_passSigns := by
  refine am_met (own := RX5) (by decide +kernel) rfl kX5_passSigns koX5_passSigns 60 JX5_passSigns ?_ ?_
  · intro live as M Ret h
    unfold TX5_passSigns at h
    split at h
    · next t =>
      refine ⟨Nat.le_of_ble_eq_true rfl, ?_⟩
      change am_wp _ _ _ _ [(0, Value.ref t)] _ _
      have hh := am_tP_mp h
      clear h
      obtain ⟨s, c, h2, h6, hb, h1, h3, h7, h4, h8, h9, h5, h10, hT, h⟩ := hh
      repeat' (first | (with_reducible exact hT) | (with_reducible exact h1) | (with_reducible exact h2) | (with_reducible exact h3) | (with_reducible exact hb) | (with_reducible exact h6) | (with_reducible exact h7) | (refine Exists.intro _ (Exists.intro _ (And.intro h2 (And.intro h6 ?_)))) | (refine Exists.intro _ (And.intro h2 ?_)) | (refine Exists.intro _ (And.intro h6 ?_)) | apply And.intro | exact rfl | intro hx | (refine Exists.intro _ (And.intro rfl ?_)) | ((with_reducible change _ = true); simp only [h1, h2, h3, hb, h6, h7, Bool.true_and]; rfl))
      all_goals try first | (with_reducible change am_tI _ _) | (change Ret _ _) | (change Ret _ _ _) | (change Exists _)
      all_goals try dsimp only at *
      all_goals try exact absurd ‹(1000 : Int64) = 0› (by decide)
      rename_i p hp
      exact ⟨_, _, rfl, rfl, rfl, am_ch.rf.wI am_tS_3, am_tI_w3 hT hx⟩
    · exact h.elim
  · intro live as M0 Ret h k pc I hI L st M hi
    unfold TX5_passSigns at h
    split at h
    · next t =>
      have hh := am_tP_mp h
      clear h
      obtain ⟨s, c, h2, h6, hb, h1, h3, h7, h4, h8, h9, h5, h10, hT, h⟩ := hh
      change (match pc with | 5 => _ | _ => none) = _ at hI
      split at hI
      · cases hI
        obtain ⟨x, rfl, rfl, rfl, e1, e2⟩ := hi
        have f1 := e1
        rw [h6] at f1
        repeat' (first | (with_reducible exact e2) | (with_reducible exact h1) | (with_reducible exact h2) | (with_reducible exact h3) | (with_reducible exact hb) | (with_reducible exact h6) | (with_reducible exact h7) | (refine Exists.intro _ (Exists.intro _ (And.intro h2 (And.intro h6 ?_)))) | (refine Exists.intro _ (And.intro h2 ?_)) | (refine Exists.intro _ (And.intro h6 ?_)) | apply And.intro | exact rfl | intro hx | (refine Exists.intro _ (And.intro rfl ?_)) | ((with_reducible change _ = true); simp only [h1, h2, h3, hb, h6, h7, Bool.true_and]; rfl))
        all_goals try first | (with_reducible change am_tI _ _) | (change Ret _ _) | (change Ret _ _ _) | (change Exists _)
        all_goals try dsimp only at *
        all_goals try exact absurd ‹(1000 : Int64) = 0› (by decide)
        all_goals first
          | exact h _ f1 e2
          | exact (am_tI_inc e2 (by simp only [i_le] at *; omega)).1
          | skip
        all_goals
          have hlt : (M.1 t 3).toInt < (M.1 t 5).toInt := by simp only [i_le] at *; omega
          have hi := am_tI_inc e2 hlt
          have hs := hx.1
          have hs2 := hx.2.1
          have q3 : (M.1 t 5).toInt ≤ 50 := by obtain ⟨-, q1, q2, q3⟩ := e2; exact q3
          refine ⟨_, Or.inl ?_, _, rfl, rfl, rfl, (e1.wI am_tS_3).wI am_tS_3, am_tI_w3 hi.1 hx⟩
          simp [am_wI_1, -Int32.toInt_add] at hs hs2 ⊢
          omega
      · cases hI
    · exact h.elim
set_option maxRecDepth 100000 in
theorem wd_703 : Cond.methodLink "LearnLoans$Text" 60 yX5_emit ∈ am_ws := am_wsi (List.mem_of_getElem? (i := 703) (by rfl)) (by decide +kernel)
set_option maxRecDepth 100000 in
theorem wd_705 : Cond.instanceMethod yX5_emit ∈ am_ws := am_wsi (List.mem_of_getElem? (i := 705) (by rfl)) (by decide +kernel)
set_option maxRecDepth 100000 in
theorem wd_20 : Cond.selects "LearnLoans$Text" yX5_emit yX5_emit ∈ am_ws := am_wsi (List.mem_of_getElem? (i := 20) (by rfl)) (by decide +kernel)
set_option maxRecDepth 100000 in
theorem wd_706 : Cond.code yX5_emit cX5_emit 2 none ∈ am_ws := am_wsi (List.mem_of_getElem? (i := 706) (by rfl)) (by decide +kernel)
theorem dX5_emitSigns_0 : decode cX5_emitSigns 0 = .ok (.iload_n 2, 1) := by decide +kernel
theorem dX5_emitSigns_1 : decode cX5_emitSigns 1 = .ok (.iconst 1, 1) := by decide +kernel
theorem dX5_emitSigns_2 : decode cX5_emitSigns 2 = .ok (.isub, 1) := by decide +kernel
theorem dX5_emitSigns_3 : decode cX5_emitSigns 3 = .ok (.istore_n 3, 1) := by decide +kernel
theorem dX5_emitSigns_4 : decode cX5_emitSigns 4 = .ok (.iload_n 3, 1) := by decide +kernel
theorem dX5_emitSigns_5 : decode cX5_emitSigns 5 = .ok (.iload_n 1, 1) := by decide +kernel
theorem dX5_emitSigns_6 : decode cX5_emitSigns 6 = .ok (.if_icmp .lt 52, 3) := by decide +kernel
theorem dX5_emitSigns_9 : decode cX5_emitSigns 9 = .ok (.iload_n 3, 1) := by decide +kernel
theorem dX5_emitSigns_10 : decode cX5_emitSigns 10 = .ok (.bipush 50, 2) := by decide +kernel
theorem dX5_emitSigns_12 : decode cX5_emitSigns 12 = .ok (.if_icmp .ge 46, 3) := by decide +kernel
theorem dX5_emitSigns_15 : decode cX5_emitSigns 15 = .ok (.aload_n 0, 1) := by decide +kernel
theorem dX5_emitSigns_16 : decode cX5_emitSigns 16 = .ok (.getfield 9, 3) := by decide +kernel
theorem dX5_emitSigns_19 : decode cX5_emitSigns 19 = .ok (.iload_n 3, 1) := by decide +kernel
theorem dX5_emitSigns_20 : decode cX5_emitSigns 20 = .ok (.iaload, 1) := by decide +kernel
theorem dX5_emitSigns_21 : decode cX5_emitSigns 21 = .ok (.bipush 33, 2) := by decide +kernel
theorem dX5_emitSigns_23 : decode cX5_emitSigns 23 = .ok (.if_icmp .ne 12, 3) := by decide +kernel
theorem dX5_emitSigns_26 : decode cX5_emitSigns 26 = .ok (.aload_n 0, 1) := by decide +kernel
theorem dX5_emitSigns_27 : decode cX5_emitSigns 27 = .ok (.bipush (-33), 2) := by decide +kernel
theorem dX5_emitSigns_29 : decode cX5_emitSigns 29 = .ok (.invokevirtual 60, 3) := by decide +kernel
theorem dX5_emitSigns_32 : decode cX5_emitSigns 32 = .ok (.goto 20, 3) := by decide +kernel
theorem dX5_emitSigns_35 : decode cX5_emitSigns 35 = .ok (.aload_n 0, 1) := by decide +kernel
theorem dX5_emitSigns_36 : decode cX5_emitSigns 36 = .ok (.getfield 9, 3) := by decide +kernel
theorem dX5_emitSigns_39 : decode cX5_emitSigns 39 = .ok (.iload_n 3, 1) := by decide +kernel
theorem dX5_emitSigns_40 : decode cX5_emitSigns 40 = .ok (.iaload, 1) := by decide +kernel
theorem dX5_emitSigns_41 : decode cX5_emitSigns 41 = .ok (.bipush 45, 2) := by decide +kernel
theorem dX5_emitSigns_43 : decode cX5_emitSigns 43 = .ok (.if_icmp .ne 9, 3) := by decide +kernel
theorem dX5_emitSigns_46 : decode cX5_emitSigns 46 = .ok (.aload_n 0, 1) := by decide +kernel
theorem dX5_emitSigns_47 : decode cX5_emitSigns 47 = .ok (.bipush (-126), 2) := by decide +kernel
theorem dX5_emitSigns_49 : decode cX5_emitSigns 49 = .ok (.invokevirtual 60, 3) := by decide +kernel
theorem dX5_emitSigns_52 : decode cX5_emitSigns 52 = .ok (.iinc 3 (-1), 3) := by decide +kernel
theorem dX5_emitSigns_55 : decode cX5_emitSigns 55 = .ok (.goto (-51), 3) := by decide +kernel
theorem dX5_emitSigns_58 : decode cX5_emitSigns 58 = .ok (.return_, 1) := by decide +kernel
def kX5_emitSigns (live : am_E) (Ret : am_R) : am_code := [(0, am_iload 2 1), (1, am_const (.int 1) 2), (2, am_i2 (fun x y => x - y) 3), (3, am_istore 3 4 4), (4, am_iload 3 5), (5, am_iload 1 6), (6, am_if2 (fun x y => x < y) 58 9), (9, am_iload 3 10), (10, am_const (.int 50) 12), (12, am_if2 (fun x y => y ≤ x) 58 15), (15, am_aload 0 16), (16, am_getR live 5 0 19), (19, am_iload 3 20), (20, am_ald live 0 21), (21, am_const (.int 33) 23), (23, am_if2 (fun x y => x = y) 26 35), (26, am_aload 0 27), (27, am_const (.int (-33)) 29), (29, am_callV live 5 1 TX5_emit 32), (32, am_goto 52), (35, am_aload 0 36), (36, am_getR live 5 0 39), (39, am_iload 3 40), (40, am_ald live 0 41), (41, am_const (.int 45) 43), (43, am_if2 (fun x y => x = y) 46 52), (46, am_aload 0 47), (47, am_const (.int (-126)) 49), (49, am_callV live 5 1 TX5_emit 52), (52, am_iinc 3 4 (-1) 55), (55, am_goto 4), (58, am_retV Ret)]
theorem koX5_emitSigns (live : am_E) (Ret : am_R) : ∀ q ∈ kX5_emitSigns live Ret, am_ok RX5 cX5_emitSigns 4 none 1 21 live Ret q.1 q.2 :=
  am_kc (ak_iload_n dX5_emitSigns_0 rfl rfl) <|
  am_kc (ak_iconst dX5_emitSigns_1 (by decide +kernel) rfl) <|
  am_kc (ak_isub dX5_emitSigns_2 rfl) <|
  am_kc (ak_istore_n dX5_emitSigns_3 rfl rfl) <|
  am_kc (ak_iload_n dX5_emitSigns_4 rfl rfl) <|
  am_kc (ak_iload_n dX5_emitSigns_5 rfl rfl) <|
  am_kc (ak_icmp_lt dX5_emitSigns_6 (by decide +kernel) rfl) <|
  am_kc (ak_iload_n dX5_emitSigns_9 rfl rfl) <|
  am_kc (ak_bipush dX5_emitSigns_10 (by decide +kernel) rfl) <|
  am_kc (ak_icmp_ge dX5_emitSigns_12 (by decide +kernel) rfl) <|
  am_kc (ak_aload_n dX5_emitSigns_15 rfl rfl) <|
  am_kc (ak_getR (C := RX5) (T := TX5) (N := 7) rfl inX5w (by decide) rfl rfl rfl wd_168 dX5_emitSigns_16 rfl) <|
  am_kc (ak_iload_n dX5_emitSigns_19 rfl rfl) <|
  am_kc (ak_iald (t := 0) (fun _ => rfl) rfl dX5_emitSigns_20 rfl) <|
  am_kc (ak_bipush dX5_emitSigns_21 (by decide +kernel) rfl) <|
  am_kc (ak_icmp_ne dX5_emitSigns_23 (by decide +kernel) rfl) <|
  am_kc (ak_aload_n dX5_emitSigns_26 rfl rfl) <|
  am_kc (ak_bipush dX5_emitSigns_27 (by decide +kernel) rfl) <|
  am_kc (ak_callV (C := RX5) (F := TX5) (N := 7) metX5_emit rfl ⟨rfl, by decide +kernel, by decide +kernel, by decide +kernel⟩ (am_w5 wd_703 wd_705 wd_20 wd_65 wd_706) (by decide) dX5_emitSigns_29 rfl) <|
  am_kc (ak_goto dX5_emitSigns_32 (by decide +kernel)) <|
  am_kc (ak_aload_n dX5_emitSigns_35 rfl rfl) <|
  am_kc (ak_getR (C := RX5) (T := TX5) (N := 7) rfl inX5w (by decide) rfl rfl rfl wd_168 dX5_emitSigns_36 rfl) <|
  am_kc (ak_iload_n dX5_emitSigns_39 rfl rfl) <|
  am_kc (ak_iald (t := 0) (fun _ => rfl) rfl dX5_emitSigns_40 rfl) <|
  am_kc (ak_bipush dX5_emitSigns_41 (by decide +kernel) rfl) <|
  am_kc (ak_icmp_ne dX5_emitSigns_43 (by decide +kernel) rfl) <|
  am_kc (ak_aload_n dX5_emitSigns_46 rfl rfl) <|
  am_kc (ak_bipush dX5_emitSigns_47 (by decide +kernel) rfl) <|
  am_kc (ak_callV (C := RX5) (F := TX5) (N := 7) metX5_emit rfl ⟨rfl, by decide +kernel, by decide +kernel, by decide +kernel⟩ (am_w5 wd_703 wd_705 wd_20 wd_65 wd_706) (by decide) dX5_emitSigns_49 rfl) <|
  am_kc (ak_iinc dX5_emitSigns_52 (by decide +kernel) rfl) <|
  am_kc (ak_goto dX5_emitSigns_55 (by decide +kernel)) <|
  am_kc (ak_retV dX5_emitSigns_58) <| am_kn
def TX5_emitSigns : am_T := fun live as M R => match as with
  | [.ref t, .int a, .int b] => am_tP live t (fun s c => am_tI M t ∧ 0 ≤ a.toInt ∧ 0 ≤ b.toInt ∧ ∀ M', am_ch (am_tS t c) M M' → am_tI M' t → M'.1 t 3 = M.1 t 3 → R none M')
  | _ => False
def JX5_emitSigns : am_E → List Value → am_M → am_R → am_inv := fun live as M0 _ pc => match as with
  | [.ref t, .int a, .int b] => (match pc with
    | 4 => some ([0, 1, 3], fun k L st M => ∃ i : Int32, L = [(0, .ref t), (1, .int a), (3, .int i)] ∧ st = [] ∧ k = ((i.toInt + 1).toNat, 0) ∧ -1 ≤ i.toInt ∧ am_ch (am_tS t ((live.2 t 1).getD 0)) M0 M ∧ am_tI M t ∧ M.1 t 3 = M0.1 t 3)
    | _ => none)
  | _ => none
theorem am_emit_3 {M : am_M} {t c : Nat} {v : Int32} (hn : t ≠ c) : (am_emit M t c v).1 t 3 = M.1 t 3 := by
  unfold am_emit
  split
  · simp [am_wI_1, hn]
  · rfl
set_option maxRecDepth 100000 in
set_option maxHeartbeats 4000000 in
theorem metX5_emitSigns : am_Met yX5_emitSigns cX5_emitSigns 4 none (1) (21) TX5_emitSigns := by
  refine am_met (own := RX5) (by decide +kernel) rfl kX5_emitSigns koX5_emitSigns 60 JX5_emitSigns ?_ ?_
  · intro live as M Ret h
    unfold TX5_emitSigns at h
    split at h
    · next t a b =>
      refine ⟨Nat.le_of_ble_eq_true rfl, ?_⟩
      change am_wp _ _ _ _ [(0, Value.ref t), (1, Value.int a), (2, Value.int b)] _ _
      have hh := am_tP_mp h
      clear h
      obtain ⟨s, c, h2, h6, hb, h1, h3, h7, h4, h8, h9, h5, h10, hT, ha, hbb, h⟩ := hh
      repeat' (first | (with_reducible exact hT) | (with_reducible exact h1) | (with_reducible exact h2) | (with_reducible exact h3) | (with_reducible exact hb) | (with_reducible exact h6) | (with_reducible exact h7) | (refine Exists.intro _ (Exists.intro _ (And.intro h2 (And.intro h6 ?_)))) | (refine Exists.intro _ (And.intro h2 ?_)) | (refine Exists.intro _ (And.intro h6 ?_)) | apply And.intro | exact rfl | intro hx | (refine Exists.intro _ (And.intro rfl ?_)) | ((with_reducible change _ = true); simp only [h1, h2, h3, hb, h6, h7, Bool.true_and]; rfl))
      all_goals try first | (with_reducible change am_tI _ _) | (change Ret _ _) | (change Ret _ _ _) | (change Exists _)
      all_goals try dsimp only at *
      all_goals try exact absurd ‹(1000 : Int64) = 0› (by decide)
      have hi := i_sub (x := b) (y := 1) (by simp only [Int32.reduceToInt]; have := i_hi b; omega) (by simp only [Int32.reduceToInt]; have := i_hi b; omega)
      simp only [Int32.reduceToInt] at hi
      exact ⟨_, _, rfl, rfl, rfl, by omega, am_ch.rf, hT, rfl⟩
    · exact h.elim
  · intro live as M0 Ret h k pc I hI L st M hi
    unfold TX5_emitSigns at h
    split at h
    · next t a b =>
      have hh := am_tP_mp h
      clear h
      obtain ⟨s, c, h2, h6, hb, h1, h3, h7, h4, h8, h9, h5, h10, hT, ha, hbb, h⟩ := hh
      change (match pc with | 4 => _ | _ => none) = _ at hI
      split at hI
      · cases hI
        obtain ⟨i, rfl, rfl, rfl, e0, e1, e2, e3⟩ := hi
        have f1 := e1
        rw [h6] at f1
        have hcd : 0 ≤ (M.1 t 2).toInt := by obtain ⟨-, q1, q2, q3⟩ := e2; exact q1.1
        repeat' (first | (with_reducible exact e2) | (with_reducible exact hcd) | (with_reducible exact h1) | (with_reducible exact h2) | (with_reducible exact h3) | (with_reducible exact hb) | (with_reducible exact h6) | (with_reducible exact h7) | (refine Exists.intro _ (Exists.intro _ (And.intro h2 (And.intro h6 ?_)))) | (refine Exists.intro _ (And.intro h2 ?_)) | (refine Exists.intro _ (And.intro h6 ?_)) | apply And.intro | exact rfl | intro hx | (refine Exists.intro _ (And.intro rfl ?_)) | ((with_reducible change _ = true); simp only [h1, h2, h3, hb, h6, h7, Bool.true_and]; rfl))
        all_goals try first | (with_reducible change am_tI _ _) | (change Ret _ _) | (change Ret _ _ _) | (change Exists _)
        all_goals try dsimp only at *
        all_goals try exact absurd ‹(1000 : Int64) = 0› (by decide)
        all_goals first
          | exact h _ f1 e2 e3
          | (simp only [i_lt, i_le, h4, Int32.reduceToInt] at *; omega)
          | (rw [h6]; refine ⟨_, Or.inl ?_, i + -1, rfl, rfl, rfl, ?_, am_ch_emit f1, am_tI_emit e2 h10, (am_emit_3 h10).trans e3⟩)
          | (refine ⟨_, Or.inl ?_, i + -1, rfl, rfl, rfl, ?_, e1, e2, e3⟩)
        all_goals
          simp only [i_lt, i_le, h4, Int32.reduceToInt] at *
          have hi := i_add (x := i) (y := -1) (by simp only [Int32.reduceToInt]; omega) (by simp only [Int32.reduceToInt]; omega)
          simp only [Int32.reduceToInt] at hi
          omega
      · cases hI
    · exact h.elim
set_option maxRecDepth 100000 in
theorem wd_696 : Cond.methodLink "LearnLoans$Text" 76 yX5_isDigit ∈ am_ws := am_wsi (List.mem_of_getElem? (i := 696) (by rfl)) (by decide +kernel)
set_option maxRecDepth 100000 in
theorem wd_697 : Cond.static yX5_isDigit ∈ am_ws := am_wsi (List.mem_of_getElem? (i := 697) (by rfl)) (by decide +kernel)
set_option maxRecDepth 100000 in
theorem wd_698 : Cond.code yX5_isDigit cX5_isDigit 1 (some .boolean) ∈ am_ws := am_wsi (List.mem_of_getElem? (i := 698) (by rfl)) (by decide +kernel)
theorem dX5_readDigits_0 : decode cX5_readDigits 0 = .ok (.aload_n 0, 1) := by decide +kernel
theorem dX5_readDigits_1 : decode cX5_readDigits 1 = .ok (.getfield 28, 3) := by decide +kernel
theorem dX5_readDigits_4 : decode cX5_readDigits 4 = .ok (.istore_n 1, 1) := by decide +kernel
theorem dX5_readDigits_5 : decode cX5_readDigits 5 = .ok (.iconst 0, 1) := by decide +kernel
theorem dX5_readDigits_6 : decode cX5_readDigits 6 = .ok (.istore_n 2, 1) := by decide +kernel
theorem dX5_readDigits_7 : decode cX5_readDigits 7 = .ok (.aload_n 0, 1) := by decide +kernel
theorem dX5_readDigits_8 : decode cX5_readDigits 8 = .ok (.getfield 28, 3) := by decide +kernel
theorem dX5_readDigits_11 : decode cX5_readDigits 11 = .ok (.aload_n 0, 1) := by decide +kernel
theorem dX5_readDigits_12 : decode cX5_readDigits 12 = .ok (.getfield 22, 3) := by decide +kernel
theorem dX5_readDigits_15 : decode cX5_readDigits 15 = .ok (.if_icmp .ge 67, 3) := by decide +kernel
theorem dX5_readDigits_18 : decode cX5_readDigits 18 = .ok (.aload_n 0, 1) := by decide +kernel
theorem dX5_readDigits_19 : decode cX5_readDigits 19 = .ok (.getfield 9, 3) := by decide +kernel
theorem dX5_readDigits_22 : decode cX5_readDigits 22 = .ok (.aload_n 0, 1) := by decide +kernel
theorem dX5_readDigits_23 : decode cX5_readDigits 23 = .ok (.getfield 28, 3) := by decide +kernel
theorem dX5_readDigits_26 : decode cX5_readDigits 26 = .ok (.iaload, 1) := by decide +kernel
theorem dX5_readDigits_27 : decode cX5_readDigits 27 = .ok (.invokestatic 76, 3) := by decide +kernel
theorem dX5_readDigits_30 : decode cX5_readDigits 30 = .ok (.ifCond .eq 52, 3) := by decide +kernel
theorem dX5_readDigits_33 : decode cX5_readDigits 33 = .ok (.aload_n 0, 1) := by decide +kernel
theorem dX5_readDigits_34 : decode cX5_readDigits 34 = .ok (.getfield 28, 3) := by decide +kernel
theorem dX5_readDigits_37 : decode cX5_readDigits 37 = .ok (.iload_n 1, 1) := by decide +kernel
theorem dX5_readDigits_38 : decode cX5_readDigits 38 = .ok (.isub, 1) := by decide +kernel
theorem dX5_readDigits_39 : decode cX5_readDigits 39 = .ok (.bipush 6, 2) := by decide +kernel
theorem dX5_readDigits_41 : decode cX5_readDigits 41 = .ok (.if_icmp .lt 10, 3) := by decide +kernel
theorem dX5_readDigits_44 : decode cX5_readDigits 44 = .ok (.aload_n 0, 1) := by decide +kernel
theorem dX5_readDigits_45 : decode cX5_readDigits 45 = .ok (.iload_n 1, 1) := by decide +kernel
theorem dX5_readDigits_46 : decode cX5_readDigits 46 = .ok (.iconst 2, 1) := by decide +kernel
theorem dX5_readDigits_47 : decode cX5_readDigits 47 = .ok (.invokevirtual 42, 3) := by decide +kernel
theorem dX5_readDigits_50 : decode cX5_readDigits 50 = .ok (.return_, 1) := by decide +kernel
theorem dX5_readDigits_51 : decode cX5_readDigits 51 = .ok (.bipush 10, 2) := by decide +kernel
theorem dX5_readDigits_53 : decode cX5_readDigits 53 = .ok (.iload_n 2, 1) := by decide +kernel
theorem dX5_readDigits_54 : decode cX5_readDigits 54 = .ok (.imul, 1) := by decide +kernel
theorem dX5_readDigits_55 : decode cX5_readDigits 55 = .ok (.aload_n 0, 1) := by decide +kernel
theorem dX5_readDigits_56 : decode cX5_readDigits 56 = .ok (.getfield 9, 3) := by decide +kernel
theorem dX5_readDigits_59 : decode cX5_readDigits 59 = .ok (.aload_n 0, 1) := by decide +kernel
theorem dX5_readDigits_60 : decode cX5_readDigits 60 = .ok (.getfield 28, 3) := by decide +kernel
theorem dX5_readDigits_63 : decode cX5_readDigits 63 = .ok (.iaload, 1) := by decide +kernel
theorem dX5_readDigits_64 : decode cX5_readDigits 64 = .ok (.iadd, 1) := by decide +kernel
theorem dX5_readDigits_65 : decode cX5_readDigits 65 = .ok (.bipush 48, 2) := by decide +kernel
theorem dX5_readDigits_67 : decode cX5_readDigits 67 = .ok (.isub, 1) := by decide +kernel
theorem dX5_readDigits_68 : decode cX5_readDigits 68 = .ok (.istore_n 2, 1) := by decide +kernel
theorem dX5_readDigits_69 : decode cX5_readDigits 69 = .ok (.aload_n 0, 1) := by decide +kernel
theorem dX5_readDigits_70 : decode cX5_readDigits 70 = .ok (.dup, 1) := by decide +kernel
theorem dX5_readDigits_71 : decode cX5_readDigits 71 = .ok (.getfield 28, 3) := by decide +kernel
theorem dX5_readDigits_74 : decode cX5_readDigits 74 = .ok (.iconst 1, 1) := by decide +kernel
theorem dX5_readDigits_75 : decode cX5_readDigits 75 = .ok (.iadd, 1) := by decide +kernel
theorem dX5_readDigits_76 : decode cX5_readDigits 76 = .ok (.putfield 28, 3) := by decide +kernel
theorem dX5_readDigits_79 : decode cX5_readDigits 79 = .ok (.goto (-72), 3) := by decide +kernel
theorem dX5_readDigits_82 : decode cX5_readDigits 82 = .ok (.aload_n 0, 1) := by decide +kernel
theorem dX5_readDigits_83 : decode cX5_readDigits 83 = .ok (.iload_n 2, 1) := by decide +kernel
theorem dX5_readDigits_84 : decode cX5_readDigits 84 = .ok (.invokevirtual 60, 3) := by decide +kernel
theorem dX5_readDigits_87 : decode cX5_readDigits 87 = .ok (.return_, 1) := by decide +kernel
def kX5_readDigits (live : am_E) (Ret : am_R) : am_code := [(0, am_aload 0 1), (1, am_getI live 5 3 4), (4, am_istore 1 3 5), (5, am_const (.int 0) 6), (6, am_istore 2 3 7), (7, am_aload 0 8), (8, am_getI live 5 3 11), (11, am_aload 0 12), (12, am_getI live 5 5 15), (15, am_if2 (fun x y => y ≤ x) 82 18), (18, am_aload 0 19), (19, am_getR live 5 0 22), (22, am_aload 0 23), (23, am_getI live 5 3 26), (26, am_ald live 0 27), (27, am_callS live 1 TX5_isDigit 30), (30, am_if1 (fun x => x = 0) 82 33), (33, am_aload 0 34), (34, am_getI live 5 3 37), (37, am_iload 1 38), (38, am_i2 (fun x y => x - y) 39), (39, am_const (.int 6) 41), (41, am_if2 (fun x y => x < y) 51 44), (44, am_aload 0 45), (45, am_iload 1 46), (46, am_const (.int 2) 47), (47, am_callV live 5 2 TX5_blame 50), (50, am_retV Ret), (51, am_const (.int 10) 53), (53, am_iload 2 54), (54, am_i2 (fun x y => x * y) 55), (55, am_aload 0 56), (56, am_getR live 5 0 59), (59, am_aload 0 60), (60, am_getI live 5 3 63), (63, am_ald live 0 64), (64, am_i2 (fun x y => x + y) 65), (65, am_const (.int 48) 67), (67, am_i2 (fun x y => x - y) 68), (68, am_istore 2 3 69), (69, am_aload 0 70), (70, am_dup 71), (71, am_getI live 5 3 74), (74, am_const (.int 1) 75), (75, am_i2 (fun x y => x + y) 76), (76, am_putI live 5 3 79), (79, am_goto 7), (82, am_aload 0 83), (83, am_iload 2 84), (84, am_callV live 5 1 TX5_emit 87), (87, am_retV Ret)]
theorem koX5_readDigits (live : am_E) (Ret : am_R) : ∀ q ∈ kX5_readDigits live Ret, am_ok RX5 cX5_readDigits 3 none 1 22 live Ret q.1 q.2 :=
  am_kc (ak_aload_n dX5_readDigits_0 rfl rfl) <|
  am_kc (ak_getI (C := RX5) (T := TX5) (N := 7) rfl inX5w (by decide) rfl rfl rfl wd_171 dX5_readDigits_1 rfl) <|
  am_kc (ak_istore_n dX5_readDigits_4 rfl rfl) <|
  am_kc (ak_iconst dX5_readDigits_5 (by decide +kernel) rfl) <|
  am_kc (ak_istore_n dX5_readDigits_6 rfl rfl) <|
  am_kc (ak_aload_n dX5_readDigits_7 rfl rfl) <|
  am_kc (ak_getI (C := RX5) (T := TX5) (N := 7) rfl inX5w (by decide) rfl rfl rfl wd_171 dX5_readDigits_8 rfl) <|
  am_kc (ak_aload_n dX5_readDigits_11 rfl rfl) <|
  am_kc (ak_getI (C := RX5) (T := TX5) (N := 7) rfl inX5w (by decide) rfl rfl rfl wd_173 dX5_readDigits_12 rfl) <|
  am_kc (ak_icmp_ge dX5_readDigits_15 (by decide +kernel) rfl) <|
  am_kc (ak_aload_n dX5_readDigits_18 rfl rfl) <|
  am_kc (ak_getR (C := RX5) (T := TX5) (N := 7) rfl inX5w (by decide) rfl rfl rfl wd_168 dX5_readDigits_19 rfl) <|
  am_kc (ak_aload_n dX5_readDigits_22 rfl rfl) <|
  am_kc (ak_getI (C := RX5) (T := TX5) (N := 7) rfl inX5w (by decide) rfl rfl rfl wd_171 dX5_readDigits_23 rfl) <|
  am_kc (ak_iald (t := 0) (fun _ => rfl) rfl dX5_readDigits_26 rfl) <|
  am_kc (ak_callS metX5_isDigit ⟨rfl, by decide +kernel, by decide +kernel, by decide +kernel⟩ (am_w4 wd_696 wd_697 wd_65 wd_698) (by decide) dX5_readDigits_27 rfl) <|
  am_kc (ak_if_eq dX5_readDigits_30 (by decide +kernel) rfl) <|
  am_kc (ak_aload_n dX5_readDigits_33 rfl rfl) <|
  am_kc (ak_getI (C := RX5) (T := TX5) (N := 7) rfl inX5w (by decide) rfl rfl rfl wd_171 dX5_readDigits_34 rfl) <|
  am_kc (ak_iload_n dX5_readDigits_37 rfl rfl) <|
  am_kc (ak_isub dX5_readDigits_38 rfl) <|
  am_kc (ak_bipush dX5_readDigits_39 (by decide +kernel) rfl) <|
  am_kc (ak_icmp_lt dX5_readDigits_41 (by decide +kernel) rfl) <|
  am_kc (ak_aload_n dX5_readDigits_44 rfl rfl) <|
  am_kc (ak_iload_n dX5_readDigits_45 rfl rfl) <|
  am_kc (ak_iconst dX5_readDigits_46 (by decide +kernel) rfl) <|
  am_kc (ak_callV (C := RX5) (F := TX5) (N := 7) metX5_blame rfl ⟨rfl, by decide +kernel, by decide +kernel, by decide +kernel⟩ (am_w5 wd_676 wd_678 wd_14 wd_65 wd_679) (by decide) dX5_readDigits_47 rfl) <|
  am_kc (ak_retV dX5_readDigits_50) <|
  am_kc (ak_bipush dX5_readDigits_51 (by decide +kernel) rfl) <|
  am_kc (ak_iload_n dX5_readDigits_53 rfl rfl) <|
  am_kc (ak_imul dX5_readDigits_54 rfl) <|
  am_kc (ak_aload_n dX5_readDigits_55 rfl rfl) <|
  am_kc (ak_getR (C := RX5) (T := TX5) (N := 7) rfl inX5w (by decide) rfl rfl rfl wd_168 dX5_readDigits_56 rfl) <|
  am_kc (ak_aload_n dX5_readDigits_59 rfl rfl) <|
  am_kc (ak_getI (C := RX5) (T := TX5) (N := 7) rfl inX5w (by decide) rfl rfl rfl wd_171 dX5_readDigits_60 rfl) <|
  am_kc (ak_iald (t := 0) (fun _ => rfl) rfl dX5_readDigits_63 rfl) <|
  am_kc (ak_iadd dX5_readDigits_64 rfl) <|
  am_kc (ak_bipush dX5_readDigits_65 (by decide +kernel) rfl) <|
  am_kc (ak_isub dX5_readDigits_67 rfl) <|
  am_kc (ak_istore_n dX5_readDigits_68 rfl rfl) <|
  am_kc (ak_aload_n dX5_readDigits_69 rfl rfl) <|
  am_kc (ak_dup dX5_readDigits_70 rfl) <|
  am_kc (ak_getI (C := RX5) (T := TX5) (N := 7) rfl inX5w (by decide) rfl rfl rfl wd_171 dX5_readDigits_71 rfl) <|
  am_kc (ak_iconst dX5_readDigits_74 (by decide +kernel) rfl) <|
  am_kc (ak_iadd dX5_readDigits_75 rfl) <|
  am_kc (ak_putI (C := RX5) (T := TX5) (N := 7) rfl inX5w tyX5_ok nmX5 (by decide) rfl rfl rfl rfl (by decide +kernel) wd_171 dX5_readDigits_76 rfl) <|
  am_kc (ak_goto dX5_readDigits_79 (by decide +kernel)) <|
  am_kc (ak_aload_n dX5_readDigits_82 rfl rfl) <|
  am_kc (ak_iload_n dX5_readDigits_83 rfl rfl) <|
  am_kc (ak_callV (C := RX5) (F := TX5) (N := 7) metX5_emit rfl ⟨rfl, by decide +kernel, by decide +kernel, by decide +kernel⟩ (am_w5 wd_703 wd_705 wd_20 wd_65 wd_706) (by decide) dX5_readDigits_84 rfl) <|
  am_kc (ak_retV dX5_readDigits_87) <| am_kn
def TX5_readDigits : am_T := fun live as M R => match as with
  | [.ref t] => am_tP live t (fun s c => am_tI M t ∧ ∀ M', am_ch (am_tS t c) M M' → am_tI M' t → R none M')
  | _ => False
def JX5_readDigits : am_E → List Value → am_M → am_R → am_inv := fun live as M0 _ pc => match as with
  | [.ref t] => (match pc with
    | 7 => some ([0, 1, 2], fun k L st M => ∃ b v : Int32, L = [(0, .ref t), (1, .int b), (2, .int v)] ∧ st = [] ∧ k = ((51 - (M.1 t 3).toInt).toNat, 0) ∧ am_ch (am_tS t ((live.2 t 1).getD 0)) M0 M ∧ am_tI M t)
    | _ => none)
  | _ => none
set_option maxRecDepth 100000 in
set_option maxHeartbeats 4000000 in
theorem metX5_readDigits : am_Met yX5_readDigits cX5_readDigits 3 none (1) (22) TX5_readDigits := by
  refine am_met (own := RX5) (by decide +kernel) rfl kX5_readDigits koX5_readDigits 60 JX5_readDigits ?_ ?_
  · intro live as M Ret h
    unfold TX5_readDigits at h
    split at h
    · next t =>
      refine ⟨Nat.le_of_ble_eq_true rfl, ?_⟩
      change am_wp _ _ _ _ [(0, Value.ref t)] _ _
      have hh := am_tP_mp h
      clear h
      obtain ⟨s, c, h2, h6, hb, h1, h3, h7, h4, h8, h9, h5, h10, hT, h⟩ := hh
      repeat' (first | (with_reducible exact hT) | (with_reducible exact h1) | (with_reducible exact h2) | (with_reducible exact h3) | (with_reducible exact hb) | (with_reducible exact h6) | (with_reducible exact h7) | (refine Exists.intro _ (Exists.intro _ (And.intro h2 (And.intro h6 ?_)))) | (refine Exists.intro _ (And.intro h2 ?_)) | (refine Exists.intro _ (And.intro h6 ?_)) | apply And.intro | exact rfl | intro hx | (refine Exists.intro _ (And.intro rfl ?_)) | ((with_reducible change _ = true); simp only [h1, h2, h3, hb, h6, h7, Bool.true_and]; rfl))
      all_goals try first | (with_reducible change am_tI _ _) | (change Ret _ _) | (change Ret _ _ _) | (change Exists _)
      all_goals try dsimp only at *
      all_goals try exact absurd ‹(1000 : Int64) = 0› (by decide)
      exact ⟨_, _, _, rfl, rfl, rfl, am_ch.rf, hT⟩
    · exact h.elim
  · intro live as M0 Ret h k pc I hI L st M hi
    unfold TX5_readDigits at h
    split at h
    · next t =>
      have hh := am_tP_mp h
      clear h
      obtain ⟨s, c, h2, h6, hb, h1, h3, h7, h4, h8, h9, h5, h10, hT, h⟩ := hh
      change (match pc with | 7 => _ | _ => none) = _ at hI
      split at hI
      · cases hI
        obtain ⟨b, v, rfl, rfl, rfl, e1, e2⟩ := hi
        have f1 := e1
        rw [h6] at f1
        have hcd : 0 ≤ (M.1 t 2).toInt := by obtain ⟨-, q1, q2, q3⟩ := e2; exact q1.1
        repeat' (first | (with_reducible exact e2) | (with_reducible exact hcd) | (with_reducible exact h1) | (with_reducible exact h2) | (with_reducible exact h3) | (with_reducible exact hb) | (with_reducible exact h6) | (with_reducible exact h7) | (refine Exists.intro _ (Exists.intro _ (And.intro h2 (And.intro h6 ?_)))) | (refine Exists.intro _ (And.intro h2 ?_)) | (refine Exists.intro _ (And.intro h6 ?_)) | apply And.intro | exact rfl | intro hx | (refine Exists.intro _ (And.intro rfl ?_)) | ((with_reducible change _ = true); simp only [h1, h2, h3, hb, h6, h7, Bool.true_and]; rfl))
        all_goals try first | (with_reducible change am_tI _ _) | (change Ret _ _) | (change Ret _ _ _) | (change Exists _)
        all_goals try dsimp only at *
        all_goals try exact absurd ‹(1000 : Int64) = 0› (by decide)
        all_goals have hz : (M.1 t 3).toInt ≤ (M.1 t 5).toInt ∧ 0 ≤ (M.1 t 3).toInt ∧ (M.1 t 5).toInt ≤ 50 := by obtain ⟨-, q1, q2, q3⟩ := e2; exact ⟨q2.2, q2.1, q3⟩
        all_goals first
          | exact h _ (am_ch_emit f1) (am_tI_emit e2 h10)
          | exact h _ (am_ch_blame f1) (am_tI_blame e2)
          | (simp only [i_lt, i_le, h4, Int32.reduceToInt] at *; omega)
          | skip
        all_goals
          have hlt : (M.1 t 3).toInt < (M.1 t 5).toInt := by simp only [i_le] at *; omega
          have hi := am_tI_inc e2 hlt
          refine ⟨_, Or.inl ?_, _, _, rfl, rfl, rfl, e1.wI am_tS_3, hi.1⟩
          simp [am_wI_1, -Int32.toInt_add]
          omega
      · cases hI
    · exact h.elim
