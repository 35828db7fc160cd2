/-! Rows -/
theorem dX3_put_0 : decode cX3_put 0 = .ok (.iload_n 1, 1) := by decide +kernel
theorem dX3_put_1 : decode cX3_put 1 = .ok (.aload_n 0, 1) := by decide +kernel
theorem dX3_put_2 : decode cX3_put 2 = .ok (.getfield 15, 3) := by decide +kernel
theorem dX3_put_5 : decode cX3_put 5 = .ok (.imul, 1) := by decide +kernel
theorem dX3_put_6 : decode cX3_put 6 = .ok (.iload_n 2, 1) := by decide +kernel
theorem dX3_put_7 : decode cX3_put 7 = .ok (.iadd, 1) := by decide +kernel
theorem dX3_put_8 : decode cX3_put 8 = .ok (.istore 4, 2) := by decide +kernel
theorem dX3_put_10 : decode cX3_put 10 = .ok (.iload_n 2, 1) := by decide +kernel
theorem dX3_put_11 : decode cX3_put 11 = .ok (.aload_n 0, 1) := by decide +kernel
theorem dX3_put_12 : decode cX3_put 12 = .ok (.getfield 15, 3) := by decide +kernel
theorem dX3_put_15 : decode cX3_put 15 = .ok (.if_icmp .ge 26, 3) := by decide +kernel
theorem dX3_put_18 : decode cX3_put 18 = .ok (.iload 4, 2) := by decide +kernel
theorem dX3_put_20 : decode cX3_put 20 = .ok (.ifCond .lt 21, 3) := by decide +kernel
theorem dX3_put_23 : decode cX3_put 23 = .ok (.iload 4, 2) := by decide +kernel
theorem dX3_put_25 : decode cX3_put 25 = .ok (.aload_n 0, 1) := by decide +kernel
theorem dX3_put_26 : decode cX3_put 26 = .ok (.getfield 9, 3) := by decide +kernel
theorem dX3_put_29 : decode cX3_put 29 = .ok (.arraylength, 1) := by decide +kernel
theorem dX3_put_30 : decode cX3_put 30 = .ok (.if_icmp .ge 11, 3) := by decide +kernel
theorem dX3_put_33 : decode cX3_put 33 = .ok (.aload_n 0, 1) := by decide +kernel
theorem dX3_put_34 : decode cX3_put 34 = .ok (.getfield 9, 3) := by decide +kernel
theorem dX3_put_37 : decode cX3_put 37 = .ok (.iload 4, 2) := by decide +kernel
theorem dX3_put_39 : decode cX3_put 39 = .ok (.iload_n 3, 1) := by decide +kernel
theorem dX3_put_40 : decode cX3_put 40 = .ok (.iastore, 1) := by decide +kernel
theorem dX3_put_41 : decode cX3_put 41 = .ok (.return_, 1) := by decide +kernel
def kX3_put (live : am_E) (Ret : am_R) : am_code := [(0, am_iload 1 1), (1, am_aload 0 2), (2, am_getI live 3 1 5), (5, am_i2 (fun x y => x * y) 6), (6, am_iload 2 7), (7, am_i2 (fun x y => x + y) 8), (8, am_istore 4 5 10), (10, am_iload 2 11), (11, am_aload 0 12), (12, am_getI live 3 1 15), (15, am_if2 (fun x y => y ≤ x) 41 18), (18, am_iload 4 20), (20, am_if1 (fun x => x < 0) 41 23), (23, am_iload 4 25), (25, am_aload 0 26), (26, am_getR live 3 0 29), (29, am_alen live 0 30), (30, am_if2 (fun x y => y ≤ x) 41 33), (33, am_aload 0 34), (34, am_getR live 3 0 37), (37, am_iload 4 39), (39, am_iload 3 40), (40, am_ast live 0 41), (41, am_retV Ret)]
theorem koX3_put (live : am_E) (Ret : am_R) : ∀ q ∈ kX3_put live Ret, am_ok RX3 cX3_put 5 none 0 0 live Ret q.1 q.2 :=
  am_kc (ak_iload_n dX3_put_0 rfl rfl) <|
  am_kc (ak_aload_n dX3_put_1 rfl rfl) <|
  am_kc (ak_getI (C := RX3) (T := TX3) (N := 3) rfl inX3w (by decide) rfl rfl rfl wd_148 dX3_put_2 rfl) <|
  am_kc (ak_imul dX3_put_5 rfl) <|
  am_kc (ak_iload_n dX3_put_6 rfl rfl) <|
  am_kc (ak_iadd dX3_put_7 rfl) <|
  am_kc (ak_istore dX3_put_8 rfl) <|
  am_kc (ak_iload_n dX3_put_10 rfl rfl) <|
  am_kc (ak_aload_n dX3_put_11 rfl rfl) <|
  am_kc (ak_getI (C := RX3) (T := TX3) (N := 3) rfl inX3w (by decide) rfl rfl rfl wd_148 dX3_put_12 rfl) <|
  am_kc (ak_icmp_ge dX3_put_15 (by decide +kernel) rfl) <|
  am_kc (ak_iload dX3_put_18 rfl) <|
  am_kc (ak_if_lt dX3_put_20 (by decide +kernel) rfl) <|
  am_kc (ak_iload dX3_put_23 rfl) <|
  am_kc (ak_aload_n dX3_put_25 rfl rfl) <|
  am_kc (ak_getR (C := RX3) (T := TX3) (N := 3) rfl inX3w (by decide) rfl rfl rfl wd_147 dX3_put_26 rfl) <|
  am_kc (ak_alen (t := 0) (fun _ => rfl) dX3_put_29 rfl) <|
  am_kc (ak_icmp_ge dX3_put_30 (by decide +kernel) rfl) <|
  am_kc (ak_aload_n dX3_put_33 rfl rfl) <|
  am_kc (ak_getR (C := RX3) (T := TX3) (N := 3) rfl inX3w (by decide) rfl rfl rfl wd_147 dX3_put_34 rfl) <|
  am_kc (ak_iload dX3_put_37 rfl) <|
  am_kc (ak_iload_n dX3_put_39 rfl rfl) <|
  am_kc (ak_iast (t := 0) (fun _ => rfl) rfl dX3_put_40 rfl) <|
  am_kc (ak_retV dX3_put_41) <| am_kn
def TX3_put : am_T := fun live as M R => match as with
  | [.ref r, .int a, .int b, .int v] => am_ex (live.2 r 0) (fun c => am_if (am_rc live r c) (R none (am_rput M r c a b v)))
  | _ => False
set_option maxRecDepth 100000 in
set_option maxHeartbeats 4000000 in
theorem metX3_put : am_Met yX3_put cX3_put 5 none (0) (0) TX3_put := by
  refine am_met (own := RX3) (by decide +kernel) rfl kX3_put koX3_put 60 (fun _ _ _ _ _ => none) (fun live as M Ret h => ?_) (fun _ _ _ _ _ _ _ _ hI => by cases hI)
  unfold TX3_put at h
  split at h
  · next r a b v =>
    refine ⟨Nat.le_of_ble_eq_true rfl, ?_⟩
    change am_wp _ _ _ _ [(0, Value.ref r), (1, Value.int a), (2, Value.int b), (3, Value.int v)] _ _
    have hh := am_qm h
    clear h
    obtain ⟨c, h2, h⟩ := hh
    have hh := am_if_mp h
    clear h
    obtain ⟨hb, h⟩ := hh
    obtain ⟨h1, h3, h4, h5⟩ := am_rc_spec hb
    repeat' (first | (with_reducible exact h1) | (with_reducible exact h2) | (with_reducible exact h3) | (refine Exists.intro _ (And.intro h2 ?_)) | apply And.intro | exact rfl | intro hx | (refine Exists.intro _ (And.intro rfl ?_)) | ((with_reducible change _ = true); simp only [h1, h2, h3, Bool.true_and]; rfl))
    all_goals try first | (with_reducible change am_tI _ _) | (change Ret _ _) | (change Ret _ _ _) | (change Exists _)
    all_goals try dsimp only at *
    all_goals try exact absurd ‹(1000 : Int64) = 0› (by decide)
    · rw [am_rput_f (fun q => by have := q.1; simp only [i_lt, i_le] at *; omega)] at h; exact h
    · rw [am_rput_f (fun q => am_in_no1 ‹_› q.2)] at h; exact h
    · rw [am_rput_f (fun q => am_in_no2 h4 ‹_› q.2)] at h; exact h
    · exact (am_in_of h4 ‹_› ‹_›).1
    · exact (am_in_of h4 ‹_› ‹_›).2
    · rw [am_rput_t (by simp only [i_lt, i_le] at *; omega) (am_in_of h4 ‹_› ‹_›)] at h; exact h
  · exact h.elim
set_option maxRecDepth 100000 in
theorem wd_150 : Cond.fieldLink "LearnLoans$Rows" 19 "LearnLoans$Rows" "size" "I" ∈ am_ws := am_wsi (List.mem_of_getElem? (i := 150) (by rfl)) (by decide +kernel)
set_option maxRecDepth 100000 in
theorem wd_484 : Cond.methodLink "LearnLoans$Rows" 22 yX3_put ∈ am_ws := am_wsi (List.mem_of_getElem? (i := 484) (by rfl)) (by decide +kernel)
set_option maxRecDepth 100000 in
theorem wd_485 : Cond.instanceMethod yX3_put ∈ am_ws := am_wsi (List.mem_of_getElem? (i := 485) (by rfl)) (by decide +kernel)
set_option maxRecDepth 100000 in
theorem wd_486 : Cond.selects "LearnLoans$Rows" yX3_put yX3_put ∈ am_ws := am_wsi (List.mem_of_getElem? (i := 486) (by rfl)) (by decide +kernel)
set_option maxRecDepth 100000 in
theorem wd_64 : Cond.initialized "LearnLoans$Rows" ∈ am_ws := am_wsi (List.mem_of_getElem? (i := 64) (by rfl)) (by decide +kernel)
set_option maxRecDepth 100000 in
theorem wd_487 : Cond.code yX3_put cX3_put 5 none ∈ am_ws := am_wsi (List.mem_of_getElem? (i := 487) (by rfl)) (by decide +kernel)
theorem dX3_add_0 : decode cX3_add 0 = .ok (.aload_n 0, 1) := by decide +kernel
theorem dX3_add_1 : decode cX3_add 1 = .ok (.aload_n 0, 1) := by decide +kernel
theorem dX3_add_2 : decode cX3_add 2 = .ok (.getfield 19, 3) := by decide +kernel
theorem dX3_add_5 : decode cX3_add 5 = .ok (.iconst 0, 1) := by decide +kernel
theorem dX3_add_6 : decode cX3_add 6 = .ok (.iload_n 1, 1) := by decide +kernel
theorem dX3_add_7 : decode cX3_add 7 = .ok (.invokevirtual 22, 3) := by decide +kernel
theorem dX3_add_10 : decode cX3_add 10 = .ok (.aload_n 0, 1) := by decide +kernel
theorem dX3_add_11 : decode cX3_add 11 = .ok (.aload_n 0, 1) := by decide +kernel
theorem dX3_add_12 : decode cX3_add 12 = .ok (.getfield 19, 3) := by decide +kernel
theorem dX3_add_15 : decode cX3_add 15 = .ok (.iconst 1, 1) := by decide +kernel
theorem dX3_add_16 : decode cX3_add 16 = .ok (.iload_n 2, 1) := by decide +kernel
theorem dX3_add_17 : decode cX3_add 17 = .ok (.invokevirtual 22, 3) := by decide +kernel
theorem dX3_add_20 : decode cX3_add 20 = .ok (.aload_n 0, 1) := by decide +kernel
theorem dX3_add_21 : decode cX3_add 21 = .ok (.aload_n 0, 1) := by decide +kernel
theorem dX3_add_22 : decode cX3_add 22 = .ok (.getfield 19, 3) := by decide +kernel
theorem dX3_add_25 : decode cX3_add 25 = .ok (.iconst 2, 1) := by decide +kernel
theorem dX3_add_26 : decode cX3_add 26 = .ok (.iload_n 3, 1) := by decide +kernel
theorem dX3_add_27 : decode cX3_add 27 = .ok (.invokevirtual 22, 3) := by decide +kernel
theorem dX3_add_30 : decode cX3_add 30 = .ok (.aload_n 0, 1) := by decide +kernel
theorem dX3_add_31 : decode cX3_add 31 = .ok (.dup, 1) := by decide +kernel
theorem dX3_add_32 : decode cX3_add 32 = .ok (.getfield 19, 3) := by decide +kernel
theorem dX3_add_35 : decode cX3_add 35 = .ok (.iconst 1, 1) := by decide +kernel
theorem dX3_add_36 : decode cX3_add 36 = .ok (.iadd, 1) := by decide +kernel
theorem dX3_add_37 : decode cX3_add 37 = .ok (.putfield 19, 3) := by decide +kernel
theorem dX3_add_40 : decode cX3_add 40 = .ok (.aload_n 0, 1) := by decide +kernel
theorem dX3_add_41 : decode cX3_add 41 = .ok (.getfield 19, 3) := by decide +kernel
theorem dX3_add_44 : decode cX3_add 44 = .ok (.iconst 1, 1) := by decide +kernel
theorem dX3_add_45 : decode cX3_add 45 = .ok (.isub, 1) := by decide +kernel
theorem dX3_add_46 : decode cX3_add 46 = .ok (.ireturn, 1) := by decide +kernel
def kX3_add (live : am_E) (Ret : am_R) : am_code := [(0, am_aload 0 1), (1, am_aload 0 2), (2, am_getI live 3 2 5), (5, am_const (.int 0) 6), (6, am_iload 1 7), (7, am_callV live 3 3 TX3_put 10), (10, am_aload 0 11), (11, am_aload 0 12), (12, am_getI live 3 2 15), (15, am_const (.int 1) 16), (16, am_iload 2 17), (17, am_callV live 3 3 TX3_put 20), (20, am_aload 0 21), (21, am_aload 0 22), (22, am_getI live 3 2 25), (25, am_const (.int 2) 26), (26, am_iload 3 27), (27, am_callV live 3 3 TX3_put 30), (30, am_aload 0 31), (31, am_dup 32), (32, am_getI live 3 2 35), (35, am_const (.int 1) 36), (36, am_i2 (fun x y => x + y) 37), (37, am_putI live 3 2 40), (40, am_aload 0 41), (41, am_getI live 3 2 44), (44, am_const (.int 1) 45), (45, am_i2 (fun x y => x - y) 46), (46, am_retI Ret)]
theorem koX3_add (live : am_E) (Ret : am_R) : ∀ q ∈ kX3_add live Ret, am_ok RX3 cX3_add 4 (some .int) 1 24 live Ret q.1 q.2 :=
  am_kc (ak_aload_n dX3_add_0 rfl rfl) <|
  am_kc (ak_aload_n dX3_add_1 rfl rfl) <|
  am_kc (ak_getI (C := RX3) (T := TX3) (N := 3) rfl inX3w (by decide) rfl rfl rfl wd_150 dX3_add_2 rfl) <|
  am_kc (ak_iconst dX3_add_5 (by decide +kernel) rfl) <|
  am_kc (ak_iload_n dX3_add_6 rfl rfl) <|
  am_kc (ak_callV (C := RX3) (F := TX3) (N := 3) metX3_put rfl ⟨rfl, by decide +kernel, by decide +kernel, by decide +kernel⟩ (am_w5 wd_484 wd_485 wd_486 wd_64 wd_487) (by decide) dX3_add_7 rfl) <|
  am_kc (ak_aload_n dX3_add_10 rfl rfl) <|
  am_kc (ak_aload_n dX3_add_11 rfl rfl) <|
  am_kc (ak_getI (C := RX3) (T := TX3) (N := 3) rfl inX3w (by decide) rfl rfl rfl wd_150 dX3_add_12 rfl) <|
  am_kc (ak_iconst dX3_add_15 (by decide +kernel) rfl) <|
  am_kc (ak_iload_n dX3_add_16 rfl rfl) <|
  am_kc (ak_callV (C := RX3) (F := TX3) (N := 3) metX3_put rfl ⟨rfl, by decide +kernel, by decide +kernel, by decide +kernel⟩ (am_w5 wd_484 wd_485 wd_486 wd_64 wd_487) (by decide) dX3_add_17 rfl) <|
  am_kc (ak_aload_n dX3_add_20 rfl rfl) <|
  am_kc (ak_aload_n dX3_add_21 rfl rfl) <|
  am_kc (ak_getI (C := RX3) (T := TX3) (N := 3) rfl inX3w (by decide) rfl rfl rfl wd_150 dX3_add_22 rfl) <|
  am_kc (ak_iconst dX3_add_25 (by decide +kernel) rfl) <|
  am_kc (ak_iload_n dX3_add_26 rfl rfl) <|
  am_kc (ak_callV (C := RX3) (F := TX3) (N := 3) metX3_put rfl ⟨rfl, by decide +kernel, by decide +kernel, by decide +kernel⟩ (am_w5 wd_484 wd_485 wd_486 wd_64 wd_487) (by decide) dX3_add_27 rfl) <|
  am_kc (ak_aload_n dX3_add_30 rfl rfl) <|
  am_kc (ak_dup dX3_add_31 rfl) <|
  am_kc (ak_getI (C := RX3) (T := TX3) (N := 3) rfl inX3w (by decide) rfl rfl rfl wd_150 dX3_add_32 rfl) <|
  am_kc (ak_iconst dX3_add_35 (by decide +kernel) rfl) <|
  am_kc (ak_iadd dX3_add_36 rfl) <|
  am_kc (ak_putI (C := RX3) (T := TX3) (N := 3) rfl inX3w tyX3_ok nmX3 (by decide) rfl rfl rfl rfl (by decide +kernel) wd_150 dX3_add_37 rfl) <|
  am_kc (ak_aload_n dX3_add_40 rfl rfl) <|
  am_kc (ak_getI (C := RX3) (T := TX3) (N := 3) rfl inX3w (by decide) rfl rfl rfl wd_150 dX3_add_41 rfl) <|
  am_kc (ak_iconst dX3_add_44 (by decide +kernel) rfl) <|
  am_kc (ak_isub dX3_add_45 rfl) <|
  am_kc (ak_retI dX3_add_46) <| am_kn
def am_radd (M : am_M) (r c : Nat) (x y z : Int32) : am_M := am_wI (am_rput (am_rput (am_rput M r c (M.1 r 2) 0 x) r c (M.1 r 2) 1 y) r c (M.1 r 2) 2 z) r 2 (M.1 r 2 + 1)
def TX3_add : am_T := fun live as M R => match as with
  | [.ref r, .int x, .int y, .int z] => am_ex (live.2 r 0) (fun c => am_if (am_rc live r c) (R (some (.int (M.1 r 2 + 1 - 1))) (am_radd M r c x y z)))
  | _ => False
set_option maxRecDepth 100000 in
set_option maxHeartbeats 4000000 in
theorem metX3_add : am_Met yX3_add cX3_add 4 (some .int) (1) (24) TX3_add := by
  refine am_met (own := RX3) (by decide +kernel) rfl kX3_add koX3_add 60 (fun _ _ _ _ _ => none) (fun live as M Ret h => ?_) (fun _ _ _ _ _ _ _ _ hI => by cases hI)
  unfold TX3_add at h
  split at h
  · next r x y z =>
    refine ⟨Nat.le_of_ble_eq_true rfl, ?_⟩
    change am_wp _ _ _ _ [(0, Value.ref r), (1, Value.int x), (2, Value.int y), (3, Value.int z)] _ _
    have hh := am_qm h
    clear h
    obtain ⟨c, h2, h⟩ := hh
    have hh := am_if_mp h
    clear h
    obtain ⟨hb, h⟩ := hh
    obtain ⟨h1, h3, h4, h5⟩ := am_rc_spec hb
    repeat' (first | (with_reducible exact h1) | (with_reducible exact h2) | (with_reducible exact hb) | (refine Exists.intro _ (And.intro h2 ?_)) | apply And.intro | exact rfl | intro hx | (refine Exists.intro _ (And.intro rfl ?_)) | ((with_reducible change _ = true); simp only [h1, h2, hb, Bool.true_and]; rfl))
    all_goals try first | (with_reducible change am_tI _ _) | (change Ret _ _) | (change Ret _ _ _) | (change Exists _)
    all_goals try dsimp only at *
    all_goals try exact absurd ‹(1000 : Int64) = 0› (by decide)
    simp only [am_wI_1, am_rput_ne h5, and_self, if_true]
    exact h
  · exact h.elim
theorem dX3_dropLast_0 : decode cX3_dropLast 0 = .ok (.aload_n 0, 1) := by decide +kernel
theorem dX3_dropLast_1 : decode cX3_dropLast 1 = .ok (.getfield 19, 3) := by decide +kernel
theorem dX3_dropLast_4 : decode cX3_dropLast 4 = .ok (.ifCond .le 13, 3) := by decide +kernel
theorem dX3_dropLast_7 : decode cX3_dropLast 7 = .ok (.aload_n 0, 1) := by decide +kernel
theorem dX3_dropLast_8 : decode cX3_dropLast 8 = .ok (.dup, 1) := by decide +kernel
theorem dX3_dropLast_9 : decode cX3_dropLast 9 = .ok (.getfield 19, 3) := by decide +kernel
theorem dX3_dropLast_12 : decode cX3_dropLast 12 = .ok (.iconst 1, 1) := by decide +kernel
theorem dX3_dropLast_13 : decode cX3_dropLast 13 = .ok (.isub, 1) := by decide +kernel
theorem dX3_dropLast_14 : decode cX3_dropLast 14 = .ok (.putfield 19, 3) := by decide +kernel
theorem dX3_dropLast_17 : decode cX3_dropLast 17 = .ok (.return_, 1) := by decide +kernel
def kX3_dropLast (live : am_E) (Ret : am_R) : am_code := [(0, am_aload 0 1), (1, am_getI live 3 2 4), (4, am_if1 (fun x => x ≤ 0) 17 7), (7, am_aload 0 8), (8, am_dup 9), (9, am_getI live 3 2 12), (12, am_const (.int 1) 13), (13, am_i2 (fun x y => x - y) 14), (14, am_putI live 3 2 17), (17, am_retV Ret)]
theorem koX3_dropLast (live : am_E) (Ret : am_R) : ∀ q ∈ kX3_dropLast live Ret, am_ok RX3 cX3_dropLast 1 none 0 0 live Ret q.1 q.2 :=
  am_kc (ak_aload_n dX3_dropLast_0 rfl rfl) <|
  am_kc (ak_getI (C := RX3) (T := TX3) (N := 3) rfl inX3w (by decide) rfl rfl rfl wd_150 dX3_dropLast_1 rfl) <|
  am_kc (ak_if_le dX3_dropLast_4 (by decide +kernel) rfl) <|
  am_kc (ak_aload_n dX3_dropLast_7 rfl rfl) <|
  am_kc (ak_dup dX3_dropLast_8 rfl) <|
  am_kc (ak_getI (C := RX3) (T := TX3) (N := 3) rfl inX3w (by decide) rfl rfl rfl wd_150 dX3_dropLast_9 rfl) <|
  am_kc (ak_iconst dX3_dropLast_12 (by decide +kernel) rfl) <|
  am_kc (ak_isub dX3_dropLast_13 rfl) <|
  am_kc (ak_putI (C := RX3) (T := TX3) (N := 3) rfl inX3w tyX3_ok nmX3 (by decide) rfl rfl rfl rfl (by decide +kernel) wd_150 dX3_dropLast_14 rfl) <|
  am_kc (ak_retV dX3_dropLast_17) <| am_kn
def TX3_dropLast : am_T := fun live as M R => match as with
  | [.ref r] => am_if (am_isO live 3 r) (R none (am_wIc (0 < M.1 r 2) M r 2 (M.1 r 2 - 1)))
  | _ => False
set_option maxRecDepth 100000 in
set_option maxHeartbeats 4000000 in
theorem metX3_dropLast : am_Met yX3_dropLast cX3_dropLast 1 none (0) (0) TX3_dropLast := by
  refine am_met (own := RX3) (by decide +kernel) rfl kX3_dropLast koX3_dropLast 60 (fun _ _ _ _ _ => none) (fun live as M Ret h => ?_) (fun _ _ _ _ _ _ _ _ hI => by cases hI)
  unfold TX3_dropLast at h
  split at h
  · next r =>
    refine ⟨Nat.le_of_ble_eq_true rfl, ?_⟩
    change am_wp _ _ _ _ [(0, Value.ref r)] _ _
    have hh := am_if_mp h
    clear h
    obtain ⟨h1, h⟩ := hh
    repeat' (first | (with_reducible exact h1) | apply And.intro | exact rfl | intro hx | (refine Exists.intro _ (And.intro rfl ?_)) | ((with_reducible change _ = true); simp only [h1, Bool.true_and]; rfl))
    all_goals try first | (with_reducible change am_tI _ _) | (change Ret _ _) | (change Ret _ _ _) | (change Exists _)
    all_goals try dsimp only at *
    all_goals try exact absurd ‹(1000 : Int64) = 0› (by decide)
    · rw [am_wIc_f (by simp only [i_lt, i_le] at *; omega)] at h; exact h
    · rw [am_wIc_t (by simp only [i_lt, i_le] at *; omega)] at h; exact h
  · exact h.elim
set_option maxRecDepth 100000 in
theorem wd_850 : Cond.methodLink "LearnLoans$Rows" 26 Lib.Math.min.name ∈ am_ws := am_wsi (List.mem_of_getElem? (i := 850) (by rfl)) (by decide +kernel)
set_option maxRecDepth 100000 in
theorem wd_851 : Cond.static Lib.Math.min.name ∈ am_ws := am_wsi (List.mem_of_getElem? (i := 851) (by rfl)) (by decide +kernel)
set_option maxRecDepth 100000 in
theorem wd_852 : Cond.code Lib.Math.min.name Lib.Math.min.code 2 (some .int) ∈ am_ws := am_wsi (List.mem_of_getElem? (i := 852) (by rfl)) (by decide +kernel)
set_option maxRecDepth 100000 in
theorem wd_853 : Cond.methodLink "LearnLoans$Rows" 32 arraycopyName ∈ am_ws := am_wsi (List.mem_of_getElem? (i := 853) (by rfl)) (by decide +kernel)
set_option maxRecDepth 100000 in
theorem wd_501 : Cond.native arraycopyName ∈ am_ws := am_wsi (List.mem_of_getElem? (i := 501) (by rfl)) (by decide +kernel)
set_option maxRecDepth 100000 in
theorem wd_500 : Cond.static arraycopyName ∈ am_ws := am_wsi (List.mem_of_getElem? (i := 500) (by rfl)) (by decide +kernel)
set_option maxRecDepth 100000 in
theorem wd_69 : Cond.initialized "java/lang/System" ∈ am_ws := am_wsi (List.mem_of_getElem? (i := 69) (by rfl)) (by decide +kernel)
theorem dX3_takeOver_0 : decode cX3_takeOver 0 = .ok (.aload_n 1, 1) := by decide +kernel
theorem dX3_takeOver_1 : decode cX3_takeOver 1 = .ok (.getfield 9, 3) := by decide +kernel
theorem dX3_takeOver_4 : decode cX3_takeOver 4 = .ok (.iconst 0, 1) := by decide +kernel
theorem dX3_takeOver_5 : decode cX3_takeOver 5 = .ok (.aload_n 0, 1) := by decide +kernel
theorem dX3_takeOver_6 : decode cX3_takeOver 6 = .ok (.getfield 9, 3) := by decide +kernel
theorem dX3_takeOver_9 : decode cX3_takeOver 9 = .ok (.iconst 0, 1) := by decide +kernel
theorem dX3_takeOver_10 : decode cX3_takeOver 10 = .ok (.aload_n 0, 1) := by decide +kernel
theorem dX3_takeOver_11 : decode cX3_takeOver 11 = .ok (.getfield 9, 3) := by decide +kernel
theorem dX3_takeOver_14 : decode cX3_takeOver 14 = .ok (.arraylength, 1) := by decide +kernel
theorem dX3_takeOver_15 : decode cX3_takeOver 15 = .ok (.aload_n 1, 1) := by decide +kernel
theorem dX3_takeOver_16 : decode cX3_takeOver 16 = .ok (.getfield 9, 3) := by decide +kernel
theorem dX3_takeOver_19 : decode cX3_takeOver 19 = .ok (.arraylength, 1) := by decide +kernel
theorem dX3_takeOver_20 : decode cX3_takeOver 20 = .ok (.invokestatic 26, 3) := by decide +kernel
theorem dX3_takeOver_23 : decode cX3_takeOver 23 = .ok (.invokestatic 32, 3) := by decide +kernel
theorem dX3_takeOver_26 : decode cX3_takeOver 26 = .ok (.aload_n 0, 1) := by decide +kernel
theorem dX3_takeOver_27 : decode cX3_takeOver 27 = .ok (.aload_n 1, 1) := by decide +kernel
theorem dX3_takeOver_28 : decode cX3_takeOver 28 = .ok (.getfield 19, 3) := by decide +kernel
theorem dX3_takeOver_31 : decode cX3_takeOver 31 = .ok (.putfield 19, 3) := by decide +kernel
theorem dX3_takeOver_34 : decode cX3_takeOver 34 = .ok (.return_, 1) := by decide +kernel
def kX3_takeOver (live : am_E) (Ret : am_R) : am_code := [(0, am_aload 1 1), (1, am_getR live 3 0 4), (4, am_const (.int 0) 5), (5, am_aload 0 6), (6, am_getR live 3 0 9), (9, am_const (.int 0) 10), (10, am_aload 0 11), (11, am_getR live 3 0 14), (14, am_alen live 0 15), (15, am_aload 1 16), (16, am_getR live 3 0 19), (19, am_alen live 0 20), (20, am_math2 (fun x y => if y < x then y else x) 31 23), (23, am_copyI live 31 26), (26, am_aload 0 27), (27, am_aload 1 28), (28, am_getI live 3 2 31), (31, am_putI live 3 2 34), (34, am_retV Ret)]
theorem koX3_takeOver (live : am_E) (Ret : am_R) : ∀ q ∈ kX3_takeOver live Ret, am_ok RX3 cX3_takeOver 2 none 1 31 live Ret q.1 q.2 :=
  am_kc (ak_aload_n dX3_takeOver_0 rfl rfl) <|
  am_kc (ak_getR (C := RX3) (T := TX3) (N := 3) rfl inX3w (by decide) rfl rfl rfl wd_147 dX3_takeOver_1 rfl) <|
  am_kc (ak_iconst dX3_takeOver_4 (by decide +kernel) rfl) <|
  am_kc (ak_aload_n dX3_takeOver_5 rfl rfl) <|
  am_kc (ak_getR (C := RX3) (T := TX3) (N := 3) rfl inX3w (by decide) rfl rfl rfl wd_147 dX3_takeOver_6 rfl) <|
  am_kc (ak_iconst dX3_takeOver_9 (by decide +kernel) rfl) <|
  am_kc (ak_aload_n dX3_takeOver_10 rfl rfl) <|
  am_kc (ak_getR (C := RX3) (T := TX3) (N := 3) rfl inX3w (by decide) rfl rfl rfl wd_147 dX3_takeOver_11 rfl) <|
  am_kc (ak_alen (t := 0) (fun _ => rfl) dX3_takeOver_14 rfl) <|
  am_kc (ak_aload_n dX3_takeOver_15 rfl rfl) <|
  am_kc (ak_getR (C := RX3) (T := TX3) (N := 3) rfl inX3w (by decide) rfl rfl rfl wd_147 dX3_takeOver_16 rfl) <|
  am_kc (ak_alen (t := 0) (fun _ => rfl) dX3_takeOver_19 rfl) <|
  am_kc (ak_imin (am_w4 wd_850 wd_851 wd_68 wd_852) (by decide) dX3_takeOver_20 rfl) <|
  am_kc (ak_copyI (am_w4 wd_853 wd_501 wd_500 wd_69) (by decide) dX3_takeOver_23 rfl) <|
  am_kc (ak_aload_n dX3_takeOver_26 rfl rfl) <|
  am_kc (ak_aload_n dX3_takeOver_27 rfl rfl) <|
  am_kc (ak_getI (C := RX3) (T := TX3) (N := 3) rfl inX3w (by decide) rfl rfl rfl wd_150 dX3_takeOver_28 rfl) <|
  am_kc (ak_putI (C := RX3) (T := TX3) (N := 3) rfl inX3w tyX3_ok nmX3 (by decide) rfl rfl rfl rfl (by decide +kernel) wd_150 dX3_takeOver_31 rfl) <|
  am_kc (ak_retV dX3_takeOver_34) <| am_kn
def TX3_takeOver : am_T := fun live as M R => match as with
  | [.ref r, .ref r2] => am_ex (live.2 r 0) (fun c => am_ex (live.2 r2 0) (fun c2 => am_if (am_rc live r c && am_rc live r2 c2 && Nat.beq (am_len c) (am_len c2)) (R none (am_wI (am_cI M c (va_cpy (M.1 c2) (M.1 c) 0 0 (am_len c))) r 2 (M.1 r2 2)))))
  | _ => False
set_option maxRecDepth 100000 in
set_option maxHeartbeats 4000000 in
theorem metX3_takeOver : am_Met yX3_takeOver cX3_takeOver 2 none (1) (31) TX3_takeOver := by
  refine am_met (own := RX3) (by decide +kernel) rfl kX3_takeOver koX3_takeOver 60 (fun _ _ _ _ _ => none) (fun live as M Ret h => ?_) (fun _ _ _ _ _ _ _ _ hI => by cases hI)
  unfold TX3_takeOver at h
  split at h
  · next r r2 =>
    refine ⟨Nat.le_of_ble_eq_true rfl, ?_⟩
    change am_wp _ _ _ _ [(0, Value.ref r), (1, Value.ref r2)] _ _
    have hh := am_qm h
    clear h
    obtain ⟨c, h2, h⟩ := hh
    have hh := am_qm h
    clear h
    obtain ⟨c2, h6, h⟩ := hh
    have hh := am_if_mp h
    clear h
    obtain ⟨hb, h⟩ := hh
    simp only [Bool.and_eq_true] at hb
    obtain ⟨⟨hb, hc⟩, he⟩ := hb
    have he := Nat.eq_of_beq_eq_true he
    obtain ⟨h1, h3, h4, h5⟩ := am_rc_spec hb
    obtain ⟨h7, h8, h9, h10⟩ := am_rc_spec hc
    have hne := am_OA h7 h3
    have hn : (Int32.ofNat (am_len c2)).toInt = (am_len c2 : Int) := i_nat (by omega)
    have hn2 : (Int32.ofNat (am_len c2)).toNatClampNeg = am_len c2 := by have := i_clamp (x := Int32.ofNat (am_len c2)) (by omega); omega
    repeat' (first | (with_reducible exact h1) | (with_reducible exact h2) | (with_reducible exact h3) | (with_reducible exact h6) | (with_reducible exact h7) | (with_reducible exact h8) | (refine Exists.intro _ (Exists.intro _ (And.intro h2 (And.intro h6 ?_)))) | (refine Exists.intro _ (And.intro h2 ?_)) | (refine Exists.intro _ (And.intro h6 ?_)) | apply And.intro | exact rfl | intro hx | (refine Exists.intro _ (And.intro rfl ?_)) | ((with_reducible change _ = true); simp only [h1, h2, h3, h6, h7, h8, Bool.true_and]; rfl))
    all_goals try first | (with_reducible change am_tI _ _) | (change Ret _ _) | (change Ret _ _ _) | (change Exists _)
    all_goals try dsimp only at *
    all_goals try exact absurd ‹(1000 : Int64) = 0› (by decide)
    all_goals simp only [he, ite_self, hn, Int32.toInt_zero]
    · omega
    · omega
    · omega
    · omega
    · omega
    · simp only [he, hn2, am_cI_1, hne, if_false] at h ⊢
      exact h
  · exact h.elim
set_option maxRecDepth 100000 in
theorem wd_883 : Cond.constantLong "LearnLoans$Rows" 38 31 ∈ am_ws := am_wsi (List.mem_of_getElem? (i := 883) (by rfl)) (by decide +kernel)
theorem dX3_mixed_0 : decode cX3_mixed 0 = .ok (.aload_n 0, 1) := by decide +kernel
theorem dX3_mixed_1 : decode cX3_mixed 1 = .ok (.getfield 19, 3) := by decide +kernel
theorem dX3_mixed_4 : decode cX3_mixed 4 = .ok (.aload_n 0, 1) := by decide +kernel
theorem dX3_mixed_5 : decode cX3_mixed 5 = .ok (.getfield 15, 3) := by decide +kernel
theorem dX3_mixed_8 : decode cX3_mixed 8 = .ok (.imul, 1) := by decide +kernel
theorem dX3_mixed_9 : decode cX3_mixed 9 = .ok (.aload_n 0, 1) := by decide +kernel
theorem dX3_mixed_10 : decode cX3_mixed 10 = .ok (.getfield 9, 3) := by decide +kernel
theorem dX3_mixed_13 : decode cX3_mixed 13 = .ok (.arraylength, 1) := by decide +kernel
theorem dX3_mixed_14 : decode cX3_mixed 14 = .ok (.invokestatic 26, 3) := by decide +kernel
theorem dX3_mixed_17 : decode cX3_mixed 17 = .ok (.istore_n 3, 1) := by decide +kernel
theorem dX3_mixed_18 : decode cX3_mixed 18 = .ok (.iconst 0, 1) := by decide +kernel
theorem dX3_mixed_19 : decode cX3_mixed 19 = .ok (.istore 4, 2) := by decide +kernel
theorem dX3_mixed_21 : decode cX3_mixed 21 = .ok (.iload 4, 2) := by decide +kernel
theorem dX3_mixed_23 : decode cX3_mixed 23 = .ok (.iload_n 3, 1) := by decide +kernel
theorem dX3_mixed_24 : decode cX3_mixed 24 = .ok (.if_icmp .ge 24, 3) := by decide +kernel
theorem dX3_mixed_27 : decode cX3_mixed 27 = .ok (.ldc2_w 38, 3) := by decide +kernel
theorem dX3_mixed_30 : decode cX3_mixed 30 = .ok (.lload_n 1, 1) := by decide +kernel
theorem dX3_mixed_31 : decode cX3_mixed 31 = .ok (.lmul, 1) := by decide +kernel
theorem dX3_mixed_32 : decode cX3_mixed 32 = .ok (.aload_n 0, 1) := by decide +kernel
theorem dX3_mixed_33 : decode cX3_mixed 33 = .ok (.getfield 9, 3) := by decide +kernel
theorem dX3_mixed_36 : decode cX3_mixed 36 = .ok (.iload 4, 2) := by decide +kernel
theorem dX3_mixed_38 : decode cX3_mixed 38 = .ok (.iaload, 1) := by decide +kernel
theorem dX3_mixed_39 : decode cX3_mixed 39 = .ok (.i2l, 1) := by decide +kernel
theorem dX3_mixed_40 : decode cX3_mixed 40 = .ok (.ladd, 1) := by decide +kernel
theorem dX3_mixed_41 : decode cX3_mixed 41 = .ok (.lstore_n 1, 1) := by decide +kernel
theorem dX3_mixed_42 : decode cX3_mixed 42 = .ok (.iinc 4 1, 3) := by decide +kernel
theorem dX3_mixed_45 : decode cX3_mixed 45 = .ok (.goto (-24), 3) := by decide +kernel
theorem dX3_mixed_48 : decode cX3_mixed 48 = .ok (.lload_n 1, 1) := by decide +kernel
theorem dX3_mixed_49 : decode cX3_mixed 49 = .ok (.lreturn, 1) := by decide +kernel
def kX3_mixed (live : am_E) (Ret : am_R) : am_code := [(0, am_aload 0 1), (1, am_getI live 3 2 4), (4, am_aload 0 5), (5, am_getI live 3 1 8), (8, am_i2 (fun x y => x * y) 9), (9, am_aload 0 10), (10, am_getR live 3 0 13), (13, am_alen live 0 14), (14, am_math2 (fun x y => if y < x then y else x) 23 17), (17, am_istore 3 5 18), (18, am_const (.int 0) 19), (19, am_istore 4 5 21), (21, am_iload 4 23), (23, am_iload 3 24), (24, am_if2 (fun x y => y ≤ x) 48 27), (27, am_const (.long 31) 30), (30, am_lload 1 31), (31, am_l2 (fun x y => x * y) 32), (32, am_aload 0 33), (33, am_getR live 3 0 36), (36, am_iload 4 38), (38, am_ald live 0 39), (39, am_i2l 40), (40, am_l2 (fun x y => x + y) 41), (41, am_lstore 1 5 42), (42, am_iinc 4 5 1 45), (45, am_goto 21), (48, am_lload 1 49), (49, am_retL Ret)]
theorem koX3_mixed (live : am_E) (Ret : am_R) : ∀ q ∈ kX3_mixed live Ret, am_ok RX3 cX3_mixed 5 (some .long) 1 23 live Ret q.1 q.2 :=
  am_kc (ak_aload_n dX3_mixed_0 rfl rfl) <|
  am_kc (ak_getI (C := RX3) (T := TX3) (N := 3) rfl inX3w (by decide) rfl rfl rfl wd_150 dX3_mixed_1 rfl) <|
  am_kc (ak_aload_n dX3_mixed_4 rfl rfl) <|
  am_kc (ak_getI (C := RX3) (T := TX3) (N := 3) rfl inX3w (by decide) rfl rfl rfl wd_148 dX3_mixed_5 rfl) <|
  am_kc (ak_imul dX3_mixed_8 rfl) <|
  am_kc (ak_aload_n dX3_mixed_9 rfl rfl) <|
  am_kc (ak_getR (C := RX3) (T := TX3) (N := 3) rfl inX3w (by decide) rfl rfl rfl wd_147 dX3_mixed_10 rfl) <|
  am_kc (ak_alen (t := 0) (fun _ => rfl) dX3_mixed_13 rfl) <|
  am_kc (ak_imin (am_w4 wd_850 wd_851 wd_68 wd_852) (by decide) dX3_mixed_14 rfl) <|
  am_kc (ak_istore_n dX3_mixed_17 rfl rfl) <|
  am_kc (ak_iconst dX3_mixed_18 (by decide +kernel) rfl) <|
  am_kc (ak_istore dX3_mixed_19 rfl) <|
  am_kc (ak_iload dX3_mixed_21 rfl) <|
  am_kc (ak_iload_n dX3_mixed_23 rfl rfl) <|
  am_kc (ak_icmp_ge dX3_mixed_24 (by decide +kernel) rfl) <|
  am_kc (ak_ldc2 wd_883 dX3_mixed_27 rfl) <|
  am_kc (ak_lload_n dX3_mixed_30 rfl rfl) <|
  am_kc (ak_lmul dX3_mixed_31 rfl) <|
  am_kc (ak_aload_n dX3_mixed_32 rfl rfl) <|
  am_kc (ak_getR (C := RX3) (T := TX3) (N := 3) rfl inX3w (by decide) rfl rfl rfl wd_147 dX3_mixed_33 rfl) <|
  am_kc (ak_iload dX3_mixed_36 rfl) <|
  am_kc (ak_iald (t := 0) (fun _ => rfl) rfl dX3_mixed_38 rfl) <|
  am_kc (ak_i2l dX3_mixed_39 rfl) <|
  am_kc (ak_ladd dX3_mixed_40 rfl) <|
  am_kc (ak_lstore_n dX3_mixed_41 rfl rfl) <|
  am_kc (ak_iinc dX3_mixed_42 (by decide +kernel) rfl) <|
  am_kc (ak_goto dX3_mixed_45 (by decide +kernel)) <|
  am_kc (ak_lload_n dX3_mixed_48 rfl rfl) <|
  am_kc (ak_retL dX3_mixed_49) <| am_kn
def TX3_mixed : am_T := fun live as M R => match as with
  | [.ref r, .long x] => am_ex (live.2 r 0) (fun c => am_if (am_rc live r c) (∀ y, R (some (.long y)) M))
  | _ => False
def JX3_mixed : am_E → List Value → am_M → am_R → am_inv := fun live as M0 _ pc => match as with
  | [.ref r, .long x] => (match live.2 r 0 with
    | some c => (match pc with
      | 21 => some ([0, 1, 3, 4], fun k L st M => ∃ (y : Int64) (e i : Int32), L = [(0, .ref r), (1, .long y), (3, .int e), (4, .int i)] ∧ st = [] ∧ k = ((am_len c + 1 - i.toInt).toNat, 0) ∧ 0 ≤ i.toInt ∧ e.toInt ≤ am_len c ∧ M = M0)
      | _ => none)
    | none => none)
  | _ => none
set_option maxRecDepth 100000 in
set_option maxHeartbeats 4000000 in
theorem metX3_mixed : am_Met yX3_mixed cX3_mixed 5 (some .long) (1) (23) TX3_mixed := by
  refine am_met (own := RX3) (by decide +kernel) rfl kX3_mixed koX3_mixed 60 JX3_mixed ?_ ?_
  · intro live as M Ret h
    unfold TX3_mixed at h
    split at h
    · next r x =>
      refine ⟨Nat.le_of_ble_eq_true rfl, ?_⟩
      change am_wp _ _ _ _ [(0, Value.ref r), (1, Value.long x)] _ _
      have hh := am_qm h
      clear h
      obtain ⟨c, h2, h⟩ := hh
      have hh := am_if_mp h
      clear h
      obtain ⟨hb, h⟩ := hh
      obtain ⟨h1, h3, h4, h5⟩ := am_rc_spec hb
      have hn : (Int32.ofNat (am_len c)).toInt = (am_len c : Int) := i_nat (by omega)
      have hJ : ∀ pc, JX3_mixed live [.ref r, .long x] M Ret pc = (match pc with
        | 21 => some ([0, 1, 3, 4], fun k L st M' => ∃ (y : Int64) (e i : Int32), L = [(0, .ref r), (1, .long y), (3, .int e), (4, .int i)] ∧ st = [] ∧ k = ((am_len c + 1 - i.toInt).toNat, 0) ∧ 0 ≤ i.toInt ∧ e.toInt ≤ am_len c ∧ M' = M)
        | _ => none) := fun pc => by unfold JX3_mixed; simp only [h2]
      rw [show JX3_mixed live [.ref r, .long x] M Ret = _ from funext hJ]
      repeat' (first | (with_reducible exact h1) | (with_reducible exact h2) | (with_reducible exact h3) | (refine Exists.intro _ (And.intro h2 ?_)) | apply And.intro | exact rfl | intro hx | (refine Exists.intro _ (And.intro rfl ?_)) | ((with_reducible change _ = true); simp only [h1, h2, h3, Bool.true_and]; rfl))
      all_goals try first | (with_reducible change am_tI _ _) | (change Ret _ _) | (change Ret _ _ _) | (change Exists _)
      all_goals try dsimp only at *
      all_goals try exact absurd ‹(1000 : Int64) = 0› (by decide)
      refine ⟨_, _, _, _, rfl, rfl, rfl, by decide, ?_, rfl⟩
      split
      · omega
      · simp only [i_lt] at *; omega
    · exact h.elim
  · intro live as M0 Ret h k pc I hI L st M hi
    unfold TX3_mixed at h
    split at h
    · next r x =>
      have hh := am_qm h
      clear h
      obtain ⟨c, h2, h⟩ := hh
      have hh := am_if_mp h
      clear h
      obtain ⟨hb, h⟩ := hh
      obtain ⟨h1, h3, h4, h5⟩ := am_rc_spec hb
      have hJ : ∀ pc, JX3_mixed live [.ref r, .long x] M0 Ret pc = (match pc with
        | 21 => some ([0, 1, 3, 4], fun k L st M' => ∃ (y : Int64) (e i : Int32), L = [(0, .ref r), (1, .long y), (3, .int e), (4, .int i)] ∧ st = [] ∧ k = ((am_len c + 1 - i.toInt).toNat, 0) ∧ 0 ≤ i.toInt ∧ e.toInt ≤ am_len c ∧ M' = M0)
        | _ => none) := fun pc => by unfold JX3_mixed; simp only [h2]
      rw [show JX3_mixed live [.ref r, .long x] M0 Ret = _ from funext hJ] at hI ⊢
      change (match pc with | 21 => _ | _ => none) = _ at hI
      split at hI
      · cases hI
        obtain ⟨y, e, i, rfl, rfl, rfl, e1, e2, rfl⟩ := hi
        repeat' (first | (with_reducible exact h1) | (with_reducible exact h2) | (with_reducible exact h3) | (refine Exists.intro _ (And.intro h2 ?_)) | apply And.intro | exact rfl | intro hx | (refine Exists.intro _ (And.intro rfl ?_)) | ((with_reducible change _ = true); simp only [h1, h2, h3, Bool.true_and]; rfl))
        all_goals try first | (with_reducible change am_tI _ _) | (change Ret _ _) | (change Ret _ _ _) | (change Exists _)
        all_goals try dsimp only at *
        all_goals try exact absurd ‹(1000 : Int64) = 0› (by decide)
        · exact h _
        · omega
        · simp only [i_lt, i_le] at *; omega
        · refine ⟨_, Or.inl ?_, _, _, i + 1, rfl, rfl, rfl, ?_, e2, rfl⟩
          all_goals simp only [i_lt, i_le] at *
          all_goals
            have hi := i_add (x := i) (y := 1) (by simp only [Int32.reduceToInt]; omega) (by simp only [Int32.reduceToInt]; omega)
            simp only [Int32.reduceToInt] at hi
            omega
      · cases hI
    · exact h.elim
