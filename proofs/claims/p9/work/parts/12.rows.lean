/-! Rows -/
def rwX3_put : List dz_r := [(0, .iload_n 1, 1), (1, .aload_n 0, 1), (2, .getfield 15, 3), (5, .imul, 1), (6, .iload_n 2, 1), (7, .iadd, 1), (8, .istore 4, 2), (10, .iload_n 2, 1), (11, .aload_n 0, 1), (12, .getfield 15, 3), (15, .if_icmp .ge 26, 3), (18, .iload 4, 2), (20, .ifCond .lt 21, 3), (23, .iload 4, 2), (25, .aload_n 0, 1), (26, .getfield 9, 3), (29, .arraylength, 1), (30, .if_icmp .ge 11, 3), (33, .aload_n 0, 1), (34, .getfield 9, 3), (37, .iload 4, 2), (39, .iload_n 3, 1), (40, .iastore, 1), (41, .return_, 1)]
theorem dzX3_put : dz cX3_put rwX3_put := dz_all 0 (by decide +kernel)
def kX3_put (live : am_E) (Ret : am_R) : am_code := [(0, am_iload 1 1), (1, am_aload 0 2), (2, am_getI live 3 1 5), (5, am_i2 (fun x y => x * y) 6), (6, am_iload 2 7), (7, am_i2 (fun x y => x + y) 8), (8, am_istore 4 5 10), (10, am_iload 2 11), (11, am_aload 0 12), (12, am_getI live 3 1 15), (15, am_if2 (fun x y => y ≤ x) 41 18), (18, am_iload 4 20), (20, am_if1 (fun x => x < 0) 41 23), (23, am_iload 4 25), (25, am_aload 0 26), (26, am_getR live 3 0 29), (29, am_alen live 0 30), (30, am_if2 (fun x y => y ≤ x) 41 33), (33, am_aload 0 34), (34, am_getR live 3 0 37), (37, am_iload 4 39), (39, am_iload 3 40), (40, am_ast live 0 41), (41, am_retV Ret)]
theorem koX3_put (live : am_E) (Ret : am_R) : ∀ q ∈ kX3_put live Ret, am_ok RX3 cX3_put 5 none 0 0 live Ret q.1 q.2 :=
  am_kz dzX3_put <|
  am_kd (fun d => ak_iload_n d rfl rfl) <|
  am_kd (fun d => ak_aload_n d rfl rfl) <|
  am_kd (fun d => ak_getI (C := RX3) (T := TX3) (N := 3) rfl inX3w (by decide) rfl rfl rfl wd_148 d rfl) <|
  am_kd (fun d => ak_imul d rfl) <|
  am_kd (fun d => ak_iload_n d rfl rfl) <|
  am_kd (fun d => ak_iadd d rfl) <|
  am_kd (fun d => ak_istore d rfl) <|
  am_kd (fun d => ak_iload_n d rfl rfl) <|
  am_kd (fun d => ak_aload_n d rfl rfl) <|
  am_kd (fun d => ak_getI (C := RX3) (T := TX3) (N := 3) rfl inX3w (by decide) rfl rfl rfl wd_148 d rfl) <|
  am_kd (fun d => ak_icmp_ge d (by decide +kernel) rfl) <|
  am_kd (fun d => ak_iload d rfl) <|
  am_kd (fun d => ak_if_lt d (by decide +kernel) rfl) <|
  am_kd (fun d => ak_iload d rfl) <|
  am_kd (fun d => ak_aload_n d rfl rfl) <|
  am_kd (fun d => ak_getR (C := RX3) (T := TX3) (N := 3) rfl inX3w (by decide) rfl rfl rfl wd_147 d rfl) <|
  am_kd (fun d => ak_alen (t := 0) (fun _ => rfl) d rfl) <|
  am_kd (fun d => ak_icmp_ge d (by decide +kernel) rfl) <|
  am_kd (fun d => ak_aload_n d rfl rfl) <|
  am_kd (fun d => ak_getR (C := RX3) (T := TX3) (N := 3) rfl inX3w (by decide) rfl rfl rfl wd_147 d rfl) <|
  am_kd (fun d => ak_iload d rfl) <|
  am_kd (fun d => ak_iload_n d rfl rfl) <|
  am_kd (fun d => ak_iast (t := 0) (fun _ => rfl) rfl d rfl) <|
  am_kd (fun d => ak_retV d) <| am_kdn
def TX3_put : am_T := fun live as M R => match as with
  | [.ref r, .int a, .int b, .int v] => am_ex (live.2 r 0) (fun c => am_if (am_rc live r c) (R none (am_rput M r c a b v)))
  | _ => False
set_option maxRecDepth 100000 in
set_option maxHeartbeats 4000000 in
theorem metX3_put : am_Met yX3_put cX3_put 5 none (0) (0) TX3_put := by
  refine am_met (own := RX3) (by decide +kernel) rfl kX3_put koX3_put 60 (fun _ _ _ _ _ => none) (fun live as M Ret h => ?_) (fun _ _ _ _ _ _ _ _ hI => by cases hI)
  unfold TX3_put at h
  split at h
  · next r a b v =>
    refine ⟨Nat.le_of_ble_eq_true rfl, ?_⟩
    change am_wp _ _ _ _ [(0, Value.ref r), (1, Value.int a), (2, Value.int b), (3, Value.int v)] _ _
    have hh := am_qm h
    clear h
    obtain ⟨c, h2, h⟩ := hh
    have hh := am_if_mp h
    clear h
    obtain ⟨hb, h⟩ := hh
    obtain ⟨h1, h3, h4, h5⟩ := am_rc_spec hb
    repeat' (first | (with_reducible exact h1) | (with_reducible exact h2) | (with_reducible exact h3) | (refine Exists.intro _ (And.intro h2 ?_)) | apply And.intro | exact rfl | intro hx | (refine Exists.intro _ (And.intro rfl ?_)) | ((with_reducible change _ = true); simp only [h1, h2, h3, Bool.true_and]; rfl))
    all_goals try first | (with_reducible change am_tI _ _) | (change Ret _ _) | (change Ret _ _ _) | (change Exists _)
    all_goals try dsimp only at *
    all_goals try (with_reducible exact absurd ‹(1000 : Int64) = 0› am_z1000)
    · rw [am_rput_f (fun q => by have := q.1; simp only [i_lt, i_le] at *; omega)] at h; exact h
    · rw [am_rput_f (fun q => am_in_no1 ‹_› q.2)] at h; exact h
    · rw [am_rput_f (fun q => am_in_no2 h4 ‹_› q.2)] at h; exact h
    · exact (am_in_of h4 ‹_› ‹_›).1
    · exact (am_in_of h4 ‹_› ‹_›).2
    · rw [am_rput_t (by simp only [i_lt, i_le] at *; omega) (am_in_of h4 ‹_› ‹_›)] at h; exact h
  · exact h.elim
set_option maxRecDepth 100000 in
theorem wd_150 : Cond.fieldLink "LearnLoans$Rows" 19 "LearnLoans$Rows" "size" "I" ∈ am_ws := am_wt1 (List.mem_of_getElem? (i := 93) (by rfl)) (by decide +kernel)
theorem hy_X3_put : yX3_put.cls ≠ "java/lang/invoke/MethodHandle" ∧ yX3_put.cls ≠ "java/lang/invoke/VarHandle" ∧ (parseMethodDescriptor yX3_put.desc).map (fun d => d.parameters.length) = some 3 := ⟨by decide +kernel, by decide +kernel, by decide +kernel⟩
set_option maxRecDepth 100000 in
theorem wd_484 : Cond.methodLink "LearnLoans$Rows" 22 yX3_put ∈ am_ws := am_wt2 (List.mem_of_getElem? (i := 187) (by rfl)) (by decide +kernel)
set_option maxRecDepth 100000 in
theorem wd_485 : Cond.instanceMethod yX3_put ∈ am_ws := am_wt2 (List.mem_of_getElem? (i := 188) (by rfl)) (by decide +kernel)
set_option maxRecDepth 100000 in
theorem wd_486 : Cond.selects "LearnLoans$Rows" yX3_put yX3_put ∈ am_ws := am_wt2 (List.mem_of_getElem? (i := 189) (by rfl)) (by decide +kernel)
set_option maxRecDepth 100000 in
theorem wd_64 : Cond.initialized "LearnLoans$Rows" ∈ am_ws := am_wt1 (List.mem_of_getElem? (i := 7) (by rfl)) (by decide +kernel)
set_option maxRecDepth 100000 in
theorem wd_487 : Cond.code yX3_put cX3_put 5 none ∈ am_ws := am_wt2 (List.mem_of_getElem? (i := 190) (by rfl)) (by decide +kernel)
def rwX3_add : List dz_r := [(0, .aload_n 0, 1), (1, .aload_n 0, 1), (2, .getfield 19, 3), (5, .iconst 0, 1), (6, .iload_n 1, 1), (7, .invokevirtual 22, 3), (10, .aload_n 0, 1), (11, .aload_n 0, 1), (12, .getfield 19, 3), (15, .iconst 1, 1), (16, .iload_n 2, 1), (17, .invokevirtual 22, 3), (20, .aload_n 0, 1), (21, .aload_n 0, 1), (22, .getfield 19, 3), (25, .iconst 2, 1), (26, .iload_n 3, 1), (27, .invokevirtual 22, 3), (30, .aload_n 0, 1), (31, .dup, 1), (32, .getfield 19, 3), (35, .iconst 1, 1), (36, .iadd, 1), (37, .putfield 19, 3), (40, .aload_n 0, 1), (41, .getfield 19, 3), (44, .iconst 1, 1), (45, .isub, 1), (46, .ireturn, 1)]
theorem dzX3_add : dz cX3_add rwX3_add := dz_all 0 (by decide +kernel)
def kX3_add (live : am_E) (Ret : am_R) : am_code := [(0, am_aload 0 1), (1, am_aload 0 2), (2, am_getI live 3 2 5), (5, am_const (.int 0) 6), (6, am_iload 1 7), (7, am_callV live 3 3 TX3_put 10), (10, am_aload 0 11), (11, am_aload 0 12), (12, am_getI live 3 2 15), (15, am_const (.int 1) 16), (16, am_iload 2 17), (17, am_callV live 3 3 TX3_put 20), (20, am_aload 0 21), (21, am_aload 0 22), (22, am_getI live 3 2 25), (25, am_const (.int 2) 26), (26, am_iload 3 27), (27, am_callV live 3 3 TX3_put 30), (30, am_aload 0 31), (31, am_dup 32), (32, am_getI live 3 2 35), (35, am_const (.int 1) 36), (36, am_i2 (fun x y => x + y) 37), (37, am_putI live 3 2 40), (40, am_aload 0 41), (41, am_getI live 3 2 44), (44, am_const (.int 1) 45), (45, am_i2 (fun x y => x - y) 46), (46, am_retI Ret)]
theorem koX3_add (live : am_E) (Ret : am_R) : ∀ q ∈ kX3_add live Ret, am_ok RX3 cX3_add 4 (some .int) 1 24 live Ret q.1 q.2 :=
  am_kz dzX3_add <|
  am_kd (fun d => ak_aload_n d rfl rfl) <|
  am_kd (fun d => ak_aload_n d rfl rfl) <|
  am_kd (fun d => ak_getI (C := RX3) (T := TX3) (N := 3) rfl inX3w (by decide) rfl rfl rfl wd_150 d rfl) <|
  am_kd (fun d => ak_iconst d (by decide +kernel) rfl) <|
  am_kd (fun d => ak_iload_n d rfl rfl) <|
  am_kd (fun d => ak_callV (C := RX3) (F := TX3) (N := 3) metX3_put rfl ⟨rfl, hy_X3_put⟩ (am_w5 wd_484 wd_485 wd_486 wd_64 wd_487) (by decide) d rfl) <|
  am_kd (fun d => ak_aload_n d rfl rfl) <|
  am_kd (fun d => ak_aload_n d rfl rfl) <|
  am_kd (fun d => ak_getI (C := RX3) (T := TX3) (N := 3) rfl inX3w (by decide) rfl rfl rfl wd_150 d rfl) <|
  am_kd (fun d => ak_iconst d (by decide +kernel) rfl) <|
  am_kd (fun d => ak_iload_n d rfl rfl) <|
  am_kd (fun d => ak_callV (C := RX3) (F := TX3) (N := 3) metX3_put rfl ⟨rfl, hy_X3_put⟩ (am_w5 wd_484 wd_485 wd_486 wd_64 wd_487) (by decide) d rfl) <|
  am_kd (fun d => ak_aload_n d rfl rfl) <|
  am_kd (fun d => ak_aload_n d rfl rfl) <|
  am_kd (fun d => ak_getI (C := RX3) (T := TX3) (N := 3) rfl inX3w (by decide) rfl rfl rfl wd_150 d rfl) <|
  am_kd (fun d => ak_iconst d (by decide +kernel) rfl) <|
  am_kd (fun d => ak_iload_n d rfl rfl) <|
  am_kd (fun d => ak_callV (C := RX3) (F := TX3) (N := 3) metX3_put rfl ⟨rfl, hy_X3_put⟩ (am_w5 wd_484 wd_485 wd_486 wd_64 wd_487) (by decide) d rfl) <|
  am_kd (fun d => ak_aload_n d rfl rfl) <|
  am_kd (fun d => ak_dup d rfl) <|
  am_kd (fun d => ak_getI (C := RX3) (T := TX3) (N := 3) rfl inX3w (by decide) rfl rfl rfl wd_150 d rfl) <|
  am_kd (fun d => ak_iconst d (by decide +kernel) rfl) <|
  am_kd (fun d => ak_iadd d rfl) <|
  am_kd (fun d => ak_putI (C := RX3) (T := TX3) (N := 3) rfl inX3w tyX3_ok nmX3 (by decide) rfl rfl rfl rfl (by decide +kernel) wd_150 d rfl) <|
  am_kd (fun d => ak_aload_n d rfl rfl) <|
  am_kd (fun d => ak_getI (C := RX3) (T := TX3) (N := 3) rfl inX3w (by decide) rfl rfl rfl wd_150 d rfl) <|
  am_kd (fun d => ak_iconst d (by decide +kernel) rfl) <|
  am_kd (fun d => ak_isub d rfl) <|
  am_kd (fun d => ak_retI d) <| am_kdn
def am_radd (M : am_M) (r c : Nat) (x y z : Int32) : am_M := am_wI (am_rput (am_rput (am_rput M r c (M.1 r 2) 0 x) r c (M.1 r 2) 1 y) r c (M.1 r 2) 2 z) r 2 (M.1 r 2 + 1)
def TX3_add : am_T := fun live as M R => match as with
  | [.ref r, .int x, .int y, .int z] => am_ex (live.2 r 0) (fun c => am_if (am_rc live r c) (R (some (.int (M.1 r 2 + 1 - 1))) (am_radd M r c x y z)))
  | _ => False
set_option maxRecDepth 100000 in
set_option maxHeartbeats 4000000 in
theorem metX3_add : am_Met yX3_add cX3_add 4 (some .int) (1) (24) TX3_add := by
  refine am_met (own := RX3) (by decide +kernel) rfl kX3_add koX3_add 60 (fun _ _ _ _ _ => none) (fun live as M Ret h => ?_) (fun _ _ _ _ _ _ _ _ hI => by cases hI)
  unfold TX3_add at h
  split at h
  · next r x y z =>
    refine ⟨Nat.le_of_ble_eq_true rfl, ?_⟩
    change am_wp _ _ _ _ [(0, Value.ref r), (1, Value.int x), (2, Value.int y), (3, Value.int z)] _ _
    have hh := am_qm h
    clear h
    obtain ⟨c, h2, h⟩ := hh
    have hh := am_if_mp h
    clear h
    obtain ⟨hb, h⟩ := hh
    obtain ⟨h1, h3, h4, h5⟩ := am_rc_spec hb
    repeat' (first | (with_reducible exact h1) | (with_reducible exact h2) | (with_reducible exact hb) | (refine Exists.intro _ (And.intro h2 ?_)) | apply And.intro | exact rfl | intro hx | (refine Exists.intro _ (And.intro rfl ?_)) | ((with_reducible change _ = true); simp only [h1, h2, hb, Bool.true_and]; rfl))
    all_goals try first | (with_reducible change am_tI _ _) | (change Ret _ _) | (change Ret _ _ _) | (change Exists _)
    all_goals try dsimp only at *
    all_goals try (with_reducible exact absurd ‹(1000 : Int64) = 0› am_z1000)
    simp only [am_wI_1, am_rput_ne h5, and_self, if_true]
    exact h
  · exact h.elim
def rwX3_dropLast : List dz_r := [(0, .aload_n 0, 1), (1, .getfield 19, 3), (4, .ifCond .le 13, 3), (7, .aload_n 0, 1), (8, .dup, 1), (9, .getfield 19, 3), (12, .iconst 1, 1), (13, .isub, 1), (14, .putfield 19, 3), (17, .return_, 1)]
theorem dzX3_dropLast : dz cX3_dropLast rwX3_dropLast := dz_all 0 (by decide +kernel)
def kX3_dropLast (live : am_E) (Ret : am_R) : am_code := [(0, am_aload 0 1), (1, am_getI live 3 2 4), (4, am_if1 (fun x => x ≤ 0) 17 7), (7, am_aload 0 8), (8, am_dup 9), (9, am_getI live 3 2 12), (12, am_const (.int 1) 13), (13, am_i2 (fun x y => x - y) 14), (14, am_putI live 3 2 17), (17, am_retV Ret)]
theorem koX3_dropLast (live : am_E) (Ret : am_R) : ∀ q ∈ kX3_dropLast live Ret, am_ok RX3 cX3_dropLast 1 none 0 0 live Ret q.1 q.2 :=
  am_kz dzX3_dropLast <|
  am_kd (fun d => ak_aload_n d rfl rfl) <|
  am_kd (fun d => ak_getI (C := RX3) (T := TX3) (N := 3) rfl inX3w (by decide) rfl rfl rfl wd_150 d rfl) <|
  am_kd (fun d => ak_if_le d (by decide +kernel) rfl) <|
  am_kd (fun d => ak_aload_n d rfl rfl) <|
  am_kd (fun d => ak_dup d rfl) <|
  am_kd (fun d => ak_getI (C := RX3) (T := TX3) (N := 3) rfl inX3w (by decide) rfl rfl rfl wd_150 d rfl) <|
  am_kd (fun d => ak_iconst d (by decide +kernel) rfl) <|
  am_kd (fun d => ak_isub d rfl) <|
  am_kd (fun d => ak_putI (C := RX3) (T := TX3) (N := 3) rfl inX3w tyX3_ok nmX3 (by decide) rfl rfl rfl rfl (by decide +kernel) wd_150 d rfl) <|
  am_kd (fun d => ak_retV d) <| am_kdn
def TX3_dropLast : am_T := fun live as M R => match as with
  | [.ref r] => am_if (am_isO live 3 r) (R none (am_wIc (0 < M.1 r 2) M r 2 (M.1 r 2 - 1)))
  | _ => False
set_option maxRecDepth 100000 in
set_option maxHeartbeats 4000000 in
theorem metX3_dropLast : am_Met yX3_dropLast cX3_dropLast 1 none (0) (0) TX3_dropLast := by
  refine am_met (own := RX3) (by decide +kernel) rfl kX3_dropLast koX3_dropLast 60 (fun _ _ _ _ _ => none) (fun live as M Ret h => ?_) (fun _ _ _ _ _ _ _ _ hI => by cases hI)
  unfold TX3_dropLast at h
  split at h
  · next r =>
    refine ⟨Nat.le_of_ble_eq_true rfl, ?_⟩
    change am_wp _ _ _ _ [(0, Value.ref r)] _ _
    have hh := am_if_mp h
    clear h
    obtain ⟨h1, h⟩ := hh
    repeat' (first | (with_reducible exact h1) | apply And.intro | exact rfl | intro hx | (refine Exists.intro _ (And.intro rfl ?_)) | ((with_reducible change _ = true); simp only [h1, Bool.true_and]; rfl))
    all_goals try first | (with_reducible change am_tI _ _) | (change Ret _ _) | (change Ret _ _ _) | (change Exists _)
    all_goals try dsimp only at *
    all_goals try (with_reducible exact absurd ‹(1000 : Int64) = 0› am_z1000)
    · rw [am_wIc_f (by simp only [i_lt, i_le] at *; omega)] at h; exact h
    · rw [am_wIc_t (by simp only [i_lt, i_le] at *; omega)] at h; exact h
  · exact h.elim
set_option maxRecDepth 100000 in
theorem wd_850 : Cond.methodLink "LearnLoans$Rows" 26 Lib.Math.min.name ∈ am_ws := am_wt4 (List.mem_of_getElem? (i := 73) (by rfl)) (by decide +kernel)
set_option maxRecDepth 100000 in
theorem wd_851 : Cond.static Lib.Math.min.name ∈ am_ws := am_wt4 (List.mem_of_getElem? (i := 74) (by rfl)) (by decide +kernel)
set_option maxRecDepth 100000 in
theorem wd_852 : Cond.code Lib.Math.min.name Lib.Math.min.code 2 (some .int) ∈ am_ws := am_wt4 (List.mem_of_getElem? (i := 75) (by rfl)) (by decide +kernel)
set_option maxRecDepth 100000 in
theorem wd_853 : Cond.methodLink "LearnLoans$Rows" 32 arraycopyName ∈ am_ws := am_wt4 (List.mem_of_getElem? (i := 76) (by rfl)) (by decide +kernel)
set_option maxRecDepth 100000 in
theorem wd_501 : Cond.native arraycopyName ∈ am_ws := am_wt2 (List.mem_of_getElem? (i := 204) (by rfl)) (by decide +kernel)
set_option maxRecDepth 100000 in
theorem wd_500 : Cond.static arraycopyName ∈ am_ws := am_wt2 (List.mem_of_getElem? (i := 203) (by rfl)) (by decide +kernel)
set_option maxRecDepth 100000 in
theorem wd_69 : Cond.initialized "java/lang/System" ∈ am_ws := am_wt1 (List.mem_of_getElem? (i := 12) (by rfl)) (by decide +kernel)
def rwX3_takeOver : List dz_r := [(0, .aload_n 1, 1), (1, .getfield 9, 3), (4, .iconst 0, 1), (5, .aload_n 0, 1), (6, .getfield 9, 3), (9, .iconst 0, 1), (10, .aload_n 0, 1), (11, .getfield 9, 3), (14, .arraylength, 1), (15, .aload_n 1, 1), (16, .getfield 9, 3), (19, .arraylength, 1), (20, .invokestatic 26, 3), (23, .invokestatic 32, 3), (26, .aload_n 0, 1), (27, .aload_n 1, 1), (28, .getfield 19, 3), (31, .putfield 19, 3), (34, .return_, 1)]
theorem dzX3_takeOver : dz cX3_takeOver rwX3_takeOver := dz_all 0 (by decide +kernel)
def kX3_takeOver (live : am_E) (Ret : am_R) : am_code := [(0, am_aload 1 1), (1, am_getR live 3 0 4), (4, am_const (.int 0) 5), (5, am_aload 0 6), (6, am_getR live 3 0 9), (9, am_const (.int 0) 10), (10, am_aload 0 11), (11, am_getR live 3 0 14), (14, am_alen live 0 15), (15, am_aload 1 16), (16, am_getR live 3 0 19), (19, am_alen live 0 20), (20, am_math2 (fun x y => if y < x then y else x) 31 23), (23, am_copyI live 31 26), (26, am_aload 0 27), (27, am_aload 1 28), (28, am_getI live 3 2 31), (31, am_putI live 3 2 34), (34, am_retV Ret)]
theorem koX3_takeOver (live : am_E) (Ret : am_R) : ∀ q ∈ kX3_takeOver live Ret, am_ok RX3 cX3_takeOver 2 none 1 31 live Ret q.1 q.2 :=
  am_kz dzX3_takeOver <|
  am_kd (fun d => ak_aload_n d rfl rfl) <|
  am_kd (fun d => ak_getR (C := RX3) (T := TX3) (N := 3) rfl inX3w (by decide) rfl rfl rfl wd_147 d rfl) <|
  am_kd (fun d => ak_iconst d (by decide +kernel) rfl) <|
  am_kd (fun d => ak_aload_n d rfl rfl) <|
  am_kd (fun d => ak_getR (C := RX3) (T := TX3) (N := 3) rfl inX3w (by decide) rfl rfl rfl wd_147 d rfl) <|
  am_kd (fun d => ak_iconst d (by decide +kernel) rfl) <|
  am_kd (fun d => ak_aload_n d rfl rfl) <|
  am_kd (fun d => ak_getR (C := RX3) (T := TX3) (N := 3) rfl inX3w (by decide) rfl rfl rfl wd_147 d rfl) <|
  am_kd (fun d => ak_alen (t := 0) (fun _ => rfl) d rfl) <|
  am_kd (fun d => ak_aload_n d rfl rfl) <|
  am_kd (fun d => ak_getR (C := RX3) (T := TX3) (N := 3) rfl inX3w (by decide) rfl rfl rfl wd_147 d rfl) <|
  am_kd (fun d => ak_alen (t := 0) (fun _ => rfl) d rfl) <|
  am_kd (fun d => ak_imin (am_w4 wd_850 wd_851 wd_68 wd_852) (by decide) d rfl) <|
  am_kd (fun d => ak_copyI (am_w4 wd_853 wd_501 wd_500 wd_69) (by decide) d rfl) <|
  am_kd (fun d => ak_aload_n d rfl rfl) <|
  am_kd (fun d => ak_aload_n d rfl rfl) <|
  am_kd (fun d => ak_getI (C := RX3) (T := TX3) (N := 3) rfl inX3w (by decide) rfl rfl rfl wd_150 d rfl) <|
  am_kd (fun d => ak_putI (C := RX3) (T := TX3) (N := 3) rfl inX3w tyX3_ok nmX3 (by decide) rfl rfl rfl rfl (by decide +kernel) wd_150 d rfl) <|
  am_kd (fun d => ak_retV d) <| am_kdn
def TX3_takeOver : am_T := fun live as M R => match as with
  | [.ref r, .ref r2] => am_ex (live.2 r 0) (fun c => am_ex (live.2 r2 0) (fun c2 => am_if (am_rc live r c && am_rc live r2 c2 && Nat.beq (am_len c) (am_len c2)) (R none (am_wI (am_cI M c (va_cpy (M.1 c2) (M.1 c) 0 0 (am_len c))) r 2 (M.1 r2 2)))))
  | _ => False
set_option maxRecDepth 100000 in
set_option maxHeartbeats 4000000 in
theorem metX3_takeOver : am_Met yX3_takeOver cX3_takeOver 2 none (1) (31) TX3_takeOver := by
  refine am_met (own := RX3) (by decide +kernel) rfl kX3_takeOver koX3_takeOver 60 (fun _ _ _ _ _ => none) (fun live as M Ret h => ?_) (fun _ _ _ _ _ _ _ _ hI => by cases hI)
  unfold TX3_takeOver at h
  split at h
  · next r r2 =>
    refine ⟨Nat.le_of_ble_eq_true rfl, ?_⟩
    change am_wp _ _ _ _ [(0, Value.ref r), (1, Value.ref r2)] _ _
    have hh := am_qm h
    clear h
    obtain ⟨c, h2, h⟩ := hh
    have hh := am_qm h
    clear h
    obtain ⟨c2, h6, h⟩ := hh
    have hh := am_if_mp h
    clear h
    obtain ⟨hb, h⟩ := hh
    simp only [Bool.and_eq_true] at hb
    obtain ⟨⟨hb, hc⟩, he⟩ := hb
    have he := Nat.eq_of_beq_eq_true he
    obtain ⟨h1, h3, h4, h5⟩ := am_rc_spec hb
    obtain ⟨h7, h8, h9, h10⟩ := am_rc_spec hc
    have hne := am_OA h7 h3
    have hn : (Int32.ofNat (am_len c2)).toInt = (am_len c2 : Int) := i_nat (by omega)
    have hn2 : (Int32.ofNat (am_len c2)).toNatClampNeg = am_len c2 := by have := i_clamp (x := Int32.ofNat (am_len c2)) (by omega); omega
    repeat' (first | (with_reducible exact h1) | (with_reducible exact h2) | (with_reducible exact h3) | (with_reducible exact h6) | (with_reducible exact h7) | (with_reducible exact h8) | (refine Exists.intro _ (Exists.intro _ (And.intro h2 (And.intro h6 ?_)))) | (refine Exists.intro _ (And.intro h2 ?_)) | (refine Exists.intro _ (And.intro h6 ?_)) | apply And.intro | exact rfl | intro hx | (refine Exists.intro _ (And.intro rfl ?_)) | ((with_reducible change _ = true); simp only [h1, h2, h3, h6, h7, h8, Bool.true_and]; rfl))
    all_goals try first | (with_reducible change am_tI _ _) | (change Ret _ _) | (change Ret _ _ _) | (change Exists _)
    all_goals try dsimp only at *
    all_goals try (with_reducible exact absurd ‹(1000 : Int64) = 0› am_z1000)
    all_goals simp only [he, ite_self, hn, Int32.toInt_zero]
    · omega
    · omega
    · omega
    · omega
    · omega
    · simp only [he, hn2, am_cI_1, hne, if_false] at h ⊢
      exact h
  · exact h.elim
set_option maxRecDepth 100000 in
theorem wd_883 : Cond.constantLong "LearnLoans$Rows" 38 31 ∈ am_ws := am_wt4 (List.mem_of_getElem? (i := 106) (by rfl)) (by decide +kernel)
def rwX3_mixed : List dz_r := [(0, .aload_n 0, 1), (1, .getfield 19, 3), (4, .aload_n 0, 1), (5, .getfield 15, 3), (8, .imul, 1), (9, .aload_n 0, 1), (10, .getfield 9, 3), (13, .arraylength, 1), (14, .invokestatic 26, 3), (17, .istore_n 3, 1), (18, .iconst 0, 1), (19, .istore 4, 2), (21, .iload 4, 2), (23, .iload_n 3, 1), (24, .if_icmp .ge 24, 3), (27, .ldc2_w 38, 3), (30, .lload_n 1, 1), (31, .lmul, 1), (32, .aload_n 0, 1), (33, .getfield 9, 3), (36, .iload 4, 2), (38, .iaload, 1), (39, .i2l, 1), (40, .ladd, 1), (41, .lstore_n 1, 1), (42, .iinc 4 1, 3), (45, .goto (-24), 3), (48, .lload_n 1, 1), (49, .lreturn, 1)]
theorem dzX3_mixed : dz cX3_mixed rwX3_mixed := dz_all 0 (by decide +kernel)
def kX3_mixed (live : am_E) (Ret : am_R) : am_code := [(0, am_aload 0 1), (1, am_getI live 3 2 4), (4, am_aload 0 5), (5, am_getI live 3 1 8), (8, am_i2 (fun x y => x * y) 9), (9, am_aload 0 10), (10, am_getR live 3 0 13), (13, am_alen live 0 14), (14, am_math2 (fun x y => if y < x then y else x) 23 17), (17, am_istore 3 5 18), (18, am_const (.int 0) 19), (19, am_istore 4 5 21), (21, am_iload 4 23), (23, am_iload 3 24), (24, am_if2 (fun x y => y ≤ x) 48 27), (27, am_const (.long 31) 30), (30, am_lload 1 31), (31, am_l2 (fun x y => x * y) 32), (32, am_aload 0 33), (33, am_getR live 3 0 36), (36, am_iload 4 38), (38, am_ald live 0 39), (39, am_i2l 40), (40, am_l2 (fun x y => x + y) 41), (41, am_lstore 1 5 42), (42, am_iinc 4 5 1 45), (45, am_goto 21), (48, am_lload 1 49), (49, am_retL Ret)]
theorem koX3_mixed (live : am_E) (Ret : am_R) : ∀ q ∈ kX3_mixed live Ret, am_ok RX3 cX3_mixed 5 (some .long) 1 23 live Ret q.1 q.2 :=
  am_kz dzX3_mixed <|
  am_kd (fun d => ak_aload_n d rfl rfl) <|
  am_kd (fun d => ak_getI (C := RX3) (T := TX3) (N := 3) rfl inX3w (by decide) rfl rfl rfl wd_150 d rfl) <|
  am_kd (fun d => ak_aload_n d rfl rfl) <|
  am_kd (fun d => ak_getI (C := RX3) (T := TX3) (N := 3) rfl inX3w (by decide) rfl rfl rfl wd_148 d rfl) <|
  am_kd (fun d => ak_imul d rfl) <|
  am_kd (fun d => ak_aload_n d rfl rfl) <|
  am_kd (fun d => ak_getR (C := RX3) (T := TX3) (N := 3) rfl inX3w (by decide) rfl rfl rfl wd_147 d rfl) <|
  am_kd (fun d => ak_alen (t := 0) (fun _ => rfl) d rfl) <|
  am_kd (fun d => ak_imin (am_w4 wd_850 wd_851 wd_68 wd_852) (by decide) d rfl) <|
  am_kd (fun d => ak_istore_n d rfl rfl) <|
  am_kd (fun d => ak_iconst d (by decide +kernel) rfl) <|
  am_kd (fun d => ak_istore d rfl) <|
  am_kd (fun d => ak_iload d rfl) <|
  am_kd (fun d => ak_iload_n d rfl rfl) <|
  am_kd (fun d => ak_icmp_ge d (by decide +kernel) rfl) <|
  am_kd (fun d => ak_ldc2 wd_883 d rfl) <|
  am_kd (fun d => ak_lload_n d rfl rfl) <|
  am_kd (fun d => ak_lmul d rfl) <|
  am_kd (fun d => ak_aload_n d rfl rfl) <|
  am_kd (fun d => ak_getR (C := RX3) (T := TX3) (N := 3) rfl inX3w (by decide) rfl rfl rfl wd_147 d rfl) <|
  am_kd (fun d => ak_iload d rfl) <|
  am_kd (fun d => ak_iald (t := 0) (fun _ => rfl) rfl d rfl) <|
  am_kd (fun d => ak_i2l d rfl) <|
  am_kd (fun d => ak_ladd d rfl) <|
  am_kd (fun d => ak_lstore_n d rfl rfl) <|
  am_kd (fun d => ak_iinc d (by decide +kernel) rfl) <|
  am_kd (fun d => ak_goto d (by decide +kernel)) <|
  am_kd (fun d => ak_lload_n d rfl rfl) <|
  am_kd (fun d => ak_retL d) <| am_kdn
def TX3_mixed : am_T := fun live as M R => match as with
  | [.ref r, .long x] => am_ex (live.2 r 0) (fun c => am_if (am_rc live r c) (∀ y, R (some (.long y)) M))
  | _ => False
def JX3_mixed : am_E → List Value → am_M → am_R → am_inv := fun live as M0 _ pc => match as with
  | [.ref r, .long x] => (match live.2 r 0 with
    | some c => (match pc with
      | 21 => some ([0, 1, 3, 4], fun k L st M => ∃ (y : Int64) (e i : Int32), L = [(0, .ref r), (1, .long y), (3, .int e), (4, .int i)] ∧ st = [] ∧ k = ((am_len c + 1 - i.toInt).toNat, 0) ∧ 0 ≤ i.toInt ∧ e.toInt ≤ am_len c ∧ M = M0)
      | _ => none)
    | none => none)
  | _ => none
set_option maxRecDepth 100000 in
set_option maxHeartbeats 4000000 in
theorem metX3_mixed : am_Met yX3_mixed cX3_mixed 5 (some .long) (1) (23) TX3_mixed := by
  refine am_met (own := RX3) (by decide +kernel) rfl kX3_mixed koX3_mixed 60 JX3_mixed ?_ ?_
  · intro live as M Ret h
    unfold TX3_mixed at h
    split at h
    · next r x =>
      refine ⟨Nat.le_of_ble_eq_true rfl, ?_⟩
      change am_wp _ _ _ _ [(0, Value.ref r), (1, Value.long x)] _ _
      have hh := am_qm h
      clear h
      obtain ⟨c, h2, h⟩ := hh
      have hh := am_if_mp h
      clear h
      obtain ⟨hb, h⟩ := hh
      obtain ⟨h1, h3, h4, h5⟩ := am_rc_spec hb
      have hn : (Int32.ofNat (am_len c)).toInt = (am_len c : Int) := i_nat (by omega)
      have hJ : ∀ pc, JX3_mixed live [.ref r, .long x] M Ret pc = (match pc with
        | 21 => some ([0, 1, 3, 4], fun k L st M' => ∃ (y : Int64) (e i : Int32), L = [(0, .ref r), (1, .long y), (3, .int e), (4, .int i)] ∧ st = [] ∧ k = ((am_len c + 1 - i.toInt).toNat, 0) ∧ 0 ≤ i.toInt ∧ e.toInt ≤ am_len c ∧ M' = M)
        | _ => none) := fun pc => by unfold JX3_mixed; simp only [h2]
      rw [show JX3_mixed live [.ref r, .long x] M Ret = _ from funext hJ]
      repeat' (first | (with_reducible exact h1) | (with_reducible exact h2) | (with_reducible exact h3) | (refine Exists.intro _ (And.intro h2 ?_)) | apply And.intro | exact rfl | intro hx | (refine Exists.intro _ (And.intro rfl ?_)) | ((with_reducible change _ = true); simp only [h1, h2, h3, Bool.true_and]; rfl))
      all_goals try first | (with_reducible change am_tI _ _) | (change Ret _ _) | (change Ret _ _ _) | (change Exists _)
      all_goals try dsimp only at *
      all_goals try (with_reducible exact absurd ‹(1000 : Int64) = 0› am_z1000)
      refine ⟨_, _, _, _, rfl, rfl, rfl, by decide, ?_, rfl⟩
      split
      · omega
      · simp only [i_lt] at *; omega
    · exact h.elim
  · intro live as M0 Ret h k pc I hI L st M hi
    unfold TX3_mixed at h
    split at h
    · next r x =>
      have hh := am_qm h
      clear h
      obtain ⟨c, h2, h⟩ := hh
      have hh := am_if_mp h
      clear h
      obtain ⟨hb, h⟩ := hh
      obtain ⟨h1, h3, h4, h5⟩ := am_rc_spec hb
      have hJ : ∀ pc, JX3_mixed live [.ref r, .long x] M0 Ret pc = (match pc with
        | 21 => some ([0, 1, 3, 4], fun k L st M' => ∃ (y : Int64) (e i : Int32), L = [(0, .ref r), (1, .long y), (3, .int e), (4, .int i)] ∧ st = [] ∧ k = ((am_len c + 1 - i.toInt).toNat, 0) ∧ 0 ≤ i.toInt ∧ e.toInt ≤ am_len c ∧ M' = M0)
        | _ => none) := fun pc => by unfold JX3_mixed; simp only [h2]
      rw [show JX3_mixed live [.ref r, .long x] M0 Ret = _ from funext hJ] at hI ⊢
      change (match pc with | 21 => _ | _ => none) = _ at hI
      split at hI
      · cases hI
        obtain ⟨y, e, i, rfl, rfl, rfl, e1, e2, rfl⟩ := hi
        repeat' (first | (with_reducible exact h1) | (with_reducible exact h2) | (with_reducible exact h3) | (refine Exists.intro _ (And.intro h2 ?_)) | apply And.intro | exact rfl | intro hx | (refine Exists.intro _ (And.intro rfl ?_)) | ((with_reducible change _ = true); simp only [h1, h2, h3, Bool.true_and]; rfl))
        all_goals try first | (with_reducible change am_tI _ _) | (change Ret _ _) | (change Ret _ _ _) | (change Exists _)
        all_goals try dsimp only at *
        all_goals try (with_reducible exact absurd ‹(1000 : Int64) = 0› am_z1000)
        · exact h _
        · omega
        · simp only [i_lt, i_le] at *; omega
        · refine ⟨_, Or.inl ?_, _, _, i + 1, rfl, rfl, rfl, ?_, e2, rfl⟩
          all_goals simp only [i_lt, i_le] at *
          all_goals
            have hi := i_add (x := i) (y := 1) (by simp only [Int32.reduceToInt]; omega) (by simp only [Int32.reduceToInt]; omega)
            simp only [Int32.reduceToInt] at hi
            omega
      · cases hI
    · exact h.elim
